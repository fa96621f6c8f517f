set_option maxHeartbeats 4000000 in
set_option maxRecDepth 100000 in
/-- the law's loop: at its head, with j calls done, class and reference stand side by side -/
theorem law_loop {p : Program} {l : Launch} {e : Env} {s : State} {m : MethodId} {below : List Frame} {meth : Method} {c : Code} {b N : Nat} {xs : Nat → Int32} (hN : N ≤ 2051) (hlt : l.stackTraces = false) (C0 : lw_At p s m meth c b N xs) (hz : kzP s) (D : va_G) (cI cJ cZ : ClassId) (hK : va_K D vwCl (kTy cI cJ cZ) s) (A : Nat → Prop) (hAe : A = fun q : Nat => s.heap.size ≤ q) (b0 b1 t0 t1 t2 t3 t4 u0 u1 u2 r0 r1 q0 q1 q2 q3 q4 e0 e1 e2 e3 e4 e5 e6 e7 e8 e9 e10 e11 e12 e13 oa : Nat) (S Wy sb L : Nat) (hSs : S = 0 ∨ S = 2 ^ sb) (hS16 : S ≤ 16) (hsb : sb ≤ 4) (hW : 0 < Wy) (hW4 : Wy ≤ 4) (hL16 : L ≤ 16) :
    ∀ (n i j u : Nat) (cs : Cs) (mm : Ms) (og : Nat → Int64) (H : Heap) (locs : List Loc) (ls : Array Slot), i = 3 + 4 * j → N + 4 ≤ i + 4 * n → i ≤ N + 3 → u ≤ j → Rel S Wy L u cs mm → va_P D vwCl (wLaw b0 b1 t0 t1 t2 t3 t4 u0 u1 u2 r0 r1 q0 q1 q2 q3 q4 e0 e1 e2 e3 e4 e5 e6 e7 e8 e9 e10 e11 e12 e13 oa cI cJ cZ S Wy sb L cs mm og) H → va_D A (wLaw b0 b1 t0 t1 t2 t3 t4 u0 u1 u2 r0 r1 q0 q1 q2 q3 q4 e0 e1 e2 e3 e4 e5 e6 e7 e8 e9 e10 e11 e12 e13 oa cI cJ cZ S Wy sb L cs mm og) → va_S A s.heap H locs → lv_has ls 7 [(0, .ref (b)), (1, .ref (b0)), (2, .ref (e0)), (3, .ref (oa)), (4, .int (nI (i)))] → W p l e room_1 s m #[Value.ref b] below meth c H locs (32 + j) (1561 + 6 * j) (lw_Z below #[Value.ref b] s) (F0 m 53 ls []) := by
  obtain ⟨hx, hb, hr, hml, hown, hts, hX, hbl, hlocks, -⟩ := id C0
  have hbA : ¬ A b := by rw [hAe]; exact Nat.not_le.mpr hbl
  intro n
  induction n with
  | zero =>
    intro i j u cs mm og H locs ls h1 h2 h3
    exact absurd h2 (by omega)
  | succ n ih =>
    intro i j u cs mm og H locs ls hij hin hiN huj hRel hP hD hS hl
    refine lv_iload hx hb dL_law_53 (lv_at hl 4 rfl) ?_
    refine lv_aload_n hx hb dL_law_55 rfl (lv_at hl 0 rfl) ?_
    refine va_slen hx hb hX hbl hbA hS dL_law_56 ?_
    refine lv_iconst (v := 4) hx hb dL_law_57 (by decide) ?_
    refine lv_isub hx hb dL_law_58 ?_
    have h4 : (nI N - 4).toInt = (N : Int) - 4 := pk_sub_toInt (b := 4) (by omega) (by decide)
    have h5 : (nI i).toInt = (i : Int) := nI_toInt (by omega)
    refine lv_icmp_gt (tgt := 630) hx hb dL_law_59 (by decide) (fun c_59 => ?_) (fun c_59 => ?_)
    · refine lv_iconst (v := 1) hx hb dL_law_630 (by decide) ?_
      refine va_forget (fun q hq => by have h9 := hS.2.2 q hq; rw [hAe] at h9; exact h9) ?_
      refine W.widen (k := 616342) (n := 7247043) (by omega) (by omega) ?_
      exact lw_ret hx hb hr hlocks dL_law_631
    · have hle : i + 4 ≤ N := by
        have h6 : ¬ (nI N - 4).toInt < (nI i).toInt := fun q => c_59 (Int32.lt_iff_toInt_lt.mpr q)
        omega
      have back : ∀ (u' : Nat) (cs' : Cs) (mm' : Ms) (og' : Nat → Int64) (H : Heap) (locs : List Loc) (ls : Array Slot), u' ≤ u + 1 → Rel S Wy L u' cs' mm' → va_P D vwCl (wLaw b0 b1 t0 t1 t2 t3 t4 u0 u1 u2 r0 r1 q0 q1 q2 q3 q4 e0 e1 e2 e3 e4 e5 e6 e7 e8 e9 e10 e11 e12 e13 oa cI cJ cZ S Wy sb L cs' mm' og') H → va_D A (wLaw b0 b1 t0 t1 t2 t3 t4 u0 u1 u2 r0 r1 q0 q1 q2 q3 q4 e0 e1 e2 e3 e4 e5 e6 e7 e8 e9 e10 e11 e12 e13 oa cI cJ cZ S Wy sb L cs' mm' og') → va_S A s.heap H locs → lv_has ls 7 [(0, .ref (b)), (1, .ref (b0)), (2, .ref (e0)), (3, .ref (oa)), (4, .int (nI (i)))] → W p l e room_1 s m #[Value.ref b] below meth c H locs (32 + j + 1) (1561 + 6 * j + 6) (lw_Z below #[Value.ref b] s) (F0 m 624 ls []) := by
        intro u' cs' mm' og' H locs ls g1 g2 hP hD hS hl
        refine lv_iinc (v := nI (i + 4)) (lv' := [(4, .int (nI (i + 4))), (0, .ref (b)), (1, .ref (b0)), (2, .ref (e0)), (3, .ref (oa))]) hx hb dL_law_624 hl (k := 4) rfl (nI_add i 4) (by decide) rfl (fun ls hl => ?_)
        refine lv_goto (tgt := 53) hx hb dL_law_627 (by decide) ?_
        have h9 := ih (i + 4) (j + 1) u' cs' mm' og' H locs ls (by omega) (by omega) (by omega) (by omega) g2 hP hD hS (lv_sub hl [1, 2, 3, 4, 0] rfl)
        rw [show 1561 + 6 * (j + 1) = 1561 + 6 * j + 6 by omega, show 32 + (j + 1) = 32 + j + 1 by omega] at h9
        exact h9
      refine lv_aload_n hx hb dL_law_62 rfl (lv_at hl 0 rfl) ?_
      refine lv_iload hx hb dL_law_63 (lv_at hl 4 rfl) ?_
      refine va_sld hx hb hX hbl hbA hS (vp_in_nI (n := i) (by omega) (by omega)) dL_law_65 ?_
      refine lv_bipush (v := 15) hx hb dL_law_66 (by decide) ?_
      refine lv_iand hx hb dL_law_68 ?_
      obtain ⟨k, hk, ek⟩ := pk_andE (xs (nI i).toNatClampNeg) (m := 15) 4 (by decide)
      refine kt_i ek ?_
      have h16 : k = 0 ∨ k = 1 ∨ k = 2 ∨ k = 3 ∨ k = 4 ∨ k = 5 ∨ k = 6 ∨ k = 7 ∨ k = 8 ∨ k = 9 ∨ 9 < k := by omega
      rcases h16 with rfl | rfl | rfl | rfl | rfl | rfl | rfl | rfl | rfl | rfl | h16
      · refine lv_tableIn (off := 55) (tgt := 124) hx hb dL_law_69 (by decide) (by decide) rfl (by decide) ?_
        exact law_0 hN hlt C0 hz D cI cJ cZ hK A hAe b0 b1 t0 t1 t2 t3 t4 u0 u1 u2 r0 r1 q0 q1 q2 q3 q4 e0 e1 e2 e3 e4 e5 e6 e7 e8 e9 e10 e11 e12 e13 oa S Wy sb L hSs hS16 hsb hW hW4 hL16 u (by omega) cs mm og hRel i (by omega) (32 + j) (1561 + 6 * j) (by omega) (by omega) _ H locs ls hP hD hS hl back
      · refine lv_tableIn (off := 80) (tgt := 149) hx hb dL_law_69 (by decide) (by decide) rfl (by decide) ?_
        by_cases hq : cs.2.2.2.1.2.2.2.2.1 < 16
        · exact law_1 hN hlt C0 hz D cI cJ cZ hK A hAe b0 b1 t0 t1 t2 t3 t4 u0 u1 u2 r0 r1 q0 q1 q2 q3 q4 e0 e1 e2 e3 e4 e5 e6 e7 e8 e9 e10 e11 e12 e13 oa S Wy sb L hSs hS16 hsb hW hW4 hL16 u (by omega) cs mm og hRel i (by omega) (32 + j) (1561 + 6 * j) (by omega) (by omega) _ H locs ls hP hD hS hl back hq
        · exact law_1x hN hlt C0 hz D cI cJ cZ hK A hAe b0 b1 t0 t1 t2 t3 t4 u0 u1 u2 r0 r1 q0 q1 q2 q3 q4 e0 e1 e2 e3 e4 e5 e6 e7 e8 e9 e10 e11 e12 e13 oa S Wy sb L hSs hS16 hsb hW hW4 hL16 u (by omega) cs mm og hRel i (by omega) (32 + j) (1561 + 6 * j) (by omega) (by omega) _ H locs ls hP hD hS hl back (by have := hRel.2.2.2.1.2.1; omega)
      · refine lv_tableIn (off := 136) (tgt := 205) hx hb dL_law_69 (by decide) (by decide) rfl (by decide) ?_
        by_cases hx2 : xs (i + 2) = 0
        · by_cases hbad : 0 ≤ xs (i + 1) ∧ xs (i + 1) ≤ 3
          · rcases Nat.eq_zero_or_pos cs.2.2.2.1.2.2.2.2.1 with hq | hq
            · exact law_2y_0 hN hlt C0 hz D cI cJ cZ hK A hAe b0 b1 t0 t1 t2 t3 t4 u0 u1 u2 r0 r1 q0 q1 q2 q3 q4 e0 e1 e2 e3 e4 e5 e6 e7 e8 e9 e10 e11 e12 e13 oa S Wy sb L hSs hS16 hsb hW hW4 hL16 u (by omega) cs mm og hRel i (by omega) (32 + j) (1561 + 6 * j) (by omega) (by omega) _ H locs ls hP hD hS hl back hx2 hbad.1 hbad.2 hq
            · exact law_2_0 hN hlt C0 hz D cI cJ cZ hK A hAe b0 b1 t0 t1 t2 t3 t4 u0 u1 u2 r0 r1 q0 q1 q2 q3 q4 e0 e1 e2 e3 e4 e5 e6 e7 e8 e9 e10 e11 e12 e13 oa S Wy sb L hSs hS16 hsb hW hW4 hL16 u (by omega) cs mm og hRel i (by omega) (32 + j) (1561 + 6 * j) (by omega) (by omega) _ H locs ls hP hD hS hl back hx2 (Int32.not_lt.mpr hbad.1) hbad.2 hq
          · exact law_2x_0 hN hlt C0 hz D cI cJ cZ hK A hAe b0 b1 t0 t1 t2 t3 t4 u0 u1 u2 r0 r1 q0 q1 q2 q3 q4 e0 e1 e2 e3 e4 e5 e6 e7 e8 e9 e10 e11 e12 e13 oa S Wy sb L hSs hS16 hsb hW hW4 hL16 u (by omega) cs mm og hRel i (by omega) (32 + j) (1561 + 6 * j) (by omega) (by omega) _ H locs ls hP hD hS hl back hx2 hbad
        · by_cases hbad : 0 ≤ xs (i + 1) ∧ xs (i + 1) ≤ 3
          · rcases Nat.eq_zero_or_pos cs.2.2.2.1.2.2.2.2.1 with hq | hq
            · exact law_2y_1 hN hlt C0 hz D cI cJ cZ hK A hAe b0 b1 t0 t1 t2 t3 t4 u0 u1 u2 r0 r1 q0 q1 q2 q3 q4 e0 e1 e2 e3 e4 e5 e6 e7 e8 e9 e10 e11 e12 e13 oa S Wy sb L hSs hS16 hsb hW hW4 hL16 u (by omega) cs mm og hRel i (by omega) (32 + j) (1561 + 6 * j) (by omega) (by omega) _ H locs ls hP hD hS hl back hx2 hbad.1 hbad.2 hq
            · exact law_2_1 hN hlt C0 hz D cI cJ cZ hK A hAe b0 b1 t0 t1 t2 t3 t4 u0 u1 u2 r0 r1 q0 q1 q2 q3 q4 e0 e1 e2 e3 e4 e5 e6 e7 e8 e9 e10 e11 e12 e13 oa S Wy sb L hSs hS16 hsb hW hW4 hL16 u (by omega) cs mm og hRel i (by omega) (32 + j) (1561 + 6 * j) (by omega) (by omega) _ H locs ls hP hD hS hl back hx2 (Int32.not_lt.mpr hbad.1) hbad.2 hq
          · exact law_2x_1 hN hlt C0 hz D cI cJ cZ hK A hAe b0 b1 t0 t1 t2 t3 t4 u0 u1 u2 r0 r1 q0 q1 q2 q3 q4 e0 e1 e2 e3 e4 e5 e6 e7 e8 e9 e10 e11 e12 e13 oa S Wy sb L hSs hS16 hsb hW hW4 hL16 u (by omega) cs mm og hRel i (by omega) (32 + j) (1561 + 6 * j) (by omega) (by omega) _ H locs ls hP hD hS hl back hx2 hbad
      · refine lv_tableIn (off := 232) (tgt := 301) hx hb dL_law_69 (by decide) (by decide) rfl (by decide) ?_
        exact law_3 hN hlt C0 hz D cI cJ cZ hK A hAe b0 b1 t0 t1 t2 t3 t4 u0 u1 u2 r0 r1 q0 q1 q2 q3 q4 e0 e1 e2 e3 e4 e5 e6 e7 e8 e9 e10 e11 e12 e13 oa S Wy sb L hSs hS16 hsb hW hW4 hL16 u (by omega) cs mm og hRel i (by omega) (32 + j) (1561 + 6 * j) (by omega) (by omega) _ H locs ls hP hD hS hl back
      · refine lv_tableIn (off := 245) (tgt := 314) hx hb dL_law_69 (by decide) (by decide) rfl (by decide) ?_
        by_cases hbad : (0 ≤ xs (i + 1) ∧ xs (i + 1) ≤ nI S - 1) ∧ (0 ≤ xs (i + 2) ∧ xs (i + 2) ≤ nI Wy - 1) ∧ (0 ≤ xs (i + 3) ∧ xs (i + 3) ≤ 2)
        · obtain ⟨k0, w0_, e0_⟩ := in_rng (by omega) hbad.1.1 hbad.1.2
          obtain ⟨k1, w1_, e1_⟩ := in_rng (by omega) hbad.2.1.1 hbad.2.1.2
          exact law_4 hN hlt C0 hz D cI cJ cZ hK A hAe b0 b1 t0 t1 t2 t3 t4 u0 u1 u2 r0 r1 q0 q1 q2 q3 q4 e0 e1 e2 e3 e4 e5 e6 e7 e8 e9 e10 e11 e12 e13 oa S Wy sb L hSs hS16 hsb hW hW4 hL16 u (by omega) cs mm og hRel i (by omega) (32 + j) (1561 + 6 * j) (by omega) (by omega) _ H locs ls hP hD hS hl back k0 k1 e0_ e1_ w0_ w1_ (Int32.not_lt.mpr hbad.2.2.1) hbad.2.2.2
        · exact law_4x hN hlt C0 hz D cI cJ cZ hK A hAe b0 b1 t0 t1 t2 t3 t4 u0 u1 u2 r0 r1 q0 q1 q2 q3 q4 e0 e1 e2 e3 e4 e5 e6 e7 e8 e9 e10 e11 e12 e13 oa S Wy sb L hSs hS16 hsb hW hW4 hL16 u (by omega) cs mm og hRel i (by omega) (32 + j) (1561 + 6 * j) (by omega) (by omega) _ H locs ls hP hD hS hl back hbad
      · refine lv_tableIn (off := 325) (tgt := 394) hx hb dL_law_69 (by decide) (by decide) rfl (by decide) ?_
        by_cases hbad : (0 ≤ xs (i + 1) ∧ xs (i + 1) ≤ 63) ∧ (0 ≤ xs (i + 2) ∧ xs (i + 2) ≤ 1)
        · obtain ⟨k0, w0_, e0_⟩ := in_rng (n := 64) (by omega) hbad.1.1 hbad.1.2
          exact law_5 hN hlt C0 hz D cI cJ cZ hK A hAe b0 b1 t0 t1 t2 t3 t4 u0 u1 u2 r0 r1 q0 q1 q2 q3 q4 e0 e1 e2 e3 e4 e5 e6 e7 e8 e9 e10 e11 e12 e13 oa S Wy sb L hSs hS16 hsb hW hW4 hL16 u (by omega) cs mm og hRel i (by omega) (32 + j) (1561 + 6 * j) (by omega) (by omega) _ H locs ls hP hD hS hl back k0 e0_ w0_ (Int32.not_lt.mpr hbad.2.1) hbad.2.2
        · exact law_5x hN hlt C0 hz D cI cJ cZ hK A hAe b0 b1 t0 t1 t2 t3 t4 u0 u1 u2 r0 r1 q0 q1 q2 q3 q4 e0 e1 e2 e3 e4 e5 e6 e7 e8 e9 e10 e11 e12 e13 oa S Wy sb L hSs hS16 hsb hW hW4 hL16 u (by omega) cs mm og hRel i (by omega) (32 + j) (1561 + 6 * j) (by omega) (by omega) _ H locs ls hP hD hS hl back hbad
      · refine lv_tableIn (off := 393) (tgt := 462) hx hb dL_law_69 (by decide) (by decide) rfl (by decide) ?_
        by_cases hbad : 0 ≤ xs (i + 1) ∧ xs (i + 1) ≤ nI cs.2.2.1.2.1 - 1
        · obtain ⟨k0, w0_, e0_⟩ := in_rng (by have := hRel.2.2.1.2.1; omega) hbad.1 hbad.2
          exact law_6 hN hlt C0 hz D cI cJ cZ hK A hAe b0 b1 t0 t1 t2 t3 t4 u0 u1 u2 r0 r1 q0 q1 q2 q3 q4 e0 e1 e2 e3 e4 e5 e6 e7 e8 e9 e10 e11 e12 e13 oa S Wy sb L hSs hS16 hsb hW hW4 hL16 u (by omega) cs mm og hRel i (by omega) (32 + j) (1561 + 6 * j) (by omega) (by omega) _ H locs ls hP hD hS hl back k0 e0_ w0_
        · exact law_6x hN hlt C0 hz D cI cJ cZ hK A hAe b0 b1 t0 t1 t2 t3 t4 u0 u1 u2 r0 r1 q0 q1 q2 q3 q4 e0 e1 e2 e3 e4 e5 e6 e7 e8 e9 e10 e11 e12 e13 oa S Wy sb L hSs hS16 hsb hW hW4 hL16 u (by omega) cs mm og hRel i (by omega) (32 + j) (1561 + 6 * j) (by omega) (by omega) _ H locs ls hP hD hS hl back hbad
      · refine lv_tableIn (off := 449) (tgt := 518) hx hb dL_law_69 (by decide) (by decide) rfl (by decide) ?_
        by_cases hbad : (0 ≤ xs (i + 1) ∧ xs (i + 1) ≤ nI cs.2.2.2.1.2.2.2.2.1 - 1) ∧ (0 ≤ xs (i + 2) ∧ xs (i + 2) ≤ 1)
        · obtain ⟨k0, w0_, e0_⟩ := in_rng (by have := hRel.2.2.2.1.2.1; omega) hbad.1.1 hbad.1.2
          exact law_7 hN hlt C0 hz D cI cJ cZ hK A hAe b0 b1 t0 t1 t2 t3 t4 u0 u1 u2 r0 r1 q0 q1 q2 q3 q4 e0 e1 e2 e3 e4 e5 e6 e7 e8 e9 e10 e11 e12 e13 oa S Wy sb L hSs hS16 hsb hW hW4 hL16 u (by omega) cs mm og hRel i (by omega) (32 + j) (1561 + 6 * j) (by omega) (by omega) _ H locs ls hP hD hS hl back k0 e0_ w0_ (Int32.not_lt.mpr hbad.2.1) hbad.2.2
        · exact law_7x hN hlt C0 hz D cI cJ cZ hK A hAe b0 b1 t0 t1 t2 t3 t4 u0 u1 u2 r0 r1 q0 q1 q2 q3 q4 e0 e1 e2 e3 e4 e5 e6 e7 e8 e9 e10 e11 e12 e13 oa S Wy sb L hSs hS16 hsb hW hW4 hL16 u (by omega) cs mm og hRel i (by omega) (32 + j) (1561 + 6 * j) (by omega) (by omega) _ H locs ls hP hD hS hl back hbad
      · refine lv_tableIn (off := 517) (tgt := 586) hx hb dL_law_69 (by decide) (by decide) rfl (by decide) ?_
        exact law_8 hN hlt C0 hz D cI cJ cZ hK A hAe b0 b1 t0 t1 t2 t3 t4 u0 u1 u2 r0 r1 q0 q1 q2 q3 q4 e0 e1 e2 e3 e4 e5 e6 e7 e8 e9 e10 e11 e12 e13 oa S Wy sb L hSs hS16 hsb hW hW4 hL16 u (by omega) cs mm og hRel i (by omega) (32 + j) (1561 + 6 * j) (by omega) (by omega) _ H locs ls hP hD hS hl back
      · refine lv_tableIn (off := 530) (tgt := 599) hx hb dL_law_69 (by decide) (by decide) rfl (by decide) ?_
        exact law_9 hN hlt C0 hz D cI cJ cZ hK A hAe b0 b1 t0 t1 t2 t3 t4 u0 u1 u2 r0 r1 q0 q1 q2 q3 q4 e0 e1 e2 e3 e4 e5 e6 e7 e8 e9 e10 e11 e12 e13 oa S Wy sb L hSs hS16 hsb hW hW4 hL16 u (by omega) cs mm og hRel i (by omega) (32 + j) (1561 + 6 * j) (by omega) (by omega) _ H locs ls hP hD hS hl back
      · have h9 : (nI k).toInt = (k : Int) := nI_toInt (by omega)
        refine lv_tableOut (tgt := 624) hx hb dL_law_69 (Or.inr (by rw [h9]; omega)) (by decide) ?_
        refine W.widen (k := 32 + j + 1) (n := 1561 + 6 * j + 6) (by omega) (by omega) ?_
        exact back u cs mm og H locs ls (Nat.le_succ u) hRel hP hD hS hl
