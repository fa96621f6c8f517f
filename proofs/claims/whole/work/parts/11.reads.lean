set_option maxHeartbeats 4000000 in
set_option maxRecDepth 100000 in
/-- entry, of one that is there -/
theorem c_X4_entry (l : Launch) (D : va_G) (cI cJ cZ : ClassId) (sz : Nat) (b0 b1 t0 t1 t2 t3 t4 u0 u1 u2 r0 r1 q0 q1 q2 q3 q4 : Nat) (S Wy sb L : Nat) (tg kd tt lu : Fn) (fl us : Int32) (hg hq : Fn) (hh : Int32) (rp : Fn) (rd : Nat) (ro ru : Int32) (qp qt qd qr : Fn) (qs qf : Nat) (an : Fn) (ck ls_ : Int32) (k0 k1 : Nat) (p2 : Int32) (hk0 : k0 < S) (hk1 : k1 < Wy) (hw0 : ¬ p2 < 0) (hw2 : p2 ≤ 2) (hSs : S = 0 ∨ S = 2 ^ sb) (hS16 : S ≤ 16) (hsb : sb ≤ 4) (hW : 0 < Wy) (hW4 : Wy ≤ 4) (hd : rd ≤ L) (hL : L < 2 ^ 10) (hf : qf < 16) (hs : qs ≤ 16) : KI l yX4_entry wsX4_entry ({ frames := 0, cells := 0, slots := 0, locals := 0 } : Room) D (kTy cI cJ cZ) [.ref (b0), .int (nI k0), .int (nI k1), .int (p2)] [(b0, .inr (4, [.ref (t0), .ref (u0), .ref (r0), .ref (q0), .ref (b1), .int (ck), .int (ls_)])), (b1, .inl (cI, 7, .inl (an))), (t0, .inr (3, [.int (nI S), .int (nI Wy), .ref (t1), .ref (t2), .ref (t3), .int (fl), .int (nI sb), .ref (t4), .int (us)])), (t1, .inl (cI, S * Wy, .inl (tg))), (t2, .inl (cI, S * Wy, .inl (kd))), (t3, .inl (cI, S * Wy, .inl (tt))), (t4, .inl (cI, S * Wy, .inl (lu))), (u0, .inr (0, [.ref (u1), .ref (u2), .int (hh)])), (u1, .inl (cI, 64, .inl (hg))), (u2, .inl (cI, 64, .inl (hq))), (r0, .inr (2, [.int (nI L), .int (nI (rd)), .int (ro), .int (ru), .ref (r1)])), (r1, .inl (cI, L, .inl (rp))), (q0, .inr (1, [.int (nI (qs)), .int (nI (qf)), .int (nI L), .ref (q1), .ref (q2), .ref (q3), .ref (q4)])), (q1, .inl (cI, 16, .inl (qp))), (q2, .inl (cI, 16, .inl (qt))), (q3, .inl (cI, 16, .inl (qd))), (q4, .inl (cI, 16 * L, .inl (qr)))] sz (wTR b0 b1 t0 t1 t2 t3 t4 u0 u1 u2 r0 r1 q0 q1 q2 q3 q4 cI S Wy sb L ((tg, kd, tt, lu, fl, us), (hg, hq, hh), (rp, rd, ro, ru), (qp, qt, qd, qr, qs, qf), an, ck, ls_)) (if p2 = 0 then tg (k0 * Wy + k1) else if p2 = 1 then kd (k0 * Wy + k1) else tt (k0 * Wy + k1)) 0 0 := by
  refine Met.ofW (cc := cX4_entry) (maxL := 5) (ret := (some .int)) (by decide) rfl ?_
  intro p e s m args below meth c s₁ B hml hv
  obtain ⟨rfl, hsz, hP, hK, hD0⟩ := hv
  have hx := B.exec
  have hb := B.bytes
  have hr := B.returns
  have hts := atoms_spec (ws := wsX4_entry) B.pre
  have hown : s.vm.findClass RX4 = some m.cls := findClass_of_methodNamed B.named
  have hlocks := B.notSynchronized
  have kf126 := hts (.fieldLink RX4 126 "TargetRows$Table" "sets" "I") (List.mem_cons_of_mem _ kw_63)
  have kf129 := hts (.fieldLink RX4 129 "TargetRows$Table" "ways" "I") (List.mem_cons_of_mem _ kw_65)
  have kf139 := hts (.fieldLink RX4 139 "TargetRows$Table" "tags" "[I") (List.mem_cons_of_mem _ kw_67)
  have kf142 := hts (.fieldLink RX4 142 "TargetRows$Table" "targets" "[I") (List.mem_cons_of_mem _ kw_71)
  have kf18 := hts (.fieldLink RX4 18 "TargetRows" "table" "LTargetRows$Table;") (List.mem_cons_of_mem _ kw_173)
  have kf73 := hts (.fieldLink RX4 73 "TargetRows$Table" "kinds" "[I") (List.mem_cons_of_mem _ kw_69)
  subst hsz
  have hD := hD0.self (sz := s.heap.size)
  generalize hAe : va_A [(b0, .inr (4, [.ref (t0), .ref (u0), .ref (r0), .ref (q0), .ref (b1), .int (ck), .int (ls_)])), (b1, .inl (cI, 7, .inl (an))), (t0, .inr (3, [.int (nI S), .int (nI Wy), .ref (t1), .ref (t2), .ref (t3), .int (fl), .int (nI sb), .ref (t4), .int (us)])), (t1, .inl (cI, S * Wy, .inl (tg))), (t2, .inl (cI, S * Wy, .inl (kd))), (t3, .inl (cI, S * Wy, .inl (tt))), (t4, .inl (cI, S * Wy, .inl (lu))), (u0, .inr (0, [.ref (u1), .ref (u2), .int (hh)])), (u1, .inl (cI, 64, .inl (hg))), (u2, .inl (cI, 64, .inl (hq))), (r0, .inr (2, [.int (nI L), .int (nI (rd)), .int (ro), .int (ru), .ref (r1)])), (r1, .inl (cI, L, .inl (rp))), (q0, .inr (1, [.int (nI (qs)), .int (nI (qf)), .int (nI L), .ref (q1), .ref (q2), .ref (q3), .ref (q4)])), (q1, .inl (cI, 16, .inl (qp))), (q2, .inl (cI, 16, .inl (qt))), (q3, .inl (cI, 16, .inl (qd))), (q4, .inl (cI, 16 * L, .inl (qr)))] s.heap.size = A at hD ⊢
  have hA : ∀ q : Nat, s.heap.size ≤ q → A q := fun q h => by rw [← hAe]; exact Or.inr h
  have hS : va_S A s.heap s.heap [] := va_S.rf
  have hP : va_P D vwCl [(b0, .inr (4, [.ref (t0), .ref (u0), .ref (r0), .ref (q0), .ref (b1), .int (ck), .int (ls_)])), (b1, .inl (cI, 7, .inl (an))), (t0, .inr (3, [.int (nI S), .int (nI Wy), .ref (t1), .ref (t2), .ref (t3), .int (fl), .int (nI sb), .ref (t4), .int (us)])), (t1, .inl (cI, S * Wy, .inl (tg))), (t2, .inl (cI, S * Wy, .inl (kd))), (t3, .inl (cI, S * Wy, .inl (tt))), (t4, .inl (cI, S * Wy, .inl (lu))), (u0, .inr (0, [.ref (u1), .ref (u2), .int (hh)])), (u1, .inl (cI, 64, .inl (hg))), (u2, .inl (cI, 64, .inl (hq))), (r0, .inr (2, [.int (nI L), .int (nI (rd)), .int (ro), .int (ru), .ref (r1)])), (r1, .inl (cI, L, .inl (rp))), (q0, .inr (1, [.int (nI (qs)), .int (nI (qf)), .int (nI L), .ref (q1), .ref (q2), .ref (q3), .ref (q4)])), (q1, .inl (cI, 16, .inl (qp))), (q2, .inl (cI, 16, .inl (qt))), (q3, .inl (cI, 16, .inl (qd))), (q4, .inl (cI, 16 * L, .inl (qr)))] s.heap := hP
  have hD : va_D A [(b0, .inr (4, [.ref (t0), .ref (u0), .ref (r0), .ref (q0), .ref (b1), .int (ck), .int (ls_)])), (b1, .inl (cI, 7, .inl (an))), (t0, .inr (3, [.int (nI S), .int (nI Wy), .ref (t1), .ref (t2), .ref (t3), .int (fl), .int (nI sb), .ref (t4), .int (us)])), (t1, .inl (cI, S * Wy, .inl (tg))), (t2, .inl (cI, S * Wy, .inl (kd))), (t3, .inl (cI, S * Wy, .inl (tt))), (t4, .inl (cI, S * Wy, .inl (lu))), (u0, .inr (0, [.ref (u1), .ref (u2), .int (hh)])), (u1, .inl (cI, 64, .inl (hg))), (u2, .inl (cI, 64, .inl (hq))), (r0, .inr (2, [.int (nI L), .int (nI (rd)), .int (ro), .int (ru), .ref (r1)])), (r1, .inl (cI, L, .inl (rp))), (q0, .inr (1, [.int (nI (qs)), .int (nI (qf)), .int (nI L), .ref (q1), .ref (q2), .ref (q3), .ref (q4)])), (q1, .inl (cI, 16, .inl (qp))), (q2, .inl (cI, 16, .inl (qt))), (q3, .inl (cI, 16, .inl (qd))), (q4, .inl (cI, 16 * L, .inl (qr)))] := hD
  have hl := lv_entry ([.ref (b0), .int (nI k0), .int (nI k1), .int (p2)]) (n := 5) (Nat.le_of_ble_eq_true rfl)
  rw [lg_entry_eq]
  generalize (lg_sl ([.ref (b0), .int (nI k0), .int (nI k1), .int (p2)]) ++ List.replicate (5 - (lg_sl ([.ref (b0), .int (nI k0), .int (nI k1), .int (p2)])).length) Slot.unset).toArray = ls at hl ⊢
  have hl : lv_has ls 5 [(0, .ref (b0)), (1, .int (nI k0)), (2, .int (nI k1)), (3, .int (p2))] := hl
  have hSW := ts_SW hS16 hW4
  have hkk : k0 * Wy + k1 < S * Wy := en_lt hk0 hk1
  refine lv_iload_n hx hb dX4_entry_0 rfl (lv_at hl 1 rfl) ?_
  refine lv_if_lt (tgt := 30) hx hb dX4_entry_1 (by decide) (fun c_1 => absurd c_1 (nI_pos (by omega))) (fun c_1 => ?_)
  refine lv_iload_n hx hb dX4_entry_4 rfl (lv_at hl 1 rfl) ?_
  refine lv_aload_n hx hb dX4_entry_5 rfl (lv_at hl 0 rfl) ?_
  refine va_get (D := D) (ci := 4) (v := .ref (t0)) (C := RX4) (T := TX4) (N := 7) hx hb hts (fun w h => List.mem_cons_of_mem _ (hiX4 w h)) hown hK hP 0 rfl rfl 0 (by decide) kf18 (fun _ h9 => h9) rfl dX4_entry_6 ?_
  refine va_get (D := D) (ci := 3) (v := .int (nI S)) (C := RX3) (T := TX3) (N := 9) hx hb hts (fun w h => List.mem_cons_of_mem _ (hiX3 w h)) hown hK hP 2 rfl rfl 0 (by decide) kf126 (fun _ h9 => h9) rfl dX4_entry_9 ?_
  refine lv_icmp_ge (tgt := 30) hx hb dX4_entry_12 (by decide) (fun c_12 => absurd c_12 (nI_ge hk0 (by omega))) (fun c_12 => ?_)
  refine lv_iload_n hx hb dX4_entry_15 rfl (lv_at hl 2 rfl) ?_
  refine lv_if_lt (tgt := 30) hx hb dX4_entry_16 (by decide) (fun c_16 => absurd c_16 (nI_pos (by omega))) (fun c_16 => ?_)
  refine lv_iload_n hx hb dX4_entry_19 rfl (lv_at hl 2 rfl) ?_
  refine lv_aload_n hx hb dX4_entry_20 rfl (lv_at hl 0 rfl) ?_
  refine va_get (D := D) (ci := 4) (v := .ref (t0)) (C := RX4) (T := TX4) (N := 7) hx hb hts (fun w h => List.mem_cons_of_mem _ (hiX4 w h)) hown hK hP 0 rfl rfl 0 (by decide) kf18 (fun _ h9 => h9) rfl dX4_entry_21 ?_
  refine va_get (D := D) (ci := 3) (v := .int (nI Wy)) (C := RX3) (T := TX3) (N := 9) hx hb hts (fun w h => List.mem_cons_of_mem _ (hiX3 w h)) hown hK hP 2 rfl rfl 1 (by decide) kf129 (fun _ h9 => h9) rfl dX4_entry_24 ?_
  refine lv_icmp_lt (tgt := 40) hx hb dX4_entry_27 (by decide) (fun c_27 => ?_) (fun c_27 => absurd (nI_lt hk1 (by omega)) c_27)
  refine lv_iload_n hx hb dX4_entry_40 rfl (lv_at hl 3 rfl) ?_
  refine lv_if_lt (tgt := 49) hx hb dX4_entry_41 (by decide) (fun c_41 => absurd c_41 hw0) (fun c_41 => ?_)
  refine lv_iload_n hx hb dX4_entry_44 rfl (lv_at hl 3 rfl) ?_
  refine lv_iconst (v := 2) hx hb dX4_entry_45 (by decide) ?_
  refine lv_icmp_le (tgt := 59) hx hb dX4_entry_46 (by decide) (fun c_46 => ?_) (fun c_46 => absurd hw2 c_46)
  refine lv_iload_n hx hb dX4_entry_59 rfl (lv_at hl 1 rfl) ?_
  refine lv_aload_n hx hb dX4_entry_60 rfl (lv_at hl 0 rfl) ?_
  refine va_get (D := D) (ci := 4) (v := .ref (t0)) (C := RX4) (T := TX4) (N := 7) hx hb hts (fun w h => List.mem_cons_of_mem _ (hiX4 w h)) hown hK hP 0 rfl rfl 0 (by decide) kf18 (fun _ h9 => h9) rfl dX4_entry_61 ?_
  refine va_get (D := D) (ci := 3) (v := .int (nI Wy)) (C := RX3) (T := TX3) (N := 9) hx hb hts (fun w h => List.mem_cons_of_mem _ (hiX3 w h)) hown hK hP 2 rfl rfl 1 (by decide) kf129 (fun _ h9 => h9) rfl dX4_entry_64 ?_
  refine lv_imul hx hb dX4_entry_67 ?_
  refine kt_i (y := nI (k0 * Wy)) (pk_mul _ _) ?_
  refine lv_iload_n hx hb dX4_entry_68 rfl (lv_at hl 2 rfl) ?_
  refine lv_iadd hx hb dX4_entry_69 ?_
  refine kt_i (y := nI (k0 * Wy + k1)) (nI_add _ _) ?_
  refine lv_istore (lv' := [(4, .int (nI (k0 * Wy + k1))), (0, .ref (b0)), (1, .int (nI k0)), (2, .int (nI k1)), (3, .int (p2))]) hx hb dX4_entry_70 hl (by decide) rfl (fun ls hl => ?_)
  refine lv_iload_n hx hb dX4_entry_72 rfl (lv_at hl 4 rfl) ?_
  refine lv_if_ne (tgt := 87) hx hb dX4_entry_73 (by decide) (fun c_73 => ?_) (fun c_73 => ?_)
  ·
    refine lv_iload_n hx hb dX4_entry_87 rfl (lv_at hl 4 rfl) ?_
    refine lv_iconst (v := 1) hx hb dX4_entry_88 (by decide) ?_
    refine lv_icmp_ne (tgt := 105) hx hb dX4_entry_89 (by decide) (fun c_89 => ?_) (fun c_89 => ?_)
    ·
      refine lv_aload_n hx hb dX4_entry_105 rfl (lv_at hl 1 rfl) ?_
      refine va_get (D := D) (ci := 4) (v := .ref (t0)) (C := RX4) (T := TX4) (N := 7) hx hb hts (fun w h => List.mem_cons_of_mem _ (hiX4 w h)) hown hK hP 0 rfl rfl 0 (by decide) kf18 (fun _ h9 => h9) rfl dX4_entry_106 ?_
      refine va_get (D := D) (ci := 3) (v := .ref (t3)) (C := RX3) (T := TX3) (N := 9) hx hb hts (fun w h => List.mem_cons_of_mem _ (hiX3 w h)) hown hK hP 2 rfl rfl 4 (by decide) kf142 (fun _ h9 => h9) rfl dX4_entry_109 ?_
      refine lv_iload hx hb dX4_entry_112 (lv_at hl 0 rfl) ?_
      refine ka_ild hx hb hK hP 5 0 rfl rfl (k := k0 * Wy + k1) (rfl) (⟨hkk, by omega⟩) dX4_entry_114 ?_
      exact kr_i (rfl) hx hb hr hlocks hP hK hD hS (by rw [if_neg c_73, if_neg c_89]) dX4_entry_115
    ·
      refine lv_aload_n hx hb dX4_entry_92 rfl (lv_at hl 1 rfl) ?_
      refine va_get (D := D) (ci := 4) (v := .ref (t0)) (C := RX4) (T := TX4) (N := 7) hx hb hts (fun w h => List.mem_cons_of_mem _ (hiX4 w h)) hown hK hP 0 rfl rfl 0 (by decide) kf18 (fun _ h9 => h9) rfl dX4_entry_93 ?_
      refine va_get (D := D) (ci := 3) (v := .ref (t2)) (C := RX3) (T := TX3) (N := 9) hx hb hts (fun w h => List.mem_cons_of_mem _ (hiX3 w h)) hown hK hP 2 rfl rfl 3 (by decide) kf73 (fun _ h9 => h9) rfl dX4_entry_96 ?_
      refine lv_iload hx hb dX4_entry_99 (lv_at hl 0 rfl) ?_
      refine ka_ild hx hb hK hP 4 0 rfl rfl (k := k0 * Wy + k1) (rfl) (⟨hkk, by omega⟩) dX4_entry_101 ?_
      refine lv_goto (tgt := 115) hx hb dX4_entry_102 (by decide) ?_
      exact kr_i (rfl) hx hb hr hlocks hP hK hD hS (by rw [if_neg c_73, if_pos c_89]) dX4_entry_115
  ·
    refine lv_aload_n hx hb dX4_entry_76 rfl (lv_at hl 1 rfl) ?_
    refine va_get (D := D) (ci := 4) (v := .ref (t0)) (C := RX4) (T := TX4) (N := 7) hx hb hts (fun w h => List.mem_cons_of_mem _ (hiX4 w h)) hown hK hP 0 rfl rfl 0 (by decide) kf18 (fun _ h9 => h9) rfl dX4_entry_77 ?_
    refine va_get (D := D) (ci := 3) (v := .ref (t1)) (C := RX3) (T := TX3) (N := 9) hx hb hts (fun w h => List.mem_cons_of_mem _ (hiX3 w h)) hown hK hP 2 rfl rfl 2 (by decide) kf139 (fun _ h9 => h9) rfl dX4_entry_80 ?_
    refine lv_iload hx hb dX4_entry_83 (lv_at hl 0 rfl) ?_
    refine ka_ild hx hb hK hP 3 0 rfl rfl (k := k0 * Wy + k1) (rfl) (⟨hkk, by omega⟩) dX4_entry_85 ?_
    exact kr_i (rfl) hx hb hr hlocks hP hK hD hS ((if_pos c_73).symm) dX4_entry_86

set_option maxHeartbeats 4000000 in
set_option maxRecDepth 100000 in
/-- row -/
theorem c_X4_row (l : Launch) (D : va_G) (cI cJ cZ : ClassId) (sz : Nat) (b0 b1 t0 t1 t2 t3 t4 u0 u1 u2 r0 r1 q0 q1 q2 q3 q4 : Nat) (S Wy sb L : Nat) (tg kd tt lu : Fn) (fl us : Int32) (hg hq : Fn) (hh : Int32) (rp : Fn) (rd : Nat) (ro ru : Int32) (qp qt qd qr : Fn) (qs qf : Nat) (an : Fn) (ck ls_ : Int32) (k0 : Nat) (p1 : Int32) (hk0 : k0 < 64) (hw0 : ¬ p1 < 0) (hw1 : p1 ≤ 1) : KI l yX4_row wsX4_row ({ frames := 0, cells := 0, slots := 0, locals := 0 } : Room) D (kTy cI cJ cZ) [.ref (b0), .int (nI k0), .int (p1)] [(b0, .inr (4, [.ref (t0), .ref (u0), .ref (r0), .ref (q0), .ref (b1), .int (ck), .int (ls_)])), (b1, .inl (cI, 7, .inl (an))), (t0, .inr (3, [.int (nI S), .int (nI Wy), .ref (t1), .ref (t2), .ref (t3), .int (fl), .int (nI sb), .ref (t4), .int (us)])), (t1, .inl (cI, S * Wy, .inl (tg))), (t2, .inl (cI, S * Wy, .inl (kd))), (t3, .inl (cI, S * Wy, .inl (tt))), (t4, .inl (cI, S * Wy, .inl (lu))), (u0, .inr (0, [.ref (u1), .ref (u2), .int (hh)])), (u1, .inl (cI, 64, .inl (hg))), (u2, .inl (cI, 64, .inl (hq))), (r0, .inr (2, [.int (nI L), .int (nI (rd)), .int (ro), .int (ru), .ref (r1)])), (r1, .inl (cI, L, .inl (rp))), (q0, .inr (1, [.int (nI (qs)), .int (nI (qf)), .int (nI L), .ref (q1), .ref (q2), .ref (q3), .ref (q4)])), (q1, .inl (cI, 16, .inl (qp))), (q2, .inl (cI, 16, .inl (qt))), (q3, .inl (cI, 16, .inl (qd))), (q4, .inl (cI, 16 * L, .inl (qr)))] sz (wTR b0 b1 t0 t1 t2 t3 t4 u0 u1 u2 r0 r1 q0 q1 q2 q3 q4 cI S Wy sb L ((tg, kd, tt, lu, fl, us), (hg, hq, hh), (rp, rd, ro, ru), (qp, qt, qd, qr, qs, qf), an, ck, ls_)) (if p1 = 0 then hg k0 else hq k0) 0 0 := by
  refine Met.ofW (cc := cX4_row) (maxL := 3) (ret := (some .int)) (by decide) rfl ?_
  intro p e s m args below meth c s₁ B hml hv
  obtain ⟨rfl, hsz, hP, hK, hD0⟩ := hv
  have hx := B.exec
  have hb := B.bytes
  have hr := B.returns
  have hts := atoms_spec (ws := wsX4_row) B.pre
  have hown : s.vm.findClass RX4 = some m.cls := findClass_of_methodNamed B.named
  have hlocks := B.notSynchronized
  have kf147 := hts (.fieldLink RX4 147 "TargetRows$HistoryRows" "tags" "[I") (List.mem_cons_of_mem _ kw_105)
  have kf148 := hts (.fieldLink RX4 148 "TargetRows$HistoryRows" "targets" "[I") (List.mem_cons_of_mem _ kw_107)
  have kf27 := hts (.fieldLink RX4 27 "TargetRows" "rows" "LTargetRows$HistoryRows;") (List.mem_cons_of_mem _ kw_174)
  subst hsz
  have hD := hD0.self (sz := s.heap.size)
  generalize hAe : va_A [(b0, .inr (4, [.ref (t0), .ref (u0), .ref (r0), .ref (q0), .ref (b1), .int (ck), .int (ls_)])), (b1, .inl (cI, 7, .inl (an))), (t0, .inr (3, [.int (nI S), .int (nI Wy), .ref (t1), .ref (t2), .ref (t3), .int (fl), .int (nI sb), .ref (t4), .int (us)])), (t1, .inl (cI, S * Wy, .inl (tg))), (t2, .inl (cI, S * Wy, .inl (kd))), (t3, .inl (cI, S * Wy, .inl (tt))), (t4, .inl (cI, S * Wy, .inl (lu))), (u0, .inr (0, [.ref (u1), .ref (u2), .int (hh)])), (u1, .inl (cI, 64, .inl (hg))), (u2, .inl (cI, 64, .inl (hq))), (r0, .inr (2, [.int (nI L), .int (nI (rd)), .int (ro), .int (ru), .ref (r1)])), (r1, .inl (cI, L, .inl (rp))), (q0, .inr (1, [.int (nI (qs)), .int (nI (qf)), .int (nI L), .ref (q1), .ref (q2), .ref (q3), .ref (q4)])), (q1, .inl (cI, 16, .inl (qp))), (q2, .inl (cI, 16, .inl (qt))), (q3, .inl (cI, 16, .inl (qd))), (q4, .inl (cI, 16 * L, .inl (qr)))] s.heap.size = A at hD ⊢
  have hA : ∀ q : Nat, s.heap.size ≤ q → A q := fun q h => by rw [← hAe]; exact Or.inr h
  have hS : va_S A s.heap s.heap [] := va_S.rf
  have hP : va_P D vwCl [(b0, .inr (4, [.ref (t0), .ref (u0), .ref (r0), .ref (q0), .ref (b1), .int (ck), .int (ls_)])), (b1, .inl (cI, 7, .inl (an))), (t0, .inr (3, [.int (nI S), .int (nI Wy), .ref (t1), .ref (t2), .ref (t3), .int (fl), .int (nI sb), .ref (t4), .int (us)])), (t1, .inl (cI, S * Wy, .inl (tg))), (t2, .inl (cI, S * Wy, .inl (kd))), (t3, .inl (cI, S * Wy, .inl (tt))), (t4, .inl (cI, S * Wy, .inl (lu))), (u0, .inr (0, [.ref (u1), .ref (u2), .int (hh)])), (u1, .inl (cI, 64, .inl (hg))), (u2, .inl (cI, 64, .inl (hq))), (r0, .inr (2, [.int (nI L), .int (nI (rd)), .int (ro), .int (ru), .ref (r1)])), (r1, .inl (cI, L, .inl (rp))), (q0, .inr (1, [.int (nI (qs)), .int (nI (qf)), .int (nI L), .ref (q1), .ref (q2), .ref (q3), .ref (q4)])), (q1, .inl (cI, 16, .inl (qp))), (q2, .inl (cI, 16, .inl (qt))), (q3, .inl (cI, 16, .inl (qd))), (q4, .inl (cI, 16 * L, .inl (qr)))] s.heap := hP
  have hD : va_D A [(b0, .inr (4, [.ref (t0), .ref (u0), .ref (r0), .ref (q0), .ref (b1), .int (ck), .int (ls_)])), (b1, .inl (cI, 7, .inl (an))), (t0, .inr (3, [.int (nI S), .int (nI Wy), .ref (t1), .ref (t2), .ref (t3), .int (fl), .int (nI sb), .ref (t4), .int (us)])), (t1, .inl (cI, S * Wy, .inl (tg))), (t2, .inl (cI, S * Wy, .inl (kd))), (t3, .inl (cI, S * Wy, .inl (tt))), (t4, .inl (cI, S * Wy, .inl (lu))), (u0, .inr (0, [.ref (u1), .ref (u2), .int (hh)])), (u1, .inl (cI, 64, .inl (hg))), (u2, .inl (cI, 64, .inl (hq))), (r0, .inr (2, [.int (nI L), .int (nI (rd)), .int (ro), .int (ru), .ref (r1)])), (r1, .inl (cI, L, .inl (rp))), (q0, .inr (1, [.int (nI (qs)), .int (nI (qf)), .int (nI L), .ref (q1), .ref (q2), .ref (q3), .ref (q4)])), (q1, .inl (cI, 16, .inl (qp))), (q2, .inl (cI, 16, .inl (qt))), (q3, .inl (cI, 16, .inl (qd))), (q4, .inl (cI, 16 * L, .inl (qr)))] := hD
  have hl := lv_entry ([.ref (b0), .int (nI k0), .int (p1)]) (n := 3) (Nat.le_of_ble_eq_true rfl)
  rw [lg_entry_eq]
  generalize (lg_sl ([.ref (b0), .int (nI k0), .int (p1)]) ++ List.replicate (3 - (lg_sl ([.ref (b0), .int (nI k0), .int (p1)])).length) Slot.unset).toArray = ls at hl ⊢
  have hl : lv_has ls 3 [(0, .ref (b0)), (1, .int (nI k0)), (2, .int (p1))] := hl
  refine lv_iload_n hx hb dX4_row_0 rfl (lv_at hl 1 rfl) ?_
  refine lv_if_lt (tgt := 10) hx hb dX4_row_1 (by decide) (fun c_1 => absurd c_1 (nI_pos (by omega))) (fun c_1 => ?_)
  refine lv_iload_n hx hb dX4_row_4 rfl (lv_at hl 1 rfl) ?_
  refine lv_bipush (v := 64) hx hb dX4_row_5 (by decide) ?_
  refine lv_icmp_lt (tgt := 20) hx hb dX4_row_7 (by decide) (fun c_7 => ?_) (fun c_7 => absurd (nI_lt (b := 64) hk0 (by decide)) c_7)
  refine lv_iload_n hx hb dX4_row_20 rfl (lv_at hl 2 rfl) ?_
  refine lv_if_lt (tgt := 29) hx hb dX4_row_21 (by decide) (fun c_21 => absurd c_21 hw0) (fun c_21 => ?_)
  refine lv_iload_n hx hb dX4_row_24 rfl (lv_at hl 2 rfl) ?_
  refine lv_iconst (v := 1) hx hb dX4_row_25 (by decide) ?_
  refine lv_icmp_le (tgt := 39) hx hb dX4_row_26 (by decide) (fun c_26 => ?_) (fun c_26 => absurd hw1 c_26)
  refine lv_iload_n hx hb dX4_row_39 rfl (lv_at hl 2 rfl) ?_
  refine lv_if_ne (tgt := 55) hx hb dX4_row_40 (by decide) (fun c_40 => ?_) (fun c_40 => ?_)
  ·
    refine lv_aload_n hx hb dX4_row_55 rfl (lv_at hl 0 rfl) ?_
    refine va_get (D := D) (ci := 4) (v := .ref (u0)) (C := RX4) (T := TX4) (N := 7) hx hb hts (fun w h => List.mem_cons_of_mem _ (hiX4 w h)) hown hK hP 0 rfl rfl 1 (by decide) kf27 (fun _ h9 => h9) rfl dX4_row_56 ?_
    refine va_get (D := D) (ci := 0) (v := .ref (u2)) (C := RX0) (T := TX0) (N := 3) hx hb hts (fun w h => List.mem_cons_of_mem _ (hiX0 w h)) hown hK hP 7 rfl rfl 1 (by decide) kf148 (fun _ h9 => h9) rfl dX4_row_59 ?_
    refine lv_iload_n hx hb dX4_row_62 rfl (lv_at hl 1 rfl) ?_
    refine ka_ild hx hb hK hP 9 0 rfl rfl (k := k0) (rfl) (⟨hk0, by decide⟩) dX4_row_63 ?_
    exact kr_i (rfl) hx hb hr hlocks hP hK hD hS ((if_neg c_40).symm) dX4_row_64
  ·
    refine lv_aload_n hx hb dX4_row_43 rfl (lv_at hl 0 rfl) ?_
    refine va_get (D := D) (ci := 4) (v := .ref (u0)) (C := RX4) (T := TX4) (N := 7) hx hb hts (fun w h => List.mem_cons_of_mem _ (hiX4 w h)) hown hK hP 0 rfl rfl 1 (by decide) kf27 (fun _ h9 => h9) rfl dX4_row_44 ?_
    refine va_get (D := D) (ci := 0) (v := .ref (u1)) (C := RX0) (T := TX0) (N := 3) hx hb hts (fun w h => List.mem_cons_of_mem _ (hiX0 w h)) hown hK hP 7 rfl rfl 0 (by decide) kf147 (fun _ h9 => h9) rfl dX4_row_47 ?_
    refine lv_iload_n hx hb dX4_row_50 rfl (lv_at hl 1 rfl) ?_
    refine ka_ild hx hb hK hP 8 0 rfl rfl (k := k0) (rfl) (⟨hk0, by decide⟩) dX4_row_51 ?_
    refine lv_goto (tgt := 64) hx hb dX4_row_52 (by decide) ?_
    exact kr_i (rfl) hx hb hr hlocks hP hK hD hS ((if_pos c_40).symm) dX4_row_64

set_option maxHeartbeats 4000000 in
set_option maxRecDepth 100000 in
/-- ring -/
theorem c_X4_ring (l : Launch) (D : va_G) (cI cJ cZ : ClassId) (sz : Nat) (b0 b1 t0 t1 t2 t3 t4 u0 u1 u2 r0 r1 q0 q1 q2 q3 q4 : Nat) (S Wy sb L : Nat) (tg kd tt lu : Fn) (fl us : Int32) (hg hq : Fn) (hh : Int32) (rp : Fn) (rd : Nat) (ro ru : Int32) (qp qt qd qr : Fn) (qs qf : Nat) (an : Fn) (ck ls_ : Int32) (k0 : Nat) (hk0 : k0 < rd) (hSs : S = 0 ∨ S = 2 ^ sb) (hS16 : S ≤ 16) (hsb : sb ≤ 4) (hW : 0 < Wy) (hW4 : Wy ≤ 4) (hd : rd ≤ L) (hL : L < 2 ^ 10) (hf : qf < 16) (hs : qs ≤ 16) : KI l yX4_ring wsX4_ring ({ frames := 1, cells := 0, slots := 0, locals := 21 } : Room) D (kTy cI cJ cZ) [.ref (b0), .int (nI k0)] [(b0, .inr (4, [.ref (t0), .ref (u0), .ref (r0), .ref (q0), .ref (b1), .int (ck), .int (ls_)])), (b1, .inl (cI, 7, .inl (an))), (t0, .inr (3, [.int (nI S), .int (nI Wy), .ref (t1), .ref (t2), .ref (t3), .int (fl), .int (nI sb), .ref (t4), .int (us)])), (t1, .inl (cI, S * Wy, .inl (tg))), (t2, .inl (cI, S * Wy, .inl (kd))), (t3, .inl (cI, S * Wy, .inl (tt))), (t4, .inl (cI, S * Wy, .inl (lu))), (u0, .inr (0, [.ref (u1), .ref (u2), .int (hh)])), (u1, .inl (cI, 64, .inl (hg))), (u2, .inl (cI, 64, .inl (hq))), (r0, .inr (2, [.int (nI L), .int (nI (rd)), .int (ro), .int (ru), .ref (r1)])), (r1, .inl (cI, L, .inl (rp))), (q0, .inr (1, [.int (nI (qs)), .int (nI (qf)), .int (nI L), .ref (q1), .ref (q2), .ref (q3), .ref (q4)])), (q1, .inl (cI, 16, .inl (qp))), (q2, .inl (cI, 16, .inl (qt))), (q3, .inl (cI, 16, .inl (qd))), (q4, .inl (cI, 16 * L, .inl (qr)))] sz (wTR b0 b1 t0 t1 t2 t3 t4 u0 u1 u2 r0 r1 q0 q1 q2 q3 q4 cI S Wy sb L ((tg, kd, tt, lu, fl, us), (hg, hq, hh), (rp, rd, ro, ru), (qp, qt, qd, qr, qs, qf), an, ck, ls_)) (rf_top (rp, rd, ro, ru) k0) 0 0 := by
  refine Met.ofW (cc := cX4_ring) (maxL := 2) (ret := (some .int)) (by decide) rfl ?_
  intro p e s m args below meth c s₁ B hml hv
  obtain ⟨rfl, hsz, hP, hK, hD0⟩ := hv
  have hx := B.exec
  have hb := B.bytes
  have hr := B.returns
  have hts := atoms_spec (ws := wsX4_ring) B.pre
  have hown : s.vm.findClass RX4 = some m.cls := findClass_of_methodNamed B.named
  have hlocks := B.notSynchronized
  have kf149 := hts (.fieldLink RX4 149 "TargetRows$Returns" "depth" "I") (List.mem_cons_of_mem _ kw_127)
  have kf36 := hts (.fieldLink RX4 36 "TargetRows" "stack" "LTargetRows$Returns;") (List.mem_cons_of_mem _ kw_175)
  subst hsz
  have hD := hD0.self (sz := s.heap.size)
  generalize hAe : va_A [(b0, .inr (4, [.ref (t0), .ref (u0), .ref (r0), .ref (q0), .ref (b1), .int (ck), .int (ls_)])), (b1, .inl (cI, 7, .inl (an))), (t0, .inr (3, [.int (nI S), .int (nI Wy), .ref (t1), .ref (t2), .ref (t3), .int (fl), .int (nI sb), .ref (t4), .int (us)])), (t1, .inl (cI, S * Wy, .inl (tg))), (t2, .inl (cI, S * Wy, .inl (kd))), (t3, .inl (cI, S * Wy, .inl (tt))), (t4, .inl (cI, S * Wy, .inl (lu))), (u0, .inr (0, [.ref (u1), .ref (u2), .int (hh)])), (u1, .inl (cI, 64, .inl (hg))), (u2, .inl (cI, 64, .inl (hq))), (r0, .inr (2, [.int (nI L), .int (nI (rd)), .int (ro), .int (ru), .ref (r1)])), (r1, .inl (cI, L, .inl (rp))), (q0, .inr (1, [.int (nI (qs)), .int (nI (qf)), .int (nI L), .ref (q1), .ref (q2), .ref (q3), .ref (q4)])), (q1, .inl (cI, 16, .inl (qp))), (q2, .inl (cI, 16, .inl (qt))), (q3, .inl (cI, 16, .inl (qd))), (q4, .inl (cI, 16 * L, .inl (qr)))] s.heap.size = A at hD ⊢
  have hA : ∀ q : Nat, s.heap.size ≤ q → A q := fun q h => by rw [← hAe]; exact Or.inr h
  have hS : va_S A s.heap s.heap [] := va_S.rf
  have hP : va_P D vwCl [(b0, .inr (4, [.ref (t0), .ref (u0), .ref (r0), .ref (q0), .ref (b1), .int (ck), .int (ls_)])), (b1, .inl (cI, 7, .inl (an))), (t0, .inr (3, [.int (nI S), .int (nI Wy), .ref (t1), .ref (t2), .ref (t3), .int (fl), .int (nI sb), .ref (t4), .int (us)])), (t1, .inl (cI, S * Wy, .inl (tg))), (t2, .inl (cI, S * Wy, .inl (kd))), (t3, .inl (cI, S * Wy, .inl (tt))), (t4, .inl (cI, S * Wy, .inl (lu))), (u0, .inr (0, [.ref (u1), .ref (u2), .int (hh)])), (u1, .inl (cI, 64, .inl (hg))), (u2, .inl (cI, 64, .inl (hq))), (r0, .inr (2, [.int (nI L), .int (nI (rd)), .int (ro), .int (ru), .ref (r1)])), (r1, .inl (cI, L, .inl (rp))), (q0, .inr (1, [.int (nI (qs)), .int (nI (qf)), .int (nI L), .ref (q1), .ref (q2), .ref (q3), .ref (q4)])), (q1, .inl (cI, 16, .inl (qp))), (q2, .inl (cI, 16, .inl (qt))), (q3, .inl (cI, 16, .inl (qd))), (q4, .inl (cI, 16 * L, .inl (qr)))] s.heap := hP
  have hD : va_D A [(b0, .inr (4, [.ref (t0), .ref (u0), .ref (r0), .ref (q0), .ref (b1), .int (ck), .int (ls_)])), (b1, .inl (cI, 7, .inl (an))), (t0, .inr (3, [.int (nI S), .int (nI Wy), .ref (t1), .ref (t2), .ref (t3), .int (fl), .int (nI sb), .ref (t4), .int (us)])), (t1, .inl (cI, S * Wy, .inl (tg))), (t2, .inl (cI, S * Wy, .inl (kd))), (t3, .inl (cI, S * Wy, .inl (tt))), (t4, .inl (cI, S * Wy, .inl (lu))), (u0, .inr (0, [.ref (u1), .ref (u2), .int (hh)])), (u1, .inl (cI, 64, .inl (hg))), (u2, .inl (cI, 64, .inl (hq))), (r0, .inr (2, [.int (nI L), .int (nI (rd)), .int (ro), .int (ru), .ref (r1)])), (r1, .inl (cI, L, .inl (rp))), (q0, .inr (1, [.int (nI (qs)), .int (nI (qf)), .int (nI L), .ref (q1), .ref (q2), .ref (q3), .ref (q4)])), (q1, .inl (cI, 16, .inl (qp))), (q2, .inl (cI, 16, .inl (qt))), (q3, .inl (cI, 16, .inl (qd))), (q4, .inl (cI, 16 * L, .inl (qr)))] := hD
  have hl := lv_entry ([.ref (b0), .int (nI k0)]) (n := 2) (Nat.le_of_ble_eq_true rfl)
  rw [lg_entry_eq]
  generalize (lg_sl ([.ref (b0), .int (nI k0)]) ++ List.replicate (2 - (lg_sl ([.ref (b0), .int (nI k0)])).length) Slot.unset).toArray = ls at hl ⊢
  have hl : lv_has ls 2 [(0, .ref (b0)), (1, .int (nI k0))] := hl
  refine lv_iload_n hx hb dX4_ring_0 rfl (lv_at hl 1 rfl) ?_
  refine lv_if_lt (tgt := 15) hx hb dX4_ring_1 (by decide) (fun c_1 => absurd c_1 (nI_pos (by omega))) (fun c_1 => ?_)
  refine lv_iload_n hx hb dX4_ring_4 rfl (lv_at hl 1 rfl) ?_
  refine lv_aload_n hx hb dX4_ring_5 rfl (lv_at hl 0 rfl) ?_
  refine va_get (D := D) (ci := 4) (v := .ref (r0)) (C := RX4) (T := TX4) (N := 7) hx hb hts (fun w h => List.mem_cons_of_mem _ (hiX4 w h)) hown hK hP 0 rfl rfl 2 (by decide) kf36 (fun _ h9 => h9) rfl dX4_ring_6 ?_
  refine va_get (D := D) (ci := 2) (v := .int (nI (rd))) (C := RX2) (T := TX2) (N := 5) hx hb hts (fun w h => List.mem_cons_of_mem _ (hiX2 w h)) hown hK hP 10 rfl rfl 1 (by decide) kf149 (fun _ h9 => h9) rfl dX4_ring_9 ?_
  refine lv_icmp_lt (tgt := 25) hx hb dX4_ring_12 (by decide) (fun c_12 => ?_) (fun c_12 => absurd (nI_lt hk0 (by omega)) c_12)
  refine lv_aload_n hx hb dX4_ring_25 rfl (lv_at hl 0 rfl) ?_
  refine va_get (D := D) (ci := 4) (v := .ref (r0)) (C := RX4) (T := TX4) (N := 7) hx hb hts (fun w h => List.mem_cons_of_mem _ (hiX4 w h)) hown hK hP 0 rfl rfl 2 (by decide) kf36 (fun _ h9 => h9) rfl dX4_ring_26 ?_
  refine lv_iload_n hx hb dX4_ring_29 rfl (lv_at hl 1 rfl) ?_
  refine kc_i (wc := [(r0, .inr (2, [.int (nI L), .int (nI (rd)), .int (ro), .int (ru), .ref (r1)])), (r1, .inl (cI, L, .inl (rp)))]) (wr := [(b0, .inr (4, [.ref (t0), .ref (u0), .ref (r0), .ref (q0), .ref (b1), .int (ck), .int (ls_)])), (b1, .inl (cI, 7, .inl (an))), (t0, .inr (3, [.int (nI S), .int (nI Wy), .ref (t1), .ref (t2), .ref (t3), .int (fl), .int (nI sb), .ref (t4), .int (us)])), (t1, .inl (cI, S * Wy, .inl (tg))), (t2, .inl (cI, S * Wy, .inl (kd))), (t3, .inl (cI, S * Wy, .inl (tt))), (t4, .inl (cI, S * Wy, .inl (lu))), (u0, .inr (0, [.ref (u1), .ref (u2), .int (hh)])), (u1, .inl (cI, 64, .inl (hg))), (u2, .inl (cI, 64, .inl (hq))), (q0, .inr (1, [.int (nI (qs)), .int (nI (qf)), .int (nI L), .ref (q1), .ref (q2), .ref (q3), .ref (q4)])), (q1, .inl (cI, 16, .inl (qp))), (q2, .inl (cI, 16, .inl (qt))), (q3, .inl (cI, 16, .inl (qd))), (q4, .inl (cI, 16 * L, .inl (qr)))]) [10, 11] [0, 1, 2, 3, 4, 5, 6, 7, 8, 9, 12, 13, 14, 15, 16] rfl rfl (by decide) (by decide) hP hD hS hA (va_runV (As := [.int (nI k0)]) (rest := []) ⟨hx, hb, hml, hown, hts⟩ (c_X2_fromTop l D cI cJ cZ _ _ _ _ _ _ _ _ _ hk0 hd (by omega)) (cwV 1 hts (kw_V kw_218 kw_219 kw_220 kw_31 kw_221) rfl rfl rfl (by decide +kernel) ⟨Nat.le_of_ble_eq_true rfl, Nat.le_of_ble_eq_true rfl⟩) ⟨kP_blind, va_recv hK (hP.sub (ws' := [(r0, .inr (2, [.int (nI L), .int (nI (rd)), .int (ro), .int (ru), .ref (r1)])), (r1, .inl (cI, L, .inl (rp)))]) [10, 11] rfl) (ci := 2) (q0 := 0) rfl rfl, kP_at (hP.sub [10, 11] rfl) hK (hD.sub [10, 11] (by decide) rfl)⟩ rfl rfl hl.1 rfl (lv_room (Nat.le_of_ble_eq_true rfl)) dX4_ring_30 ⟨Nat.zero_le _, Nat.zero_le _⟩) (fun H locs hP hD hS => ?_)
  have hP := hP.sub (ws' := [(b0, .inr (4, [.ref (t0), .ref (u0), .ref (r0), .ref (q0), .ref (b1), .int (ck), .int (ls_)])), (b1, .inl (cI, 7, .inl (an))), (t0, .inr (3, [.int (nI S), .int (nI Wy), .ref (t1), .ref (t2), .ref (t3), .int (fl), .int (nI sb), .ref (t4), .int (us)])), (t1, .inl (cI, S * Wy, .inl (tg))), (t2, .inl (cI, S * Wy, .inl (kd))), (t3, .inl (cI, S * Wy, .inl (tt))), (t4, .inl (cI, S * Wy, .inl (lu))), (u0, .inr (0, [.ref (u1), .ref (u2), .int (hh)])), (u1, .inl (cI, 64, .inl (hg))), (u2, .inl (cI, 64, .inl (hq))), (r0, .inr (2, [.int (nI L), .int (nI (rd)), .int (ro), .int (ru), .ref (r1)])), (r1, .inl (cI, L, .inl (rp))), (q0, .inr (1, [.int (nI (qs)), .int (nI (qf)), .int (nI L), .ref (q1), .ref (q2), .ref (q3), .ref (q4)])), (q1, .inl (cI, 16, .inl (qp))), (q2, .inl (cI, 16, .inl (qt))), (q3, .inl (cI, 16, .inl (qd))), (q4, .inl (cI, 16 * L, .inl (qr)))]) [0, 1, 2, 3, 4, 5, 6, 7, 8, 9, 15, 16, 10, 11, 12, 13, 14] rfl
  have hD := hD.sub (ws' := [(b0, .inr (4, [.ref (t0), .ref (u0), .ref (r0), .ref (q0), .ref (b1), .int (ck), .int (ls_)])), (b1, .inl (cI, 7, .inl (an))), (t0, .inr (3, [.int (nI S), .int (nI Wy), .ref (t1), .ref (t2), .ref (t3), .int (fl), .int (nI sb), .ref (t4), .int (us)])), (t1, .inl (cI, S * Wy, .inl (tg))), (t2, .inl (cI, S * Wy, .inl (kd))), (t3, .inl (cI, S * Wy, .inl (tt))), (t4, .inl (cI, S * Wy, .inl (lu))), (u0, .inr (0, [.ref (u1), .ref (u2), .int (hh)])), (u1, .inl (cI, 64, .inl (hg))), (u2, .inl (cI, 64, .inl (hq))), (r0, .inr (2, [.int (nI L), .int (nI (rd)), .int (ro), .int (ru), .ref (r1)])), (r1, .inl (cI, L, .inl (rp))), (q0, .inr (1, [.int (nI (qs)), .int (nI (qf)), .int (nI L), .ref (q1), .ref (q2), .ref (q3), .ref (q4)])), (q1, .inl (cI, 16, .inl (qp))), (q2, .inl (cI, 16, .inl (qt))), (q3, .inl (cI, 16, .inl (qd))), (q4, .inl (cI, 16 * L, .inl (qr)))]) [0, 1, 2, 3, 4, 5, 6, 7, 8, 9, 15, 16, 10, 11, 12, 13, 14] (by decide) rfl
  exact kr_i (rfl) hx hb hr hlocks hP hK hD hS (rfl) dX4_ring_33

set_option maxHeartbeats 4000000 in
set_option maxRecDepth 100000 in
/-- queued -/
theorem c_X4_queued (l : Launch) (D : va_G) (cI cJ cZ : ClassId) (sz : Nat) (b0 b1 t0 t1 t2 t3 t4 u0 u1 u2 r0 r1 q0 q1 q2 q3 q4 : Nat) (S Wy sb L : Nat) (tg kd tt lu : Fn) (fl us : Int32) (hg hq : Fn) (hh : Int32) (rp : Fn) (rd : Nat) (ro ru : Int32) (qp qt qd qr : Fn) (qs qf : Nat) (an : Fn) (ck ls_ : Int32) (k0 : Nat) (p1 : Int32) (hk0 : k0 < qs) (hw0 : ¬ p1 < 0) (hw1 : p1 ≤ 1) (hSs : S = 0 ∨ S = 2 ^ sb) (hS16 : S ≤ 16) (hsb : sb ≤ 4) (hW : 0 < Wy) (hW4 : Wy ≤ 4) (hd : rd ≤ L) (hL : L < 2 ^ 10) (hf : qf < 16) (hs : qs ≤ 16) : KI l yX4_queued wsX4_queued ({ frames := 2, cells := 0, slots := 0, locals := 42 } : Room) D (kTy cI cJ cZ) [.ref (b0), .int (nI k0), .int (p1)] [(b0, .inr (4, [.ref (t0), .ref (u0), .ref (r0), .ref (q0), .ref (b1), .int (ck), .int (ls_)])), (b1, .inl (cI, 7, .inl (an))), (t0, .inr (3, [.int (nI S), .int (nI Wy), .ref (t1), .ref (t2), .ref (t3), .int (fl), .int (nI sb), .ref (t4), .int (us)])), (t1, .inl (cI, S * Wy, .inl (tg))), (t2, .inl (cI, S * Wy, .inl (kd))), (t3, .inl (cI, S * Wy, .inl (tt))), (t4, .inl (cI, S * Wy, .inl (lu))), (u0, .inr (0, [.ref (u1), .ref (u2), .int (hh)])), (u1, .inl (cI, 64, .inl (hg))), (u2, .inl (cI, 64, .inl (hq))), (r0, .inr (2, [.int (nI L), .int (nI (rd)), .int (ro), .int (ru), .ref (r1)])), (r1, .inl (cI, L, .inl (rp))), (q0, .inr (1, [.int (nI (qs)), .int (nI (qf)), .int (nI L), .ref (q1), .ref (q2), .ref (q3), .ref (q4)])), (q1, .inl (cI, 16, .inl (qp))), (q2, .inl (cI, 16, .inl (qt))), (q3, .inl (cI, 16, .inl (qd))), (q4, .inl (cI, 16 * L, .inl (qr)))] sz (wTR b0 b1 t0 t1 t2 t3 t4 u0 u1 u2 r0 r1 q0 q1 q2 q3 q4 cI S Wy sb L ((tg, kd, tt, lu, fl, us), (hg, hq, hh), (rp, rd, ro, ru), (qp, qt, qd, qr, qs, qf), an, ck, ls_)) (if p1 = 0 then qp (qf_ix (qp, qt, qd, qr, qs, qf) k0) else qt (qf_ix (qp, qt, qd, qr, qs, qf) k0)) 0 0 := by
  refine Met.ofW (cc := cX4_queued) (maxL := 3) (ret := (some .int)) (by decide) rfl ?_
  intro p e s m args below meth c s₁ B hml hv
  obtain ⟨rfl, hsz, hP, hK, hD0⟩ := hv
  have hx := B.exec
  have hb := B.bytes
  have hr := B.returns
  have hts := atoms_spec (ws := wsX4_queued) B.pre
  have hown : s.vm.findClass RX4 = some m.cls := findClass_of_methodNamed B.named
  have hlocks := B.notSynchronized
  have kf43 := hts (.fieldLink RX4 43 "TargetRows" "queue" "LTargetRows$Queue;") (List.mem_cons_of_mem _ kw_176)
  have kf58 := hts (.fieldLink RX4 58 "TargetRows$Queue" "size" "I") (List.mem_cons_of_mem _ kw_151)
  subst hsz
  have hD := hD0.self (sz := s.heap.size)
  generalize hAe : va_A [(b0, .inr (4, [.ref (t0), .ref (u0), .ref (r0), .ref (q0), .ref (b1), .int (ck), .int (ls_)])), (b1, .inl (cI, 7, .inl (an))), (t0, .inr (3, [.int (nI S), .int (nI Wy), .ref (t1), .ref (t2), .ref (t3), .int (fl), .int (nI sb), .ref (t4), .int (us)])), (t1, .inl (cI, S * Wy, .inl (tg))), (t2, .inl (cI, S * Wy, .inl (kd))), (t3, .inl (cI, S * Wy, .inl (tt))), (t4, .inl (cI, S * Wy, .inl (lu))), (u0, .inr (0, [.ref (u1), .ref (u2), .int (hh)])), (u1, .inl (cI, 64, .inl (hg))), (u2, .inl (cI, 64, .inl (hq))), (r0, .inr (2, [.int (nI L), .int (nI (rd)), .int (ro), .int (ru), .ref (r1)])), (r1, .inl (cI, L, .inl (rp))), (q0, .inr (1, [.int (nI (qs)), .int (nI (qf)), .int (nI L), .ref (q1), .ref (q2), .ref (q3), .ref (q4)])), (q1, .inl (cI, 16, .inl (qp))), (q2, .inl (cI, 16, .inl (qt))), (q3, .inl (cI, 16, .inl (qd))), (q4, .inl (cI, 16 * L, .inl (qr)))] s.heap.size = A at hD ⊢
  have hA : ∀ q : Nat, s.heap.size ≤ q → A q := fun q h => by rw [← hAe]; exact Or.inr h
  have hS : va_S A s.heap s.heap [] := va_S.rf
  have hP : va_P D vwCl [(b0, .inr (4, [.ref (t0), .ref (u0), .ref (r0), .ref (q0), .ref (b1), .int (ck), .int (ls_)])), (b1, .inl (cI, 7, .inl (an))), (t0, .inr (3, [.int (nI S), .int (nI Wy), .ref (t1), .ref (t2), .ref (t3), .int (fl), .int (nI sb), .ref (t4), .int (us)])), (t1, .inl (cI, S * Wy, .inl (tg))), (t2, .inl (cI, S * Wy, .inl (kd))), (t3, .inl (cI, S * Wy, .inl (tt))), (t4, .inl (cI, S * Wy, .inl (lu))), (u0, .inr (0, [.ref (u1), .ref (u2), .int (hh)])), (u1, .inl (cI, 64, .inl (hg))), (u2, .inl (cI, 64, .inl (hq))), (r0, .inr (2, [.int (nI L), .int (nI (rd)), .int (ro), .int (ru), .ref (r1)])), (r1, .inl (cI, L, .inl (rp))), (q0, .inr (1, [.int (nI (qs)), .int (nI (qf)), .int (nI L), .ref (q1), .ref (q2), .ref (q3), .ref (q4)])), (q1, .inl (cI, 16, .inl (qp))), (q2, .inl (cI, 16, .inl (qt))), (q3, .inl (cI, 16, .inl (qd))), (q4, .inl (cI, 16 * L, .inl (qr)))] s.heap := hP
  have hD : va_D A [(b0, .inr (4, [.ref (t0), .ref (u0), .ref (r0), .ref (q0), .ref (b1), .int (ck), .int (ls_)])), (b1, .inl (cI, 7, .inl (an))), (t0, .inr (3, [.int (nI S), .int (nI Wy), .ref (t1), .ref (t2), .ref (t3), .int (fl), .int (nI sb), .ref (t4), .int (us)])), (t1, .inl (cI, S * Wy, .inl (tg))), (t2, .inl (cI, S * Wy, .inl (kd))), (t3, .inl (cI, S * Wy, .inl (tt))), (t4, .inl (cI, S * Wy, .inl (lu))), (u0, .inr (0, [.ref (u1), .ref (u2), .int (hh)])), (u1, .inl (cI, 64, .inl (hg))), (u2, .inl (cI, 64, .inl (hq))), (r0, .inr (2, [.int (nI L), .int (nI (rd)), .int (ro), .int (ru), .ref (r1)])), (r1, .inl (cI, L, .inl (rp))), (q0, .inr (1, [.int (nI (qs)), .int (nI (qf)), .int (nI L), .ref (q1), .ref (q2), .ref (q3), .ref (q4)])), (q1, .inl (cI, 16, .inl (qp))), (q2, .inl (cI, 16, .inl (qt))), (q3, .inl (cI, 16, .inl (qd))), (q4, .inl (cI, 16 * L, .inl (qr)))] := hD
  have hl := lv_entry ([.ref (b0), .int (nI k0), .int (p1)]) (n := 3) (Nat.le_of_ble_eq_true rfl)
  rw [lg_entry_eq]
  generalize (lg_sl ([.ref (b0), .int (nI k0), .int (p1)]) ++ List.replicate (3 - (lg_sl ([.ref (b0), .int (nI k0), .int (p1)])).length) Slot.unset).toArray = ls at hl ⊢
  have hl : lv_has ls 3 [(0, .ref (b0)), (1, .int (nI k0)), (2, .int (p1))] := hl
  refine lv_iload_n hx hb dX4_queued_0 rfl (lv_at hl 1 rfl) ?_
  refine lv_if_lt (tgt := 15) hx hb dX4_queued_1 (by decide) (fun c_1 => absurd c_1 (nI_pos (by omega))) (fun c_1 => ?_)
  refine lv_iload_n hx hb dX4_queued_4 rfl (lv_at hl 1 rfl) ?_
  refine lv_aload_n hx hb dX4_queued_5 rfl (lv_at hl 0 rfl) ?_
  refine va_get (D := D) (ci := 4) (v := .ref (q0)) (C := RX4) (T := TX4) (N := 7) hx hb hts (fun w h => List.mem_cons_of_mem _ (hiX4 w h)) hown hK hP 0 rfl rfl 3 (by decide) kf43 (fun _ h9 => h9) rfl dX4_queued_6 ?_
  refine va_get (D := D) (ci := 1) (v := .int (nI (qs))) (C := RX1) (T := TX1) (N := 7) hx hb hts (fun w h => List.mem_cons_of_mem _ (hiX1 w h)) hown hK hP 12 rfl rfl 0 (by decide) kf58 (fun _ h9 => h9) rfl dX4_queued_9 ?_
  refine lv_icmp_lt (tgt := 25) hx hb dX4_queued_12 (by decide) (fun c_12 => ?_) (fun c_12 => absurd (nI_lt hk0 (by omega)) c_12)
  refine lv_iload_n hx hb dX4_queued_25 rfl (lv_at hl 2 rfl) ?_
  refine lv_if_lt (tgt := 34) hx hb dX4_queued_26 (by decide) (fun c_26 => absurd c_26 hw0) (fun c_26 => ?_)
  refine lv_iload_n hx hb dX4_queued_29 rfl (lv_at hl 2 rfl) ?_
  refine lv_iconst (v := 1) hx hb dX4_queued_30 (by decide) ?_
  refine lv_icmp_le (tgt := 44) hx hb dX4_queued_31 (by decide) (fun c_31 => ?_) (fun c_31 => absurd hw1 c_31)
  refine lv_iload_n hx hb dX4_queued_44 rfl (lv_at hl 2 rfl) ?_
  refine lv_if_ne (tgt := 59) hx hb dX4_queued_45 (by decide) (fun c_45 => ?_) (fun c_45 => ?_)
  ·
    refine lv_aload_n hx hb dX4_queued_59 rfl (lv_at hl 0 rfl) ?_
    refine va_get (D := D) (ci := 4) (v := .ref (q0)) (C := RX4) (T := TX4) (N := 7) hx hb hts (fun w h => List.mem_cons_of_mem _ (hiX4 w h)) hown hK hP 0 rfl rfl 3 (by decide) kf43 (fun _ h9 => h9) rfl dX4_queued_60 ?_
    refine lv_iload_n hx hb dX4_queued_63 rfl (lv_at hl 1 rfl) ?_
    refine kc_i (wc := [(q0, .inr (1, [.int (nI (qs)), .int (nI (qf)), .int (nI L), .ref (q1), .ref (q2), .ref (q3), .ref (q4)])), (q1, .inl (cI, 16, .inl (qp))), (q2, .inl (cI, 16, .inl (qt))), (q3, .inl (cI, 16, .inl (qd))), (q4, .inl (cI, 16 * L, .inl (qr)))]) (wr := [(b0, .inr (4, [.ref (t0), .ref (u0), .ref (r0), .ref (q0), .ref (b1), .int (ck), .int (ls_)])), (b1, .inl (cI, 7, .inl (an))), (t0, .inr (3, [.int (nI S), .int (nI Wy), .ref (t1), .ref (t2), .ref (t3), .int (fl), .int (nI sb), .ref (t4), .int (us)])), (t1, .inl (cI, S * Wy, .inl (tg))), (t2, .inl (cI, S * Wy, .inl (kd))), (t3, .inl (cI, S * Wy, .inl (tt))), (t4, .inl (cI, S * Wy, .inl (lu))), (u0, .inr (0, [.ref (u1), .ref (u2), .int (hh)])), (u1, .inl (cI, 64, .inl (hg))), (u2, .inl (cI, 64, .inl (hq))), (r0, .inr (2, [.int (nI L), .int (nI (rd)), .int (ro), .int (ru), .ref (r1)])), (r1, .inl (cI, L, .inl (rp)))]) [12, 13, 14, 15, 16] [0, 1, 2, 3, 4, 5, 6, 7, 8, 9, 10, 11] rfl rfl (by decide) (by decide) hP hD hS hA (va_runV (As := [.int (nI k0)]) (rest := []) ⟨hx, hb, hml, hown, hts⟩ (c_X1_toldAt l D cI cJ cZ _ _ _ _ _ _ _ _ _ _ _ _ _ _ (by omega) hf hL) (cwV 1 hts (kw_V kw_417 kw_418 kw_419 kw_32 kw_420) rfl rfl rfl (by decide +kernel) ⟨Nat.le_of_ble_eq_true rfl, Nat.le_of_ble_eq_true rfl⟩) ⟨kP_blind, va_recv hK (hP.sub (ws' := [(q0, .inr (1, [.int (nI (qs)), .int (nI (qf)), .int (nI L), .ref (q1), .ref (q2), .ref (q3), .ref (q4)])), (q1, .inl (cI, 16, .inl (qp))), (q2, .inl (cI, 16, .inl (qt))), (q3, .inl (cI, 16, .inl (qd))), (q4, .inl (cI, 16 * L, .inl (qr)))]) [12, 13, 14, 15, 16] rfl) (ci := 1) (q0 := 0) rfl rfl, kP_at (hP.sub [12, 13, 14, 15, 16] rfl) hK (hD.sub [12, 13, 14, 15, 16] (by decide) rfl)⟩ rfl rfl hl.1 rfl (lv_room (Nat.le_of_ble_eq_true rfl)) dX4_queued_64 ⟨Nat.zero_le _, Nat.zero_le _⟩) (fun H locs hP hD hS => ?_)
    have hP := hP.sub (ws' := [(b0, .inr (4, [.ref (t0), .ref (u0), .ref (r0), .ref (q0), .ref (b1), .int (ck), .int (ls_)])), (b1, .inl (cI, 7, .inl (an))), (t0, .inr (3, [.int (nI S), .int (nI Wy), .ref (t1), .ref (t2), .ref (t3), .int (fl), .int (nI sb), .ref (t4), .int (us)])), (t1, .inl (cI, S * Wy, .inl (tg))), (t2, .inl (cI, S * Wy, .inl (kd))), (t3, .inl (cI, S * Wy, .inl (tt))), (t4, .inl (cI, S * Wy, .inl (lu))), (u0, .inr (0, [.ref (u1), .ref (u2), .int (hh)])), (u1, .inl (cI, 64, .inl (hg))), (u2, .inl (cI, 64, .inl (hq))), (r0, .inr (2, [.int (nI L), .int (nI (rd)), .int (ro), .int (ru), .ref (r1)])), (r1, .inl (cI, L, .inl (rp))), (q0, .inr (1, [.int (nI (qs)), .int (nI (qf)), .int (nI L), .ref (q1), .ref (q2), .ref (q3), .ref (q4)])), (q1, .inl (cI, 16, .inl (qp))), (q2, .inl (cI, 16, .inl (qt))), (q3, .inl (cI, 16, .inl (qd))), (q4, .inl (cI, 16 * L, .inl (qr)))]) [0, 1, 2, 3, 4, 5, 6, 7, 8, 9, 10, 11, 12, 13, 14, 15, 16] rfl
    have hD := hD.sub (ws' := [(b0, .inr (4, [.ref (t0), .ref (u0), .ref (r0), .ref (q0), .ref (b1), .int (ck), .int (ls_)])), (b1, .inl (cI, 7, .inl (an))), (t0, .inr (3, [.int (nI S), .int (nI Wy), .ref (t1), .ref (t2), .ref (t3), .int (fl), .int (nI sb), .ref (t4), .int (us)])), (t1, .inl (cI, S * Wy, .inl (tg))), (t2, .inl (cI, S * Wy, .inl (kd))), (t3, .inl (cI, S * Wy, .inl (tt))), (t4, .inl (cI, S * Wy, .inl (lu))), (u0, .inr (0, [.ref (u1), .ref (u2), .int (hh)])), (u1, .inl (cI, 64, .inl (hg))), (u2, .inl (cI, 64, .inl (hq))), (r0, .inr (2, [.int (nI L), .int (nI (rd)), .int (ro), .int (ru), .ref (r1)])), (r1, .inl (cI, L, .inl (rp))), (q0, .inr (1, [.int (nI (qs)), .int (nI (qf)), .int (nI L), .ref (q1), .ref (q2), .ref (q3), .ref (q4)])), (q1, .inl (cI, 16, .inl (qp))), (q2, .inl (cI, 16, .inl (qt))), (q3, .inl (cI, 16, .inl (qd))), (q4, .inl (cI, 16 * L, .inl (qr)))]) [0, 1, 2, 3, 4, 5, 6, 7, 8, 9, 10, 11, 12, 13, 14, 15, 16] (by decide) rfl
    exact kr_i (rfl) hx hb hr hlocks hP hK hD hS ((if_neg c_45).symm) dX4_queued_67
  ·
    refine lv_aload_n hx hb dX4_queued_48 rfl (lv_at hl 0 rfl) ?_
    refine va_get (D := D) (ci := 4) (v := .ref (q0)) (C := RX4) (T := TX4) (N := 7) hx hb hts (fun w h => List.mem_cons_of_mem _ (hiX4 w h)) hown hK hP 0 rfl rfl 3 (by decide) kf43 (fun _ h9 => h9) rfl dX4_queued_49 ?_
    refine lv_iload_n hx hb dX4_queued_52 rfl (lv_at hl 1 rfl) ?_
    refine kc_i (wc := [(q0, .inr (1, [.int (nI (qs)), .int (nI (qf)), .int (nI L), .ref (q1), .ref (q2), .ref (q3), .ref (q4)])), (q1, .inl (cI, 16, .inl (qp))), (q2, .inl (cI, 16, .inl (qt))), (q3, .inl (cI, 16, .inl (qd))), (q4, .inl (cI, 16 * L, .inl (qr)))]) (wr := [(b0, .inr (4, [.ref (t0), .ref (u0), .ref (r0), .ref (q0), .ref (b1), .int (ck), .int (ls_)])), (b1, .inl (cI, 7, .inl (an))), (t0, .inr (3, [.int (nI S), .int (nI Wy), .ref (t1), .ref (t2), .ref (t3), .int (fl), .int (nI sb), .ref (t4), .int (us)])), (t1, .inl (cI, S * Wy, .inl (tg))), (t2, .inl (cI, S * Wy, .inl (kd))), (t3, .inl (cI, S * Wy, .inl (tt))), (t4, .inl (cI, S * Wy, .inl (lu))), (u0, .inr (0, [.ref (u1), .ref (u2), .int (hh)])), (u1, .inl (cI, 64, .inl (hg))), (u2, .inl (cI, 64, .inl (hq))), (r0, .inr (2, [.int (nI L), .int (nI (rd)), .int (ro), .int (ru), .ref (r1)])), (r1, .inl (cI, L, .inl (rp)))]) [12, 13, 14, 15, 16] [0, 1, 2, 3, 4, 5, 6, 7, 8, 9, 10, 11] rfl rfl (by decide) (by decide) hP hD hS hA (va_runV (As := [.int (nI k0)]) (rest := []) ⟨hx, hb, hml, hown, hts⟩ (c_X1_placeAt l D cI cJ cZ _ _ _ _ _ _ _ _ _ _ _ _ _ _ (by omega) hf hL) (cwV 1 hts (kw_V kw_413 kw_414 kw_415 kw_32 kw_416) rfl rfl rfl (by decide +kernel) ⟨Nat.le_of_ble_eq_true rfl, Nat.le_of_ble_eq_true rfl⟩) ⟨kP_blind, va_recv hK (hP.sub (ws' := [(q0, .inr (1, [.int (nI (qs)), .int (nI (qf)), .int (nI L), .ref (q1), .ref (q2), .ref (q3), .ref (q4)])), (q1, .inl (cI, 16, .inl (qp))), (q2, .inl (cI, 16, .inl (qt))), (q3, .inl (cI, 16, .inl (qd))), (q4, .inl (cI, 16 * L, .inl (qr)))]) [12, 13, 14, 15, 16] rfl) (ci := 1) (q0 := 0) rfl rfl, kP_at (hP.sub [12, 13, 14, 15, 16] rfl) hK (hD.sub [12, 13, 14, 15, 16] (by decide) rfl)⟩ rfl rfl hl.1 rfl (lv_room (Nat.le_of_ble_eq_true rfl)) dX4_queued_53 ⟨Nat.zero_le _, Nat.zero_le _⟩) (fun H locs hP hD hS => ?_)
    have hP := hP.sub (ws' := [(b0, .inr (4, [.ref (t0), .ref (u0), .ref (r0), .ref (q0), .ref (b1), .int (ck), .int (ls_)])), (b1, .inl (cI, 7, .inl (an))), (t0, .inr (3, [.int (nI S), .int (nI Wy), .ref (t1), .ref (t2), .ref (t3), .int (fl), .int (nI sb), .ref (t4), .int (us)])), (t1, .inl (cI, S * Wy, .inl (tg))), (t2, .inl (cI, S * Wy, .inl (kd))), (t3, .inl (cI, S * Wy, .inl (tt))), (t4, .inl (cI, S * Wy, .inl (lu))), (u0, .inr (0, [.ref (u1), .ref (u2), .int (hh)])), (u1, .inl (cI, 64, .inl (hg))), (u2, .inl (cI, 64, .inl (hq))), (r0, .inr (2, [.int (nI L), .int (nI (rd)), .int (ro), .int (ru), .ref (r1)])), (r1, .inl (cI, L, .inl (rp))), (q0, .inr (1, [.int (nI (qs)), .int (nI (qf)), .int (nI L), .ref (q1), .ref (q2), .ref (q3), .ref (q4)])), (q1, .inl (cI, 16, .inl (qp))), (q2, .inl (cI, 16, .inl (qt))), (q3, .inl (cI, 16, .inl (qd))), (q4, .inl (cI, 16 * L, .inl (qr)))]) [0, 1, 2, 3, 4, 5, 6, 7, 8, 9, 10, 11, 12, 13, 14, 15, 16] rfl
    have hD := hD.sub (ws' := [(b0, .inr (4, [.ref (t0), .ref (u0), .ref (r0), .ref (q0), .ref (b1), .int (ck), .int (ls_)])), (b1, .inl (cI, 7, .inl (an))), (t0, .inr (3, [.int (nI S), .int (nI Wy), .ref (t1), .ref (t2), .ref (t3), .int (fl), .int (nI sb), .ref (t4), .int (us)])), (t1, .inl (cI, S * Wy, .inl (tg))), (t2, .inl (cI, S * Wy, .inl (kd))), (t3, .inl (cI, S * Wy, .inl (tt))), (t4, .inl (cI, S * Wy, .inl (lu))), (u0, .inr (0, [.ref (u1), .ref (u2), .int (hh)])), (u1, .inl (cI, 64, .inl (hg))), (u2, .inl (cI, 64, .inl (hq))), (r0, .inr (2, [.int (nI L), .int (nI (rd)), .int (ro), .int (ru), .ref (r1)])), (r1, .inl (cI, L, .inl (rp))), (q0, .inr (1, [.int (nI (qs)), .int (nI (qf)), .int (nI L), .ref (q1), .ref (q2), .ref (q3), .ref (q4)])), (q1, .inl (cI, 16, .inl (qp))), (q2, .inl (cI, 16, .inl (qt))), (q3, .inl (cI, 16, .inl (qd))), (q4, .inl (cI, 16 * L, .inl (qr)))]) [0, 1, 2, 3, 4, 5, 6, 7, 8, 9, 10, 11, 12, 13, 14, 15, 16] (by decide) rfl
    refine lv_goto (tgt := 67) hx hb dX4_queued_56 (by decide) ?_
    exact kr_i (rfl) hx hb hr hlocks hP hK hD hS ((if_pos c_45).symm) dX4_queued_67

set_option maxHeartbeats 4000000 in
set_option maxRecDepth 100000 in
/-- count -/
theorem c_X4_count (l : Launch) (D : va_G) (cI cJ cZ : ClassId) (sz : Nat) (b0 b1 t0 t1 t2 t3 t4 u0 u1 u2 r0 r1 q0 q1 q2 q3 q4 : Nat) (S Wy sb L : Nat) (tg kd tt lu : Fn) (fl us : Int32) (hg hq : Fn) (hh : Int32) (rp : Fn) (rd : Nat) (ro ru : Int32) (qp qt qd qr : Fn) (qs qf : Nat) (an : Fn) (ck ls_ : Int32) (p0 : Int32) : KI l yX4_count wsX4_count ({ frames := 0, cells := 0, slots := 0, locals := 0 } : Room) D (kTy cI cJ cZ) [.ref (b0), .int (p0)] [(b0, .inr (4, [.ref (t0), .ref (u0), .ref (r0), .ref (q0), .ref (b1), .int (ck), .int (ls_)])), (b1, .inl (cI, 7, .inl (an))), (t0, .inr (3, [.int (nI S), .int (nI Wy), .ref (t1), .ref (t2), .ref (t3), .int (fl), .int (nI sb), .ref (t4), .int (us)])), (t1, .inl (cI, S * Wy, .inl (tg))), (t2, .inl (cI, S * Wy, .inl (kd))), (t3, .inl (cI, S * Wy, .inl (tt))), (t4, .inl (cI, S * Wy, .inl (lu))), (u0, .inr (0, [.ref (u1), .ref (u2), .int (hh)])), (u1, .inl (cI, 64, .inl (hg))), (u2, .inl (cI, 64, .inl (hq))), (r0, .inr (2, [.int (nI L), .int (nI (rd)), .int (ro), .int (ru), .ref (r1)])), (r1, .inl (cI, L, .inl (rp))), (q0, .inr (1, [.int (nI (qs)), .int (nI (qf)), .int (nI L), .ref (q1), .ref (q2), .ref (q3), .ref (q4)])), (q1, .inl (cI, 16, .inl (qp))), (q2, .inl (cI, 16, .inl (qt))), (q3, .inl (cI, 16, .inl (qd))), (q4, .inl (cI, 16 * L, .inl (qr)))] sz (wTR b0 b1 t0 t1 t2 t3 t4 u0 u1 u2 r0 r1 q0 q1 q2 q3 q4 cI S Wy sb L ((tg, kd, tt, lu, fl, us), (hg, hq, hh), (rp, rd, ro, ru), (qp, qt, qd, qr, qs, qf), an, ck, ls_)) (cf_count S Wy L ((tg, kd, tt, lu, fl, us), (hg, hq, hh), (rp, rd, ro, ru), (qp, qt, qd, qr, qs, qf), an, ck, ls_) p0) 0 0 := by
  refine Met.ofW (cc := cX4_count) (maxL := 2) (ret := (some .int)) (by decide) rfl ?_
  intro p e s m args below meth c s₁ B hml hv
  obtain ⟨rfl, hsz, hP, hK, hD0⟩ := hv
  have hx := B.exec
  have hb := B.bytes
  have hr := B.returns
  have hts := atoms_spec (ws := wsX4_count) B.pre
  have hown : s.vm.findClass RX4 = some m.cls := findClass_of_methodNamed B.named
  have hlocks := B.notSynchronized
  have kf113 := hts (.fieldLink RX4 113 "TargetRows" "checked" "I") (List.mem_cons_of_mem _ kw_178)
  have kf123 := hts (.fieldLink RX4 123 "TargetRows" "lost" "I") (List.mem_cons_of_mem _ kw_179)
  have kf126 := hts (.fieldLink RX4 126 "TargetRows$Table" "sets" "I") (List.mem_cons_of_mem _ kw_63)
  have kf129 := hts (.fieldLink RX4 129 "TargetRows$Table" "ways" "I") (List.mem_cons_of_mem _ kw_65)
  have kf149 := hts (.fieldLink RX4 149 "TargetRows$Returns" "depth" "I") (List.mem_cons_of_mem _ kw_127)
  have kf159 := hts (.fieldLink RX4 159 "TargetRows$Returns" "limit" "I") (List.mem_cons_of_mem _ kw_124)
  have kf162 := hts (.fieldLink RX4 162 "TargetRows$Returns" "overflows" "I") (List.mem_cons_of_mem _ kw_129)
  have kf165 := hts (.fieldLink RX4 165 "TargetRows$Returns" "underflows" "I") (List.mem_cons_of_mem _ kw_131)
  have kf168 := hts (.fieldLink RX4 168 "TargetRows$Table" "filled" "I") (List.mem_cons_of_mem _ kw_73)
  have kf171 := hts (.fieldLink RX4 171 "TargetRows$HistoryRows" "history" "I") (List.mem_cons_of_mem _ kw_109)
  have kf18 := hts (.fieldLink RX4 18 "TargetRows" "table" "LTargetRows$Table;") (List.mem_cons_of_mem _ kw_173)
  have kf27 := hts (.fieldLink RX4 27 "TargetRows" "rows" "LTargetRows$HistoryRows;") (List.mem_cons_of_mem _ kw_174)
  have kf36 := hts (.fieldLink RX4 36 "TargetRows" "stack" "LTargetRows$Returns;") (List.mem_cons_of_mem _ kw_175)
  have kf43 := hts (.fieldLink RX4 43 "TargetRows" "queue" "LTargetRows$Queue;") (List.mem_cons_of_mem _ kw_176)
  have kf47 := hts (.fieldLink RX4 47 "TargetRows" "answers" "[I") (List.mem_cons_of_mem _ kw_177)
  have kf58 := hts (.fieldLink RX4 58 "TargetRows$Queue" "size" "I") (List.mem_cons_of_mem _ kw_151)
  subst hsz
  have hD := hD0.self (sz := s.heap.size)
  generalize hAe : va_A [(b0, .inr (4, [.ref (t0), .ref (u0), .ref (r0), .ref (q0), .ref (b1), .int (ck), .int (ls_)])), (b1, .inl (cI, 7, .inl (an))), (t0, .inr (3, [.int (nI S), .int (nI Wy), .ref (t1), .ref (t2), .ref (t3), .int (fl), .int (nI sb), .ref (t4), .int (us)])), (t1, .inl (cI, S * Wy, .inl (tg))), (t2, .inl (cI, S * Wy, .inl (kd))), (t3, .inl (cI, S * Wy, .inl (tt))), (t4, .inl (cI, S * Wy, .inl (lu))), (u0, .inr (0, [.ref (u1), .ref (u2), .int (hh)])), (u1, .inl (cI, 64, .inl (hg))), (u2, .inl (cI, 64, .inl (hq))), (r0, .inr (2, [.int (nI L), .int (nI (rd)), .int (ro), .int (ru), .ref (r1)])), (r1, .inl (cI, L, .inl (rp))), (q0, .inr (1, [.int (nI (qs)), .int (nI (qf)), .int (nI L), .ref (q1), .ref (q2), .ref (q3), .ref (q4)])), (q1, .inl (cI, 16, .inl (qp))), (q2, .inl (cI, 16, .inl (qt))), (q3, .inl (cI, 16, .inl (qd))), (q4, .inl (cI, 16 * L, .inl (qr)))] s.heap.size = A at hD ⊢
  have hA : ∀ q : Nat, s.heap.size ≤ q → A q := fun q h => by rw [← hAe]; exact Or.inr h
  have hS : va_S A s.heap s.heap [] := va_S.rf
  have hP : va_P D vwCl [(b0, .inr (4, [.ref (t0), .ref (u0), .ref (r0), .ref (q0), .ref (b1), .int (ck), .int (ls_)])), (b1, .inl (cI, 7, .inl (an))), (t0, .inr (3, [.int (nI S), .int (nI Wy), .ref (t1), .ref (t2), .ref (t3), .int (fl), .int (nI sb), .ref (t4), .int (us)])), (t1, .inl (cI, S * Wy, .inl (tg))), (t2, .inl (cI, S * Wy, .inl (kd))), (t3, .inl (cI, S * Wy, .inl (tt))), (t4, .inl (cI, S * Wy, .inl (lu))), (u0, .inr (0, [.ref (u1), .ref (u2), .int (hh)])), (u1, .inl (cI, 64, .inl (hg))), (u2, .inl (cI, 64, .inl (hq))), (r0, .inr (2, [.int (nI L), .int (nI (rd)), .int (ro), .int (ru), .ref (r1)])), (r1, .inl (cI, L, .inl (rp))), (q0, .inr (1, [.int (nI (qs)), .int (nI (qf)), .int (nI L), .ref (q1), .ref (q2), .ref (q3), .ref (q4)])), (q1, .inl (cI, 16, .inl (qp))), (q2, .inl (cI, 16, .inl (qt))), (q3, .inl (cI, 16, .inl (qd))), (q4, .inl (cI, 16 * L, .inl (qr)))] s.heap := hP
  have hD : va_D A [(b0, .inr (4, [.ref (t0), .ref (u0), .ref (r0), .ref (q0), .ref (b1), .int (ck), .int (ls_)])), (b1, .inl (cI, 7, .inl (an))), (t0, .inr (3, [.int (nI S), .int (nI Wy), .ref (t1), .ref (t2), .ref (t3), .int (fl), .int (nI sb), .ref (t4), .int (us)])), (t1, .inl (cI, S * Wy, .inl (tg))), (t2, .inl (cI, S * Wy, .inl (kd))), (t3, .inl (cI, S * Wy, .inl (tt))), (t4, .inl (cI, S * Wy, .inl (lu))), (u0, .inr (0, [.ref (u1), .ref (u2), .int (hh)])), (u1, .inl (cI, 64, .inl (hg))), (u2, .inl (cI, 64, .inl (hq))), (r0, .inr (2, [.int (nI L), .int (nI (rd)), .int (ro), .int (ru), .ref (r1)])), (r1, .inl (cI, L, .inl (rp))), (q0, .inr (1, [.int (nI (qs)), .int (nI (qf)), .int (nI L), .ref (q1), .ref (q2), .ref (q3), .ref (q4)])), (q1, .inl (cI, 16, .inl (qp))), (q2, .inl (cI, 16, .inl (qt))), (q3, .inl (cI, 16, .inl (qd))), (q4, .inl (cI, 16 * L, .inl (qr)))] := hD
  have hl := lv_entry ([.ref (b0), .int (p0)]) (n := 2) (Nat.le_of_ble_eq_true rfl)
  rw [lg_entry_eq]
  generalize (lg_sl ([.ref (b0), .int (p0)]) ++ List.replicate (2 - (lg_sl ([.ref (b0), .int (p0)])).length) Slot.unset).toArray = ls at hl ⊢
  have hl : lv_has ls 2 [(0, .ref (b0)), (1, .int (p0))] := hl
  refine lv_iload_n hx hb dX4_count_0 rfl (lv_at hl 1 rfl) ?_
  refine lv_iconst (v := 1) hx hb dX4_count_1 (by decide) ?_
  refine lv_icmp_lt (tgt := 23) hx hb dX4_count_2 (by decide) (fun c_2 => ?_) (fun c_2 => ?_)
  ·
    refine lv_iload_n hx hb dX4_count_23 rfl (lv_at hl 1 rfl) ?_
    have hnc : ¬ (1 ≤ p0 ∧ p0 ≤ 7) := fun q => absurd q.1 (Int32.not_le.mpr c_2)
    by_cases e0 : p0 = 0
    · subst e0
      refine lv_tableIn (off := 88) (tgt := 112) hx hb dX4_count_24 (by decide) (by decide) (by decide) (by decide) ?_
      refine lv_aload_n hx hb dX4_count_112 rfl (lv_at hl 0 rfl) ?_
      refine va_get (D := D) (ci := 4) (v := .int (ck)) (C := RX4) (T := TX4) (N := 7) hx hb hts (fun w h => List.mem_cons_of_mem _ (hiX4 w h)) hown hK hP 0 rfl rfl 5 (by decide) kf113 (fun _ h9 => h9) rfl dX4_count_113 ?_
      exact kr_i (rfl) hx hb hr hlocks hP hK hD hS (by simp only [cf_count]; rfl) dX4_count_116
    by_cases e8 : p0 = 8
    · subst e8
      refine lv_tableIn (off := 93) (tgt := 117) hx hb dX4_count_24 (by decide) (by decide) (by decide) (by decide) ?_
      refine lv_aload_n hx hb dX4_count_117 rfl (lv_at hl 0 rfl) ?_
      refine va_get (D := D) (ci := 4) (v := .ref (r0)) (C := RX4) (T := TX4) (N := 7) hx hb hts (fun w h => List.mem_cons_of_mem _ (hiX4 w h)) hown hK hP 0 rfl rfl 2 (by decide) kf36 (fun _ h9 => h9) rfl dX4_count_118 ?_
      refine va_get (D := D) (ci := 2) (v := .int (ro)) (C := RX2) (T := TX2) (N := 5) hx hb hts (fun w h => List.mem_cons_of_mem _ (hiX2 w h)) hown hK hP 10 rfl rfl 2 (by decide) kf162 (fun _ h9 => h9) rfl dX4_count_121 ?_
      exact kr_i (rfl) hx hb hr hlocks hP hK hD hS (by simp only [cf_count]; rfl) dX4_count_124
    by_cases e9 : p0 = 9
    · subst e9
      refine lv_tableIn (off := 101) (tgt := 125) hx hb dX4_count_24 (by decide) (by decide) (by decide) (by decide) ?_
      refine lv_aload_n hx hb dX4_count_125 rfl (lv_at hl 0 rfl) ?_
      refine va_get (D := D) (ci := 4) (v := .ref (r0)) (C := RX4) (T := TX4) (N := 7) hx hb hts (fun w h => List.mem_cons_of_mem _ (hiX4 w h)) hown hK hP 0 rfl rfl 2 (by decide) kf36 (fun _ h9 => h9) rfl dX4_count_126 ?_
      refine va_get (D := D) (ci := 2) (v := .int (ru)) (C := RX2) (T := TX2) (N := 5) hx hb hts (fun w h => List.mem_cons_of_mem _ (hiX2 w h)) hown hK hP 10 rfl rfl 3 (by decide) kf165 (fun _ h9 => h9) rfl dX4_count_129 ?_
      exact kr_i (rfl) hx hb hr hlocks hP hK hD hS (by simp only [cf_count]; rfl) dX4_count_132
    by_cases e10 : p0 = 10
    · subst e10
      refine lv_tableIn (off := 109) (tgt := 133) hx hb dX4_count_24 (by decide) (by decide) (by decide) (by decide) ?_
      refine lv_aload_n hx hb dX4_count_133 rfl (lv_at hl 0 rfl) ?_
      refine va_get (D := D) (ci := 4) (v := .ref (q0)) (C := RX4) (T := TX4) (N := 7) hx hb hts (fun w h => List.mem_cons_of_mem _ (hiX4 w h)) hown hK hP 0 rfl rfl 3 (by decide) kf43 (fun _ h9 => h9) rfl dX4_count_134 ?_
      refine va_get (D := D) (ci := 1) (v := .int (nI (qs))) (C := RX1) (T := TX1) (N := 7) hx hb hts (fun w h => List.mem_cons_of_mem _ (hiX1 w h)) hown hK hP 12 rfl rfl 0 (by decide) kf58 (fun _ h9 => h9) rfl dX4_count_137 ?_
      exact kr_i (rfl) hx hb hr hlocks hP hK hD hS (by simp only [cf_count]; rfl) dX4_count_140
    by_cases e11 : p0 = 11
    · subst e11
      refine lv_tableIn (off := 117) (tgt := 141) hx hb dX4_count_24 (by decide) (by decide) (by decide) (by decide) ?_
      refine lv_aload_n hx hb dX4_count_141 rfl (lv_at hl 0 rfl) ?_
      refine va_get (D := D) (ci := 4) (v := .ref (r0)) (C := RX4) (T := TX4) (N := 7) hx hb hts (fun w h => List.mem_cons_of_mem _ (hiX4 w h)) hown hK hP 0 rfl rfl 2 (by decide) kf36 (fun _ h9 => h9) rfl dX4_count_142 ?_
      refine va_get (D := D) (ci := 2) (v := .int (nI (rd))) (C := RX2) (T := TX2) (N := 5) hx hb hts (fun w h => List.mem_cons_of_mem _ (hiX2 w h)) hown hK hP 10 rfl rfl 1 (by decide) kf149 (fun _ h9 => h9) rfl dX4_count_145 ?_
      exact kr_i (rfl) hx hb hr hlocks hP hK hD hS (by simp only [cf_count]; rfl) dX4_count_148
    by_cases e12 : p0 = 12
    · subst e12
      refine lv_tableIn (off := 125) (tgt := 149) hx hb dX4_count_24 (by decide) (by decide) (by decide) (by decide) ?_
      refine lv_aload_n hx hb dX4_count_149 rfl (lv_at hl 0 rfl) ?_
      refine va_get (D := D) (ci := 4) (v := .ref (t0)) (C := RX4) (T := TX4) (N := 7) hx hb hts (fun w h => List.mem_cons_of_mem _ (hiX4 w h)) hown hK hP 0 rfl rfl 0 (by decide) kf18 (fun _ h9 => h9) rfl dX4_count_150 ?_
      refine va_get (D := D) (ci := 3) (v := .int (fl)) (C := RX3) (T := TX3) (N := 9) hx hb hts (fun w h => List.mem_cons_of_mem _ (hiX3 w h)) hown hK hP 2 rfl rfl 5 (by decide) kf168 (fun _ h9 => h9) rfl dX4_count_153 ?_
      exact kr_i (rfl) hx hb hr hlocks hP hK hD hS (by simp only [cf_count]; rfl) dX4_count_156
    by_cases e13 : p0 = 13
    · subst e13
      refine lv_tableIn (off := 133) (tgt := 157) hx hb dX4_count_24 (by decide) (by decide) (by decide) (by decide) ?_
      refine lv_aload_n hx hb dX4_count_157 rfl (lv_at hl 0 rfl) ?_
      refine va_get (D := D) (ci := 4) (v := .ref (u0)) (C := RX4) (T := TX4) (N := 7) hx hb hts (fun w h => List.mem_cons_of_mem _ (hiX4 w h)) hown hK hP 0 rfl rfl 1 (by decide) kf27 (fun _ h9 => h9) rfl dX4_count_158 ?_
      refine va_get (D := D) (ci := 0) (v := .int (hh)) (C := RX0) (T := TX0) (N := 3) hx hb hts (fun w h => List.mem_cons_of_mem _ (hiX0 w h)) hown hK hP 7 rfl rfl 2 (by decide) kf171 (fun _ h9 => h9) rfl dX4_count_161 ?_
      exact kr_i (rfl) hx hb hr hlocks hP hK hD hS (by simp only [cf_count]; rfl) dX4_count_164
    by_cases e14 : p0 = 14
    · subst e14
      refine lv_tableIn (off := 141) (tgt := 165) hx hb dX4_count_24 (by decide) (by decide) (by decide) (by decide) ?_
      refine lv_aload_n hx hb dX4_count_165 rfl (lv_at hl 0 rfl) ?_
      refine va_get (D := D) (ci := 4) (v := .int (ls_)) (C := RX4) (T := TX4) (N := 7) hx hb hts (fun w h => List.mem_cons_of_mem _ (hiX4 w h)) hown hK hP 0 rfl rfl 6 (by decide) kf123 (fun _ h9 => h9) rfl dX4_count_166 ?_
      exact kr_i (rfl) hx hb hr hlocks hP hK hD hS (by simp only [cf_count]; rfl) dX4_count_169
    by_cases e15 : p0 = 15
    · subst e15
      refine lv_tableIn (off := 146) (tgt := 170) hx hb dX4_count_24 (by decide) (by decide) (by decide) (by decide) ?_
      refine lv_aload_n hx hb dX4_count_170 rfl (lv_at hl 0 rfl) ?_
      refine va_get (D := D) (ci := 4) (v := .ref (t0)) (C := RX4) (T := TX4) (N := 7) hx hb hts (fun w h => List.mem_cons_of_mem _ (hiX4 w h)) hown hK hP 0 rfl rfl 0 (by decide) kf18 (fun _ h9 => h9) rfl dX4_count_171 ?_
      refine va_get (D := D) (ci := 3) (v := .int (nI S)) (C := RX3) (T := TX3) (N := 9) hx hb hts (fun w h => List.mem_cons_of_mem _ (hiX3 w h)) hown hK hP 2 rfl rfl 0 (by decide) kf126 (fun _ h9 => h9) rfl dX4_count_174 ?_
      exact kr_i (rfl) hx hb hr hlocks hP hK hD hS (by simp only [cf_count]; rfl) dX4_count_177
    by_cases e16 : p0 = 16
    · subst e16
      refine lv_tableIn (off := 154) (tgt := 178) hx hb dX4_count_24 (by decide) (by decide) (by decide) (by decide) ?_
      refine lv_aload_n hx hb dX4_count_178 rfl (lv_at hl 0 rfl) ?_
      refine va_get (D := D) (ci := 4) (v := .ref (t0)) (C := RX4) (T := TX4) (N := 7) hx hb hts (fun w h => List.mem_cons_of_mem _ (hiX4 w h)) hown hK hP 0 rfl rfl 0 (by decide) kf18 (fun _ h9 => h9) rfl dX4_count_179 ?_
      refine va_get (D := D) (ci := 3) (v := .int (nI Wy)) (C := RX3) (T := TX3) (N := 9) hx hb hts (fun w h => List.mem_cons_of_mem _ (hiX3 w h)) hown hK hP 2 rfl rfl 1 (by decide) kf129 (fun _ h9 => h9) rfl dX4_count_182 ?_
      exact kr_i (rfl) hx hb hr hlocks hP hK hD hS (by simp only [cf_count]; rfl) dX4_count_185
    by_cases e17 : p0 = 17
    · subst e17
      refine lv_tableIn (off := 162) (tgt := 186) hx hb dX4_count_24 (by decide) (by decide) (by decide) (by decide) ?_
      refine lv_aload_n hx hb dX4_count_186 rfl (lv_at hl 0 rfl) ?_
      refine va_get (D := D) (ci := 4) (v := .ref (r0)) (C := RX4) (T := TX4) (N := 7) hx hb hts (fun w h => List.mem_cons_of_mem _ (hiX4 w h)) hown hK hP 0 rfl rfl 2 (by decide) kf36 (fun _ h9 => h9) rfl dX4_count_187 ?_
      refine va_get (D := D) (ci := 2) (v := .int (nI L)) (C := RX2) (T := TX2) (N := 5) hx hb hts (fun w h => List.mem_cons_of_mem _ (hiX2 w h)) hown hK hP 10 rfl rfl 0 (by decide) kf159 (fun _ h9 => h9) rfl dX4_count_190 ?_
      exact kr_i (rfl) hx hb hr hlocks hP hK hD hS (by simp only [cf_count]; rfl) dX4_count_193
    refine lv_tableOut (tgt := 194) hx hb dX4_count_24 (ct_out hnc e0 e8 e9 e10 e11 e12 e13 e14 e15 e16 e17) (by decide) ?_
    refine lv_iconst (v := (-1)) hx hb dX4_count_194 (by decide) ?_
    exact kr_i (rfl) hx hb hr hlocks hP hK hD hS (by simp only [cf_count, if_neg hnc, if_neg e0, if_neg e8, if_neg e9, if_neg e10, if_neg e11, if_neg e12, if_neg e13, if_neg e14, if_neg e15, if_neg e16, if_neg e17]) dX4_count_195
  ·
    refine lv_iload_n hx hb dX4_count_5 rfl (lv_at hl 1 rfl) ?_
    refine lv_aload_n hx hb dX4_count_6 rfl (lv_at hl 0 rfl) ?_
    refine va_get (D := D) (ci := 4) (v := .ref (b1)) (C := RX4) (T := TX4) (N := 7) hx hb hts (fun w h => List.mem_cons_of_mem _ (hiX4 w h)) hown hK hP 0 rfl rfl 4 (by decide) kf47 (fun _ h9 => h9) rfl dX4_count_7 ?_
    refine va_alen (v := nI (7)) hx hb hK hP 1 0 rfl rfl rfl dX4_count_10 ?_
    refine lv_icmp_gt (tgt := 23) hx hb dX4_count_11 (by decide) (fun c_11 => ?_) (fun c_11 => ?_)
    ·
      refine lv_iload_n hx hb dX4_count_23 rfl (lv_at hl 1 rfl) ?_
      have hnc : ¬ (1 ≤ p0 ∧ p0 ≤ 7) := fun q => absurd q.2 (Int32.not_le.mpr c_11)
      by_cases e0 : p0 = 0
      · subst e0
        refine lv_tableIn (off := 88) (tgt := 112) hx hb dX4_count_24 (by decide) (by decide) (by decide) (by decide) ?_
        refine lv_aload_n hx hb dX4_count_112 rfl (lv_at hl 0 rfl) ?_
        refine va_get (D := D) (ci := 4) (v := .int (ck)) (C := RX4) (T := TX4) (N := 7) hx hb hts (fun w h => List.mem_cons_of_mem _ (hiX4 w h)) hown hK hP 0 rfl rfl 5 (by decide) kf113 (fun _ h9 => h9) rfl dX4_count_113 ?_
        exact kr_i (rfl) hx hb hr hlocks hP hK hD hS (by simp only [cf_count]; rfl) dX4_count_116
      by_cases e8 : p0 = 8
      · subst e8
        refine lv_tableIn (off := 93) (tgt := 117) hx hb dX4_count_24 (by decide) (by decide) (by decide) (by decide) ?_
        refine lv_aload_n hx hb dX4_count_117 rfl (lv_at hl 0 rfl) ?_
        refine va_get (D := D) (ci := 4) (v := .ref (r0)) (C := RX4) (T := TX4) (N := 7) hx hb hts (fun w h => List.mem_cons_of_mem _ (hiX4 w h)) hown hK hP 0 rfl rfl 2 (by decide) kf36 (fun _ h9 => h9) rfl dX4_count_118 ?_
        refine va_get (D := D) (ci := 2) (v := .int (ro)) (C := RX2) (T := TX2) (N := 5) hx hb hts (fun w h => List.mem_cons_of_mem _ (hiX2 w h)) hown hK hP 10 rfl rfl 2 (by decide) kf162 (fun _ h9 => h9) rfl dX4_count_121 ?_
        exact kr_i (rfl) hx hb hr hlocks hP hK hD hS (by simp only [cf_count]; rfl) dX4_count_124
      by_cases e9 : p0 = 9
      · subst e9
        refine lv_tableIn (off := 101) (tgt := 125) hx hb dX4_count_24 (by decide) (by decide) (by decide) (by decide) ?_
        refine lv_aload_n hx hb dX4_count_125 rfl (lv_at hl 0 rfl) ?_
        refine va_get (D := D) (ci := 4) (v := .ref (r0)) (C := RX4) (T := TX4) (N := 7) hx hb hts (fun w h => List.mem_cons_of_mem _ (hiX4 w h)) hown hK hP 0 rfl rfl 2 (by decide) kf36 (fun _ h9 => h9) rfl dX4_count_126 ?_
        refine va_get (D := D) (ci := 2) (v := .int (ru)) (C := RX2) (T := TX2) (N := 5) hx hb hts (fun w h => List.mem_cons_of_mem _ (hiX2 w h)) hown hK hP 10 rfl rfl 3 (by decide) kf165 (fun _ h9 => h9) rfl dX4_count_129 ?_
        exact kr_i (rfl) hx hb hr hlocks hP hK hD hS (by simp only [cf_count]; rfl) dX4_count_132
      by_cases e10 : p0 = 10
      · subst e10
        refine lv_tableIn (off := 109) (tgt := 133) hx hb dX4_count_24 (by decide) (by decide) (by decide) (by decide) ?_
        refine lv_aload_n hx hb dX4_count_133 rfl (lv_at hl 0 rfl) ?_
        refine va_get (D := D) (ci := 4) (v := .ref (q0)) (C := RX4) (T := TX4) (N := 7) hx hb hts (fun w h => List.mem_cons_of_mem _ (hiX4 w h)) hown hK hP 0 rfl rfl 3 (by decide) kf43 (fun _ h9 => h9) rfl dX4_count_134 ?_
        refine va_get (D := D) (ci := 1) (v := .int (nI (qs))) (C := RX1) (T := TX1) (N := 7) hx hb hts (fun w h => List.mem_cons_of_mem _ (hiX1 w h)) hown hK hP 12 rfl rfl 0 (by decide) kf58 (fun _ h9 => h9) rfl dX4_count_137 ?_
        exact kr_i (rfl) hx hb hr hlocks hP hK hD hS (by simp only [cf_count]; rfl) dX4_count_140
      by_cases e11 : p0 = 11
      · subst e11
        refine lv_tableIn (off := 117) (tgt := 141) hx hb dX4_count_24 (by decide) (by decide) (by decide) (by decide) ?_
        refine lv_aload_n hx hb dX4_count_141 rfl (lv_at hl 0 rfl) ?_
        refine va_get (D := D) (ci := 4) (v := .ref (r0)) (C := RX4) (T := TX4) (N := 7) hx hb hts (fun w h => List.mem_cons_of_mem _ (hiX4 w h)) hown hK hP 0 rfl rfl 2 (by decide) kf36 (fun _ h9 => h9) rfl dX4_count_142 ?_
        refine va_get (D := D) (ci := 2) (v := .int (nI (rd))) (C := RX2) (T := TX2) (N := 5) hx hb hts (fun w h => List.mem_cons_of_mem _ (hiX2 w h)) hown hK hP 10 rfl rfl 1 (by decide) kf149 (fun _ h9 => h9) rfl dX4_count_145 ?_
        exact kr_i (rfl) hx hb hr hlocks hP hK hD hS (by simp only [cf_count]; rfl) dX4_count_148
      by_cases e12 : p0 = 12
      · subst e12
        refine lv_tableIn (off := 125) (tgt := 149) hx hb dX4_count_24 (by decide) (by decide) (by decide) (by decide) ?_
        refine lv_aload_n hx hb dX4_count_149 rfl (lv_at hl 0 rfl) ?_
        refine va_get (D := D) (ci := 4) (v := .ref (t0)) (C := RX4) (T := TX4) (N := 7) hx hb hts (fun w h => List.mem_cons_of_mem _ (hiX4 w h)) hown hK hP 0 rfl rfl 0 (by decide) kf18 (fun _ h9 => h9) rfl dX4_count_150 ?_
        refine va_get (D := D) (ci := 3) (v := .int (fl)) (C := RX3) (T := TX3) (N := 9) hx hb hts (fun w h => List.mem_cons_of_mem _ (hiX3 w h)) hown hK hP 2 rfl rfl 5 (by decide) kf168 (fun _ h9 => h9) rfl dX4_count_153 ?_
        exact kr_i (rfl) hx hb hr hlocks hP hK hD hS (by simp only [cf_count]; rfl) dX4_count_156
      by_cases e13 : p0 = 13
      · subst e13
        refine lv_tableIn (off := 133) (tgt := 157) hx hb dX4_count_24 (by decide) (by decide) (by decide) (by decide) ?_
        refine lv_aload_n hx hb dX4_count_157 rfl (lv_at hl 0 rfl) ?_
        refine va_get (D := D) (ci := 4) (v := .ref (u0)) (C := RX4) (T := TX4) (N := 7) hx hb hts (fun w h => List.mem_cons_of_mem _ (hiX4 w h)) hown hK hP 0 rfl rfl 1 (by decide) kf27 (fun _ h9 => h9) rfl dX4_count_158 ?_
        refine va_get (D := D) (ci := 0) (v := .int (hh)) (C := RX0) (T := TX0) (N := 3) hx hb hts (fun w h => List.mem_cons_of_mem _ (hiX0 w h)) hown hK hP 7 rfl rfl 2 (by decide) kf171 (fun _ h9 => h9) rfl dX4_count_161 ?_
        exact kr_i (rfl) hx hb hr hlocks hP hK hD hS (by simp only [cf_count]; rfl) dX4_count_164
      by_cases e14 : p0 = 14
      · subst e14
        refine lv_tableIn (off := 141) (tgt := 165) hx hb dX4_count_24 (by decide) (by decide) (by decide) (by decide) ?_
        refine lv_aload_n hx hb dX4_count_165 rfl (lv_at hl 0 rfl) ?_
        refine va_get (D := D) (ci := 4) (v := .int (ls_)) (C := RX4) (T := TX4) (N := 7) hx hb hts (fun w h => List.mem_cons_of_mem _ (hiX4 w h)) hown hK hP 0 rfl rfl 6 (by decide) kf123 (fun _ h9 => h9) rfl dX4_count_166 ?_
        exact kr_i (rfl) hx hb hr hlocks hP hK hD hS (by simp only [cf_count]; rfl) dX4_count_169
      by_cases e15 : p0 = 15
      · subst e15
        refine lv_tableIn (off := 146) (tgt := 170) hx hb dX4_count_24 (by decide) (by decide) (by decide) (by decide) ?_
        refine lv_aload_n hx hb dX4_count_170 rfl (lv_at hl 0 rfl) ?_
        refine va_get (D := D) (ci := 4) (v := .ref (t0)) (C := RX4) (T := TX4) (N := 7) hx hb hts (fun w h => List.mem_cons_of_mem _ (hiX4 w h)) hown hK hP 0 rfl rfl 0 (by decide) kf18 (fun _ h9 => h9) rfl dX4_count_171 ?_
        refine va_get (D := D) (ci := 3) (v := .int (nI S)) (C := RX3) (T := TX3) (N := 9) hx hb hts (fun w h => List.mem_cons_of_mem _ (hiX3 w h)) hown hK hP 2 rfl rfl 0 (by decide) kf126 (fun _ h9 => h9) rfl dX4_count_174 ?_
        exact kr_i (rfl) hx hb hr hlocks hP hK hD hS (by simp only [cf_count]; rfl) dX4_count_177
      by_cases e16 : p0 = 16
      · subst e16
        refine lv_tableIn (off := 154) (tgt := 178) hx hb dX4_count_24 (by decide) (by decide) (by decide) (by decide) ?_
        refine lv_aload_n hx hb dX4_count_178 rfl (lv_at hl 0 rfl) ?_
        refine va_get (D := D) (ci := 4) (v := .ref (t0)) (C := RX4) (T := TX4) (N := 7) hx hb hts (fun w h => List.mem_cons_of_mem _ (hiX4 w h)) hown hK hP 0 rfl rfl 0 (by decide) kf18 (fun _ h9 => h9) rfl dX4_count_179 ?_
        refine va_get (D := D) (ci := 3) (v := .int (nI Wy)) (C := RX3) (T := TX3) (N := 9) hx hb hts (fun w h => List.mem_cons_of_mem _ (hiX3 w h)) hown hK hP 2 rfl rfl 1 (by decide) kf129 (fun _ h9 => h9) rfl dX4_count_182 ?_
        exact kr_i (rfl) hx hb hr hlocks hP hK hD hS (by simp only [cf_count]; rfl) dX4_count_185
      by_cases e17 : p0 = 17
      · subst e17
        refine lv_tableIn (off := 162) (tgt := 186) hx hb dX4_count_24 (by decide) (by decide) (by decide) (by decide) ?_
        refine lv_aload_n hx hb dX4_count_186 rfl (lv_at hl 0 rfl) ?_
        refine va_get (D := D) (ci := 4) (v := .ref (r0)) (C := RX4) (T := TX4) (N := 7) hx hb hts (fun w h => List.mem_cons_of_mem _ (hiX4 w h)) hown hK hP 0 rfl rfl 2 (by decide) kf36 (fun _ h9 => h9) rfl dX4_count_187 ?_
        refine va_get (D := D) (ci := 2) (v := .int (nI L)) (C := RX2) (T := TX2) (N := 5) hx hb hts (fun w h => List.mem_cons_of_mem _ (hiX2 w h)) hown hK hP 10 rfl rfl 0 (by decide) kf159 (fun _ h9 => h9) rfl dX4_count_190 ?_
        exact kr_i (rfl) hx hb hr hlocks hP hK hD hS (by simp only [cf_count]; rfl) dX4_count_193
      refine lv_tableOut (tgt := 194) hx hb dX4_count_24 (ct_out hnc e0 e8 e9 e10 e11 e12 e13 e14 e15 e16 e17) (by decide) ?_
      refine lv_iconst (v := (-1)) hx hb dX4_count_194 (by decide) ?_
      exact kr_i (rfl) hx hb hr hlocks hP hK hD hS (by simp only [cf_count, if_neg hnc, if_neg e0, if_neg e8, if_neg e9, if_neg e10, if_neg e11, if_neg e12, if_neg e13, if_neg e14, if_neg e15, if_neg e16, if_neg e17]) dX4_count_195
    ·
      obtain ⟨k, hk, ek, ek2⟩ := ct_ix (Int32.not_lt.mp c_2) (Int32.not_lt.mp c_11)
      refine lv_aload_n hx hb dX4_count_14 rfl (lv_at hl 0 rfl) ?_
      refine va_get (D := D) (ci := 4) (v := .ref (b1)) (C := RX4) (T := TX4) (N := 7) hx hb hts (fun w h => List.mem_cons_of_mem _ (hiX4 w h)) hown hK hP 0 rfl rfl 4 (by decide) kf47 (fun _ h9 => h9) rfl dX4_count_15 ?_
      refine lv_iload_n hx hb dX4_count_18 rfl (lv_at hl 1 rfl) ?_
      refine lv_iconst (v := 1) hx hb dX4_count_19 (by decide) ?_
      refine lv_isub hx hb dX4_count_20 ?_
      refine kt_i (y := nI k) (ek2) ?_
      refine ka_ild hx hb hK hP 1 0 rfl rfl (k := k) (rfl) (⟨hk, by decide⟩) dX4_count_21 ?_
      exact kr_i (rfl) hx hb hr hlocks hP hK hD hS (by simp only [cf_count]; rw [if_pos ⟨Int32.not_lt.mp c_2, Int32.not_lt.mp c_11⟩]; exact congrArg an ek.symm) dX4_count_22
