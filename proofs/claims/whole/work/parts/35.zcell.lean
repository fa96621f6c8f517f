/-! ===== the law's cell(script, k) ===== -/
def kc_at (xs : Nat → Int32) (N k : Nat) : Int32 := if k < N then xs k else 0
abbrev kcP (D : va_G) (tys : List (ClassId × FieldType)) (sz b N : Nat) (xs : Nat → Int32) (U : State) : Prop := kP D tys [] sz U ∧ b < sz ∧ va_X b N xs U U.heap
set_option maxHeartbeats 4000000 in
set_option maxRecDepth 100000 in
theorem c_L_cell (l : Launch) (D : va_G) (tys : List (ClassId × FieldType)) (sz b N : Nat) (xs : Nat → Int32) (k : Nat) (hk : k < 2 ^ 16) (hN : N < 2 ^ 16) :
    Met l yL_cell wsL_cell ({ frames := 0, cells := 0, slots := 0, locals := 0 } : Room) (va_Pc [.ref b, .int (nI k)] (kcP D tys sz b N xs)) (va_Qi (fun (r' : Int32) (_ : Unit) => r' = kc_at xs N k) (fun _ t => kB D tys (va_A [] sz) [] t) (va_A [] sz)) 0 0 (va_A [] sz) := by
  refine Met.ofW (cc := cL_cell) (maxL := 2) (ret := (some .int)) (by decide) rfl ?_
  intro p e s m args below meth c s₁ B hml hv
  obtain ⟨rfl, ⟨hsz, hP, hK, hD0⟩, hbl, hX⟩ := hv
  have hx := B.exec
  have hb := B.bytes
  have hr := B.returns
  have hlocks := B.notSynchronized
  subst hsz
  have hD := hD0.self (sz := s.heap.size)
  have hbA : ¬ va_A [] s.heap.size b := fun q => by
    rcases q with ⟨k9, e9, q⟩ | q
    · simp at q
    · omega
  have hS : va_S (va_A [] s.heap.size) s.heap s.heap [] := va_S.rf
  have hl := lv_entry ([.ref b, .int (nI k)]) (n := 2) (Nat.le_of_ble_eq_true rfl)
  rw [lg_entry_eq]
  generalize (lg_sl ([.ref b, .int (nI k)]) ++ List.replicate (2 - (lg_sl ([.ref b, .int (nI k)])).length) Slot.unset).toArray = ls at hl ⊢
  have hl : lv_has ls 2 [(0, .ref b), (1, .int (nI k))] := hl
  refine lv_iload_n hx hb dL_cell_0 rfl (lv_at hl 1 rfl) ?_
  refine lv_aload_n hx hb dL_cell_1 rfl (lv_at hl 0 rfl) ?_
  refine va_slen hx hb hX hbl hbA hS dL_cell_2 ?_
  refine lv_icmp_ge (tgt := 12) hx hb dL_cell_3 (by decide) (fun c_3 => ?_) (fun c_3 => ?_)
  · refine lv_iconst (v := 0) hx hb dL_cell_12 (by decide) ?_
    have hkN : ¬ k < N := fun q => nI_ge q (by omega) c_3
    exact kr_i rfl hx hb hr hlocks hP hK hD hS (if_neg hkN).symm dL_cell_13
  · have hkN : k < N := by
      rcases Nat.lt_or_ge k N with q | q
      · exact q
      · exact absurd (nI_le q (by omega)) c_3
    refine lv_aload_n hx hb dL_cell_6 rfl (lv_at hl 0 rfl) ?_
    refine lv_iload_n hx hb dL_cell_7 rfl (lv_at hl 1 rfl) ?_
    refine va_sld hx hb hX hbl hbA hS (vp_in_nI hkN (by omega)) dL_cell_8 ?_
    refine lv_goto (tgt := 13) hx hb dL_cell_9 (by decide) ?_
    exact kr_i rfl hx hb hr hlocks hP hK hD hS (by rw [nI_clamp (by omega)]; exact (if_pos hkN).symm) dL_cell_13
theorem kc_blind {D : va_G} {tys : List (ClassId × FieldType)} {sz b N : Nat} {xs : Nat → Int32} {av : List Value} : FrameBlind (va_Pc av (kcP D tys sz b N xs)) := fun a U g mk q => by
  obtain ⟨q0, ⟨q1, qP, qK, qD⟩, q2, q3⟩ := q
  exact ⟨q0, ⟨q1, qP, va_K.moved (u := U) (U := U.calling g mk a) (Vm.Alike.refl U.vm) qK, qD⟩, q2, va_X.moved (u := U) (U := U.calling g mk a) (Vm.Alike.refl U.vm) q3⟩
theorem kc_here {D : va_G} {tys : List (ClassId × FieldType)} {b N : Nat} {xs : Nat → Int32} {av : List Value} {s : State} {H : Heap} (hK : va_K D vwCl tys s) (hb : b < H.size) (hX : va_X b N xs s H) :
    ∀ U : State, U.heap = H → s.WarmedH U.vm → va_Pc av (kcP D tys H.size b N xs) av.toArray U :=
  fun U hU hW => ⟨rfl, ⟨by rw [hU], fun k q h => by simp at h, va_K.moved hW.alike hK, fun i j p q h => by simp at h, fun k q h => by simp at h⟩, hb, by rw [hU]; exact va_X.moved hW.alike hX⟩
/-! small words for the law -/
theorem lg_self (x : Int64) : lg_cmp x x = 0 := (lg_cmp_eq x x).mpr rfl
theorem in_rng {x : Int32} {n : Nat} (hn : n < 2 ^ 30) (h1 : 0 ≤ x) (h2 : x ≤ nI n - 1) : ∃ k, k < n ∧ x = nI k := by
  obtain ⟨k, hk, rfl⟩ := nI_of (x := x) (Int32.not_lt.mpr h1)
  refine ⟨k, ?_, rfl⟩
  have h3 : (nI n - 1).toInt = (n : Int) - 1 := pk_sub_toInt (b := 1) hn (by decide)
  have h4 := Int32.le_iff_toInt_le.mp h2
  rw [nI_toInt hk, h3] at h4
  omega
