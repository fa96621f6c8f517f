set_option maxHeartbeats 4000000 in
set_option maxRecDepth 100000 in
/-- where the set of a place begins -/
theorem c_X3_firstSlotFor (l : Launch) (D : va_G) (cI cJ cZ : ClassId) (sz : Nat) (h0 h1 h2 h3 h4 : Nat) (S Wy sb : Nat) (tg kd tt lu : Fn) (fl us : Int32) (p0 : Int32) (hSs : S = 2 ^ sb) (hsb : sb ≤ 4) : KI l yX3_firstSlotFor wsX3_firstSlotFor ({ frames := 0, cells := 0, slots := 0, locals := 0 } : Room) D (kTy cI cJ cZ) [.ref (h0), .int (p0)] [(h0, .inr (3, [.int (nI S), .int (nI Wy), .ref (h1), .ref (h2), .ref (h3), .int (fl), .int (nI sb), .ref (h4), .int (us)])), (h1, .inl (cI, S * Wy, .inl (tg))), (h2, .inl (cI, S * Wy, .inl (kd))), (h3, .inl (cI, S * Wy, .inl (tt))), (h4, .inl (cI, S * Wy, .inl (lu)))] sz (wTab h0 h1 h2 h3 h4 cI S Wy sb (tg, kd, tt, lu, fl, us)) (nI (ts_set S p0 * Wy)) 0 0 := by
  refine Met.ofW (cc := cX3_firstSlotFor) (maxL := 2) (ret := (some .int)) (by decide) rfl ?_
  intro p e s m args below meth c s₁ B hml hv
  obtain ⟨rfl, hsz, hP, hK, hD0⟩ := hv
  have hx := B.exec
  have hb := B.bytes
  have hr := B.returns
  have hts := atoms_spec (ws := wsX3_firstSlotFor) B.pre
  have hown : s.vm.findClass RX3 = some m.cls := findClass_of_methodNamed B.named
  have hlocks := B.notSynchronized
  have kf15 := hts (.fieldLink RX3 15 "TargetRows$Table" "sets" "I") (List.mem_cons_of_mem _ kw_62)
  have kf18 := hts (.fieldLink RX3 18 "TargetRows$Table" "ways" "I") (List.mem_cons_of_mem _ kw_64)
  subst hsz
  have hD := hD0.self (sz := s.heap.size)
  generalize hAe : va_A [(h0, .inr (3, [.int (nI S), .int (nI Wy), .ref (h1), .ref (h2), .ref (h3), .int (fl), .int (nI sb), .ref (h4), .int (us)])), (h1, .inl (cI, S * Wy, .inl (tg))), (h2, .inl (cI, S * Wy, .inl (kd))), (h3, .inl (cI, S * Wy, .inl (tt))), (h4, .inl (cI, S * Wy, .inl (lu)))] s.heap.size = A at hD ⊢
  have hA : ∀ q : Nat, s.heap.size ≤ q → A q := fun q h => by rw [← hAe]; exact Or.inr h
  have hS : va_S A s.heap s.heap [] := va_S.rf
  have hP : va_P D vwCl [(h0, .inr (3, [.int (nI S), .int (nI Wy), .ref (h1), .ref (h2), .ref (h3), .int (fl), .int (nI sb), .ref (h4), .int (us)])), (h1, .inl (cI, S * Wy, .inl (tg))), (h2, .inl (cI, S * Wy, .inl (kd))), (h3, .inl (cI, S * Wy, .inl (tt))), (h4, .inl (cI, S * Wy, .inl (lu)))] s.heap := hP
  have hD : va_D A [(h0, .inr (3, [.int (nI S), .int (nI Wy), .ref (h1), .ref (h2), .ref (h3), .int (fl), .int (nI sb), .ref (h4), .int (us)])), (h1, .inl (cI, S * Wy, .inl (tg))), (h2, .inl (cI, S * Wy, .inl (kd))), (h3, .inl (cI, S * Wy, .inl (tt))), (h4, .inl (cI, S * Wy, .inl (lu)))] := hD
  have hl := lv_entry ([.ref (h0), .int (p0)]) (n := 2) (Nat.le_of_ble_eq_true rfl)
  rw [lg_entry_eq]
  generalize (lg_sl ([.ref (h0), .int (p0)]) ++ List.replicate (2 - (lg_sl ([.ref (h0), .int (p0)])).length) Slot.unset).toArray = ls at hl ⊢
  have hl : lv_has ls 2 [(0, .ref (h0)), (1, .int (p0))] := hl
  refine lv_iload_n hx hb dX3_firstSlotFor_0 rfl (lv_at hl 1 rfl) ?_
  refine lv_iconst (v := 2) hx hb dX3_firstSlotFor_1 (by decide) ?_
  refine lv_iushr (v := k_ush (p0) (2)) hx hb dX3_firstSlotFor_2 rfl ?_
  refine lv_aload_n hx hb dX3_firstSlotFor_3 rfl (lv_at hl 0 rfl) ?_
  refine va_get (D := D) (ci := 3) (v := .int (nI S)) (C := RX3) (T := TX3) (N := 9) hx hb hts (fun w h => List.mem_cons_of_mem _ (hiX3 w h)) hown hK hP 0 rfl rfl 0 (by decide) kf15 (fun _ h9 => h9) rfl dX3_firstSlotFor_4 ?_
  refine lv_iconst (v := 1) hx hb dX3_firstSlotFor_7 (by decide) ?_
  refine lv_isub hx hb dX3_firstSlotFor_8 ?_
  refine lv_iand hx hb dX3_firstSlotFor_9 ?_
  refine kt_i (y := nI (ts_set S p0)) (ts_lem hSs hsb p0) ?_
  refine lv_aload_n hx hb dX3_firstSlotFor_10 rfl (lv_at hl 0 rfl) ?_
  refine va_get (D := D) (ci := 3) (v := .int (nI Wy)) (C := RX3) (T := TX3) (N := 9) hx hb hts (fun w h => List.mem_cons_of_mem _ (hiX3 w h)) hown hK hP 0 rfl rfl 1 (by decide) kf18 (fun _ h9 => h9) rfl dX3_firstSlotFor_11 ?_
  refine lv_imul hx hb dX3_firstSlotFor_14 ?_
  refine kt_i (y := nI (ts_set S p0 * Wy)) (pk_mul _ _) ?_
  exact kr_i (rfl) hx hb hr hlocks hP hK hD hS (rfl) dX3_firstSlotFor_15

set_option maxHeartbeats 4000000 in
set_option maxRecDepth 100000 in
/-- the tag of a place -/
theorem c_X3_tagOf (l : Launch) (D : va_G) (cI cJ cZ : ClassId) (sz : Nat) (h0 h1 h2 h3 h4 : Nat) (S Wy sb : Nat) (tg kd tt lu : Fn) (fl us : Int32) (p0 : Int32) : KI l yX3_tagOf wsX3_tagOf ({ frames := 0, cells := 0, slots := 0, locals := 0 } : Room) D (kTy cI cJ cZ) [.ref (h0), .int (p0)] [(h0, .inr (3, [.int (nI S), .int (nI Wy), .ref (h1), .ref (h2), .ref (h3), .int (fl), .int (nI sb), .ref (h4), .int (us)])), (h1, .inl (cI, S * Wy, .inl (tg))), (h2, .inl (cI, S * Wy, .inl (kd))), (h3, .inl (cI, S * Wy, .inl (tt))), (h4, .inl (cI, S * Wy, .inl (lu)))] sz (wTab h0 h1 h2 h3 h4 cI S Wy sb (tg, kd, tt, lu, fl, us)) (ts_tag sb p0) 0 0 := by
  refine Met.ofW (cc := cX3_tagOf) (maxL := 2) (ret := (some .int)) (by decide) rfl ?_
  intro p e s m args below meth c s₁ B hml hv
  obtain ⟨rfl, hsz, hP, hK, hD0⟩ := hv
  have hx := B.exec
  have hb := B.bytes
  have hr := B.returns
  have hts := atoms_spec (ws := wsX3_tagOf) B.pre
  have hown : s.vm.findClass RX3 = some m.cls := findClass_of_methodNamed B.named
  have hlocks := B.notSynchronized
  have kf9 := hts (.fieldLink RX3 9 "TargetRows$Table" "setBits" "I") (List.mem_cons_of_mem _ kw_74)
  subst hsz
  have hD := hD0.self (sz := s.heap.size)
  generalize hAe : va_A [(h0, .inr (3, [.int (nI S), .int (nI Wy), .ref (h1), .ref (h2), .ref (h3), .int (fl), .int (nI sb), .ref (h4), .int (us)])), (h1, .inl (cI, S * Wy, .inl (tg))), (h2, .inl (cI, S * Wy, .inl (kd))), (h3, .inl (cI, S * Wy, .inl (tt))), (h4, .inl (cI, S * Wy, .inl (lu)))] s.heap.size = A at hD ⊢
  have hA : ∀ q : Nat, s.heap.size ≤ q → A q := fun q h => by rw [← hAe]; exact Or.inr h
  have hS : va_S A s.heap s.heap [] := va_S.rf
  have hP : va_P D vwCl [(h0, .inr (3, [.int (nI S), .int (nI Wy), .ref (h1), .ref (h2), .ref (h3), .int (fl), .int (nI sb), .ref (h4), .int (us)])), (h1, .inl (cI, S * Wy, .inl (tg))), (h2, .inl (cI, S * Wy, .inl (kd))), (h3, .inl (cI, S * Wy, .inl (tt))), (h4, .inl (cI, S * Wy, .inl (lu)))] s.heap := hP
  have hD : va_D A [(h0, .inr (3, [.int (nI S), .int (nI Wy), .ref (h1), .ref (h2), .ref (h3), .int (fl), .int (nI sb), .ref (h4), .int (us)])), (h1, .inl (cI, S * Wy, .inl (tg))), (h2, .inl (cI, S * Wy, .inl (kd))), (h3, .inl (cI, S * Wy, .inl (tt))), (h4, .inl (cI, S * Wy, .inl (lu)))] := hD
  have hl := lv_entry ([.ref (h0), .int (p0)]) (n := 2) (Nat.le_of_ble_eq_true rfl)
  rw [lg_entry_eq]
  generalize (lg_sl ([.ref (h0), .int (p0)]) ++ List.replicate (2 - (lg_sl ([.ref (h0), .int (p0)])).length) Slot.unset).toArray = ls at hl ⊢
  have hl : lv_has ls 2 [(0, .ref (h0)), (1, .int (p0))] := hl
  refine lv_iload_n hx hb dX3_tagOf_0 rfl (lv_at hl 1 rfl) ?_
  refine lv_iconst (v := 2) hx hb dX3_tagOf_1 (by decide) ?_
  refine lv_iushr (v := k_ush (p0) (2)) hx hb dX3_tagOf_2 rfl ?_
  refine lv_aload_n hx hb dX3_tagOf_3 rfl (lv_at hl 0 rfl) ?_
  refine va_get (D := D) (ci := 3) (v := .int (nI sb)) (C := RX3) (T := TX3) (N := 9) hx hb hts (fun w h => List.mem_cons_of_mem _ (hiX3 w h)) hown hK hP 0 rfl rfl 6 (by decide) kf9 (fun _ h9 => h9) rfl dX3_tagOf_4 ?_
  refine lv_iushr (v := k_ush (k_ush (p0) (2)) (nI sb)) hx hb dX3_tagOf_7 rfl ?_
  refine lv_sipush (v := 255) hx hb dX3_tagOf_8 (by decide) ?_
  refine lv_iand hx hb dX3_tagOf_11 ?_
  exact kr_i (rfl) hx hb hr hlocks hP hK hD hS (rfl) dX3_tagOf_12

set_option maxHeartbeats 4000000 in
set_option maxRecDepth 100000 in
/-- the slot of a place, or -1 -/
theorem c_X3_find (l : Launch) (D : va_G) (cI cJ cZ : ClassId) (sz : Nat) (h0 h1 h2 h3 h4 : Nat) (S Wy sb : Nat) (tg kd tt lu : Fn) (fl us : Int32) (p0 : Int32) (hSs : S = 0 ∨ S = 2 ^ sb) (hS16 : S ≤ 16) (hsb : sb ≤ 4) (hW : 0 < Wy) (hW4 : Wy ≤ 4) : KI l yX3_find wsX3_find ({ frames := 1, cells := 0, slots := 0, locals := 21 } : Room) D (kTy cI cJ cZ) [.ref (h0), .int (p0)] [(h0, .inr (3, [.int (nI S), .int (nI Wy), .ref (h1), .ref (h2), .ref (h3), .int (fl), .int (nI sb), .ref (h4), .int (us)])), (h1, .inl (cI, S * Wy, .inl (tg))), (h2, .inl (cI, S * Wy, .inl (kd))), (h3, .inl (cI, S * Wy, .inl (tt))), (h4, .inl (cI, S * Wy, .inl (lu)))] sz (wTab h0 h1 h2 h3 h4 cI S Wy sb (tg, kd, tt, lu, fl, us)) (tf_i (tf_find S Wy sb (tg, kd, tt, lu, fl, us) p0)) 0 0 := by
  refine Met.ofW (cc := cX3_find) (maxL := 5) (ret := (some .int)) (by decide) rfl ?_
  intro p e s m args below meth c s₁ B hml hv
  obtain ⟨rfl, hsz, hP, hK, hD0⟩ := hv
  have hx := B.exec
  have hb := B.bytes
  have hr := B.returns
  have hts := atoms_spec (ws := wsX3_find) B.pre
  have hown : s.vm.findClass RX3 = some m.cls := findClass_of_methodNamed B.named
  have hlocks := B.notSynchronized
  have kf15 := hts (.fieldLink RX3 15 "TargetRows$Table" "sets" "I") (List.mem_cons_of_mem _ kw_62)
  have kf18 := hts (.fieldLink RX3 18 "TargetRows$Table" "ways" "I") (List.mem_cons_of_mem _ kw_64)
  have kf21 := hts (.fieldLink RX3 21 "TargetRows$Table" "tags" "[I") (List.mem_cons_of_mem _ kw_66)
  subst hsz
  have hD := hD0.self (sz := s.heap.size)
  generalize hAe : va_A [(h0, .inr (3, [.int (nI S), .int (nI Wy), .ref (h1), .ref (h2), .ref (h3), .int (fl), .int (nI sb), .ref (h4), .int (us)])), (h1, .inl (cI, S * Wy, .inl (tg))), (h2, .inl (cI, S * Wy, .inl (kd))), (h3, .inl (cI, S * Wy, .inl (tt))), (h4, .inl (cI, S * Wy, .inl (lu)))] s.heap.size = A at hD ⊢
  have hA : ∀ q : Nat, s.heap.size ≤ q → A q := fun q h => by rw [← hAe]; exact Or.inr h
  have hS : va_S A s.heap s.heap [] := va_S.rf
  have hP : va_P D vwCl [(h0, .inr (3, [.int (nI S), .int (nI Wy), .ref (h1), .ref (h2), .ref (h3), .int (fl), .int (nI sb), .ref (h4), .int (us)])), (h1, .inl (cI, S * Wy, .inl (tg))), (h2, .inl (cI, S * Wy, .inl (kd))), (h3, .inl (cI, S * Wy, .inl (tt))), (h4, .inl (cI, S * Wy, .inl (lu)))] s.heap := hP
  have hD : va_D A [(h0, .inr (3, [.int (nI S), .int (nI Wy), .ref (h1), .ref (h2), .ref (h3), .int (fl), .int (nI sb), .ref (h4), .int (us)])), (h1, .inl (cI, S * Wy, .inl (tg))), (h2, .inl (cI, S * Wy, .inl (kd))), (h3, .inl (cI, S * Wy, .inl (tt))), (h4, .inl (cI, S * Wy, .inl (lu)))] := hD
  have hl := lv_entry ([.ref (h0), .int (p0)]) (n := 5) (Nat.le_of_ble_eq_true rfl)
  rw [lg_entry_eq]
  generalize (lg_sl ([.ref (h0), .int (p0)]) ++ List.replicate (5 - (lg_sl ([.ref (h0), .int (p0)])).length) Slot.unset).toArray = ls at hl ⊢
  have hl : lv_has ls 5 [(0, .ref (h0)), (1, .int (p0))] := hl
  refine lv_aload_n hx hb dX3_find_0 rfl (lv_at hl 0 rfl) ?_
  refine va_get (D := D) (ci := 3) (v := .int (nI S)) (C := RX3) (T := TX3) (N := 9) hx hb hts (fun w h => List.mem_cons_of_mem _ (hiX3 w h)) hown hK hP 0 rfl rfl 0 (by decide) kf15 (fun _ h9 => h9) rfl dX3_find_1 ?_
  refine lv_if_ne (tgt := 9) hx hb dX3_find_4 (by decide) (fun c_4 => ?_) (fun c_4 => ?_)
  ·
    have hS0 : S ≠ 0 := fun q => c_4 (by rw [q]; exact nI_0)
    have hS2 : S = 2 ^ sb := hSs.resolve_left hS0
    have hmul := ts_in (S := S) (W := Wy) (j := Wy - 1) p0 (by omega) (by omega)
    have hSW := ts_SW hS16 hW4
    refine lv_aload_n hx hb dX3_find_9 rfl (lv_at hl 0 rfl) ?_
    refine lv_iload_n hx hb dX3_find_10 rfl (lv_at hl 1 rfl) ?_
    refine kc_i (wc := [(h0, .inr (3, [.int (nI S), .int (nI Wy), .ref (h1), .ref (h2), .ref (h3), .int (fl), .int (nI sb), .ref (h4), .int (us)])), (h1, .inl (cI, S * Wy, .inl (tg))), (h2, .inl (cI, S * Wy, .inl (kd))), (h3, .inl (cI, S * Wy, .inl (tt))), (h4, .inl (cI, S * Wy, .inl (lu)))]) (wr := []) [0, 1, 2, 3, 4] [] rfl rfl (by decide) (by decide) hP hD hS hA (va_runV (As := [.int (p0)]) (rest := []) ⟨hx, hb, hml, hown, hts⟩ (c_X3_firstSlotFor l D cI cJ cZ _ _ _ _ _ _ _ _ _ _ _ _ _ _ _ _ hS2 hsb) (cwV 1 hts (kw_V kw_203 kw_205 kw_0 kw_28 kw_206) rfl rfl rfl (by decide +kernel) ⟨Nat.le_of_ble_eq_true rfl, Nat.le_of_ble_eq_true rfl⟩) ⟨kP_blind, va_recv hK (hP.sub (ws' := [(h0, .inr (3, [.int (nI S), .int (nI Wy), .ref (h1), .ref (h2), .ref (h3), .int (fl), .int (nI sb), .ref (h4), .int (us)])), (h1, .inl (cI, S * Wy, .inl (tg))), (h2, .inl (cI, S * Wy, .inl (kd))), (h3, .inl (cI, S * Wy, .inl (tt))), (h4, .inl (cI, S * Wy, .inl (lu)))]) [0, 1, 2, 3, 4] rfl) (ci := 3) (q0 := 0) rfl rfl, kP_at (hP.sub [0, 1, 2, 3, 4] rfl) hK (hD.sub [0, 1, 2, 3, 4] (by decide) rfl)⟩ rfl rfl hl.1 rfl (lv_room (Nat.le_of_ble_eq_true rfl)) dX3_find_11 ⟨Nat.zero_le _, Nat.zero_le _⟩) (fun H locs hP hD hS => ?_)
    have hP := hP.sub (ws' := [(h0, .inr (3, [.int (nI S), .int (nI Wy), .ref (h1), .ref (h2), .ref (h3), .int (fl), .int (nI sb), .ref (h4), .int (us)])), (h1, .inl (cI, S * Wy, .inl (tg))), (h2, .inl (cI, S * Wy, .inl (kd))), (h3, .inl (cI, S * Wy, .inl (tt))), (h4, .inl (cI, S * Wy, .inl (lu)))]) [0, 1, 2, 3, 4] rfl
    have hD := hD.sub (ws' := [(h0, .inr (3, [.int (nI S), .int (nI Wy), .ref (h1), .ref (h2), .ref (h3), .int (fl), .int (nI sb), .ref (h4), .int (us)])), (h1, .inl (cI, S * Wy, .inl (tg))), (h2, .inl (cI, S * Wy, .inl (kd))), (h3, .inl (cI, S * Wy, .inl (tt))), (h4, .inl (cI, S * Wy, .inl (lu)))]) [0, 1, 2, 3, 4] (by decide) rfl
    refine lv_istore_n (lv' := [(2, .int (nI (ts_set S (p0) * Wy))), (0, .ref (h0)), (1, .int (p0))]) hx hb dX3_find_14 rfl hl (by decide) rfl (fun ls hl => ?_)
    refine lv_aload_n hx hb dX3_find_15 rfl (lv_at hl 1 rfl) ?_
    refine lv_iload_n hx hb dX3_find_16 rfl (lv_at hl 2 rfl) ?_
    refine kc_i (wc := [(h0, .inr (3, [.int (nI S), .int (nI Wy), .ref (h1), .ref (h2), .ref (h3), .int (fl), .int (nI sb), .ref (h4), .int (us)])), (h1, .inl (cI, S * Wy, .inl (tg))), (h2, .inl (cI, S * Wy, .inl (kd))), (h3, .inl (cI, S * Wy, .inl (tt))), (h4, .inl (cI, S * Wy, .inl (lu)))]) (wr := []) [0, 1, 2, 3, 4] [] rfl rfl (by decide) (by decide) hP hD hS hA (va_runV (As := [.int (p0)]) (rest := []) ⟨hx, hb, hml, hown, hts⟩ (c_X3_tagOf l D cI cJ cZ _ _ _ _ _ _ _ _ _ _ _ _ _ _ _ _) (cwV 1 hts (kw_V kw_207 kw_209 kw_1 kw_28 kw_210) rfl rfl rfl (by decide +kernel) ⟨Nat.le_of_ble_eq_true rfl, Nat.le_of_ble_eq_true rfl⟩) ⟨kP_blind, va_recv hK (hP.sub (ws' := [(h0, .inr (3, [.int (nI S), .int (nI Wy), .ref (h1), .ref (h2), .ref (h3), .int (fl), .int (nI sb), .ref (h4), .int (us)])), (h1, .inl (cI, S * Wy, .inl (tg))), (h2, .inl (cI, S * Wy, .inl (kd))), (h3, .inl (cI, S * Wy, .inl (tt))), (h4, .inl (cI, S * Wy, .inl (lu)))]) [0, 1, 2, 3, 4] rfl) (ci := 3) (q0 := 0) rfl rfl, kP_at (hP.sub [0, 1, 2, 3, 4] rfl) hK (hD.sub [0, 1, 2, 3, 4] (by decide) rfl)⟩ rfl rfl hl.1 rfl (lv_room (Nat.le_of_ble_eq_true rfl)) dX3_find_17 ⟨Nat.zero_le _, Nat.zero_le _⟩) (fun H locs hP hD hS => ?_)
    have hP := hP.sub (ws' := [(h0, .inr (3, [.int (nI S), .int (nI Wy), .ref (h1), .ref (h2), .ref (h3), .int (fl), .int (nI sb), .ref (h4), .int (us)])), (h1, .inl (cI, S * Wy, .inl (tg))), (h2, .inl (cI, S * Wy, .inl (kd))), (h3, .inl (cI, S * Wy, .inl (tt))), (h4, .inl (cI, S * Wy, .inl (lu)))]) [0, 1, 2, 3, 4] rfl
    have hD := hD.sub (ws' := [(h0, .inr (3, [.int (nI S), .int (nI Wy), .ref (h1), .ref (h2), .ref (h3), .int (fl), .int (nI sb), .ref (h4), .int (us)])), (h1, .inl (cI, S * Wy, .inl (tg))), (h2, .inl (cI, S * Wy, .inl (kd))), (h3, .inl (cI, S * Wy, .inl (tt))), (h4, .inl (cI, S * Wy, .inl (lu)))]) [0, 1, 2, 3, 4] (by decide) rfl
    refine lv_istore_n (lv' := [(3, .int (ts_tag sb (p0))), (2, .int (nI (ts_set S (p0) * Wy))), (0, .ref (h0)), (1, .int (p0))]) hx hb dX3_find_20 rfl hl (by decide) rfl (fun ls hl => ?_)
    refine lv_iload_n hx hb dX3_find_21 rfl (lv_at hl 1 rfl) ?_
    refine lv_istore (lv' := [(4, .int (nI (ts_set S (p0) * Wy))), (3, .int (ts_tag sb (p0))), (2, .int (nI (ts_set S (p0) * Wy))), (0, .ref (h0)), (1, .int (p0))]) hx hb dX3_find_22 hl (by decide) rfl (fun ls hl => ?_)
    refine kloop (nL := 5) (I := fun n w lv => ∃ (b : Nat), w = [(h0, .inr (3, [.int (nI S), .int (nI Wy), .ref (h1), .ref (h2), .ref (h3), .int (fl), .int (nI sb), .ref (h4), .int (us)])), (h1, .inl (cI, S * Wy, .inl (tg))), (h2, .inl (cI, S * Wy, .inl (kd))), (h3, .inl (cI, S * Wy, .inl (tt))), (h4, .inl (cI, S * Wy, .inl (lu)))] ∧ lv = [(0, .ref (h0)), (1, .int (p0)), (2, .int (nI (ts_set S (p0) * Wy))), (3, .int (ts_tag sb (p0))), (4, .int (nI b))] ∧ tf_fo tg (ts_tag sb p0) b n = tf_fo tg (ts_tag sb p0) (ts_set S (p0) * Wy) Wy ∧ b + n = ts_set S (p0) * Wy + Wy) (fun n w lv H locs ls hI hP hD hS hl ih => ?_) (Wy) _ _ _ _ _ ⟨ts_set S (p0) * Wy, rfl, rfl, rfl, rfl⟩ hP hD hS (lv_sub hl [3, 4, 2, 1, 0] rfl)
    obtain ⟨b, rfl, rfl, hinv, hbn⟩ := hI
    rcases n with _ | n
    ·
      refine lv_iload hx hb dX3_find_24 (lv_at hl 4 rfl) ?_
      refine lv_iload_n hx hb dX3_find_26 rfl (lv_at hl 2 rfl) ?_
      refine lv_aload_n hx hb dX3_find_27 rfl (lv_at hl 0 rfl) ?_
      refine va_get (D := D) (ci := 3) (v := .int (nI Wy)) (C := RX3) (T := TX3) (N := 9) hx hb hts (fun w h => List.mem_cons_of_mem _ (hiX3 w h)) hown hK hP 0 rfl rfl 1 (by decide) kf18 (fun _ h9 => h9) rfl dX3_find_28 ?_
      refine lv_iadd hx hb dX3_find_31 ?_
      refine kt_i (y := nI (ts_set S (p0) * Wy + Wy)) (nI_add _ _) ?_
      refine lv_icmp_ge (tgt := 55) hx hb dX3_find_32 (by decide) (fun c_32 => ?_) (fun c_32 => absurd (nI_le (by omega) (by omega)) c_32)
      refine lv_iconst (v := (-1)) hx hb dX3_find_55 (by decide) ?_
      exact kr_i (rfl) hx hb hr hlocks hP hK hD hS (by simp only [tf_find, if_neg hS0]; rw [← hinv]; rfl) dX3_find_56
    ·
      refine lv_iload hx hb dX3_find_24 (lv_at hl 4 rfl) ?_
      refine lv_iload_n hx hb dX3_find_26 rfl (lv_at hl 2 rfl) ?_
      refine lv_aload_n hx hb dX3_find_27 rfl (lv_at hl 0 rfl) ?_
      refine va_get (D := D) (ci := 3) (v := .int (nI Wy)) (C := RX3) (T := TX3) (N := 9) hx hb hts (fun w h => List.mem_cons_of_mem _ (hiX3 w h)) hown hK hP 0 rfl rfl 1 (by decide) kf18 (fun _ h9 => h9) rfl dX3_find_28 ?_
      refine lv_iadd hx hb dX3_find_31 ?_
      refine kt_i (y := nI (ts_set S (p0) * Wy + Wy)) (nI_add _ _) ?_
      refine lv_icmp_ge (tgt := 55) hx hb dX3_find_32 (by decide) (fun c_32 => absurd c_32 (nI_ge (by omega) (by omega))) (fun c_32 => ?_)
      refine lv_aload_n hx hb dX3_find_35 rfl (lv_at hl 0 rfl) ?_
      refine va_get (D := D) (ci := 3) (v := .ref (h1)) (C := RX3) (T := TX3) (N := 9) hx hb hts (fun w h => List.mem_cons_of_mem _ (hiX3 w h)) hown hK hP 0 rfl rfl 2 (by decide) kf21 (fun _ h9 => h9) rfl dX3_find_36 ?_
      refine lv_iload hx hb dX3_find_39 (lv_at hl 4 rfl) ?_
      refine ka_ild hx hb hK hP 1 0 rfl rfl (k := b) (rfl) (⟨by omega, by omega⟩) dX3_find_41 ?_
      refine lv_iload_n hx hb dX3_find_42 rfl (lv_at hl 3 rfl) ?_
      refine lv_icmp_ne (tgt := 49) hx hb dX3_find_43 (by decide) (fun c_43 => ?_) (fun c_43 => ?_)
      ·
        refine lv_iinc (v := nI (b + 1)) (lv' := [(4, .int (nI (b + 1))), (0, .ref (h0)), (1, .int (p0)), (2, .int (nI (ts_set S (p0) * Wy))), (3, .int (ts_tag sb (p0)))]) hx hb dX3_find_49 hl (k := 4) rfl (nI_1 b) (by decide) rfl (fun ls hl => ?_)
        refine lv_goto (tgt := 24) hx hb dX3_find_52 (by decide) ?_
        exact ih n _ _ _ _ _ rfl ⟨b + 1, rfl, rfl, by rw [← hinv]; simp only [tf_fo]; rw [if_neg c_43], by omega⟩ hP hD hS (lv_sub hl [1, 2, 3, 4, 0] rfl)
      ·
        refine lv_iload hx hb dX3_find_46 (lv_at hl 4 rfl) ?_
        exact kr_i (rfl) hx hb hr hlocks hP hK hD hS (by simp only [tf_find, if_neg hS0]; rw [← hinv]; simp only [tf_fo]; rw [if_pos c_43]; rfl) dX3_find_48
  ·
    have hS0 : S = 0 := by
      rcases Nat.eq_zero_or_pos S with q | q
      · exact q
      · exact absurd c_4 (nI_ne0 q (by omega))
    refine lv_iconst (v := (-1)) hx hb dX3_find_7 (by decide) ?_
    exact kr_i (rfl) hx hb hr hlocks hP hK hD hS (by simp only [tf_find, if_pos hS0]; rfl) dX3_find_8

set_option maxHeartbeats 4000000 in
set_option maxRecDepth 100000 in
/-- where a new entry goes -/
theorem c_X3_slotToFill (l : Launch) (D : va_G) (cI cJ cZ : ClassId) (sz : Nat) (h0 h1 h2 h3 h4 : Nat) (S Wy sb : Nat) (tg kd tt lu : Fn) (fl us : Int32) (p0 : Int32) (hS0 : S ≠ 0) (hS2 : S = 2 ^ sb) (hS16 : S ≤ 16) (hsb : sb ≤ 4) (hW : 0 < Wy) (hW4 : Wy ≤ 4) : KI l yX3_slotToFill wsX3_slotToFill ({ frames := 1, cells := 0, slots := 0, locals := 21 } : Room) D (kTy cI cJ cZ) [.ref (h0), .int (p0)] [(h0, .inr (3, [.int (nI S), .int (nI Wy), .ref (h1), .ref (h2), .ref (h3), .int (fl), .int (nI sb), .ref (h4), .int (us)])), (h1, .inl (cI, S * Wy, .inl (tg))), (h2, .inl (cI, S * Wy, .inl (kd))), (h3, .inl (cI, S * Wy, .inl (tt))), (h4, .inl (cI, S * Wy, .inl (lu)))] sz (wTab h0 h1 h2 h3 h4 cI S Wy sb (tg, kd, tt, lu, fl, us)) (nI (tf_slot S Wy (tg, kd, tt, lu, fl, us) p0)) 0 0 := by
  refine Met.ofW (cc := cX3_slotToFill) (maxL := 5) (ret := (some .int)) (by decide) rfl ?_
  intro p e s m args below meth c s₁ B hml hv
  obtain ⟨rfl, hsz, hP, hK, hD0⟩ := hv
  have hx := B.exec
  have hb := B.bytes
  have hr := B.returns
  have hts := atoms_spec (ws := wsX3_slotToFill) B.pre
  have hown : s.vm.findClass RX3 = some m.cls := findClass_of_methodNamed B.named
  have hlocks := B.notSynchronized
  have kf18 := hts (.fieldLink RX3 18 "TargetRows$Table" "ways" "I") (List.mem_cons_of_mem _ kw_64)
  have kf31 := hts (.fieldLink RX3 31 "TargetRows$Table" "lastUses" "[I") (List.mem_cons_of_mem _ kw_75)
  subst hsz
  have hD := hD0.self (sz := s.heap.size)
  generalize hAe : va_A [(h0, .inr (3, [.int (nI S), .int (nI Wy), .ref (h1), .ref (h2), .ref (h3), .int (fl), .int (nI sb), .ref (h4), .int (us)])), (h1, .inl (cI, S * Wy, .inl (tg))), (h2, .inl (cI, S * Wy, .inl (kd))), (h3, .inl (cI, S * Wy, .inl (tt))), (h4, .inl (cI, S * Wy, .inl (lu)))] s.heap.size = A at hD ⊢
  have hA : ∀ q : Nat, s.heap.size ≤ q → A q := fun q h => by rw [← hAe]; exact Or.inr h
  have hS : va_S A s.heap s.heap [] := va_S.rf
  have hP : va_P D vwCl [(h0, .inr (3, [.int (nI S), .int (nI Wy), .ref (h1), .ref (h2), .ref (h3), .int (fl), .int (nI sb), .ref (h4), .int (us)])), (h1, .inl (cI, S * Wy, .inl (tg))), (h2, .inl (cI, S * Wy, .inl (kd))), (h3, .inl (cI, S * Wy, .inl (tt))), (h4, .inl (cI, S * Wy, .inl (lu)))] s.heap := hP
  have hD : va_D A [(h0, .inr (3, [.int (nI S), .int (nI Wy), .ref (h1), .ref (h2), .ref (h3), .int (fl), .int (nI sb), .ref (h4), .int (us)])), (h1, .inl (cI, S * Wy, .inl (tg))), (h2, .inl (cI, S * Wy, .inl (kd))), (h3, .inl (cI, S * Wy, .inl (tt))), (h4, .inl (cI, S * Wy, .inl (lu)))] := hD
  have hl := lv_entry ([.ref (h0), .int (p0)]) (n := 5) (Nat.le_of_ble_eq_true rfl)
  rw [lg_entry_eq]
  generalize (lg_sl ([.ref (h0), .int (p0)]) ++ List.replicate (5 - (lg_sl ([.ref (h0), .int (p0)])).length) Slot.unset).toArray = ls at hl ⊢
  have hl : lv_has ls 5 [(0, .ref (h0)), (1, .int (p0))] := hl
  refine lv_aload_n hx hb dX3_slotToFill_0 rfl (lv_at hl 0 rfl) ?_
  refine lv_iload_n hx hb dX3_slotToFill_1 rfl (lv_at hl 1 rfl) ?_
  refine kc_i (wc := [(h0, .inr (3, [.int (nI S), .int (nI Wy), .ref (h1), .ref (h2), .ref (h3), .int (fl), .int (nI sb), .ref (h4), .int (us)])), (h1, .inl (cI, S * Wy, .inl (tg))), (h2, .inl (cI, S * Wy, .inl (kd))), (h3, .inl (cI, S * Wy, .inl (tt))), (h4, .inl (cI, S * Wy, .inl (lu)))]) (wr := []) [0, 1, 2, 3, 4] [] rfl rfl (by decide) (by decide) hP hD hS hA (va_runV (As := [.int (p0)]) (rest := []) ⟨hx, hb, hml, hown, hts⟩ (c_X3_firstSlotFor l D cI cJ cZ _ _ _ _ _ _ _ _ _ _ _ _ _ _ _ _ hS2 hsb) (cwV 1 hts (kw_V kw_203 kw_205 kw_0 kw_28 kw_206) rfl rfl rfl (by decide +kernel) ⟨Nat.le_of_ble_eq_true rfl, Nat.le_of_ble_eq_true rfl⟩) ⟨kP_blind, va_recv hK (hP.sub (ws' := [(h0, .inr (3, [.int (nI S), .int (nI Wy), .ref (h1), .ref (h2), .ref (h3), .int (fl), .int (nI sb), .ref (h4), .int (us)])), (h1, .inl (cI, S * Wy, .inl (tg))), (h2, .inl (cI, S * Wy, .inl (kd))), (h3, .inl (cI, S * Wy, .inl (tt))), (h4, .inl (cI, S * Wy, .inl (lu)))]) [0, 1, 2, 3, 4] rfl) (ci := 3) (q0 := 0) rfl rfl, kP_at (hP.sub [0, 1, 2, 3, 4] rfl) hK (hD.sub [0, 1, 2, 3, 4] (by decide) rfl)⟩ rfl rfl hl.1 rfl (lv_room (Nat.le_of_ble_eq_true rfl)) dX3_slotToFill_2 ⟨Nat.zero_le _, Nat.zero_le _⟩) (fun H locs hP hD hS => ?_)
  have hP := hP.sub (ws' := [(h0, .inr (3, [.int (nI S), .int (nI Wy), .ref (h1), .ref (h2), .ref (h3), .int (fl), .int (nI sb), .ref (h4), .int (us)])), (h1, .inl (cI, S * Wy, .inl (tg))), (h2, .inl (cI, S * Wy, .inl (kd))), (h3, .inl (cI, S * Wy, .inl (tt))), (h4, .inl (cI, S * Wy, .inl (lu)))]) [0, 1, 2, 3, 4] rfl
  have hD := hD.sub (ws' := [(h0, .inr (3, [.int (nI S), .int (nI Wy), .ref (h1), .ref (h2), .ref (h3), .int (fl), .int (nI sb), .ref (h4), .int (us)])), (h1, .inl (cI, S * Wy, .inl (tg))), (h2, .inl (cI, S * Wy, .inl (kd))), (h3, .inl (cI, S * Wy, .inl (tt))), (h4, .inl (cI, S * Wy, .inl (lu)))]) [0, 1, 2, 3, 4] (by decide) rfl
  refine lv_istore_n (lv' := [(2, .int (nI (ts_set S (p0) * Wy))), (0, .ref (h0)), (1, .int (p0))]) hx hb dX3_slotToFill_5 rfl hl (by decide) rfl (fun ls hl => ?_)
  refine lv_iload_n hx hb dX3_slotToFill_6 rfl (lv_at hl 0 rfl) ?_
  refine lv_istore_n (lv' := [(3, .int (nI (ts_set S (p0) * Wy))), (2, .int (nI (ts_set S (p0) * Wy))), (0, .ref (h0)), (1, .int (p0))]) hx hb dX3_slotToFill_7 rfl hl (by decide) rfl (fun ls hl => ?_)
  refine lv_iload_n hx hb dX3_slotToFill_8 rfl (lv_at hl 1 rfl) ?_
  refine lv_iconst (v := 1) hx hb dX3_slotToFill_9 (by decide) ?_
  refine lv_iadd hx hb dX3_slotToFill_10 ?_
  refine kt_i (y := nI (ts_set S (p0) * Wy + 1)) (nI_1 _) ?_
  refine lv_istore (lv' := [(4, .int (nI (ts_set S (p0) * Wy + 1))), (3, .int (nI (ts_set S (p0) * Wy))), (2, .int (nI (ts_set S (p0) * Wy))), (0, .ref (h0)), (1, .int (p0))]) hx hb dX3_slotToFill_11 hl (by decide) rfl (fun ls hl => ?_)
  have hmul := ts_in (S := S) (W := Wy) (j := Wy - 1) p0 (by omega) (by omega)
  have hSW := ts_SW hS16 hW4
  refine kloop (nL := 5) (I := fun n w lv => ∃ (sl : Nat) (od : Nat), w = [(h0, .inr (3, [.int (nI S), .int (nI Wy), .ref (h1), .ref (h2), .ref (h3), .int (fl), .int (nI sb), .ref (h4), .int (us)])), (h1, .inl (cI, S * Wy, .inl (tg))), (h2, .inl (cI, S * Wy, .inl (kd))), (h3, .inl (cI, S * Wy, .inl (tt))), (h4, .inl (cI, S * Wy, .inl (lu)))] ∧ lv = [(0, .ref (h0)), (1, .int (p0)), (2, .int (nI (ts_set S (p0) * Wy))), (3, .int (nI od)), (4, .int (nI sl))] ∧ tf_old lu sl n od = tf_old lu (ts_set S (p0) * Wy + 1) (Wy - 1) (ts_set S (p0) * Wy) ∧ sl + n = ts_set S (p0) * Wy + Wy ∧ ts_set S (p0) * Wy ≤ od ∧ od < sl) (fun n w lv H locs ls hI hP hD hS hl ih => ?_) (Wy - 1) _ _ _ _ _ ⟨ts_set S (p0) * Wy + 1, ts_set S (p0) * Wy, rfl, rfl, rfl, by omega, by omega, by omega⟩ hP hD hS (lv_sub hl [3, 4, 2, 1, 0] rfl)
  obtain ⟨sl, od, rfl, rfl, hinv, hbn, ho1, ho2⟩ := hI
  rcases n with _ | n
  ·
    refine lv_iload hx hb dX3_slotToFill_13 (lv_at hl 4 rfl) ?_
    refine lv_iload_n hx hb dX3_slotToFill_15 rfl (lv_at hl 2 rfl) ?_
    refine lv_aload_n hx hb dX3_slotToFill_16 rfl (lv_at hl 0 rfl) ?_
    refine va_get (D := D) (ci := 3) (v := .int (nI Wy)) (C := RX3) (T := TX3) (N := 9) hx hb hts (fun w h => List.mem_cons_of_mem _ (hiX3 w h)) hown hK hP 0 rfl rfl 1 (by decide) kf18 (fun _ h9 => h9) rfl dX3_slotToFill_17 ?_
    refine lv_iadd hx hb dX3_slotToFill_20 ?_
    refine kt_i (y := nI (ts_set S (p0) * Wy + Wy)) (nI_add _ _) ?_
    refine lv_icmp_ge (tgt := 49) hx hb dX3_slotToFill_21 (by decide) (fun c_21 => ?_) (fun c_21 => absurd (nI_le (by omega) (by omega)) c_21)
    refine lv_iload_n hx hb dX3_slotToFill_49 rfl (lv_at hl 3 rfl) ?_
    exact kr_i (rfl) hx hb hr hlocks hP hK hD hS (by simp only [tf_slot]; rw [← hinv]; rfl) dX3_slotToFill_50
  ·
    refine lv_iload hx hb dX3_slotToFill_13 (lv_at hl 4 rfl) ?_
    refine lv_iload_n hx hb dX3_slotToFill_15 rfl (lv_at hl 2 rfl) ?_
    refine lv_aload_n hx hb dX3_slotToFill_16 rfl (lv_at hl 0 rfl) ?_
    refine va_get (D := D) (ci := 3) (v := .int (nI Wy)) (C := RX3) (T := TX3) (N := 9) hx hb hts (fun w h => List.mem_cons_of_mem _ (hiX3 w h)) hown hK hP 0 rfl rfl 1 (by decide) kf18 (fun _ h9 => h9) rfl dX3_slotToFill_17 ?_
    refine lv_iadd hx hb dX3_slotToFill_20 ?_
    refine kt_i (y := nI (ts_set S (p0) * Wy + Wy)) (nI_add _ _) ?_
    refine lv_icmp_ge (tgt := 49) hx hb dX3_slotToFill_21 (by decide) (fun c_21 => absurd c_21 (nI_ge (by omega) (by omega))) (fun c_21 => ?_)
    refine lv_aload_n hx hb dX3_slotToFill_24 rfl (lv_at hl 0 rfl) ?_
    refine va_get (D := D) (ci := 3) (v := .ref (h4)) (C := RX3) (T := TX3) (N := 9) hx hb hts (fun w h => List.mem_cons_of_mem _ (hiX3 w h)) hown hK hP 0 rfl rfl 7 (by decide) kf31 (fun _ h9 => h9) rfl dX3_slotToFill_25 ?_
    refine lv_iload hx hb dX3_slotToFill_28 (lv_at hl 4 rfl) ?_
    refine ka_ild hx hb hK hP 4 0 rfl rfl (k := sl) (rfl) (⟨by omega, by omega⟩) dX3_slotToFill_30 ?_
    refine lv_aload_n hx hb dX3_slotToFill_31 rfl (lv_at hl 0 rfl) ?_
    refine va_get (D := D) (ci := 3) (v := .ref (h4)) (C := RX3) (T := TX3) (N := 9) hx hb hts (fun w h => List.mem_cons_of_mem _ (hiX3 w h)) hown hK hP 0 rfl rfl 7 (by decide) kf31 (fun _ h9 => h9) rfl dX3_slotToFill_32 ?_
    refine lv_iload_n hx hb dX3_slotToFill_35 rfl (lv_at hl 3 rfl) ?_
    refine ka_ild hx hb hK hP 4 0 rfl rfl (k := od) (rfl) (⟨by omega, by omega⟩) dX3_slotToFill_36 ?_
    refine lv_icmp_ge (tgt := 43) hx hb dX3_slotToFill_37 (by decide) (fun c_37 => ?_) (fun c_37 => ?_)
    ·
      refine lv_iinc (v := nI (sl + 1)) (lv' := [(4, .int (nI (sl + 1))), (0, .ref (h0)), (1, .int (p0)), (2, .int (nI (ts_set S (p0) * Wy))), (3, .int (nI od))]) hx hb dX3_slotToFill_43 hl (k := 4) rfl (nI_1 sl) (by decide) rfl (fun ls hl => ?_)
      refine lv_goto (tgt := 13) hx hb dX3_slotToFill_46 (by decide) ?_
      exact ih n _ _ _ _ _ rfl ⟨sl + 1, od, rfl, rfl, by rw [← hinv]; simp only [tf_old]; rw [if_neg (Int32.not_lt.mpr c_37)], by omega, by omega, by omega⟩ hP hD hS (lv_sub hl [1, 2, 3, 4, 0] rfl)
    ·
      refine lv_iload hx hb dX3_slotToFill_40 (lv_at hl 4 rfl) ?_
      refine lv_istore_n (lv' := [(3, .int (nI sl)), (0, .ref (h0)), (1, .int (p0)), (2, .int (nI (ts_set S (p0) * Wy))), (4, .int (nI sl))]) hx hb dX3_slotToFill_42 rfl hl (by decide) rfl (fun ls hl => ?_)
      refine lv_iinc (v := nI (sl + 1)) (lv' := [(4, .int (nI (sl + 1))), (3, .int (nI sl)), (0, .ref (h0)), (1, .int (p0)), (2, .int (nI (ts_set S (p0) * Wy)))]) hx hb dX3_slotToFill_43 hl (k := 4) rfl (nI_1 sl) (by decide) rfl (fun ls hl => ?_)
      refine lv_goto (tgt := 13) hx hb dX3_slotToFill_46 (by decide) ?_
      exact ih n _ _ _ _ _ rfl ⟨sl + 1, sl, rfl, rfl, by rw [← hinv]; simp only [tf_old]; rw [if_pos (Int32.not_le.mp c_37)], by omega, by omega, by omega⟩ hP hD hS (lv_sub hl [2, 3, 4, 1, 0] rfl)

set_option maxHeartbeats 4000000 in
set_option maxRecDepth 100000 in
/-- an update of the table -/
theorem c_X3_put (l : Launch) (D : va_G) (cI cJ cZ : ClassId) (sz : Nat) (h0 h1 h2 h3 h4 : Nat) (S Wy sb : Nat) (tg kd tt lu : Fn) (fl us : Int32) (p0 p1 p2 : Int32) (hSs : S = 0 ∨ S = 2 ^ sb) (hS16 : S ≤ 16) (hsb : sb ≤ 4) (hW : 0 < Wy) (hW4 : Wy ≤ 4) : KV l yX3_put wsX3_put ({ frames := 2, cells := 0, slots := 0, locals := 45 } : Room) D (kTy cI cJ cZ) [.ref (h0), .int (p0), .int (p1), .int (p2)] [(h0, .inr (3, [.int (nI S), .int (nI Wy), .ref (h1), .ref (h2), .ref (h3), .int (fl), .int (nI sb), .ref (h4), .int (us)])), (h1, .inl (cI, S * Wy, .inl (tg))), (h2, .inl (cI, S * Wy, .inl (kd))), (h3, .inl (cI, S * Wy, .inl (tt))), (h4, .inl (cI, S * Wy, .inl (lu)))] sz (wTab h0 h1 h2 h3 h4 cI S Wy sb (tf_put S Wy sb (tg, kd, tt, lu, fl, us) p0 p1 p2)) 0 0 := by
  refine Met.ofW (cc := cX3_put) (maxL := 5) (ret := none) (by decide) rfl ?_
  intro p e s m args below meth c s₁ B hml hv
  obtain ⟨rfl, hsz, hP, hK, hD0⟩ := hv
  have hx := B.exec
  have hb := B.bytes
  have hr := B.returns
  have hts := atoms_spec (ws := wsX3_put) B.pre
  have hown : s.vm.findClass RX3 = some m.cls := findClass_of_methodNamed B.named
  have hlocks := B.notSynchronized
  have kf15 := hts (.fieldLink RX3 15 "TargetRows$Table" "sets" "I") (List.mem_cons_of_mem _ kw_62)
  have kf21 := hts (.fieldLink RX3 21 "TargetRows$Table" "tags" "[I") (List.mem_cons_of_mem _ kw_66)
  have kf25 := hts (.fieldLink RX3 25 "TargetRows$Table" "kinds" "[I") (List.mem_cons_of_mem _ kw_68)
  have kf28 := hts (.fieldLink RX3 28 "TargetRows$Table" "targets" "[I") (List.mem_cons_of_mem _ kw_70)
  have kf31 := hts (.fieldLink RX3 31 "TargetRows$Table" "lastUses" "[I") (List.mem_cons_of_mem _ kw_75)
  have kf53 := hts (.fieldLink RX3 53 "TargetRows$Table" "filled" "I") (List.mem_cons_of_mem _ kw_72)
  have kf56 := hts (.fieldLink RX3 56 "TargetRows$Table" "uses" "I") (List.mem_cons_of_mem _ kw_76)
  subst hsz
  have hD := hD0.self (sz := s.heap.size)
  generalize hAe : va_A [(h0, .inr (3, [.int (nI S), .int (nI Wy), .ref (h1), .ref (h2), .ref (h3), .int (fl), .int (nI sb), .ref (h4), .int (us)])), (h1, .inl (cI, S * Wy, .inl (tg))), (h2, .inl (cI, S * Wy, .inl (kd))), (h3, .inl (cI, S * Wy, .inl (tt))), (h4, .inl (cI, S * Wy, .inl (lu)))] s.heap.size = A at hD ⊢
  have hA : ∀ q : Nat, s.heap.size ≤ q → A q := fun q h => by rw [← hAe]; exact Or.inr h
  have hS : va_S A s.heap s.heap [] := va_S.rf
  have hP : va_P D vwCl [(h0, .inr (3, [.int (nI S), .int (nI Wy), .ref (h1), .ref (h2), .ref (h3), .int (fl), .int (nI sb), .ref (h4), .int (us)])), (h1, .inl (cI, S * Wy, .inl (tg))), (h2, .inl (cI, S * Wy, .inl (kd))), (h3, .inl (cI, S * Wy, .inl (tt))), (h4, .inl (cI, S * Wy, .inl (lu)))] s.heap := hP
  have hD : va_D A [(h0, .inr (3, [.int (nI S), .int (nI Wy), .ref (h1), .ref (h2), .ref (h3), .int (fl), .int (nI sb), .ref (h4), .int (us)])), (h1, .inl (cI, S * Wy, .inl (tg))), (h2, .inl (cI, S * Wy, .inl (kd))), (h3, .inl (cI, S * Wy, .inl (tt))), (h4, .inl (cI, S * Wy, .inl (lu)))] := hD
  have hl := lv_entry ([.ref (h0), .int (p0), .int (p1), .int (p2)]) (n := 5) (Nat.le_of_ble_eq_true rfl)
  rw [lg_entry_eq]
  generalize (lg_sl ([.ref (h0), .int (p0), .int (p1), .int (p2)]) ++ List.replicate (5 - (lg_sl ([.ref (h0), .int (p0), .int (p1), .int (p2)])).length) Slot.unset).toArray = ls at hl ⊢
  have hl : lv_has ls 5 [(0, .ref (h0)), (1, .int (p0)), (2, .int (p1)), (3, .int (p2))] := hl
  refine lv_aload_n hx hb dX3_put_0 rfl (lv_at hl 0 rfl) ?_
  refine va_get (D := D) (ci := 3) (v := .int (nI S)) (C := RX3) (T := TX3) (N := 9) hx hb hts (fun w h => List.mem_cons_of_mem _ (hiX3 w h)) hown hK hP 0 rfl rfl 0 (by decide) kf15 (fun _ h9 => h9) rfl dX3_put_1 ?_
  refine lv_if_ne (tgt := 8) hx hb dX3_put_4 (by decide) (fun c_4 => ?_) (fun c_4 => ?_)
  ·
    have hS0 : S ≠ 0 := fun q => c_4 (by rw [q]; exact nI_0)
    have hS2 : S = 2 ^ sb := hSs.resolve_left hS0
    have hmul := ts_in (S := S) (W := Wy) (j := Wy - 1) p0 (by omega) (by omega)
    have hSW := ts_SW hS16 hW4
    refine lv_aload_n hx hb dX3_put_8 rfl (lv_at hl 0 rfl) ?_
    refine lv_iload_n hx hb dX3_put_9 rfl (lv_at hl 1 rfl) ?_
    refine kc_i (wc := [(h0, .inr (3, [.int (nI S), .int (nI Wy), .ref (h1), .ref (h2), .ref (h3), .int (fl), .int (nI sb), .ref (h4), .int (us)])), (h1, .inl (cI, S * Wy, .inl (tg))), (h2, .inl (cI, S * Wy, .inl (kd))), (h3, .inl (cI, S * Wy, .inl (tt))), (h4, .inl (cI, S * Wy, .inl (lu)))]) (wr := []) [0, 1, 2, 3, 4] [] rfl rfl (by decide) (by decide) hP hD hS hA (va_runV (As := [.int (p0)]) (rest := []) ⟨hx, hb, hml, hown, hts⟩ (c_X3_find l D cI cJ cZ _ _ _ _ _ _ _ _ _ _ _ _ _ _ _ _ hSs hS16 hsb hW hW4) (cwV 1 hts (kw_V kw_441 kw_200 kw_201 kw_28 kw_202) rfl rfl rfl (by decide +kernel) ⟨Nat.le_of_ble_eq_true rfl, Nat.le_of_ble_eq_true rfl⟩) ⟨kP_blind, va_recv hK (hP.sub (ws' := [(h0, .inr (3, [.int (nI S), .int (nI Wy), .ref (h1), .ref (h2), .ref (h3), .int (fl), .int (nI sb), .ref (h4), .int (us)])), (h1, .inl (cI, S * Wy, .inl (tg))), (h2, .inl (cI, S * Wy, .inl (kd))), (h3, .inl (cI, S * Wy, .inl (tt))), (h4, .inl (cI, S * Wy, .inl (lu)))]) [0, 1, 2, 3, 4] rfl) (ci := 3) (q0 := 0) rfl rfl, kP_at (hP.sub [0, 1, 2, 3, 4] rfl) hK (hD.sub [0, 1, 2, 3, 4] (by decide) rfl)⟩ rfl rfl hl.1 rfl (lv_room (Nat.le_of_ble_eq_true rfl)) dX3_put_10 ⟨Nat.zero_le _, Nat.zero_le _⟩) (fun H locs hP hD hS => ?_)
    have hP := hP.sub (ws' := [(h0, .inr (3, [.int (nI S), .int (nI Wy), .ref (h1), .ref (h2), .ref (h3), .int (fl), .int (nI sb), .ref (h4), .int (us)])), (h1, .inl (cI, S * Wy, .inl (tg))), (h2, .inl (cI, S * Wy, .inl (kd))), (h3, .inl (cI, S * Wy, .inl (tt))), (h4, .inl (cI, S * Wy, .inl (lu)))]) [0, 1, 2, 3, 4] rfl
    have hD := hD.sub (ws' := [(h0, .inr (3, [.int (nI S), .int (nI Wy), .ref (h1), .ref (h2), .ref (h3), .int (fl), .int (nI sb), .ref (h4), .int (us)])), (h1, .inl (cI, S * Wy, .inl (tg))), (h2, .inl (cI, S * Wy, .inl (kd))), (h3, .inl (cI, S * Wy, .inl (tt))), (h4, .inl (cI, S * Wy, .inl (lu)))]) [0, 1, 2, 3, 4] (by decide) rfl
    rcases hf : tf_find S Wy sb (tg, kd, tt, lu, fl, us) (p0) with _ | o
    ·
      refine kt_i (y := -1) (rfl) ?_
      refine lv_istore (lv' := [(4, .int (-1)), (0, .ref (h0)), (1, .int (p0)), (2, .int (p1)), (3, .int (p2))]) hx hb dX3_put_13 hl (by decide) rfl (fun ls hl => ?_)
      refine lv_iload hx hb dX3_put_15 (lv_at hl 0 rfl) ?_
      refine lv_iconst (v := (-1)) hx hb dX3_put_17 (by decide) ?_
      refine lv_icmp_ne (tgt := 61) hx hb dX3_put_18 (by decide) (fun c_18 => absurd rfl c_18) (fun c_18 => ?_)
      refine lv_aload_n hx hb dX3_put_21 rfl (lv_at hl 1 rfl) ?_
      refine lv_iload_n hx hb dX3_put_22 rfl (lv_at hl 2 rfl) ?_
      obtain ⟨o, eo⟩ : ∃ o, o = tf_slot S Wy (tg, kd, tt, lu, fl, us) (p0) := ⟨_, rfl⟩
      have ho : o < S * Wy := by rw [eo]; exact tf_slot_lt _ _ hS0 hW
      refine kc_i (wc := [(h0, .inr (3, [.int (nI S), .int (nI Wy), .ref (h1), .ref (h2), .ref (h3), .int (fl), .int (nI sb), .ref (h4), .int (us)])), (h1, .inl (cI, S * Wy, .inl (tg))), (h2, .inl (cI, S * Wy, .inl (kd))), (h3, .inl (cI, S * Wy, .inl (tt))), (h4, .inl (cI, S * Wy, .inl (lu)))]) (wr := []) [0, 1, 2, 3, 4] [] rfl rfl (by decide) (by decide) hP hD hS hA (va_runV (As := [.int (p0)]) (rest := []) ⟨hx, hb, hml, hown, hts⟩ (c_X3_slotToFill l D cI cJ cZ _ _ _ _ _ _ _ _ _ _ _ _ _ _ _ _ hS0 hS2 hS16 hsb hW hW4) (cwV 1 hts (kw_V kw_442 kw_444 kw_11 kw_28 kw_445) rfl rfl rfl (by decide +kernel) ⟨Nat.le_of_ble_eq_true rfl, Nat.le_of_ble_eq_true rfl⟩) ⟨kP_blind, va_recv hK (hP.sub (ws' := [(h0, .inr (3, [.int (nI S), .int (nI Wy), .ref (h1), .ref (h2), .ref (h3), .int (fl), .int (nI sb), .ref (h4), .int (us)])), (h1, .inl (cI, S * Wy, .inl (tg))), (h2, .inl (cI, S * Wy, .inl (kd))), (h3, .inl (cI, S * Wy, .inl (tt))), (h4, .inl (cI, S * Wy, .inl (lu)))]) [0, 1, 2, 3, 4] rfl) (ci := 3) (q0 := 0) rfl rfl, kP_at (hP.sub [0, 1, 2, 3, 4] rfl) hK (hD.sub [0, 1, 2, 3, 4] (by decide) rfl)⟩ rfl rfl hl.1 rfl (lv_room (Nat.le_of_ble_eq_true rfl)) dX3_put_23 ⟨Nat.zero_le _, Nat.zero_le _⟩) (fun H locs hP hD hS => ?_)
      have hP := hP.sub (ws' := [(h0, .inr (3, [.int (nI S), .int (nI Wy), .ref (h1), .ref (h2), .ref (h3), .int (fl), .int (nI sb), .ref (h4), .int (us)])), (h1, .inl (cI, S * Wy, .inl (tg))), (h2, .inl (cI, S * Wy, .inl (kd))), (h3, .inl (cI, S * Wy, .inl (tt))), (h4, .inl (cI, S * Wy, .inl (lu)))]) [0, 1, 2, 3, 4] rfl
      have hD := hD.sub (ws' := [(h0, .inr (3, [.int (nI S), .int (nI Wy), .ref (h1), .ref (h2), .ref (h3), .int (fl), .int (nI sb), .ref (h4), .int (us)])), (h1, .inl (cI, S * Wy, .inl (tg))), (h2, .inl (cI, S * Wy, .inl (kd))), (h3, .inl (cI, S * Wy, .inl (tt))), (h4, .inl (cI, S * Wy, .inl (lu)))]) [0, 1, 2, 3, 4] (by decide) rfl
      refine kt_i (y := nI o) (congrArg nI eo.symm) ?_
      refine lv_istore (lv' := [(4, .int (nI o)), (0, .ref (h0)), (1, .int (p0)), (2, .int (p1)), (3, .int (p2))]) hx hb dX3_put_26 hl (by decide) rfl (fun ls hl => ?_)
      refine lv_aload_n hx hb dX3_put_28 rfl (lv_at hl 1 rfl) ?_
      refine va_get (D := D) (ci := 3) (v := .ref (h1)) (C := RX3) (T := TX3) (N := 9) hx hb hts (fun w h => List.mem_cons_of_mem _ (hiX3 w h)) hown hK hP 0 rfl rfl 2 (by decide) kf21 (fun _ h9 => h9) rfl dX3_put_29 ?_
      refine lv_iload hx hb dX3_put_32 (lv_at hl 0 rfl) ?_
      refine ka_ild hx hb hK hP 1 0 rfl rfl (k := o) (rfl) (⟨ho, by omega⟩) dX3_put_34 ?_
      refine lv_iconst (v := (-1)) hx hb dX3_put_35 (by decide) ?_
      refine lv_icmp_ne (tgt := 49) hx hb dX3_put_36 (by decide) (fun c_36 => ?_) (fun c_36 => ?_)
      ·
        refine lv_aload_n hx hb dX3_put_49 rfl (lv_at hl 1 rfl) ?_
        refine va_get (D := D) (ci := 3) (v := .ref (h1)) (C := RX3) (T := TX3) (N := 9) hx hb hts (fun w h => List.mem_cons_of_mem _ (hiX3 w h)) hown hK hP 0 rfl rfl 2 (by decide) kf21 (fun _ h9 => h9) rfl dX3_put_50 ?_
        refine lv_iload hx hb dX3_put_53 (lv_at hl 0 rfl) ?_
        refine lv_aload_n hx hb dX3_put_55 rfl (lv_at hl 1 rfl) ?_
        refine lv_iload_n hx hb dX3_put_56 rfl (lv_at hl 2 rfl) ?_
        refine kc_i (wc := [(h0, .inr (3, [.int (nI S), .int (nI Wy), .ref (h1), .ref (h2), .ref (h3), .int (fl), .int (nI sb), .ref (h4), .int (us)])), (h1, .inl (cI, S * Wy, .inl (tg))), (h2, .inl (cI, S * Wy, .inl (kd))), (h3, .inl (cI, S * Wy, .inl (tt))), (h4, .inl (cI, S * Wy, .inl (lu)))]) (wr := []) [0, 1, 2, 3, 4] [] rfl rfl (by decide) (by decide) hP hD hS hA (va_runV (As := [.int (p0)]) (rest := [.int (nI o), .ref (h1)]) ⟨hx, hb, hml, hown, hts⟩ (c_X3_tagOf l D cI cJ cZ _ _ _ _ _ _ _ _ _ _ _ _ _ _ _ _) (cwV 1 hts (kw_V kw_207 kw_209 kw_1 kw_28 kw_210) rfl rfl rfl (by decide +kernel) ⟨Nat.le_of_ble_eq_true rfl, Nat.le_of_ble_eq_true rfl⟩) ⟨kP_blind, va_recv hK (hP.sub (ws' := [(h0, .inr (3, [.int (nI S), .int (nI Wy), .ref (h1), .ref (h2), .ref (h3), .int (fl), .int (nI sb), .ref (h4), .int (us)])), (h1, .inl (cI, S * Wy, .inl (tg))), (h2, .inl (cI, S * Wy, .inl (kd))), (h3, .inl (cI, S * Wy, .inl (tt))), (h4, .inl (cI, S * Wy, .inl (lu)))]) [0, 1, 2, 3, 4] rfl) (ci := 3) (q0 := 0) rfl rfl, kP_at (hP.sub [0, 1, 2, 3, 4] rfl) hK (hD.sub [0, 1, 2, 3, 4] (by decide) rfl)⟩ rfl rfl hl.1 rfl (lv_room (Nat.le_of_ble_eq_true rfl)) dX3_put_57 ⟨Nat.zero_le _, Nat.zero_le _⟩) (fun H locs hP hD hS => ?_)
        have hP := hP.sub (ws' := [(h0, .inr (3, [.int (nI S), .int (nI Wy), .ref (h1), .ref (h2), .ref (h3), .int (fl), .int (nI sb), .ref (h4), .int (us)])), (h1, .inl (cI, S * Wy, .inl (tg))), (h2, .inl (cI, S * Wy, .inl (kd))), (h3, .inl (cI, S * Wy, .inl (tt))), (h4, .inl (cI, S * Wy, .inl (lu)))]) [0, 1, 2, 3, 4] rfl
        have hD := hD.sub (ws' := [(h0, .inr (3, [.int (nI S), .int (nI Wy), .ref (h1), .ref (h2), .ref (h3), .int (fl), .int (nI sb), .ref (h4), .int (us)])), (h1, .inl (cI, S * Wy, .inl (tg))), (h2, .inl (cI, S * Wy, .inl (kd))), (h3, .inl (cI, S * Wy, .inl (tt))), (h4, .inl (cI, S * Wy, .inl (lu)))]) [0, 1, 2, 3, 4] (by decide) rfl
        refine ka_ist hx hb hK hP hD hS 1 0 rfl rfl (k := o) (rfl) (⟨ho, by omega⟩) dX3_put_60 (fun H locs hP hD hS => ?_)
        have hP : va_P D vwCl [(h0, .inr (3, [.int (nI S), .int (nI Wy), .ref (h1), .ref (h2), .ref (h3), .int (fl), .int (nI sb), .ref (h4), .int (us)])), (h1, .inl (cI, S * Wy, .inl (upd (tg) (o) (ts_tag sb (p0))))), (h2, .inl (cI, S * Wy, .inl (kd))), (h3, .inl (cI, S * Wy, .inl (tt))), (h4, .inl (cI, S * Wy, .inl (lu)))] H := hP
        have hD : va_D A [(h0, .inr (3, [.int (nI S), .int (nI Wy), .ref (h1), .ref (h2), .ref (h3), .int (fl), .int (nI sb), .ref (h4), .int (us)])), (h1, .inl (cI, S * Wy, .inl (upd (tg) (o) (ts_tag sb (p0))))), (h2, .inl (cI, S * Wy, .inl (kd))), (h3, .inl (cI, S * Wy, .inl (tt))), (h4, .inl (cI, S * Wy, .inl (lu)))] := hD
        refine lv_aload_n hx hb dX3_put_61 rfl (lv_at hl 1 rfl) ?_
        refine va_get (D := D) (ci := 3) (v := .ref (h2)) (C := RX3) (T := TX3) (N := 9) hx hb hts (fun w h => List.mem_cons_of_mem _ (hiX3 w h)) hown hK hP 0 rfl rfl 3 (by decide) kf25 (fun _ h9 => h9) rfl dX3_put_62 ?_
        refine lv_iload hx hb dX3_put_65 (lv_at hl 0 rfl) ?_
        refine lv_iload_n hx hb dX3_put_67 rfl (lv_at hl 3 rfl) ?_
        refine ka_ist hx hb hK hP hD hS 2 0 rfl rfl (k := o) (rfl) (⟨ho, by omega⟩) dX3_put_68 (fun H locs hP hD hS => ?_)
        have hP : va_P D vwCl [(h0, .inr (3, [.int (nI S), .int (nI Wy), .ref (h1), .ref (h2), .ref (h3), .int (fl), .int (nI sb), .ref (h4), .int (us)])), (h1, .inl (cI, S * Wy, .inl (upd (tg) (o) (ts_tag sb (p0))))), (h2, .inl (cI, S * Wy, .inl (upd (kd) (o) (p1)))), (h3, .inl (cI, S * Wy, .inl (tt))), (h4, .inl (cI, S * Wy, .inl (lu)))] H := hP
        have hD : va_D A [(h0, .inr (3, [.int (nI S), .int (nI Wy), .ref (h1), .ref (h2), .ref (h3), .int (fl), .int (nI sb), .ref (h4), .int (us)])), (h1, .inl (cI, S * Wy, .inl (upd (tg) (o) (ts_tag sb (p0))))), (h2, .inl (cI, S * Wy, .inl (upd (kd) (o) (p1)))), (h3, .inl (cI, S * Wy, .inl (tt))), (h4, .inl (cI, S * Wy, .inl (lu)))] := hD
        refine lv_aload_n hx hb dX3_put_69 rfl (lv_at hl 1 rfl) ?_
        refine va_get (D := D) (ci := 3) (v := .ref (h3)) (C := RX3) (T := TX3) (N := 9) hx hb hts (fun w h => List.mem_cons_of_mem _ (hiX3 w h)) hown hK hP 0 rfl rfl 4 (by decide) kf28 (fun _ h9 => h9) rfl dX3_put_70 ?_
        refine lv_iload hx hb dX3_put_73 (lv_at hl 0 rfl) ?_
        refine lv_iload_n hx hb dX3_put_75 rfl (lv_at hl 4 rfl) ?_
        refine ka_ist hx hb hK hP hD hS 3 0 rfl rfl (k := o) (rfl) (⟨ho, by omega⟩) dX3_put_76 (fun H locs hP hD hS => ?_)
        have hP : va_P D vwCl [(h0, .inr (3, [.int (nI S), .int (nI Wy), .ref (h1), .ref (h2), .ref (h3), .int (fl), .int (nI sb), .ref (h4), .int (us)])), (h1, .inl (cI, S * Wy, .inl (upd (tg) (o) (ts_tag sb (p0))))), (h2, .inl (cI, S * Wy, .inl (upd (kd) (o) (p1)))), (h3, .inl (cI, S * Wy, .inl (upd (tt) (o) (p2)))), (h4, .inl (cI, S * Wy, .inl (lu)))] H := hP
        have hD : va_D A [(h0, .inr (3, [.int (nI S), .int (nI Wy), .ref (h1), .ref (h2), .ref (h3), .int (fl), .int (nI sb), .ref (h4), .int (us)])), (h1, .inl (cI, S * Wy, .inl (upd (tg) (o) (ts_tag sb (p0))))), (h2, .inl (cI, S * Wy, .inl (upd (kd) (o) (p1)))), (h3, .inl (cI, S * Wy, .inl (upd (tt) (o) (p2)))), (h4, .inl (cI, S * Wy, .inl (lu)))] := hD
        refine lv_aload_n hx hb dX3_put_77 rfl (lv_at hl 1 rfl) ?_
        refine lv_dup hx hb dX3_put_78 rfl ?_
        refine va_get (D := D) (ci := 3) (v := .int (us)) (C := RX3) (T := TX3) (N := 9) hx hb hts (fun w h => List.mem_cons_of_mem _ (hiX3 w h)) hown hK hP 0 rfl rfl 8 (by decide) kf56 (fun _ h9 => h9) rfl dX3_put_79 ?_
        refine lv_iconst (v := 1) hx hb dX3_put_82 (by decide) ?_
        refine lv_iadd hx hb dX3_put_83 ?_
        refine va_put (D := D) (ci := 3) (v := .int ((us) + (1))) (ty := .int) (C := RX3) (T := TX3) (N := 9) hx hb hts (fun w h => List.mem_cons_of_mem _ (hiX3 w h)) tyX3 tyX3_ok nmX3 hown hK hP hD hS 0 rfl rfl 8 (by decide) kf56 (fun _ h9 => h9) rfl (by decide +kernel) rfl rfl (Nat.le_of_ble_eq_true rfl) dX3_put_84 (fun H locs hP hD hS => ?_)
        have hP : va_P D vwCl [(h0, .inr (3, [.int (nI S), .int (nI Wy), .ref (h1), .ref (h2), .ref (h3), .int (fl), .int (nI sb), .ref (h4), .int ((us) + (1))])), (h1, .inl (cI, S * Wy, .inl (upd (tg) (o) (ts_tag sb (p0))))), (h2, .inl (cI, S * Wy, .inl (upd (kd) (o) (p1)))), (h3, .inl (cI, S * Wy, .inl (upd (tt) (o) (p2)))), (h4, .inl (cI, S * Wy, .inl (lu)))] H := hP
        have hD : va_D A [(h0, .inr (3, [.int (nI S), .int (nI Wy), .ref (h1), .ref (h2), .ref (h3), .int (fl), .int (nI sb), .ref (h4), .int ((us) + (1))])), (h1, .inl (cI, S * Wy, .inl (upd (tg) (o) (ts_tag sb (p0))))), (h2, .inl (cI, S * Wy, .inl (upd (kd) (o) (p1)))), (h3, .inl (cI, S * Wy, .inl (upd (tt) (o) (p2)))), (h4, .inl (cI, S * Wy, .inl (lu)))] := hD
        refine lv_aload_n hx hb dX3_put_87 rfl (lv_at hl 1 rfl) ?_
        refine va_get (D := D) (ci := 3) (v := .ref (h4)) (C := RX3) (T := TX3) (N := 9) hx hb hts (fun w h => List.mem_cons_of_mem _ (hiX3 w h)) hown hK hP 0 rfl rfl 7 (by decide) kf31 (fun _ h9 => h9) rfl dX3_put_88 ?_
        refine lv_iload hx hb dX3_put_91 (lv_at hl 0 rfl) ?_
        refine lv_aload_n hx hb dX3_put_93 rfl (lv_at hl 1 rfl) ?_
        refine va_get (D := D) (ci := 3) (v := .int ((us) + (1))) (C := RX3) (T := TX3) (N := 9) hx hb hts (fun w h => List.mem_cons_of_mem _ (hiX3 w h)) hown hK hP 0 rfl rfl 8 (by decide) kf56 (fun _ h9 => h9) rfl dX3_put_94 ?_
        refine ka_ist hx hb hK hP hD hS 4 0 rfl rfl (k := o) (rfl) (⟨ho, by omega⟩) dX3_put_97 (fun H locs hP hD hS => ?_)
        have hP : va_P D vwCl [(h0, .inr (3, [.int (nI S), .int (nI Wy), .ref (h1), .ref (h2), .ref (h3), .int (fl), .int (nI sb), .ref (h4), .int ((us) + (1))])), (h1, .inl (cI, S * Wy, .inl (upd (tg) (o) (ts_tag sb (p0))))), (h2, .inl (cI, S * Wy, .inl (upd (kd) (o) (p1)))), (h3, .inl (cI, S * Wy, .inl (upd (tt) (o) (p2)))), (h4, .inl (cI, S * Wy, .inl (upd (lu) (o) ((us) + (1)))))] H := hP
        have hD : va_D A [(h0, .inr (3, [.int (nI S), .int (nI Wy), .ref (h1), .ref (h2), .ref (h3), .int (fl), .int (nI sb), .ref (h4), .int ((us) + (1))])), (h1, .inl (cI, S * Wy, .inl (upd (tg) (o) (ts_tag sb (p0))))), (h2, .inl (cI, S * Wy, .inl (upd (kd) (o) (p1)))), (h3, .inl (cI, S * Wy, .inl (upd (tt) (o) (p2)))), (h4, .inl (cI, S * Wy, .inl (upd (lu) (o) ((us) + (1)))))] := hD
        exact kr_v (congrArg (wTab h0 h1 h2 h3 h4 cI S Wy sb ) (show ((upd (tg) (o) (ts_tag sb (p0)), upd (kd) (o) (p1), upd (tt) (o) (p2), upd (lu) (o) ((us) + (1)), fl, (us) + (1)) : Tb) = tf_put S Wy sb (tg, kd, tt, lu, fl, us) p0 p1 p2 from by simp only [tf_put, if_neg hS0, hf, ← eo, if_neg c_36])) hx hb hr hlocks hP hK hD hS trivial dX3_put_98
      ·
        refine lv_aload_n hx hb dX3_put_39 rfl (lv_at hl 1 rfl) ?_
        refine lv_dup hx hb dX3_put_40 rfl ?_
        refine va_get (D := D) (ci := 3) (v := .int (fl)) (C := RX3) (T := TX3) (N := 9) hx hb hts (fun w h => List.mem_cons_of_mem _ (hiX3 w h)) hown hK hP 0 rfl rfl 5 (by decide) kf53 (fun _ h9 => h9) rfl dX3_put_41 ?_
        refine lv_iconst (v := 1) hx hb dX3_put_44 (by decide) ?_
        refine lv_iadd hx hb dX3_put_45 ?_
        refine va_put (D := D) (ci := 3) (v := .int ((fl) + (1))) (ty := .int) (C := RX3) (T := TX3) (N := 9) hx hb hts (fun w h => List.mem_cons_of_mem _ (hiX3 w h)) tyX3 tyX3_ok nmX3 hown hK hP hD hS 0 rfl rfl 5 (by decide) kf53 (fun _ h9 => h9) rfl (by decide +kernel) rfl rfl (Nat.le_of_ble_eq_true rfl) dX3_put_46 (fun H locs hP hD hS => ?_)
        have hP : va_P D vwCl [(h0, .inr (3, [.int (nI S), .int (nI Wy), .ref (h1), .ref (h2), .ref (h3), .int ((fl) + (1)), .int (nI sb), .ref (h4), .int (us)])), (h1, .inl (cI, S * Wy, .inl (tg))), (h2, .inl (cI, S * Wy, .inl (kd))), (h3, .inl (cI, S * Wy, .inl (tt))), (h4, .inl (cI, S * Wy, .inl (lu)))] H := hP
        have hD : va_D A [(h0, .inr (3, [.int (nI S), .int (nI Wy), .ref (h1), .ref (h2), .ref (h3), .int ((fl) + (1)), .int (nI sb), .ref (h4), .int (us)])), (h1, .inl (cI, S * Wy, .inl (tg))), (h2, .inl (cI, S * Wy, .inl (kd))), (h3, .inl (cI, S * Wy, .inl (tt))), (h4, .inl (cI, S * Wy, .inl (lu)))] := hD
        refine lv_aload_n hx hb dX3_put_49 rfl (lv_at hl 1 rfl) ?_
        refine va_get (D := D) (ci := 3) (v := .ref (h1)) (C := RX3) (T := TX3) (N := 9) hx hb hts (fun w h => List.mem_cons_of_mem _ (hiX3 w h)) hown hK hP 0 rfl rfl 2 (by decide) kf21 (fun _ h9 => h9) rfl dX3_put_50 ?_
        refine lv_iload hx hb dX3_put_53 (lv_at hl 0 rfl) ?_
        refine lv_aload_n hx hb dX3_put_55 rfl (lv_at hl 1 rfl) ?_
        refine lv_iload_n hx hb dX3_put_56 rfl (lv_at hl 2 rfl) ?_
        refine kc_i (wc := [(h0, .inr (3, [.int (nI S), .int (nI Wy), .ref (h1), .ref (h2), .ref (h3), .int ((fl) + (1)), .int (nI sb), .ref (h4), .int (us)])), (h1, .inl (cI, S * Wy, .inl (tg))), (h2, .inl (cI, S * Wy, .inl (kd))), (h3, .inl (cI, S * Wy, .inl (tt))), (h4, .inl (cI, S * Wy, .inl (lu)))]) (wr := []) [0, 1, 2, 3, 4] [] rfl rfl (by decide) (by decide) hP hD hS hA (va_runV (As := [.int (p0)]) (rest := [.int (nI o), .ref (h1)]) ⟨hx, hb, hml, hown, hts⟩ (c_X3_tagOf l D cI cJ cZ _ _ _ _ _ _ _ _ _ _ _ _ _ _ _ _) (cwV 1 hts (kw_V kw_207 kw_209 kw_1 kw_28 kw_210) rfl rfl rfl (by decide +kernel) ⟨Nat.le_of_ble_eq_true rfl, Nat.le_of_ble_eq_true rfl⟩) ⟨kP_blind, va_recv hK (hP.sub (ws' := [(h0, .inr (3, [.int (nI S), .int (nI Wy), .ref (h1), .ref (h2), .ref (h3), .int ((fl) + (1)), .int (nI sb), .ref (h4), .int (us)])), (h1, .inl (cI, S * Wy, .inl (tg))), (h2, .inl (cI, S * Wy, .inl (kd))), (h3, .inl (cI, S * Wy, .inl (tt))), (h4, .inl (cI, S * Wy, .inl (lu)))]) [0, 1, 2, 3, 4] rfl) (ci := 3) (q0 := 0) rfl rfl, kP_at (hP.sub [0, 1, 2, 3, 4] rfl) hK (hD.sub [0, 1, 2, 3, 4] (by decide) rfl)⟩ rfl rfl hl.1 rfl (lv_room (Nat.le_of_ble_eq_true rfl)) dX3_put_57 ⟨Nat.zero_le _, Nat.zero_le _⟩) (fun H locs hP hD hS => ?_)
        have hP := hP.sub (ws' := [(h0, .inr (3, [.int (nI S), .int (nI Wy), .ref (h1), .ref (h2), .ref (h3), .int ((fl) + (1)), .int (nI sb), .ref (h4), .int (us)])), (h1, .inl (cI, S * Wy, .inl (tg))), (h2, .inl (cI, S * Wy, .inl (kd))), (h3, .inl (cI, S * Wy, .inl (tt))), (h4, .inl (cI, S * Wy, .inl (lu)))]) [0, 1, 2, 3, 4] rfl
        have hD := hD.sub (ws' := [(h0, .inr (3, [.int (nI S), .int (nI Wy), .ref (h1), .ref (h2), .ref (h3), .int ((fl) + (1)), .int (nI sb), .ref (h4), .int (us)])), (h1, .inl (cI, S * Wy, .inl (tg))), (h2, .inl (cI, S * Wy, .inl (kd))), (h3, .inl (cI, S * Wy, .inl (tt))), (h4, .inl (cI, S * Wy, .inl (lu)))]) [0, 1, 2, 3, 4] (by decide) rfl
        refine ka_ist hx hb hK hP hD hS 1 0 rfl rfl (k := o) (rfl) (⟨ho, by omega⟩) dX3_put_60 (fun H locs hP hD hS => ?_)
        have hP : va_P D vwCl [(h0, .inr (3, [.int (nI S), .int (nI Wy), .ref (h1), .ref (h2), .ref (h3), .int ((fl) + (1)), .int (nI sb), .ref (h4), .int (us)])), (h1, .inl (cI, S * Wy, .inl (upd (tg) (o) (ts_tag sb (p0))))), (h2, .inl (cI, S * Wy, .inl (kd))), (h3, .inl (cI, S * Wy, .inl (tt))), (h4, .inl (cI, S * Wy, .inl (lu)))] H := hP
        have hD : va_D A [(h0, .inr (3, [.int (nI S), .int (nI Wy), .ref (h1), .ref (h2), .ref (h3), .int ((fl) + (1)), .int (nI sb), .ref (h4), .int (us)])), (h1, .inl (cI, S * Wy, .inl (upd (tg) (o) (ts_tag sb (p0))))), (h2, .inl (cI, S * Wy, .inl (kd))), (h3, .inl (cI, S * Wy, .inl (tt))), (h4, .inl (cI, S * Wy, .inl (lu)))] := hD
        refine lv_aload_n hx hb dX3_put_61 rfl (lv_at hl 1 rfl) ?_
        refine va_get (D := D) (ci := 3) (v := .ref (h2)) (C := RX3) (T := TX3) (N := 9) hx hb hts (fun w h => List.mem_cons_of_mem _ (hiX3 w h)) hown hK hP 0 rfl rfl 3 (by decide) kf25 (fun _ h9 => h9) rfl dX3_put_62 ?_
        refine lv_iload hx hb dX3_put_65 (lv_at hl 0 rfl) ?_
        refine lv_iload_n hx hb dX3_put_67 rfl (lv_at hl 3 rfl) ?_
        refine ka_ist hx hb hK hP hD hS 2 0 rfl rfl (k := o) (rfl) (⟨ho, by omega⟩) dX3_put_68 (fun H locs hP hD hS => ?_)
        have hP : va_P D vwCl [(h0, .inr (3, [.int (nI S), .int (nI Wy), .ref (h1), .ref (h2), .ref (h3), .int ((fl) + (1)), .int (nI sb), .ref (h4), .int (us)])), (h1, .inl (cI, S * Wy, .inl (upd (tg) (o) (ts_tag sb (p0))))), (h2, .inl (cI, S * Wy, .inl (upd (kd) (o) (p1)))), (h3, .inl (cI, S * Wy, .inl (tt))), (h4, .inl (cI, S * Wy, .inl (lu)))] H := hP
        have hD : va_D A [(h0, .inr (3, [.int (nI S), .int (nI Wy), .ref (h1), .ref (h2), .ref (h3), .int ((fl) + (1)), .int (nI sb), .ref (h4), .int (us)])), (h1, .inl (cI, S * Wy, .inl (upd (tg) (o) (ts_tag sb (p0))))), (h2, .inl (cI, S * Wy, .inl (upd (kd) (o) (p1)))), (h3, .inl (cI, S * Wy, .inl (tt))), (h4, .inl (cI, S * Wy, .inl (lu)))] := hD
        refine lv_aload_n hx hb dX3_put_69 rfl (lv_at hl 1 rfl) ?_
        refine va_get (D := D) (ci := 3) (v := .ref (h3)) (C := RX3) (T := TX3) (N := 9) hx hb hts (fun w h => List.mem_cons_of_mem _ (hiX3 w h)) hown hK hP 0 rfl rfl 4 (by decide) kf28 (fun _ h9 => h9) rfl dX3_put_70 ?_
        refine lv_iload hx hb dX3_put_73 (lv_at hl 0 rfl) ?_
        refine lv_iload_n hx hb dX3_put_75 rfl (lv_at hl 4 rfl) ?_
        refine ka_ist hx hb hK hP hD hS 3 0 rfl rfl (k := o) (rfl) (⟨ho, by omega⟩) dX3_put_76 (fun H locs hP hD hS => ?_)
        have hP : va_P D vwCl [(h0, .inr (3, [.int (nI S), .int (nI Wy), .ref (h1), .ref (h2), .ref (h3), .int ((fl) + (1)), .int (nI sb), .ref (h4), .int (us)])), (h1, .inl (cI, S * Wy, .inl (upd (tg) (o) (ts_tag sb (p0))))), (h2, .inl (cI, S * Wy, .inl (upd (kd) (o) (p1)))), (h3, .inl (cI, S * Wy, .inl (upd (tt) (o) (p2)))), (h4, .inl (cI, S * Wy, .inl (lu)))] H := hP
        have hD : va_D A [(h0, .inr (3, [.int (nI S), .int (nI Wy), .ref (h1), .ref (h2), .ref (h3), .int ((fl) + (1)), .int (nI sb), .ref (h4), .int (us)])), (h1, .inl (cI, S * Wy, .inl (upd (tg) (o) (ts_tag sb (p0))))), (h2, .inl (cI, S * Wy, .inl (upd (kd) (o) (p1)))), (h3, .inl (cI, S * Wy, .inl (upd (tt) (o) (p2)))), (h4, .inl (cI, S * Wy, .inl (lu)))] := hD
        refine lv_aload_n hx hb dX3_put_77 rfl (lv_at hl 1 rfl) ?_
        refine lv_dup hx hb dX3_put_78 rfl ?_
        refine va_get (D := D) (ci := 3) (v := .int (us)) (C := RX3) (T := TX3) (N := 9) hx hb hts (fun w h => List.mem_cons_of_mem _ (hiX3 w h)) hown hK hP 0 rfl rfl 8 (by decide) kf56 (fun _ h9 => h9) rfl dX3_put_79 ?_
        refine lv_iconst (v := 1) hx hb dX3_put_82 (by decide) ?_
        refine lv_iadd hx hb dX3_put_83 ?_
        refine va_put (D := D) (ci := 3) (v := .int ((us) + (1))) (ty := .int) (C := RX3) (T := TX3) (N := 9) hx hb hts (fun w h => List.mem_cons_of_mem _ (hiX3 w h)) tyX3 tyX3_ok nmX3 hown hK hP hD hS 0 rfl rfl 8 (by decide) kf56 (fun _ h9 => h9) rfl (by decide +kernel) rfl rfl (Nat.le_of_ble_eq_true rfl) dX3_put_84 (fun H locs hP hD hS => ?_)
        have hP : va_P D vwCl [(h0, .inr (3, [.int (nI S), .int (nI Wy), .ref (h1), .ref (h2), .ref (h3), .int ((fl) + (1)), .int (nI sb), .ref (h4), .int ((us) + (1))])), (h1, .inl (cI, S * Wy, .inl (upd (tg) (o) (ts_tag sb (p0))))), (h2, .inl (cI, S * Wy, .inl (upd (kd) (o) (p1)))), (h3, .inl (cI, S * Wy, .inl (upd (tt) (o) (p2)))), (h4, .inl (cI, S * Wy, .inl (lu)))] H := hP
        have hD : va_D A [(h0, .inr (3, [.int (nI S), .int (nI Wy), .ref (h1), .ref (h2), .ref (h3), .int ((fl) + (1)), .int (nI sb), .ref (h4), .int ((us) + (1))])), (h1, .inl (cI, S * Wy, .inl (upd (tg) (o) (ts_tag sb (p0))))), (h2, .inl (cI, S * Wy, .inl (upd (kd) (o) (p1)))), (h3, .inl (cI, S * Wy, .inl (upd (tt) (o) (p2)))), (h4, .inl (cI, S * Wy, .inl (lu)))] := hD
        refine lv_aload_n hx hb dX3_put_87 rfl (lv_at hl 1 rfl) ?_
        refine va_get (D := D) (ci := 3) (v := .ref (h4)) (C := RX3) (T := TX3) (N := 9) hx hb hts (fun w h => List.mem_cons_of_mem _ (hiX3 w h)) hown hK hP 0 rfl rfl 7 (by decide) kf31 (fun _ h9 => h9) rfl dX3_put_88 ?_
        refine lv_iload hx hb dX3_put_91 (lv_at hl 0 rfl) ?_
        refine lv_aload_n hx hb dX3_put_93 rfl (lv_at hl 1 rfl) ?_
        refine va_get (D := D) (ci := 3) (v := .int ((us) + (1))) (C := RX3) (T := TX3) (N := 9) hx hb hts (fun w h => List.mem_cons_of_mem _ (hiX3 w h)) hown hK hP 0 rfl rfl 8 (by decide) kf56 (fun _ h9 => h9) rfl dX3_put_94 ?_
        refine ka_ist hx hb hK hP hD hS 4 0 rfl rfl (k := o) (rfl) (⟨ho, by omega⟩) dX3_put_97 (fun H locs hP hD hS => ?_)
        have hP : va_P D vwCl [(h0, .inr (3, [.int (nI S), .int (nI Wy), .ref (h1), .ref (h2), .ref (h3), .int ((fl) + (1)), .int (nI sb), .ref (h4), .int ((us) + (1))])), (h1, .inl (cI, S * Wy, .inl (upd (tg) (o) (ts_tag sb (p0))))), (h2, .inl (cI, S * Wy, .inl (upd (kd) (o) (p1)))), (h3, .inl (cI, S * Wy, .inl (upd (tt) (o) (p2)))), (h4, .inl (cI, S * Wy, .inl (upd (lu) (o) ((us) + (1)))))] H := hP
        have hD : va_D A [(h0, .inr (3, [.int (nI S), .int (nI Wy), .ref (h1), .ref (h2), .ref (h3), .int ((fl) + (1)), .int (nI sb), .ref (h4), .int ((us) + (1))])), (h1, .inl (cI, S * Wy, .inl (upd (tg) (o) (ts_tag sb (p0))))), (h2, .inl (cI, S * Wy, .inl (upd (kd) (o) (p1)))), (h3, .inl (cI, S * Wy, .inl (upd (tt) (o) (p2)))), (h4, .inl (cI, S * Wy, .inl (upd (lu) (o) ((us) + (1)))))] := hD
        exact kr_v (congrArg (wTab h0 h1 h2 h3 h4 cI S Wy sb ) (show ((upd (tg) (o) (ts_tag sb (p0)), upd (kd) (o) (p1), upd (tt) (o) (p2), upd (lu) (o) ((us) + (1)), (fl) + (1), (us) + (1)) : Tb) = tf_put S Wy sb (tg, kd, tt, lu, fl, us) p0 p1 p2 from by simp only [tf_put, if_neg hS0, hf, ← eo, if_pos c_36])) hx hb hr hlocks hP hK hD hS trivial dX3_put_98
    ·
      have ho : o < S * Wy := (tf_find_lt hf).2.1
      refine kt_i (y := nI o) (rfl) ?_
      refine lv_istore (lv' := [(4, .int (nI o)), (0, .ref (h0)), (1, .int (p0)), (2, .int (p1)), (3, .int (p2))]) hx hb dX3_put_13 hl (by decide) rfl (fun ls hl => ?_)
      refine lv_iload hx hb dX3_put_15 (lv_at hl 0 rfl) ?_
      refine lv_iconst (v := (-1)) hx hb dX3_put_17 (by decide) ?_
      refine lv_icmp_ne (tgt := 61) hx hb dX3_put_18 (by decide) (fun c_18 => ?_) (fun c_18 => absurd c_18 (nI_nm1 (by omega)))
      refine lv_aload_n hx hb dX3_put_61 rfl (lv_at hl 1 rfl) ?_
      refine va_get (D := D) (ci := 3) (v := .ref (h2)) (C := RX3) (T := TX3) (N := 9) hx hb hts (fun w h => List.mem_cons_of_mem _ (hiX3 w h)) hown hK hP 0 rfl rfl 3 (by decide) kf25 (fun _ h9 => h9) rfl dX3_put_62 ?_
      refine lv_iload hx hb dX3_put_65 (lv_at hl 0 rfl) ?_
      refine lv_iload_n hx hb dX3_put_67 rfl (lv_at hl 3 rfl) ?_
      refine ka_ist hx hb hK hP hD hS 2 0 rfl rfl (k := o) (rfl) (⟨ho, by omega⟩) dX3_put_68 (fun H locs hP hD hS => ?_)
      have hP : va_P D vwCl [(h0, .inr (3, [.int (nI S), .int (nI Wy), .ref (h1), .ref (h2), .ref (h3), .int (fl), .int (nI sb), .ref (h4), .int (us)])), (h1, .inl (cI, S * Wy, .inl (tg))), (h2, .inl (cI, S * Wy, .inl (upd (kd) (o) (p1)))), (h3, .inl (cI, S * Wy, .inl (tt))), (h4, .inl (cI, S * Wy, .inl (lu)))] H := hP
      have hD : va_D A [(h0, .inr (3, [.int (nI S), .int (nI Wy), .ref (h1), .ref (h2), .ref (h3), .int (fl), .int (nI sb), .ref (h4), .int (us)])), (h1, .inl (cI, S * Wy, .inl (tg))), (h2, .inl (cI, S * Wy, .inl (upd (kd) (o) (p1)))), (h3, .inl (cI, S * Wy, .inl (tt))), (h4, .inl (cI, S * Wy, .inl (lu)))] := hD
      refine lv_aload_n hx hb dX3_put_69 rfl (lv_at hl 1 rfl) ?_
      refine va_get (D := D) (ci := 3) (v := .ref (h3)) (C := RX3) (T := TX3) (N := 9) hx hb hts (fun w h => List.mem_cons_of_mem _ (hiX3 w h)) hown hK hP 0 rfl rfl 4 (by decide) kf28 (fun _ h9 => h9) rfl dX3_put_70 ?_
      refine lv_iload hx hb dX3_put_73 (lv_at hl 0 rfl) ?_
      refine lv_iload_n hx hb dX3_put_75 rfl (lv_at hl 4 rfl) ?_
      refine ka_ist hx hb hK hP hD hS 3 0 rfl rfl (k := o) (rfl) (⟨ho, by omega⟩) dX3_put_76 (fun H locs hP hD hS => ?_)
      have hP : va_P D vwCl [(h0, .inr (3, [.int (nI S), .int (nI Wy), .ref (h1), .ref (h2), .ref (h3), .int (fl), .int (nI sb), .ref (h4), .int (us)])), (h1, .inl (cI, S * Wy, .inl (tg))), (h2, .inl (cI, S * Wy, .inl (upd (kd) (o) (p1)))), (h3, .inl (cI, S * Wy, .inl (upd (tt) (o) (p2)))), (h4, .inl (cI, S * Wy, .inl (lu)))] H := hP
      have hD : va_D A [(h0, .inr (3, [.int (nI S), .int (nI Wy), .ref (h1), .ref (h2), .ref (h3), .int (fl), .int (nI sb), .ref (h4), .int (us)])), (h1, .inl (cI, S * Wy, .inl (tg))), (h2, .inl (cI, S * Wy, .inl (upd (kd) (o) (p1)))), (h3, .inl (cI, S * Wy, .inl (upd (tt) (o) (p2)))), (h4, .inl (cI, S * Wy, .inl (lu)))] := hD
      refine lv_aload_n hx hb dX3_put_77 rfl (lv_at hl 1 rfl) ?_
      refine lv_dup hx hb dX3_put_78 rfl ?_
      refine va_get (D := D) (ci := 3) (v := .int (us)) (C := RX3) (T := TX3) (N := 9) hx hb hts (fun w h => List.mem_cons_of_mem _ (hiX3 w h)) hown hK hP 0 rfl rfl 8 (by decide) kf56 (fun _ h9 => h9) rfl dX3_put_79 ?_
      refine lv_iconst (v := 1) hx hb dX3_put_82 (by decide) ?_
      refine lv_iadd hx hb dX3_put_83 ?_
      refine va_put (D := D) (ci := 3) (v := .int ((us) + (1))) (ty := .int) (C := RX3) (T := TX3) (N := 9) hx hb hts (fun w h => List.mem_cons_of_mem _ (hiX3 w h)) tyX3 tyX3_ok nmX3 hown hK hP hD hS 0 rfl rfl 8 (by decide) kf56 (fun _ h9 => h9) rfl (by decide +kernel) rfl rfl (Nat.le_of_ble_eq_true rfl) dX3_put_84 (fun H locs hP hD hS => ?_)
      have hP : va_P D vwCl [(h0, .inr (3, [.int (nI S), .int (nI Wy), .ref (h1), .ref (h2), .ref (h3), .int (fl), .int (nI sb), .ref (h4), .int ((us) + (1))])), (h1, .inl (cI, S * Wy, .inl (tg))), (h2, .inl (cI, S * Wy, .inl (upd (kd) (o) (p1)))), (h3, .inl (cI, S * Wy, .inl (upd (tt) (o) (p2)))), (h4, .inl (cI, S * Wy, .inl (lu)))] H := hP
      have hD : va_D A [(h0, .inr (3, [.int (nI S), .int (nI Wy), .ref (h1), .ref (h2), .ref (h3), .int (fl), .int (nI sb), .ref (h4), .int ((us) + (1))])), (h1, .inl (cI, S * Wy, .inl (tg))), (h2, .inl (cI, S * Wy, .inl (upd (kd) (o) (p1)))), (h3, .inl (cI, S * Wy, .inl (upd (tt) (o) (p2)))), (h4, .inl (cI, S * Wy, .inl (lu)))] := hD
      refine lv_aload_n hx hb dX3_put_87 rfl (lv_at hl 1 rfl) ?_
      refine va_get (D := D) (ci := 3) (v := .ref (h4)) (C := RX3) (T := TX3) (N := 9) hx hb hts (fun w h => List.mem_cons_of_mem _ (hiX3 w h)) hown hK hP 0 rfl rfl 7 (by decide) kf31 (fun _ h9 => h9) rfl dX3_put_88 ?_
      refine lv_iload hx hb dX3_put_91 (lv_at hl 0 rfl) ?_
      refine lv_aload_n hx hb dX3_put_93 rfl (lv_at hl 1 rfl) ?_
      refine va_get (D := D) (ci := 3) (v := .int ((us) + (1))) (C := RX3) (T := TX3) (N := 9) hx hb hts (fun w h => List.mem_cons_of_mem _ (hiX3 w h)) hown hK hP 0 rfl rfl 8 (by decide) kf56 (fun _ h9 => h9) rfl dX3_put_94 ?_
      refine ka_ist hx hb hK hP hD hS 4 0 rfl rfl (k := o) (rfl) (⟨ho, by omega⟩) dX3_put_97 (fun H locs hP hD hS => ?_)
      have hP : va_P D vwCl [(h0, .inr (3, [.int (nI S), .int (nI Wy), .ref (h1), .ref (h2), .ref (h3), .int (fl), .int (nI sb), .ref (h4), .int ((us) + (1))])), (h1, .inl (cI, S * Wy, .inl (tg))), (h2, .inl (cI, S * Wy, .inl (upd (kd) (o) (p1)))), (h3, .inl (cI, S * Wy, .inl (upd (tt) (o) (p2)))), (h4, .inl (cI, S * Wy, .inl (upd (lu) (o) ((us) + (1)))))] H := hP
      have hD : va_D A [(h0, .inr (3, [.int (nI S), .int (nI Wy), .ref (h1), .ref (h2), .ref (h3), .int (fl), .int (nI sb), .ref (h4), .int ((us) + (1))])), (h1, .inl (cI, S * Wy, .inl (tg))), (h2, .inl (cI, S * Wy, .inl (upd (kd) (o) (p1)))), (h3, .inl (cI, S * Wy, .inl (upd (tt) (o) (p2)))), (h4, .inl (cI, S * Wy, .inl (upd (lu) (o) ((us) + (1)))))] := hD
      exact kr_v (congrArg (wTab h0 h1 h2 h3 h4 cI S Wy sb ) (show ((tg, upd (kd) (o) (p1), upd (tt) (o) (p2), upd (lu) (o) ((us) + (1)), fl, (us) + (1)) : Tb) = tf_put S Wy sb (tg, kd, tt, lu, fl, us) p0 p1 p2 from by simp only [tf_put, if_neg hS0, hf])) hx hb hr hlocks hP hK hD hS trivial dX3_put_98
  ·
    have hS0 : S = 0 := by
      rcases Nat.eq_zero_or_pos S with q | q
      · exact q
      · exact absurd c_4 (nI_ne0 q (by omega))
    exact kr_v (congrArg (wTab h0 h1 h2 h3 h4 cI S Wy sb ) (show ((tg, kd, tt, lu, fl, us) : Tb) = tf_put S Wy sb (tg, kd, tt, lu, fl, us) p0 p1 p2 from by simp only [tf_put, if_pos hS0])) hx hb hr hlocks hP hK hD hS trivial dX3_put_7
