set_option maxHeartbeats 4000000 in
set_option maxRecDepth 100000 in
/-- the tag of a row -/
theorem c_X0_tagOf (l : Launch) (D : va_G) (cI cJ cZ : ClassId) (sz : Nat) (p0 : Int32) : KI l yX0_tagOf wsX0_tagOf ({ frames := 0, cells := 0, slots := 0, locals := 0 } : Room) D (kTy cI cJ cZ) [.int (p0)] [] sz ([]) (hf_tag p0) 0 0 := by
  refine Met.ofW (cc := cX0_tagOf) (maxL := 1) (ret := (some .int)) (by decide) rfl ?_
  intro p e s m args below meth c s₁ B hml hv
  obtain ⟨rfl, hsz, hP, hK, hD0⟩ := hv
  have hx := B.exec
  have hb := B.bytes
  have hr := B.returns
  have hts := atoms_spec (ws := wsX0_tagOf) B.pre
  have hown : s.vm.findClass RX0 = some m.cls := findClass_of_methodNamed B.named
  have hlocks := B.notSynchronized
  subst hsz
  have hD := hD0.self (sz := s.heap.size)
  generalize hAe : va_A [] s.heap.size = A at hD ⊢
  have hA : ∀ q : Nat, s.heap.size ≤ q → A q := fun q h => by rw [← hAe]; exact Or.inr h
  have hS : va_S A s.heap s.heap [] := va_S.rf
  have hP : va_P D vwCl [] s.heap := hP
  have hD : va_D A [] := hD
  have hl := lv_entry ([.int (p0)]) (n := 1) (Nat.le_of_ble_eq_true rfl)
  rw [lg_entry_eq]
  generalize (lg_sl ([.int (p0)]) ++ List.replicate (1 - (lg_sl ([.int (p0)])).length) Slot.unset).toArray = ls at hl ⊢
  have hl : lv_has ls 1 [(0, .int (p0))] := hl
  refine lv_iload_n hx hb dX0_tagOf_0 rfl (lv_at hl 0 rfl) ?_
  refine lv_bipush (v := 8) hx hb dX0_tagOf_1 (by decide) ?_
  refine lv_iushr (v := k_ush (p0) (8)) hx hb dX0_tagOf_3 rfl ?_
  refine lv_sipush (v := 255) hx hb dX0_tagOf_4 (by decide) ?_
  refine lv_iand hx hb dX0_tagOf_7 ?_
  exact kr_i (rfl) hx hb hr hlocks hP hK hD hS (rfl) dX0_tagOf_8

set_option maxHeartbeats 4000000 in
set_option maxRecDepth 100000 in
/-- the row of a place -/
theorem c_X0_indexFor (l : Launch) (D : va_G) (cI cJ cZ : ClassId) (sz : Nat) (h0 h1 h2 : Nat) (hg hq : Fn) (hh : Int32) (p0 : Int32) : KI l yX0_indexFor wsX0_indexFor ({ frames := 0, cells := 0, slots := 0, locals := 0 } : Room) D (kTy cI cJ cZ) [.ref (h0), .int (p0)] [(h0, .inr (0, [.ref (h1), .ref (h2), .int (hh)])), (h1, .inl (cI, 64, .inl (hg))), (h2, .inl (cI, 64, .inl (hq)))] sz (wHis h0 h1 h2 cI (hg, hq, hh)) (nI (hf_ix hh p0)) 0 0 := by
  refine Met.ofW (cc := cX0_indexFor) (maxL := 3) (ret := (some .int)) (by decide) rfl ?_
  intro p e s m args below meth c s₁ B hml hv
  obtain ⟨rfl, hsz, hP, hK, hD0⟩ := hv
  have hx := B.exec
  have hb := B.bytes
  have hr := B.returns
  have hts := atoms_spec (ws := wsX0_indexFor) B.pre
  have hown : s.vm.findClass RX0 = some m.cls := findClass_of_methodNamed B.named
  have hlocks := B.notSynchronized
  have kf31 := hts (.fieldLink RX0 31 "TargetRows$HistoryRows" "history" "I") (List.mem_cons_of_mem _ kw_108)
  subst hsz
  have hD := hD0.self (sz := s.heap.size)
  generalize hAe : va_A [(h0, .inr (0, [.ref (h1), .ref (h2), .int (hh)])), (h1, .inl (cI, 64, .inl (hg))), (h2, .inl (cI, 64, .inl (hq)))] s.heap.size = A at hD ⊢
  have hA : ∀ q : Nat, s.heap.size ≤ q → A q := fun q h => by rw [← hAe]; exact Or.inr h
  have hS : va_S A s.heap s.heap [] := va_S.rf
  have hP : va_P D vwCl [(h0, .inr (0, [.ref (h1), .ref (h2), .int (hh)])), (h1, .inl (cI, 64, .inl (hg))), (h2, .inl (cI, 64, .inl (hq)))] s.heap := hP
  have hD : va_D A [(h0, .inr (0, [.ref (h1), .ref (h2), .int (hh)])), (h1, .inl (cI, 64, .inl (hg))), (h2, .inl (cI, 64, .inl (hq)))] := hD
  have hl := lv_entry ([.ref (h0), .int (p0)]) (n := 3) (Nat.le_of_ble_eq_true rfl)
  rw [lg_entry_eq]
  generalize (lg_sl ([.ref (h0), .int (p0)]) ++ List.replicate (3 - (lg_sl ([.ref (h0), .int (p0)])).length) Slot.unset).toArray = ls at hl ⊢
  have hl : lv_has ls 3 [(0, .ref (h0)), (1, .int (p0))] := hl
  refine lv_aload_n hx hb dX0_indexFor_0 rfl (lv_at hl 0 rfl) ?_
  refine va_get (D := D) (ci := 0) (v := .int (hh)) (C := RX0) (T := TX0) (N := 3) hx hb hts (fun w h => List.mem_cons_of_mem _ (hiX0 w h)) hown hK hP 0 rfl rfl 2 (by decide) kf31 (fun _ h9 => h9) rfl dX0_indexFor_1 ?_
  refine lv_aload_n hx hb dX0_indexFor_4 rfl (lv_at hl 0 rfl) ?_
  refine va_get (D := D) (ci := 0) (v := .int (hh)) (C := RX0) (T := TX0) (N := 3) hx hb hts (fun w h => List.mem_cons_of_mem _ (hiX0 w h)) hown hK hP 0 rfl rfl 2 (by decide) kf31 (fun _ h9 => h9) rfl dX0_indexFor_5 ?_
  refine lv_bipush (v := 6) hx hb dX0_indexFor_8 (by decide) ?_
  refine lv_iushr (v := k_ush (hh) (6)) hx hb dX0_indexFor_10 rfl ?_
  refine lv_ixor hx hb dX0_indexFor_11 ?_
  refine lv_aload_n hx hb dX0_indexFor_12 rfl (lv_at hl 0 rfl) ?_
  refine va_get (D := D) (ci := 0) (v := .int (hh)) (C := RX0) (T := TX0) (N := 3) hx hb hts (fun w h => List.mem_cons_of_mem _ (hiX0 w h)) hown hK hP 0 rfl rfl 2 (by decide) kf31 (fun _ h9 => h9) rfl dX0_indexFor_13 ?_
  refine lv_bipush (v := 12) hx hb dX0_indexFor_16 (by decide) ?_
  refine lv_iushr (v := k_ush (hh) (12)) hx hb dX0_indexFor_18 rfl ?_
  refine lv_ixor hx hb dX0_indexFor_19 ?_
  refine lv_aload_n hx hb dX0_indexFor_20 rfl (lv_at hl 0 rfl) ?_
  refine va_get (D := D) (ci := 0) (v := .int (hh)) (C := RX0) (T := TX0) (N := 3) hx hb hts (fun w h => List.mem_cons_of_mem _ (hiX0 w h)) hown hK hP 0 rfl rfl 2 (by decide) kf31 (fun _ h9 => h9) rfl dX0_indexFor_21 ?_
  refine lv_bipush (v := 18) hx hb dX0_indexFor_24 (by decide) ?_
  refine lv_iushr (v := k_ush (hh) (18)) hx hb dX0_indexFor_26 rfl ?_
  refine lv_ixor hx hb dX0_indexFor_27 ?_
  refine lv_istore_n (lv' := [(2, .int ((((hh) ^^^ (k_ush (hh) (6))) ^^^ (k_ush (hh) (12))) ^^^ (k_ush (hh) (18)))), (0, .ref (h0)), (1, .int (p0))]) hx hb dX0_indexFor_28 rfl hl (by decide) rfl (fun ls hl => ?_)
  refine lv_iload_n hx hb dX0_indexFor_29 rfl (lv_at hl 2 rfl) ?_
  refine lv_iconst (v := 2) hx hb dX0_indexFor_30 (by decide) ?_
  refine lv_iushr (v := k_ush (p0) (2)) hx hb dX0_indexFor_31 rfl ?_
  refine lv_iload_n hx hb dX0_indexFor_32 rfl (lv_at hl 0 rfl) ?_
  refine lv_ixor hx hb dX0_indexFor_33 ?_
  refine lv_bipush (v := 63) hx hb dX0_indexFor_34 (by decide) ?_
  refine lv_iand hx hb dX0_indexFor_36 ?_
  refine kt_i (y := nI (hf_ix hh p0)) (hf_lem hh p0) ?_
  exact kr_i (rfl) hx hb hr hlocks hP hK hD hS (rfl) dX0_indexFor_37

set_option maxHeartbeats 4000000 in
set_option maxRecDepth 100000 in
/-- has the row the tag of a place -/
theorem c_X0_knows (l : Launch) (D : va_G) (cI cJ cZ : ClassId) (sz : Nat) (h0 h1 h2 : Nat) (hg hq : Fn) (hh : Int32) (p0 : Int32) : KI l yX0_knows wsX0_knows ({ frames := 1, cells := 0, slots := 0, locals := 22 } : Room) D (kTy cI cJ cZ) [.ref (h0), .int (p0)] [(h0, .inr (0, [.ref (h1), .ref (h2), .int (hh)])), (h1, .inl (cI, 64, .inl (hg))), (h2, .inl (cI, 64, .inl (hq)))] sz (wHis h0 h1 h2 cI (hg, hq, hh)) (hf_knows (hg, hq, hh) p0) 0 0 := by
  refine Met.ofW (cc := cX0_knows) (maxL := 2) (ret := (some .boolean)) (by decide) rfl ?_
  intro p e s m args below meth c s₁ B hml hv
  obtain ⟨rfl, hsz, hP, hK, hD0⟩ := hv
  have hx := B.exec
  have hb := B.bytes
  have hr := B.returns
  have hts := atoms_spec (ws := wsX0_knows) B.pre
  have hown : s.vm.findClass RX0 = some m.cls := findClass_of_methodNamed B.named
  have hlocks := B.notSynchronized
  have kf9 := hts (.fieldLink RX0 9 "TargetRows$HistoryRows" "tags" "[I") (List.mem_cons_of_mem _ kw_104)
  subst hsz
  have hD := hD0.self (sz := s.heap.size)
  generalize hAe : va_A [(h0, .inr (0, [.ref (h1), .ref (h2), .int (hh)])), (h1, .inl (cI, 64, .inl (hg))), (h2, .inl (cI, 64, .inl (hq)))] s.heap.size = A at hD ⊢
  have hA : ∀ q : Nat, s.heap.size ≤ q → A q := fun q h => by rw [← hAe]; exact Or.inr h
  have hS : va_S A s.heap s.heap [] := va_S.rf
  have hP : va_P D vwCl [(h0, .inr (0, [.ref (h1), .ref (h2), .int (hh)])), (h1, .inl (cI, 64, .inl (hg))), (h2, .inl (cI, 64, .inl (hq)))] s.heap := hP
  have hD : va_D A [(h0, .inr (0, [.ref (h1), .ref (h2), .int (hh)])), (h1, .inl (cI, 64, .inl (hg))), (h2, .inl (cI, 64, .inl (hq)))] := hD
  have hl := lv_entry ([.ref (h0), .int (p0)]) (n := 2) (Nat.le_of_ble_eq_true rfl)
  rw [lg_entry_eq]
  generalize (lg_sl ([.ref (h0), .int (p0)]) ++ List.replicate (2 - (lg_sl ([.ref (h0), .int (p0)])).length) Slot.unset).toArray = ls at hl ⊢
  have hl : lv_has ls 2 [(0, .ref (h0)), (1, .int (p0))] := hl
  refine lv_aload_n hx hb dX0_knows_0 rfl (lv_at hl 0 rfl) ?_
  refine va_get (D := D) (ci := 0) (v := .ref (h1)) (C := RX0) (T := TX0) (N := 3) hx hb hts (fun w h => List.mem_cons_of_mem _ (hiX0 w h)) hown hK hP 0 rfl rfl 0 (by decide) kf9 (fun _ h9 => h9) rfl dX0_knows_1 ?_
  refine lv_aload_n hx hb dX0_knows_4 rfl (lv_at hl 0 rfl) ?_
  refine lv_iload_n hx hb dX0_knows_5 rfl (lv_at hl 1 rfl) ?_
  refine kc_i (wc := [(h0, .inr (0, [.ref (h1), .ref (h2), .int (hh)])), (h1, .inl (cI, 64, .inl (hg))), (h2, .inl (cI, 64, .inl (hq)))]) (wr := []) [0, 1, 2] [] rfl rfl (by decide) (by decide) hP hD hS hA (va_runV (As := [.int (p0)]) (rest := [.ref (h1)]) ⟨hx, hb, hml, hown, hts⟩ (c_X0_indexFor l D cI cJ cZ _ _ _ _ _ _ _ _) (cwV 1 hts (kw_V kw_226 kw_228 kw_3 kw_30 kw_229) rfl rfl rfl (by decide +kernel) ⟨Nat.le_of_ble_eq_true rfl, Nat.le_of_ble_eq_true rfl⟩) ⟨kP_blind, va_recv hK (hP.sub (ws' := [(h0, .inr (0, [.ref (h1), .ref (h2), .int (hh)])), (h1, .inl (cI, 64, .inl (hg))), (h2, .inl (cI, 64, .inl (hq)))]) [0, 1, 2] rfl) (ci := 0) (q0 := 0) rfl rfl, kP_at (hP.sub [0, 1, 2] rfl) hK (hD.sub [0, 1, 2] (by decide) rfl)⟩ rfl rfl hl.1 rfl (lv_room (Nat.le_of_ble_eq_true rfl)) dX0_knows_6 ⟨Nat.zero_le _, Nat.zero_le _⟩) (fun H locs hP hD hS => ?_)
  have hP := hP.sub (ws' := [(h0, .inr (0, [.ref (h1), .ref (h2), .int (hh)])), (h1, .inl (cI, 64, .inl (hg))), (h2, .inl (cI, 64, .inl (hq)))]) [0, 1, 2] rfl
  have hD := hD.sub (ws' := [(h0, .inr (0, [.ref (h1), .ref (h2), .int (hh)])), (h1, .inl (cI, 64, .inl (hg))), (h2, .inl (cI, 64, .inl (hq)))]) [0, 1, 2] (by decide) rfl
  refine ka_ild hx hb hK hP 1 0 rfl rfl (k := hf_ix (hh) (p0)) (rfl) (⟨hf_ix_lt _ _, by decide⟩) dX0_knows_9 ?_
  refine lv_iload_n hx hb dX0_knows_10 rfl (lv_at hl 1 rfl) ?_
  refine kc_i (wc := []) (wr := [(h0, .inr (0, [.ref (h1), .ref (h2), .int (hh)])), (h1, .inl (cI, 64, .inl (hg))), (h2, .inl (cI, 64, .inl (hq)))]) [] [0, 1, 2] rfl rfl (by decide) (by decide) hP hD hS hA (va_runS (As := [.int (p0)]) (rest := [.int ((hg) (hf_ix (hh) (p0)))]) ⟨hx, hb, hml, hown, hts⟩ (c_X0_tagOf l D cI cJ cZ _ _) (va_cwS 1 hts (kw_S kw_230 kw_231 kw_30 kw_232) rfl rfl rfl (by decide +kernel) ⟨Nat.le_of_ble_eq_true rfl, Nat.le_of_ble_eq_true rfl⟩) ⟨kP_blind, kP_at (hP.sub [] rfl) hK (hD.sub [] (by decide) rfl)⟩ rfl rfl hl.1 rfl (lv_room (Nat.le_of_ble_eq_true rfl)) dX0_knows_11 ⟨Nat.zero_le _, Nat.zero_le _⟩) (fun H locs hP hD hS => ?_)
  have hP := hP.sub (ws' := [(h0, .inr (0, [.ref (h1), .ref (h2), .int (hh)])), (h1, .inl (cI, 64, .inl (hg))), (h2, .inl (cI, 64, .inl (hq)))]) [0, 1, 2] rfl
  have hD := hD.sub (ws' := [(h0, .inr (0, [.ref (h1), .ref (h2), .int (hh)])), (h1, .inl (cI, 64, .inl (hg))), (h2, .inl (cI, 64, .inl (hq)))]) [0, 1, 2] (by decide) rfl
  refine lv_icmp_ne (tgt := 21) hx hb dX0_knows_14 (by decide) (fun c_14 => ?_) (fun c_14 => ?_)
  ·
    refine lv_iconst (v := 0) hx hb dX0_knows_21 (by decide) ?_
    exact kr_z (rfl) hx hb hr hlocks hP hK hD hS (rfl) ((if_neg c_14).symm) dX0_knows_22
  ·
    refine lv_iconst (v := 1) hx hb dX0_knows_17 (by decide) ?_
    refine lv_goto (tgt := 22) hx hb dX0_knows_18 (by decide) ?_
    exact kr_z (rfl) hx hb hr hlocks hP hK hD hS (rfl) ((if_pos c_14).symm) dX0_knows_22

set_option maxHeartbeats 4000000 in
set_option maxRecDepth 100000 in
/-- the target of the row -/
theorem c_X0_targetFor (l : Launch) (D : va_G) (cI cJ cZ : ClassId) (sz : Nat) (h0 h1 h2 : Nat) (hg hq : Fn) (hh : Int32) (p0 : Int32) : KI l yX0_targetFor wsX0_targetFor ({ frames := 1, cells := 0, slots := 0, locals := 22 } : Room) D (kTy cI cJ cZ) [.ref (h0), .int (p0)] [(h0, .inr (0, [.ref (h1), .ref (h2), .int (hh)])), (h1, .inl (cI, 64, .inl (hg))), (h2, .inl (cI, 64, .inl (hq)))] sz (wHis h0 h1 h2 cI (hg, hq, hh)) (hq (hf_ix hh p0)) 0 0 := by
  refine Met.ofW (cc := cX0_targetFor) (maxL := 2) (ret := (some .int)) (by decide) rfl ?_
  intro p e s m args below meth c s₁ B hml hv
  obtain ⟨rfl, hsz, hP, hK, hD0⟩ := hv
  have hx := B.exec
  have hb := B.bytes
  have hr := B.returns
  have hts := atoms_spec (ws := wsX0_targetFor) B.pre
  have hown : s.vm.findClass RX0 = some m.cls := findClass_of_methodNamed B.named
  have hlocks := B.notSynchronized
  have kf15 := hts (.fieldLink RX0 15 "TargetRows$HistoryRows" "targets" "[I") (List.mem_cons_of_mem _ kw_106)
  subst hsz
  have hD := hD0.self (sz := s.heap.size)
  generalize hAe : va_A [(h0, .inr (0, [.ref (h1), .ref (h2), .int (hh)])), (h1, .inl (cI, 64, .inl (hg))), (h2, .inl (cI, 64, .inl (hq)))] s.heap.size = A at hD ⊢
  have hA : ∀ q : Nat, s.heap.size ≤ q → A q := fun q h => by rw [← hAe]; exact Or.inr h
  have hS : va_S A s.heap s.heap [] := va_S.rf
  have hP : va_P D vwCl [(h0, .inr (0, [.ref (h1), .ref (h2), .int (hh)])), (h1, .inl (cI, 64, .inl (hg))), (h2, .inl (cI, 64, .inl (hq)))] s.heap := hP
  have hD : va_D A [(h0, .inr (0, [.ref (h1), .ref (h2), .int (hh)])), (h1, .inl (cI, 64, .inl (hg))), (h2, .inl (cI, 64, .inl (hq)))] := hD
  have hl := lv_entry ([.ref (h0), .int (p0)]) (n := 2) (Nat.le_of_ble_eq_true rfl)
  rw [lg_entry_eq]
  generalize (lg_sl ([.ref (h0), .int (p0)]) ++ List.replicate (2 - (lg_sl ([.ref (h0), .int (p0)])).length) Slot.unset).toArray = ls at hl ⊢
  have hl : lv_has ls 2 [(0, .ref (h0)), (1, .int (p0))] := hl
  refine lv_aload_n hx hb dX0_targetFor_0 rfl (lv_at hl 0 rfl) ?_
  refine va_get (D := D) (ci := 0) (v := .ref (h2)) (C := RX0) (T := TX0) (N := 3) hx hb hts (fun w h => List.mem_cons_of_mem _ (hiX0 w h)) hown hK hP 0 rfl rfl 1 (by decide) kf15 (fun _ h9 => h9) rfl dX0_targetFor_1 ?_
  refine lv_aload_n hx hb dX0_targetFor_4 rfl (lv_at hl 0 rfl) ?_
  refine lv_iload_n hx hb dX0_targetFor_5 rfl (lv_at hl 1 rfl) ?_
  refine kc_i (wc := [(h0, .inr (0, [.ref (h1), .ref (h2), .int (hh)])), (h1, .inl (cI, 64, .inl (hg))), (h2, .inl (cI, 64, .inl (hq)))]) (wr := []) [0, 1, 2] [] rfl rfl (by decide) (by decide) hP hD hS hA (va_runV (As := [.int (p0)]) (rest := [.ref (h2)]) ⟨hx, hb, hml, hown, hts⟩ (c_X0_indexFor l D cI cJ cZ _ _ _ _ _ _ _ _) (cwV 1 hts (kw_V kw_226 kw_228 kw_3 kw_30 kw_229) rfl rfl rfl (by decide +kernel) ⟨Nat.le_of_ble_eq_true rfl, Nat.le_of_ble_eq_true rfl⟩) ⟨kP_blind, va_recv hK (hP.sub (ws' := [(h0, .inr (0, [.ref (h1), .ref (h2), .int (hh)])), (h1, .inl (cI, 64, .inl (hg))), (h2, .inl (cI, 64, .inl (hq)))]) [0, 1, 2] rfl) (ci := 0) (q0 := 0) rfl rfl, kP_at (hP.sub [0, 1, 2] rfl) hK (hD.sub [0, 1, 2] (by decide) rfl)⟩ rfl rfl hl.1 rfl (lv_room (Nat.le_of_ble_eq_true rfl)) dX0_targetFor_6 ⟨Nat.zero_le _, Nat.zero_le _⟩) (fun H locs hP hD hS => ?_)
  have hP := hP.sub (ws' := [(h0, .inr (0, [.ref (h1), .ref (h2), .int (hh)])), (h1, .inl (cI, 64, .inl (hg))), (h2, .inl (cI, 64, .inl (hq)))]) [0, 1, 2] rfl
  have hD := hD.sub (ws' := [(h0, .inr (0, [.ref (h1), .ref (h2), .int (hh)])), (h1, .inl (cI, 64, .inl (hg))), (h2, .inl (cI, 64, .inl (hq)))]) [0, 1, 2] (by decide) rfl
  refine ka_ild hx hb hK hP 2 0 rfl rfl (k := hf_ix (hh) (p0)) (rfl) (⟨hf_ix_lt _ _, by decide⟩) dX0_targetFor_9 ?_
  exact kr_i (rfl) hx hb hr hlocks hP hK hD hS (rfl) dX0_targetFor_10

set_option maxHeartbeats 4000000 in
set_option maxRecDepth 100000 in
/-- the row gets tag and target -/
theorem c_X0_put (l : Launch) (D : va_G) (cI cJ cZ : ClassId) (sz : Nat) (h0 h1 h2 : Nat) (hg hq : Fn) (hh : Int32) (p0 p1 : Int32) : KV l yX0_put wsX0_put ({ frames := 1, cells := 0, slots := 0, locals := 22 } : Room) D (kTy cI cJ cZ) [.ref (h0), .int (p0), .int (p1)] [(h0, .inr (0, [.ref (h1), .ref (h2), .int (hh)])), (h1, .inl (cI, 64, .inl (hg))), (h2, .inl (cI, 64, .inl (hq)))] sz (wHis h0 h1 h2 cI (hf_put (hg, hq, hh) p0 p1)) 0 0 := by
  refine Met.ofW (cc := cX0_put) (maxL := 4) (ret := none) (by decide) rfl ?_
  intro p e s m args below meth c s₁ B hml hv
  obtain ⟨rfl, hsz, hP, hK, hD0⟩ := hv
  have hx := B.exec
  have hb := B.bytes
  have hr := B.returns
  have hts := atoms_spec (ws := wsX0_put) B.pre
  have hown : s.vm.findClass RX0 = some m.cls := findClass_of_methodNamed B.named
  have hlocks := B.notSynchronized
  have kf15 := hts (.fieldLink RX0 15 "TargetRows$HistoryRows" "targets" "[I") (List.mem_cons_of_mem _ kw_106)
  have kf9 := hts (.fieldLink RX0 9 "TargetRows$HistoryRows" "tags" "[I") (List.mem_cons_of_mem _ kw_104)
  subst hsz
  have hD := hD0.self (sz := s.heap.size)
  generalize hAe : va_A [(h0, .inr (0, [.ref (h1), .ref (h2), .int (hh)])), (h1, .inl (cI, 64, .inl (hg))), (h2, .inl (cI, 64, .inl (hq)))] s.heap.size = A at hD ⊢
  have hA : ∀ q : Nat, s.heap.size ≤ q → A q := fun q h => by rw [← hAe]; exact Or.inr h
  have hS : va_S A s.heap s.heap [] := va_S.rf
  have hP : va_P D vwCl [(h0, .inr (0, [.ref (h1), .ref (h2), .int (hh)])), (h1, .inl (cI, 64, .inl (hg))), (h2, .inl (cI, 64, .inl (hq)))] s.heap := hP
  have hD : va_D A [(h0, .inr (0, [.ref (h1), .ref (h2), .int (hh)])), (h1, .inl (cI, 64, .inl (hg))), (h2, .inl (cI, 64, .inl (hq)))] := hD
  have hl := lv_entry ([.ref (h0), .int (p0), .int (p1)]) (n := 4) (Nat.le_of_ble_eq_true rfl)
  rw [lg_entry_eq]
  generalize (lg_sl ([.ref (h0), .int (p0), .int (p1)]) ++ List.replicate (4 - (lg_sl ([.ref (h0), .int (p0), .int (p1)])).length) Slot.unset).toArray = ls at hl ⊢
  have hl : lv_has ls 4 [(0, .ref (h0)), (1, .int (p0)), (2, .int (p1))] := hl
  refine lv_aload_n hx hb dX0_put_0 rfl (lv_at hl 0 rfl) ?_
  refine lv_iload_n hx hb dX0_put_1 rfl (lv_at hl 1 rfl) ?_
  refine kc_i (wc := [(h0, .inr (0, [.ref (h1), .ref (h2), .int (hh)])), (h1, .inl (cI, 64, .inl (hg))), (h2, .inl (cI, 64, .inl (hq)))]) (wr := []) [0, 1, 2] [] rfl rfl (by decide) (by decide) hP hD hS hA (va_runV (As := [.int (p0)]) (rest := []) ⟨hx, hb, hml, hown, hts⟩ (c_X0_indexFor l D cI cJ cZ _ _ _ _ _ _ _ _) (cwV 1 hts (kw_V kw_226 kw_228 kw_3 kw_30 kw_229) rfl rfl rfl (by decide +kernel) ⟨Nat.le_of_ble_eq_true rfl, Nat.le_of_ble_eq_true rfl⟩) ⟨kP_blind, va_recv hK (hP.sub (ws' := [(h0, .inr (0, [.ref (h1), .ref (h2), .int (hh)])), (h1, .inl (cI, 64, .inl (hg))), (h2, .inl (cI, 64, .inl (hq)))]) [0, 1, 2] rfl) (ci := 0) (q0 := 0) rfl rfl, kP_at (hP.sub [0, 1, 2] rfl) hK (hD.sub [0, 1, 2] (by decide) rfl)⟩ rfl rfl hl.1 rfl (lv_room (Nat.le_of_ble_eq_true rfl)) dX0_put_2 ⟨Nat.zero_le _, Nat.zero_le _⟩) (fun H locs hP hD hS => ?_)
  have hP := hP.sub (ws' := [(h0, .inr (0, [.ref (h1), .ref (h2), .int (hh)])), (h1, .inl (cI, 64, .inl (hg))), (h2, .inl (cI, 64, .inl (hq)))]) [0, 1, 2] rfl
  have hD := hD.sub (ws' := [(h0, .inr (0, [.ref (h1), .ref (h2), .int (hh)])), (h1, .inl (cI, 64, .inl (hg))), (h2, .inl (cI, 64, .inl (hq)))]) [0, 1, 2] (by decide) rfl
  refine lv_istore_n (lv' := [(3, .int (nI (hf_ix (hh) (p0)))), (0, .ref (h0)), (1, .int (p0)), (2, .int (p1))]) hx hb dX0_put_5 rfl hl (by decide) rfl (fun ls hl => ?_)
  refine lv_aload_n hx hb dX0_put_6 rfl (lv_at hl 1 rfl) ?_
  refine va_get (D := D) (ci := 0) (v := .ref (h1)) (C := RX0) (T := TX0) (N := 3) hx hb hts (fun w h => List.mem_cons_of_mem _ (hiX0 w h)) hown hK hP 0 rfl rfl 0 (by decide) kf9 (fun _ h9 => h9) rfl dX0_put_7 ?_
  refine lv_iload_n hx hb dX0_put_10 rfl (lv_at hl 0 rfl) ?_
  refine lv_iload_n hx hb dX0_put_11 rfl (lv_at hl 2 rfl) ?_
  refine kc_i (wc := []) (wr := [(h0, .inr (0, [.ref (h1), .ref (h2), .int (hh)])), (h1, .inl (cI, 64, .inl (hg))), (h2, .inl (cI, 64, .inl (hq)))]) [] [0, 1, 2] rfl rfl (by decide) (by decide) hP hD hS hA (va_runS (As := [.int (p0)]) (rest := [.int (nI (hf_ix (hh) (p0))), .ref (h1)]) ⟨hx, hb, hml, hown, hts⟩ (c_X0_tagOf l D cI cJ cZ _ _) (va_cwS 1 hts (kw_S kw_230 kw_231 kw_30 kw_232) rfl rfl rfl (by decide +kernel) ⟨Nat.le_of_ble_eq_true rfl, Nat.le_of_ble_eq_true rfl⟩) ⟨kP_blind, kP_at (hP.sub [] rfl) hK (hD.sub [] (by decide) rfl)⟩ rfl rfl hl.1 rfl (lv_room (Nat.le_of_ble_eq_true rfl)) dX0_put_12 ⟨Nat.zero_le _, Nat.zero_le _⟩) (fun H locs hP hD hS => ?_)
  have hP := hP.sub (ws' := [(h0, .inr (0, [.ref (h1), .ref (h2), .int (hh)])), (h1, .inl (cI, 64, .inl (hg))), (h2, .inl (cI, 64, .inl (hq)))]) [0, 1, 2] rfl
  have hD := hD.sub (ws' := [(h0, .inr (0, [.ref (h1), .ref (h2), .int (hh)])), (h1, .inl (cI, 64, .inl (hg))), (h2, .inl (cI, 64, .inl (hq)))]) [0, 1, 2] (by decide) rfl
  refine ka_ist hx hb hK hP hD hS 1 0 rfl rfl (k := hf_ix (hh) (p0)) (rfl) (⟨hf_ix_lt _ _, by decide⟩) dX0_put_15 (fun H locs hP hD hS => ?_)
  have hP : va_P D vwCl [(h0, .inr (0, [.ref (h1), .ref (h2), .int (hh)])), (h1, .inl (cI, 64, .inl (upd (hg) (hf_ix (hh) (p0)) (hf_tag (p0))))), (h2, .inl (cI, 64, .inl (hq)))] H := hP
  have hD : va_D A [(h0, .inr (0, [.ref (h1), .ref (h2), .int (hh)])), (h1, .inl (cI, 64, .inl (upd (hg) (hf_ix (hh) (p0)) (hf_tag (p0))))), (h2, .inl (cI, 64, .inl (hq)))] := hD
  refine lv_aload_n hx hb dX0_put_16 rfl (lv_at hl 1 rfl) ?_
  refine va_get (D := D) (ci := 0) (v := .ref (h2)) (C := RX0) (T := TX0) (N := 3) hx hb hts (fun w h => List.mem_cons_of_mem _ (hiX0 w h)) hown hK hP 0 rfl rfl 1 (by decide) kf15 (fun _ h9 => h9) rfl dX0_put_17 ?_
  refine lv_iload_n hx hb dX0_put_20 rfl (lv_at hl 0 rfl) ?_
  refine lv_iload_n hx hb dX0_put_21 rfl (lv_at hl 3 rfl) ?_
  refine ka_ist hx hb hK hP hD hS 2 0 rfl rfl (k := hf_ix (hh) (p0)) (rfl) (⟨hf_ix_lt _ _, by decide⟩) dX0_put_22 (fun H locs hP hD hS => ?_)
  have hP : va_P D vwCl [(h0, .inr (0, [.ref (h1), .ref (h2), .int (hh)])), (h1, .inl (cI, 64, .inl (upd (hg) (hf_ix (hh) (p0)) (hf_tag (p0))))), (h2, .inl (cI, 64, .inl (upd (hq) (hf_ix (hh) (p0)) (p1))))] H := hP
  have hD : va_D A [(h0, .inr (0, [.ref (h1), .ref (h2), .int (hh)])), (h1, .inl (cI, 64, .inl (upd (hg) (hf_ix (hh) (p0)) (hf_tag (p0))))), (h2, .inl (cI, 64, .inl (upd (hq) (hf_ix (hh) (p0)) (p1))))] := hD
  exact kr_v (rfl) hx hb hr hlocks hP hK hD hS trivial dX0_put_23

set_option maxHeartbeats 4000000 in
set_option maxRecDepth 100000 in
/-- the history goes on -/
theorem c_X0_remember (l : Launch) (D : va_G) (cI cJ cZ : ClassId) (sz : Nat) (h0 h1 h2 : Nat) (hg hq : Fn) (hh : Int32) (p0 : Int32) : KV l yX0_remember wsX0_remember ({ frames := 0, cells := 0, slots := 0, locals := 0 } : Room) D (kTy cI cJ cZ) [.ref (h0), .int (p0)] [(h0, .inr (0, [.ref (h1), .ref (h2), .int (hh)])), (h1, .inl (cI, 64, .inl (hg))), (h2, .inl (cI, 64, .inl (hq)))] sz (wHis h0 h1 h2 cI (hf_rem (hg, hq, hh) p0)) 0 0 := by
  refine Met.ofW (cc := cX0_remember) (maxL := 2) (ret := none) (by decide) rfl ?_
  intro p e s m args below meth c s₁ B hml hv
  obtain ⟨rfl, hsz, hP, hK, hD0⟩ := hv
  have hx := B.exec
  have hb := B.bytes
  have hr := B.returns
  have hts := atoms_spec (ws := wsX0_remember) B.pre
  have hown : s.vm.findClass RX0 = some m.cls := findClass_of_methodNamed B.named
  have hlocks := B.notSynchronized
  have kc35 := hts (.constant RX0 35 (16777215)) (List.mem_cons_of_mem _ kw_454)
  have kf31 := hts (.fieldLink RX0 31 "TargetRows$HistoryRows" "history" "I") (List.mem_cons_of_mem _ kw_108)
  subst hsz
  have hD := hD0.self (sz := s.heap.size)
  generalize hAe : va_A [(h0, .inr (0, [.ref (h1), .ref (h2), .int (hh)])), (h1, .inl (cI, 64, .inl (hg))), (h2, .inl (cI, 64, .inl (hq)))] s.heap.size = A at hD ⊢
  have hA : ∀ q : Nat, s.heap.size ≤ q → A q := fun q h => by rw [← hAe]; exact Or.inr h
  have hS : va_S A s.heap s.heap [] := va_S.rf
  have hP : va_P D vwCl [(h0, .inr (0, [.ref (h1), .ref (h2), .int (hh)])), (h1, .inl (cI, 64, .inl (hg))), (h2, .inl (cI, 64, .inl (hq)))] s.heap := hP
  have hD : va_D A [(h0, .inr (0, [.ref (h1), .ref (h2), .int (hh)])), (h1, .inl (cI, 64, .inl (hg))), (h2, .inl (cI, 64, .inl (hq)))] := hD
  have hl := lv_entry ([.ref (h0), .int (p0)]) (n := 2) (Nat.le_of_ble_eq_true rfl)
  rw [lg_entry_eq]
  generalize (lg_sl ([.ref (h0), .int (p0)]) ++ List.replicate (2 - (lg_sl ([.ref (h0), .int (p0)])).length) Slot.unset).toArray = ls at hl ⊢
  have hl : lv_has ls 2 [(0, .ref (h0)), (1, .int (p0))] := hl
  refine lv_aload_n hx hb dX0_remember_0 rfl (lv_at hl 0 rfl) ?_
  refine lv_aload_n hx hb dX0_remember_1 rfl (lv_at hl 0 rfl) ?_
  refine va_get (D := D) (ci := 0) (v := .int (hh)) (C := RX0) (T := TX0) (N := 3) hx hb hts (fun w h => List.mem_cons_of_mem _ (hiX0 w h)) hown hK hP 0 rfl rfl 2 (by decide) kf31 (fun _ h9 => h9) rfl dX0_remember_2 ?_
  refine lv_iconst (v := 3) hx hb dX0_remember_5 (by decide) ?_
  refine lv_ishl hx hb dX0_remember_6 ?_
  refine lv_iload_n hx hb dX0_remember_7 rfl (lv_at hl 1 rfl) ?_
  refine lv_iconst (v := 2) hx hb dX0_remember_8 (by decide) ?_
  refine lv_iushr (v := k_ush (p0) (2)) hx hb dX0_remember_9 rfl ?_
  refine lv_ixor hx hb dX0_remember_10 ?_
  refine lv_ldc (v := 16777215) hx hb hown kc35 dX0_remember_11 ?_
  refine lv_iand hx hb dX0_remember_13 ?_
  refine va_put (D := D) (ci := 0) (v := .int ((((hh) <<< ((3) &&& 31)) ^^^ (k_ush (p0) (2))) &&& (16777215))) (ty := .int) (C := RX0) (T := TX0) (N := 3) hx hb hts (fun w h => List.mem_cons_of_mem _ (hiX0 w h)) tyX0 tyX0_ok nmX0 hown hK hP hD hS 0 rfl rfl 2 (by decide) kf31 (fun _ h9 => h9) rfl (by decide +kernel) rfl rfl (Nat.le_of_ble_eq_true rfl) dX0_remember_14 (fun H locs hP hD hS => ?_)
  have hP : va_P D vwCl [(h0, .inr (0, [.ref (h1), .ref (h2), .int ((((hh) <<< ((3) &&& 31)) ^^^ (k_ush (p0) (2))) &&& (16777215))])), (h1, .inl (cI, 64, .inl (hg))), (h2, .inl (cI, 64, .inl (hq)))] H := hP
  have hD : va_D A [(h0, .inr (0, [.ref (h1), .ref (h2), .int ((((hh) <<< ((3) &&& 31)) ^^^ (k_ush (p0) (2))) &&& (16777215))])), (h1, .inl (cI, 64, .inl (hg))), (h2, .inl (cI, 64, .inl (hq)))] := hD
  exact kr_v (rfl) hx hb hr hlocks hP hK hD hS trivial dX0_remember_17
