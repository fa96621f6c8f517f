set_option maxHeartbeats 4000000 in
set_option maxRecDepth 100000 in
/-- the index of a place -/
theorem c_X1_indexOf (l : Launch) (D : va_G) (cI cJ cZ : ClassId) (sz : Nat) (h0 h1 h2 h3 h4 : Nat) (L : Nat) (qp qt qd qr : Fn) (qs qf : Nat) (k0 : Nat) (hk : k0 ≤ 16) (hf : qf < 16) (hL : L < 2 ^ 10) : KI l yX1_indexOf wsX1_indexOf ({ frames := 0, cells := 0, slots := 0, locals := 0 } : Room) D (kTy cI cJ cZ) [.ref (h0), .int (nI k0)] [(h0, .inr (1, [.int (nI (qs)), .int (nI (qf)), .int (nI L), .ref (h1), .ref (h2), .ref (h3), .ref (h4)])), (h1, .inl (cI, 16, .inl (qp))), (h2, .inl (cI, 16, .inl (qt))), (h3, .inl (cI, 16, .inl (qd))), (h4, .inl (cI, 16 * L, .inl (qr)))] sz (wQue h0 h1 h2 h3 h4 cI L (qp, qt, qd, qr, qs, qf)) (nI (qf_ix (qp, qt, qd, qr, qs, qf) k0)) 0 0 := by
  refine Met.ofW (cc := cX1_indexOf) (maxL := 2) (ret := (some .int)) (by decide) rfl ?_
  intro p e s m args below meth c s₁ B hml hv
  obtain ⟨rfl, hsz, hP, hK, hD0⟩ := hv
  have hx := B.exec
  have hb := B.bytes
  have hr := B.returns
  have hts := atoms_spec (ws := wsX1_indexOf) B.pre
  have hown : s.vm.findClass RX1 = some m.cls := findClass_of_methodNamed B.named
  have hlocks := B.notSynchronized
  have kf44 := hts (.fieldLink RX1 44 "TargetRows$Queue" "first" "I") (List.mem_cons_of_mem _ kw_152)
  subst hsz
  have hD := hD0.self (sz := s.heap.size)
  generalize hAe : va_A [(h0, .inr (1, [.int (nI (qs)), .int (nI (qf)), .int (nI L), .ref (h1), .ref (h2), .ref (h3), .ref (h4)])), (h1, .inl (cI, 16, .inl (qp))), (h2, .inl (cI, 16, .inl (qt))), (h3, .inl (cI, 16, .inl (qd))), (h4, .inl (cI, 16 * L, .inl (qr)))] s.heap.size = A at hD ⊢
  have hA : ∀ q : Nat, s.heap.size ≤ q → A q := fun q h => by rw [← hAe]; exact Or.inr h
  have hS : va_S A s.heap s.heap [] := va_S.rf
  have hP : va_P D vwCl [(h0, .inr (1, [.int (nI (qs)), .int (nI (qf)), .int (nI L), .ref (h1), .ref (h2), .ref (h3), .ref (h4)])), (h1, .inl (cI, 16, .inl (qp))), (h2, .inl (cI, 16, .inl (qt))), (h3, .inl (cI, 16, .inl (qd))), (h4, .inl (cI, 16 * L, .inl (qr)))] s.heap := hP
  have hD : va_D A [(h0, .inr (1, [.int (nI (qs)), .int (nI (qf)), .int (nI L), .ref (h1), .ref (h2), .ref (h3), .ref (h4)])), (h1, .inl (cI, 16, .inl (qp))), (h2, .inl (cI, 16, .inl (qt))), (h3, .inl (cI, 16, .inl (qd))), (h4, .inl (cI, 16 * L, .inl (qr)))] := hD
  have hl := lv_entry ([.ref (h0), .int (nI k0)]) (n := 2) (Nat.le_of_ble_eq_true rfl)
  rw [lg_entry_eq]
  generalize (lg_sl ([.ref (h0), .int (nI k0)]) ++ List.replicate (2 - (lg_sl ([.ref (h0), .int (nI k0)])).length) Slot.unset).toArray = ls at hl ⊢
  have hl : lv_has ls 2 [(0, .ref (h0)), (1, .int (nI k0))] := hl
  refine lv_aload_n hx hb dX1_indexOf_0 rfl (lv_at hl 0 rfl) ?_
  refine va_get (D := D) (ci := 1) (v := .int (nI (qf))) (C := RX1) (T := TX1) (N := 7) hx hb hts (fun w h => List.mem_cons_of_mem _ (hiX1 w h)) hown hK hP 0 rfl rfl 1 (by decide) kf44 (fun _ h9 => h9) rfl dX1_indexOf_1 ?_
  refine lv_iload_n hx hb dX1_indexOf_4 rfl (lv_at hl 1 rfl) ?_
  refine lv_iadd hx hb dX1_indexOf_5 ?_
  refine lv_bipush (v := 15) hx hb dX1_indexOf_6 (by decide) ?_
  refine lv_iand hx hb dX1_indexOf_8 ?_
  refine kt_i (y := nI (qf_ix (qp, qt, qd, qr, qs, qf) k0)) (qf_lem qf k0 (by omega) (by omega)) ?_
  exact kr_i (rfl) hx hb hr hlocks hP hK hD hS (rfl) dX1_indexOf_9

set_option maxHeartbeats 4000000 in
set_option maxRecDepth 100000 in
/-- placeAt -/
theorem c_X1_placeAt (l : Launch) (D : va_G) (cI cJ cZ : ClassId) (sz : Nat) (h0 h1 h2 h3 h4 : Nat) (L : Nat) (qp qt qd qr : Fn) (qs qf : Nat) (k0 : Nat) (hk : k0 ≤ 16) (hf : qf < 16) (hL : L < 2 ^ 10) : KI l yX1_placeAt wsX1_placeAt ({ frames := 1, cells := 0, slots := 0, locals := 21 } : Room) D (kTy cI cJ cZ) [.ref (h0), .int (nI k0)] [(h0, .inr (1, [.int (nI (qs)), .int (nI (qf)), .int (nI L), .ref (h1), .ref (h2), .ref (h3), .ref (h4)])), (h1, .inl (cI, 16, .inl (qp))), (h2, .inl (cI, 16, .inl (qt))), (h3, .inl (cI, 16, .inl (qd))), (h4, .inl (cI, 16 * L, .inl (qr)))] sz (wQue h0 h1 h2 h3 h4 cI L (qp, qt, qd, qr, qs, qf)) (qp (qf_ix (qp, qt, qd, qr, qs, qf) k0)) 0 0 := by
  refine Met.ofW (cc := cX1_placeAt) (maxL := 2) (ret := (some .int)) (by decide) rfl ?_
  intro p e s m args below meth c s₁ B hml hv
  obtain ⟨rfl, hsz, hP, hK, hD0⟩ := hv
  have hx := B.exec
  have hb := B.bytes
  have hr := B.returns
  have hts := atoms_spec (ws := wsX1_placeAt) B.pre
  have hown : s.vm.findClass RX1 = some m.cls := findClass_of_methodNamed B.named
  have hlocks := B.notSynchronized
  have kf15 := hts (.fieldLink RX1 15 "TargetRows$Queue" "places" "[I") (List.mem_cons_of_mem _ kw_154)
  subst hsz
  have hD := hD0.self (sz := s.heap.size)
  generalize hAe : va_A [(h0, .inr (1, [.int (nI (qs)), .int (nI (qf)), .int (nI L), .ref (h1), .ref (h2), .ref (h3), .ref (h4)])), (h1, .inl (cI, 16, .inl (qp))), (h2, .inl (cI, 16, .inl (qt))), (h3, .inl (cI, 16, .inl (qd))), (h4, .inl (cI, 16 * L, .inl (qr)))] s.heap.size = A at hD ⊢
  have hA : ∀ q : Nat, s.heap.size ≤ q → A q := fun q h => by rw [← hAe]; exact Or.inr h
  have hS : va_S A s.heap s.heap [] := va_S.rf
  have hP : va_P D vwCl [(h0, .inr (1, [.int (nI (qs)), .int (nI (qf)), .int (nI L), .ref (h1), .ref (h2), .ref (h3), .ref (h4)])), (h1, .inl (cI, 16, .inl (qp))), (h2, .inl (cI, 16, .inl (qt))), (h3, .inl (cI, 16, .inl (qd))), (h4, .inl (cI, 16 * L, .inl (qr)))] s.heap := hP
  have hD : va_D A [(h0, .inr (1, [.int (nI (qs)), .int (nI (qf)), .int (nI L), .ref (h1), .ref (h2), .ref (h3), .ref (h4)])), (h1, .inl (cI, 16, .inl (qp))), (h2, .inl (cI, 16, .inl (qt))), (h3, .inl (cI, 16, .inl (qd))), (h4, .inl (cI, 16 * L, .inl (qr)))] := hD
  have hl := lv_entry ([.ref (h0), .int (nI k0)]) (n := 2) (Nat.le_of_ble_eq_true rfl)
  rw [lg_entry_eq]
  generalize (lg_sl ([.ref (h0), .int (nI k0)]) ++ List.replicate (2 - (lg_sl ([.ref (h0), .int (nI k0)])).length) Slot.unset).toArray = ls at hl ⊢
  have hl : lv_has ls 2 [(0, .ref (h0)), (1, .int (nI k0))] := hl
  refine lv_aload_n hx hb dX1_placeAt_0 rfl (lv_at hl 0 rfl) ?_
  refine va_get (D := D) (ci := 1) (v := .ref (h1)) (C := RX1) (T := TX1) (N := 7) hx hb hts (fun w h => List.mem_cons_of_mem _ (hiX1 w h)) hown hK hP 0 rfl rfl 3 (by decide) kf15 (fun _ h9 => h9) rfl dX1_placeAt_1 ?_
  refine lv_aload_n hx hb dX1_placeAt_4 rfl (lv_at hl 0 rfl) ?_
  refine lv_iload_n hx hb dX1_placeAt_5 rfl (lv_at hl 1 rfl) ?_
  refine kc_i (wc := [(h0, .inr (1, [.int (nI (qs)), .int (nI (qf)), .int (nI L), .ref (h1), .ref (h2), .ref (h3), .ref (h4)])), (h1, .inl (cI, 16, .inl (qp))), (h2, .inl (cI, 16, .inl (qt))), (h3, .inl (cI, 16, .inl (qd))), (h4, .inl (cI, 16 * L, .inl (qr)))]) (wr := []) [0, 1, 2, 3, 4] [] rfl rfl (by decide) (by decide) hP hD hS hA (va_runV (As := [.int (nI k0)]) (rest := [.ref (h1)]) ⟨hx, hb, hml, hown, hts⟩ (c_X1_indexOf l D cI cJ cZ _ _ _ _ _ _ _ _ _ _ _ _ _ _ hk hf hL) (cwV 1 hts (kw_V kw_348 kw_350 kw_5 kw_32 kw_351) rfl rfl rfl (by decide +kernel) ⟨Nat.le_of_ble_eq_true rfl, Nat.le_of_ble_eq_true rfl⟩) ⟨kP_blind, va_recv hK (hP.sub (ws' := [(h0, .inr (1, [.int (nI (qs)), .int (nI (qf)), .int (nI L), .ref (h1), .ref (h2), .ref (h3), .ref (h4)])), (h1, .inl (cI, 16, .inl (qp))), (h2, .inl (cI, 16, .inl (qt))), (h3, .inl (cI, 16, .inl (qd))), (h4, .inl (cI, 16 * L, .inl (qr)))]) [0, 1, 2, 3, 4] rfl) (ci := 1) (q0 := 0) rfl rfl, kP_at (hP.sub [0, 1, 2, 3, 4] rfl) hK (hD.sub [0, 1, 2, 3, 4] (by decide) rfl)⟩ rfl rfl hl.1 rfl (lv_room (Nat.le_of_ble_eq_true rfl)) dX1_placeAt_6 ⟨Nat.zero_le _, Nat.zero_le _⟩) (fun H locs hP hD hS => ?_)
  have hP := hP.sub (ws' := [(h0, .inr (1, [.int (nI (qs)), .int (nI (qf)), .int (nI L), .ref (h1), .ref (h2), .ref (h3), .ref (h4)])), (h1, .inl (cI, 16, .inl (qp))), (h2, .inl (cI, 16, .inl (qt))), (h3, .inl (cI, 16, .inl (qd))), (h4, .inl (cI, 16 * L, .inl (qr)))]) [0, 1, 2, 3, 4] rfl
  have hD := hD.sub (ws' := [(h0, .inr (1, [.int (nI (qs)), .int (nI (qf)), .int (nI L), .ref (h1), .ref (h2), .ref (h3), .ref (h4)])), (h1, .inl (cI, 16, .inl (qp))), (h2, .inl (cI, 16, .inl (qt))), (h3, .inl (cI, 16, .inl (qd))), (h4, .inl (cI, 16 * L, .inl (qr)))]) [0, 1, 2, 3, 4] (by decide) rfl
  refine ka_ild hx hb hK hP 1 0 rfl rfl (k := qf_ix (qp, qt, qd, qr, qs, qf) (k0)) (rfl) (⟨qf_ix_lt _ _, by decide⟩) dX1_placeAt_9 ?_
  exact kr_i (rfl) hx hb hr hlocks hP hK hD hS (rfl) dX1_placeAt_10

set_option maxHeartbeats 4000000 in
set_option maxRecDepth 100000 in
/-- toldAt -/
theorem c_X1_toldAt (l : Launch) (D : va_G) (cI cJ cZ : ClassId) (sz : Nat) (h0 h1 h2 h3 h4 : Nat) (L : Nat) (qp qt qd qr : Fn) (qs qf : Nat) (k0 : Nat) (hk : k0 ≤ 16) (hf : qf < 16) (hL : L < 2 ^ 10) : KI l yX1_toldAt wsX1_toldAt ({ frames := 1, cells := 0, slots := 0, locals := 21 } : Room) D (kTy cI cJ cZ) [.ref (h0), .int (nI k0)] [(h0, .inr (1, [.int (nI (qs)), .int (nI (qf)), .int (nI L), .ref (h1), .ref (h2), .ref (h3), .ref (h4)])), (h1, .inl (cI, 16, .inl (qp))), (h2, .inl (cI, 16, .inl (qt))), (h3, .inl (cI, 16, .inl (qd))), (h4, .inl (cI, 16 * L, .inl (qr)))] sz (wQue h0 h1 h2 h3 h4 cI L (qp, qt, qd, qr, qs, qf)) (qt (qf_ix (qp, qt, qd, qr, qs, qf) k0)) 0 0 := by
  refine Met.ofW (cc := cX1_toldAt) (maxL := 2) (ret := (some .int)) (by decide) rfl ?_
  intro p e s m args below meth c s₁ B hml hv
  obtain ⟨rfl, hsz, hP, hK, hD0⟩ := hv
  have hx := B.exec
  have hb := B.bytes
  have hr := B.returns
  have hts := atoms_spec (ws := wsX1_toldAt) B.pre
  have hown : s.vm.findClass RX1 = some m.cls := findClass_of_methodNamed B.named
  have hlocks := B.notSynchronized
  have kf19 := hts (.fieldLink RX1 19 "TargetRows$Queue" "told" "[I") (List.mem_cons_of_mem _ kw_155)
  subst hsz
  have hD := hD0.self (sz := s.heap.size)
  generalize hAe : va_A [(h0, .inr (1, [.int (nI (qs)), .int (nI (qf)), .int (nI L), .ref (h1), .ref (h2), .ref (h3), .ref (h4)])), (h1, .inl (cI, 16, .inl (qp))), (h2, .inl (cI, 16, .inl (qt))), (h3, .inl (cI, 16, .inl (qd))), (h4, .inl (cI, 16 * L, .inl (qr)))] s.heap.size = A at hD ⊢
  have hA : ∀ q : Nat, s.heap.size ≤ q → A q := fun q h => by rw [← hAe]; exact Or.inr h
  have hS : va_S A s.heap s.heap [] := va_S.rf
  have hP : va_P D vwCl [(h0, .inr (1, [.int (nI (qs)), .int (nI (qf)), .int (nI L), .ref (h1), .ref (h2), .ref (h3), .ref (h4)])), (h1, .inl (cI, 16, .inl (qp))), (h2, .inl (cI, 16, .inl (qt))), (h3, .inl (cI, 16, .inl (qd))), (h4, .inl (cI, 16 * L, .inl (qr)))] s.heap := hP
  have hD : va_D A [(h0, .inr (1, [.int (nI (qs)), .int (nI (qf)), .int (nI L), .ref (h1), .ref (h2), .ref (h3), .ref (h4)])), (h1, .inl (cI, 16, .inl (qp))), (h2, .inl (cI, 16, .inl (qt))), (h3, .inl (cI, 16, .inl (qd))), (h4, .inl (cI, 16 * L, .inl (qr)))] := hD
  have hl := lv_entry ([.ref (h0), .int (nI k0)]) (n := 2) (Nat.le_of_ble_eq_true rfl)
  rw [lg_entry_eq]
  generalize (lg_sl ([.ref (h0), .int (nI k0)]) ++ List.replicate (2 - (lg_sl ([.ref (h0), .int (nI k0)])).length) Slot.unset).toArray = ls at hl ⊢
  have hl : lv_has ls 2 [(0, .ref (h0)), (1, .int (nI k0))] := hl
  refine lv_aload_n hx hb dX1_toldAt_0 rfl (lv_at hl 0 rfl) ?_
  refine va_get (D := D) (ci := 1) (v := .ref (h2)) (C := RX1) (T := TX1) (N := 7) hx hb hts (fun w h => List.mem_cons_of_mem _ (hiX1 w h)) hown hK hP 0 rfl rfl 4 (by decide) kf19 (fun _ h9 => h9) rfl dX1_toldAt_1 ?_
  refine lv_aload_n hx hb dX1_toldAt_4 rfl (lv_at hl 0 rfl) ?_
  refine lv_iload_n hx hb dX1_toldAt_5 rfl (lv_at hl 1 rfl) ?_
  refine kc_i (wc := [(h0, .inr (1, [.int (nI (qs)), .int (nI (qf)), .int (nI L), .ref (h1), .ref (h2), .ref (h3), .ref (h4)])), (h1, .inl (cI, 16, .inl (qp))), (h2, .inl (cI, 16, .inl (qt))), (h3, .inl (cI, 16, .inl (qd))), (h4, .inl (cI, 16 * L, .inl (qr)))]) (wr := []) [0, 1, 2, 3, 4] [] rfl rfl (by decide) (by decide) hP hD hS hA (va_runV (As := [.int (nI k0)]) (rest := [.ref (h2)]) ⟨hx, hb, hml, hown, hts⟩ (c_X1_indexOf l D cI cJ cZ _ _ _ _ _ _ _ _ _ _ _ _ _ _ hk hf hL) (cwV 1 hts (kw_V kw_348 kw_350 kw_5 kw_32 kw_351) rfl rfl rfl (by decide +kernel) ⟨Nat.le_of_ble_eq_true rfl, Nat.le_of_ble_eq_true rfl⟩) ⟨kP_blind, va_recv hK (hP.sub (ws' := [(h0, .inr (1, [.int (nI (qs)), .int (nI (qf)), .int (nI L), .ref (h1), .ref (h2), .ref (h3), .ref (h4)])), (h1, .inl (cI, 16, .inl (qp))), (h2, .inl (cI, 16, .inl (qt))), (h3, .inl (cI, 16, .inl (qd))), (h4, .inl (cI, 16 * L, .inl (qr)))]) [0, 1, 2, 3, 4] rfl) (ci := 1) (q0 := 0) rfl rfl, kP_at (hP.sub [0, 1, 2, 3, 4] rfl) hK (hD.sub [0, 1, 2, 3, 4] (by decide) rfl)⟩ rfl rfl hl.1 rfl (lv_room (Nat.le_of_ble_eq_true rfl)) dX1_toldAt_6 ⟨Nat.zero_le _, Nat.zero_le _⟩) (fun H locs hP hD hS => ?_)
  have hP := hP.sub (ws' := [(h0, .inr (1, [.int (nI (qs)), .int (nI (qf)), .int (nI L), .ref (h1), .ref (h2), .ref (h3), .ref (h4)])), (h1, .inl (cI, 16, .inl (qp))), (h2, .inl (cI, 16, .inl (qt))), (h3, .inl (cI, 16, .inl (qd))), (h4, .inl (cI, 16 * L, .inl (qr)))]) [0, 1, 2, 3, 4] rfl
  have hD := hD.sub (ws' := [(h0, .inr (1, [.int (nI (qs)), .int (nI (qf)), .int (nI L), .ref (h1), .ref (h2), .ref (h3), .ref (h4)])), (h1, .inl (cI, 16, .inl (qp))), (h2, .inl (cI, 16, .inl (qt))), (h3, .inl (cI, 16, .inl (qd))), (h4, .inl (cI, 16 * L, .inl (qr)))]) [0, 1, 2, 3, 4] (by decide) rfl
  refine ka_ild hx hb hK hP 2 0 rfl rfl (k := qf_ix (qp, qt, qd, qr, qs, qf) (k0)) (rfl) (⟨qf_ix_lt _ _, by decide⟩) dX1_toldAt_9 ?_
  exact kr_i (rfl) hx hb hr hlocks hP hK hD hS (rfl) dX1_toldAt_10

set_option maxHeartbeats 4000000 in
set_option maxRecDepth 100000 in
/-- nothing waits -/
theorem c_X1_clear (l : Launch) (D : va_G) (cI cJ cZ : ClassId) (sz : Nat) (h0 h1 h2 h3 h4 : Nat) (L : Nat) (qp qt qd qr : Fn) (qs qf : Nat) : KV l yX1_clear wsX1_clear ({ frames := 0, cells := 0, slots := 0, locals := 0 } : Room) D (kTy cI cJ cZ) [.ref (h0)] [(h0, .inr (1, [.int (nI (qs)), .int (nI (qf)), .int (nI L), .ref (h1), .ref (h2), .ref (h3), .ref (h4)])), (h1, .inl (cI, 16, .inl (qp))), (h2, .inl (cI, 16, .inl (qt))), (h3, .inl (cI, 16, .inl (qd))), (h4, .inl (cI, 16 * L, .inl (qr)))] sz (wQue h0 h1 h2 h3 h4 cI L (qf_clear (qp, qt, qd, qr, qs, qf))) 0 0 := by
  refine Met.ofW (cc := cX1_clear) (maxL := 1) (ret := none) (by decide) rfl ?_
  intro p e s m args below meth c s₁ B hml hv
  obtain ⟨rfl, hsz, hP, hK, hD0⟩ := hv
  have hx := B.exec
  have hb := B.bytes
  have hr := B.returns
  have hts := atoms_spec (ws := wsX1_clear) B.pre
  have hown : s.vm.findClass RX1 = some m.cls := findClass_of_methodNamed B.named
  have hlocks := B.notSynchronized
  have kf28 := hts (.fieldLink RX1 28 "TargetRows$Queue" "size" "I") (List.mem_cons_of_mem _ kw_150)
  subst hsz
  have hD := hD0.self (sz := s.heap.size)
  generalize hAe : va_A [(h0, .inr (1, [.int (nI (qs)), .int (nI (qf)), .int (nI L), .ref (h1), .ref (h2), .ref (h3), .ref (h4)])), (h1, .inl (cI, 16, .inl (qp))), (h2, .inl (cI, 16, .inl (qt))), (h3, .inl (cI, 16, .inl (qd))), (h4, .inl (cI, 16 * L, .inl (qr)))] s.heap.size = A at hD ⊢
  have hA : ∀ q : Nat, s.heap.size ≤ q → A q := fun q h => by rw [← hAe]; exact Or.inr h
  have hS : va_S A s.heap s.heap [] := va_S.rf
  have hP : va_P D vwCl [(h0, .inr (1, [.int (nI (qs)), .int (nI (qf)), .int (nI L), .ref (h1), .ref (h2), .ref (h3), .ref (h4)])), (h1, .inl (cI, 16, .inl (qp))), (h2, .inl (cI, 16, .inl (qt))), (h3, .inl (cI, 16, .inl (qd))), (h4, .inl (cI, 16 * L, .inl (qr)))] s.heap := hP
  have hD : va_D A [(h0, .inr (1, [.int (nI (qs)), .int (nI (qf)), .int (nI L), .ref (h1), .ref (h2), .ref (h3), .ref (h4)])), (h1, .inl (cI, 16, .inl (qp))), (h2, .inl (cI, 16, .inl (qt))), (h3, .inl (cI, 16, .inl (qd))), (h4, .inl (cI, 16 * L, .inl (qr)))] := hD
  have hl := lv_entry ([.ref (h0)]) (n := 1) (Nat.le_of_ble_eq_true rfl)
  rw [lg_entry_eq]
  generalize (lg_sl ([.ref (h0)]) ++ List.replicate (1 - (lg_sl ([.ref (h0)])).length) Slot.unset).toArray = ls at hl ⊢
  have hl : lv_has ls 1 [(0, .ref (h0))] := hl
  refine lv_aload_n hx hb dX1_clear_0 rfl (lv_at hl 0 rfl) ?_
  refine lv_iconst (v := 0) hx hb dX1_clear_1 (by decide) ?_
  refine kt_i (y := nI (0)) (rfl) ?_
  refine va_put (D := D) (ci := 1) (v := .int (nI (0))) (ty := .int) (C := RX1) (T := TX1) (N := 7) hx hb hts (fun w h => List.mem_cons_of_mem _ (hiX1 w h)) tyX1 tyX1_ok nmX1 hown hK hP hD hS 0 rfl rfl 0 (by decide) kf28 (fun _ h9 => h9) rfl (by decide +kernel) rfl rfl (Nat.le_of_ble_eq_true rfl) dX1_clear_2 (fun H locs hP hD hS => ?_)
  have hP : va_P D vwCl [(h0, .inr (1, [.int (nI (0)), .int (nI (qf)), .int (nI L), .ref (h1), .ref (h2), .ref (h3), .ref (h4)])), (h1, .inl (cI, 16, .inl (qp))), (h2, .inl (cI, 16, .inl (qt))), (h3, .inl (cI, 16, .inl (qd))), (h4, .inl (cI, 16 * L, .inl (qr)))] H := hP
  have hD : va_D A [(h0, .inr (1, [.int (nI (0)), .int (nI (qf)), .int (nI L), .ref (h1), .ref (h2), .ref (h3), .ref (h4)])), (h1, .inl (cI, 16, .inl (qp))), (h2, .inl (cI, 16, .inl (qt))), (h3, .inl (cI, 16, .inl (qd))), (h4, .inl (cI, 16 * L, .inl (qr)))] := hD
  exact kr_v (rfl) hx hb hr hlocks hP hK hD hS trivial dX1_clear_5

set_option maxHeartbeats 4000000 in
set_option maxRecDepth 100000 in
/-- the oldest goes -/
theorem c_X1_dropOldest (l : Launch) (D : va_G) (cI cJ cZ : ClassId) (sz : Nat) (h0 h1 h2 h3 h4 : Nat) (L : Nat) (qp qt qd qr : Fn) (qs qf : Nat) (hs : 0 < qs) (hs16 : qs ≤ 16) (hf : qf < 16) (hL : L < 2 ^ 10) : KV l yX1_dropOldest wsX1_dropOldest ({ frames := 1, cells := 0, slots := 0, locals := 21 } : Room) D (kTy cI cJ cZ) [.ref (h0)] [(h0, .inr (1, [.int (nI (qs)), .int (nI (qf)), .int (nI L), .ref (h1), .ref (h2), .ref (h3), .ref (h4)])), (h1, .inl (cI, 16, .inl (qp))), (h2, .inl (cI, 16, .inl (qt))), (h3, .inl (cI, 16, .inl (qd))), (h4, .inl (cI, 16 * L, .inl (qr)))] sz (wQue h0 h1 h2 h3 h4 cI L (qf_drop (qp, qt, qd, qr, qs, qf))) 0 0 := by
  refine Met.ofW (cc := cX1_dropOldest) (maxL := 1) (ret := none) (by decide) rfl ?_
  intro p e s m args below meth c s₁ B hml hv
  obtain ⟨rfl, hsz, hP, hK, hD0⟩ := hv
  have hx := B.exec
  have hb := B.bytes
  have hr := B.returns
  have hts := atoms_spec (ws := wsX1_dropOldest) B.pre
  have hown : s.vm.findClass RX1 = some m.cls := findClass_of_methodNamed B.named
  have hlocks := B.notSynchronized
  have kf28 := hts (.fieldLink RX1 28 "TargetRows$Queue" "size" "I") (List.mem_cons_of_mem _ kw_150)
  have kf44 := hts (.fieldLink RX1 44 "TargetRows$Queue" "first" "I") (List.mem_cons_of_mem _ kw_152)
  subst hsz
  have hD := hD0.self (sz := s.heap.size)
  generalize hAe : va_A [(h0, .inr (1, [.int (nI (qs)), .int (nI (qf)), .int (nI L), .ref (h1), .ref (h2), .ref (h3), .ref (h4)])), (h1, .inl (cI, 16, .inl (qp))), (h2, .inl (cI, 16, .inl (qt))), (h3, .inl (cI, 16, .inl (qd))), (h4, .inl (cI, 16 * L, .inl (qr)))] s.heap.size = A at hD ⊢
  have hA : ∀ q : Nat, s.heap.size ≤ q → A q := fun q h => by rw [← hAe]; exact Or.inr h
  have hS : va_S A s.heap s.heap [] := va_S.rf
  have hP : va_P D vwCl [(h0, .inr (1, [.int (nI (qs)), .int (nI (qf)), .int (nI L), .ref (h1), .ref (h2), .ref (h3), .ref (h4)])), (h1, .inl (cI, 16, .inl (qp))), (h2, .inl (cI, 16, .inl (qt))), (h3, .inl (cI, 16, .inl (qd))), (h4, .inl (cI, 16 * L, .inl (qr)))] s.heap := hP
  have hD : va_D A [(h0, .inr (1, [.int (nI (qs)), .int (nI (qf)), .int (nI L), .ref (h1), .ref (h2), .ref (h3), .ref (h4)])), (h1, .inl (cI, 16, .inl (qp))), (h2, .inl (cI, 16, .inl (qt))), (h3, .inl (cI, 16, .inl (qd))), (h4, .inl (cI, 16 * L, .inl (qr)))] := hD
  have hl := lv_entry ([.ref (h0)]) (n := 1) (Nat.le_of_ble_eq_true rfl)
  rw [lg_entry_eq]
  generalize (lg_sl ([.ref (h0)]) ++ List.replicate (1 - (lg_sl ([.ref (h0)])).length) Slot.unset).toArray = ls at hl ⊢
  have hl : lv_has ls 1 [(0, .ref (h0))] := hl
  refine lv_aload_n hx hb dX1_dropOldest_0 rfl (lv_at hl 0 rfl) ?_
  refine lv_aload_n hx hb dX1_dropOldest_1 rfl (lv_at hl 0 rfl) ?_
  refine lv_iconst (v := 1) hx hb dX1_dropOldest_2 (by decide) ?_
  refine kt_i (y := nI (1)) (rfl) ?_
  refine kc_i (wc := [(h0, .inr (1, [.int (nI (qs)), .int (nI (qf)), .int (nI L), .ref (h1), .ref (h2), .ref (h3), .ref (h4)])), (h1, .inl (cI, 16, .inl (qp))), (h2, .inl (cI, 16, .inl (qt))), (h3, .inl (cI, 16, .inl (qd))), (h4, .inl (cI, 16 * L, .inl (qr)))]) (wr := []) [0, 1, 2, 3, 4] [] rfl rfl (by decide) (by decide) hP hD hS hA (va_runV (As := [.int (nI (1))]) (rest := [.ref (h0)]) ⟨hx, hb, hml, hown, hts⟩ (c_X1_indexOf l D cI cJ cZ _ _ _ _ _ _ _ _ _ _ _ _ _ _ (by omega) hf hL) (cwV 1 hts (kw_V kw_348 kw_350 kw_5 kw_32 kw_351) rfl rfl rfl (by decide +kernel) ⟨Nat.le_of_ble_eq_true rfl, Nat.le_of_ble_eq_true rfl⟩) ⟨kP_blind, va_recv hK (hP.sub (ws' := [(h0, .inr (1, [.int (nI (qs)), .int (nI (qf)), .int (nI L), .ref (h1), .ref (h2), .ref (h3), .ref (h4)])), (h1, .inl (cI, 16, .inl (qp))), (h2, .inl (cI, 16, .inl (qt))), (h3, .inl (cI, 16, .inl (qd))), (h4, .inl (cI, 16 * L, .inl (qr)))]) [0, 1, 2, 3, 4] rfl) (ci := 1) (q0 := 0) rfl rfl, kP_at (hP.sub [0, 1, 2, 3, 4] rfl) hK (hD.sub [0, 1, 2, 3, 4] (by decide) rfl)⟩ rfl rfl hl.1 rfl (lv_room (Nat.le_of_ble_eq_true rfl)) dX1_dropOldest_3 ⟨Nat.zero_le _, Nat.zero_le _⟩) (fun H locs hP hD hS => ?_)
  have hP := hP.sub (ws' := [(h0, .inr (1, [.int (nI (qs)), .int (nI (qf)), .int (nI L), .ref (h1), .ref (h2), .ref (h3), .ref (h4)])), (h1, .inl (cI, 16, .inl (qp))), (h2, .inl (cI, 16, .inl (qt))), (h3, .inl (cI, 16, .inl (qd))), (h4, .inl (cI, 16 * L, .inl (qr)))]) [0, 1, 2, 3, 4] rfl
  have hD := hD.sub (ws' := [(h0, .inr (1, [.int (nI (qs)), .int (nI (qf)), .int (nI L), .ref (h1), .ref (h2), .ref (h3), .ref (h4)])), (h1, .inl (cI, 16, .inl (qp))), (h2, .inl (cI, 16, .inl (qt))), (h3, .inl (cI, 16, .inl (qd))), (h4, .inl (cI, 16 * L, .inl (qr)))]) [0, 1, 2, 3, 4] (by decide) rfl
  refine va_put (D := D) (ci := 1) (v := .int (nI (qf_ix (qp, qt, qd, qr, qs, qf) (1)))) (ty := .int) (C := RX1) (T := TX1) (N := 7) hx hb hts (fun w h => List.mem_cons_of_mem _ (hiX1 w h)) tyX1 tyX1_ok nmX1 hown hK hP hD hS 0 rfl rfl 1 (by decide) kf44 (fun _ h9 => h9) rfl (by decide +kernel) rfl rfl (Nat.le_of_ble_eq_true rfl) dX1_dropOldest_6 (fun H locs hP hD hS => ?_)
  have hP : va_P D vwCl [(h0, .inr (1, [.int (nI (qs)), .int (nI (qf_ix (qp, qt, qd, qr, qs, qf) (1))), .int (nI L), .ref (h1), .ref (h2), .ref (h3), .ref (h4)])), (h1, .inl (cI, 16, .inl (qp))), (h2, .inl (cI, 16, .inl (qt))), (h3, .inl (cI, 16, .inl (qd))), (h4, .inl (cI, 16 * L, .inl (qr)))] H := hP
  have hD : va_D A [(h0, .inr (1, [.int (nI (qs)), .int (nI (qf_ix (qp, qt, qd, qr, qs, qf) (1))), .int (nI L), .ref (h1), .ref (h2), .ref (h3), .ref (h4)])), (h1, .inl (cI, 16, .inl (qp))), (h2, .inl (cI, 16, .inl (qt))), (h3, .inl (cI, 16, .inl (qd))), (h4, .inl (cI, 16 * L, .inl (qr)))] := hD
  refine lv_aload_n hx hb dX1_dropOldest_9 rfl (lv_at hl 0 rfl) ?_
  refine lv_dup hx hb dX1_dropOldest_10 rfl ?_
  refine va_get (D := D) (ci := 1) (v := .int (nI (qs))) (C := RX1) (T := TX1) (N := 7) hx hb hts (fun w h => List.mem_cons_of_mem _ (hiX1 w h)) hown hK hP 0 rfl rfl 0 (by decide) kf28 (fun _ h9 => h9) rfl dX1_dropOldest_11 ?_
  refine lv_iconst (v := 1) hx hb dX1_dropOldest_14 (by decide) ?_
  refine lv_isub hx hb dX1_dropOldest_15 ?_
  refine kt_i (y := nI (qs - 1)) (pk_sub (b := 1) (by omega)) ?_
  refine va_put (D := D) (ci := 1) (v := .int (nI (qs - 1))) (ty := .int) (C := RX1) (T := TX1) (N := 7) hx hb hts (fun w h => List.mem_cons_of_mem _ (hiX1 w h)) tyX1 tyX1_ok nmX1 hown hK hP hD hS 0 rfl rfl 0 (by decide) kf28 (fun _ h9 => h9) rfl (by decide +kernel) rfl rfl (Nat.le_of_ble_eq_true rfl) dX1_dropOldest_16 (fun H locs hP hD hS => ?_)
  have hP : va_P D vwCl [(h0, .inr (1, [.int (nI (qs - 1)), .int (nI (qf_ix (qp, qt, qd, qr, qs, qf) (1))), .int (nI L), .ref (h1), .ref (h2), .ref (h3), .ref (h4)])), (h1, .inl (cI, 16, .inl (qp))), (h2, .inl (cI, 16, .inl (qt))), (h3, .inl (cI, 16, .inl (qd))), (h4, .inl (cI, 16 * L, .inl (qr)))] H := hP
  have hD : va_D A [(h0, .inr (1, [.int (nI (qs - 1)), .int (nI (qf_ix (qp, qt, qd, qr, qs, qf) (1))), .int (nI L), .ref (h1), .ref (h2), .ref (h3), .ref (h4)])), (h1, .inl (cI, 16, .inl (qp))), (h2, .inl (cI, 16, .inl (qt))), (h3, .inl (cI, 16, .inl (qd))), (h4, .inl (cI, 16 * L, .inl (qr)))] := hD
  exact kr_v (rfl) hx hb hr hlocks hP hK hD hS trivial dX1_dropOldest_19

set_option maxHeartbeats 4000000 in
set_option maxRecDepth 100000 in
/-- the ring as it was before the oldest place was told -/
theorem c_X1_giveBack (l : Launch) (D : va_G) (cI cJ cZ : ClassId) (sz : Nat) (h0 h1 h2 h3 h4 : Nat) (L : Nat) (qp qt qd qr : Fn) (qs qf : Nat) (g0 g1 : Nat) (rp : Fn) (rd : Nat) (ro ru : Int32) (d0 : Nat) (hd0 : qd qf = nI d0) (hdL : d0 ≤ L) (hf : qf < 16) (hL : L < 2 ^ 10) : KV l yX1_giveBack wsX1_giveBack ({ frames := 2, cells := 0, slots := 0, locals := 41 } : Room) D (kTy cI cJ cZ) [.ref (h0), .ref (g0)] [(h0, .inr (1, [.int (nI (qs)), .int (nI (qf)), .int (nI L), .ref (h1), .ref (h2), .ref (h3), .ref (h4)])), (h1, .inl (cI, 16, .inl (qp))), (h2, .inl (cI, 16, .inl (qt))), (h3, .inl (cI, 16, .inl (qd))), (h4, .inl (cI, 16 * L, .inl (qr))), (g0, .inr (2, [.int (nI L), .int (nI (rd)), .int (ro), .int (ru), .ref (g1)])), (g1, .inl (cI, L, .inl (rp)))] sz (wQue h0 h1 h2 h3 h4 cI L (qp, qt, qd, qr, qs, qf) ++ wRet g0 g1 cI L (va_cpy qr rp (qf * L) 0 d0, d0, ro, ru)) 0 0 := by
  refine Met.ofW (cc := cX1_giveBack) (maxL := 2) (ret := none) (by decide) rfl ?_
  intro p e s m args below meth c s₁ B hml hv
  obtain ⟨rfl, hsz, hP, hK, hD0⟩ := hv
  have hx := B.exec
  have hb := B.bytes
  have hr := B.returns
  have hts := atoms_spec (ws := wsX1_giveBack) B.pre
  have hown : s.vm.findClass RX1 = some m.cls := findClass_of_methodNamed B.named
  have hlocks := B.notSynchronized
  have kf22 := hts (.fieldLink RX1 22 "TargetRows$Queue" "depths" "[I") (List.mem_cons_of_mem _ kw_156)
  have kf25 := hts (.fieldLink RX1 25 "TargetRows$Queue" "rings" "[I") (List.mem_cons_of_mem _ kw_157)
  have kf44 := hts (.fieldLink RX1 44 "TargetRows$Queue" "first" "I") (List.mem_cons_of_mem _ kw_152)
  have kf9 := hts (.fieldLink RX1 9 "TargetRows$Queue" "ringLength" "I") (List.mem_cons_of_mem _ kw_153)
  subst hsz
  have hD := hD0.self (sz := s.heap.size)
  generalize hAe : va_A [(h0, .inr (1, [.int (nI (qs)), .int (nI (qf)), .int (nI L), .ref (h1), .ref (h2), .ref (h3), .ref (h4)])), (h1, .inl (cI, 16, .inl (qp))), (h2, .inl (cI, 16, .inl (qt))), (h3, .inl (cI, 16, .inl (qd))), (h4, .inl (cI, 16 * L, .inl (qr))), (g0, .inr (2, [.int (nI L), .int (nI (rd)), .int (ro), .int (ru), .ref (g1)])), (g1, .inl (cI, L, .inl (rp)))] s.heap.size = A at hD ⊢
  have hA : ∀ q : Nat, s.heap.size ≤ q → A q := fun q h => by rw [← hAe]; exact Or.inr h
  have hS : va_S A s.heap s.heap [] := va_S.rf
  have hP : va_P D vwCl [(h0, .inr (1, [.int (nI (qs)), .int (nI (qf)), .int (nI L), .ref (h1), .ref (h2), .ref (h3), .ref (h4)])), (h1, .inl (cI, 16, .inl (qp))), (h2, .inl (cI, 16, .inl (qt))), (h3, .inl (cI, 16, .inl (qd))), (h4, .inl (cI, 16 * L, .inl (qr))), (g0, .inr (2, [.int (nI L), .int (nI (rd)), .int (ro), .int (ru), .ref (g1)])), (g1, .inl (cI, L, .inl (rp)))] s.heap := hP
  have hD : va_D A [(h0, .inr (1, [.int (nI (qs)), .int (nI (qf)), .int (nI L), .ref (h1), .ref (h2), .ref (h3), .ref (h4)])), (h1, .inl (cI, 16, .inl (qp))), (h2, .inl (cI, 16, .inl (qt))), (h3, .inl (cI, 16, .inl (qd))), (h4, .inl (cI, 16 * L, .inl (qr))), (g0, .inr (2, [.int (nI L), .int (nI (rd)), .int (ro), .int (ru), .ref (g1)])), (g1, .inl (cI, L, .inl (rp)))] := hD
  have hl := lv_entry ([.ref (h0), .ref (g0)]) (n := 2) (Nat.le_of_ble_eq_true rfl)
  rw [lg_entry_eq]
  generalize (lg_sl ([.ref (h0), .ref (g0)]) ++ List.replicate (2 - (lg_sl ([.ref (h0), .ref (g0)])).length) Slot.unset).toArray = ls at hl ⊢
  have hl : lv_has ls 2 [(0, .ref (h0)), (1, .ref (g0))] := hl
  refine lv_aload_n hx hb dX1_giveBack_0 rfl (lv_at hl 1 rfl) ?_
  refine lv_aload_n hx hb dX1_giveBack_1 rfl (lv_at hl 0 rfl) ?_
  refine va_get (D := D) (ci := 1) (v := .ref (h4)) (C := RX1) (T := TX1) (N := 7) hx hb hts (fun w h => List.mem_cons_of_mem _ (hiX1 w h)) hown hK hP 0 rfl rfl 6 (by decide) kf25 (fun _ h9 => h9) rfl dX1_giveBack_2 ?_
  refine lv_aload_n hx hb dX1_giveBack_5 rfl (lv_at hl 0 rfl) ?_
  refine va_get (D := D) (ci := 1) (v := .int (nI (qf))) (C := RX1) (T := TX1) (N := 7) hx hb hts (fun w h => List.mem_cons_of_mem _ (hiX1 w h)) hown hK hP 0 rfl rfl 1 (by decide) kf44 (fun _ h9 => h9) rfl dX1_giveBack_6 ?_
  refine lv_aload_n hx hb dX1_giveBack_9 rfl (lv_at hl 0 rfl) ?_
  refine va_get (D := D) (ci := 1) (v := .int (nI L)) (C := RX1) (T := TX1) (N := 7) hx hb hts (fun w h => List.mem_cons_of_mem _ (hiX1 w h)) hown hK hP 0 rfl rfl 2 (by decide) kf9 (fun _ h9 => h9) rfl dX1_giveBack_10 ?_
  refine lv_imul hx hb dX1_giveBack_13 ?_
  refine kt_i (y := nI (qf * L)) (pk_mul _ _) ?_
  refine lv_aload_n hx hb dX1_giveBack_14 rfl (lv_at hl 0 rfl) ?_
  refine va_get (D := D) (ci := 1) (v := .ref (h3)) (C := RX1) (T := TX1) (N := 7) hx hb hts (fun w h => List.mem_cons_of_mem _ (hiX1 w h)) hown hK hP 0 rfl rfl 5 (by decide) kf22 (fun _ h9 => h9) rfl dX1_giveBack_15 ?_
  refine lv_aload_n hx hb dX1_giveBack_18 rfl (lv_at hl 0 rfl) ?_
  refine va_get (D := D) (ci := 1) (v := .int (nI (qf))) (C := RX1) (T := TX1) (N := 7) hx hb hts (fun w h => List.mem_cons_of_mem _ (hiX1 w h)) hown hK hP 0 rfl rfl 1 (by decide) kf44 (fun _ h9 => h9) rfl dX1_giveBack_19 ?_
  refine ka_ild hx hb hK hP 3 0 rfl rfl (k := qf) (rfl) (⟨hf, by decide⟩) dX1_giveBack_22 ?_
  refine kt_i (y := nI (d0)) (hd0) ?_
  refine kc_v (wc := [(g0, .inr (2, [.int (nI L), .int (nI (rd)), .int (ro), .int (ru), .ref (g1)])), (g1, .inl (cI, L, .inl (rp))), (h4, .inl (cI, 16 * L, .inl (qr)))]) (wr := [(h0, .inr (1, [.int (nI (qs)), .int (nI (qf)), .int (nI L), .ref (h1), .ref (h2), .ref (h3), .ref (h4)])), (h1, .inl (cI, 16, .inl (qp))), (h2, .inl (cI, 16, .inl (qt))), (h3, .inl (cI, 16, .inl (qd)))]) [5, 6, 4] [0, 1, 2, 3] rfl rfl (by decide) (by decide) hP hD hS hA (va_runV (As := [.ref (h4), .int (nI (qf * L)), .int (nI (d0))]) (rest := []) ⟨hx, hb, hml, hown, hts⟩ (c_X2_copyFrom l D cI cJ cZ _ _ _ _ _ _ _ _ _ _ _ _ _ hdL (by omega) (q_room hf hdL) (by omega)) (cwV 3 hts (kw_V kw_245 kw_246 kw_247 kw_31 kw_248) rfl rfl rfl (by decide +kernel) ⟨Nat.le_of_ble_eq_true rfl, Nat.le_of_ble_eq_true rfl⟩) ⟨kP_blind, va_recv hK (hP.sub (ws' := [(g0, .inr (2, [.int (nI L), .int (nI (rd)), .int (ro), .int (ru), .ref (g1)])), (g1, .inl (cI, L, .inl (rp))), (h4, .inl (cI, 16 * L, .inl (qr)))]) [5, 6, 4] rfl) (ci := 2) (q0 := 0) rfl rfl, kP_at (hP.sub [5, 6, 4] rfl) hK (hD.sub [5, 6, 4] (by decide) rfl)⟩ rfl rfl hl.1 rfl (lv_room (Nat.le_of_ble_eq_true rfl)) dX1_giveBack_23 ⟨Nat.zero_le _, Nat.zero_le _⟩) (fun H locs hP hD hS => ?_)
  have hP := hP.sub (ws' := [(h0, .inr (1, [.int (nI (qs)), .int (nI (qf)), .int (nI L), .ref (h1), .ref (h2), .ref (h3), .ref (h4)])), (h1, .inl (cI, 16, .inl (qp))), (h2, .inl (cI, 16, .inl (qt))), (h3, .inl (cI, 16, .inl (qd))), (h4, .inl (cI, 16 * L, .inl (qr))), (g0, .inr (2, [.int (nI L), .int (nI (d0)), .int (ro), .int (ru), .ref (g1)])), (g1, .inl (cI, L, .inl (va_cpy (qr) (rp) (qf * L) 0 (d0))))]) [0, 1, 2, 3, 6, 4, 5] rfl
  have hD := hD.sub (ws' := [(h0, .inr (1, [.int (nI (qs)), .int (nI (qf)), .int (nI L), .ref (h1), .ref (h2), .ref (h3), .ref (h4)])), (h1, .inl (cI, 16, .inl (qp))), (h2, .inl (cI, 16, .inl (qt))), (h3, .inl (cI, 16, .inl (qd))), (h4, .inl (cI, 16 * L, .inl (qr))), (g0, .inr (2, [.int (nI L), .int (nI (d0)), .int (ro), .int (ru), .ref (g1)])), (g1, .inl (cI, L, .inl (va_cpy (qr) (rp) (qf * L) 0 (d0))))]) [0, 1, 2, 3, 6, 4, 5] (by decide) rfl
  exact kr_v (rfl) hx hb hr hlocks hP hK hD hS trivial dX1_giveBack_26

set_option maxHeartbeats 4000000 in
set_option maxRecDepth 100000 in
/-- a place comes into the queue -/
theorem c_X1_add (l : Launch) (D : va_G) (cI cJ cZ : ClassId) (sz : Nat) (h0 h1 h2 h3 h4 : Nat) (L : Nat) (qp qt qd qr : Fn) (qs qf : Nat) (g0 g1 : Nat) (rp : Fn) (rd : Nat) (ro ru : Int32) (p0 p1 : Int32) (hs : qs ≤ 16) (hd : rd ≤ L) (hf : qf < 16) (hL : L < 2 ^ 10) : KV l yX1_add wsX1_add ({ frames := 2, cells := 0, slots := 0, locals := 40 } : Room) D (kTy cI cJ cZ) [.ref (h0), .int (p0), .int (p1), .ref (g0)] [(h0, .inr (1, [.int (nI (qs)), .int (nI (qf)), .int (nI L), .ref (h1), .ref (h2), .ref (h3), .ref (h4)])), (h1, .inl (cI, 16, .inl (qp))), (h2, .inl (cI, 16, .inl (qt))), (h3, .inl (cI, 16, .inl (qd))), (h4, .inl (cI, 16 * L, .inl (qr))), (g0, .inr (2, [.int (nI L), .int (nI (rd)), .int (ro), .int (ru), .ref (g1)])), (g1, .inl (cI, L, .inl (rp)))] sz (wQue h0 h1 h2 h3 h4 cI L (qf_add L (qp, qt, qd, qr, qs, qf) p0 p1 (rp, rd, ro, ru)) ++ wRet g0 g1 cI L (rp, rd, ro, ru)) 0 0 := by
  refine Met.ofW (cc := cX1_add) (maxL := 5) (ret := none) (by decide) rfl ?_
  intro p e s m args below meth c s₁ B hml hv
  obtain ⟨rfl, hsz, hP, hK, hD0⟩ := hv
  have hx := B.exec
  have hb := B.bytes
  have hr := B.returns
  have hts := atoms_spec (ws := wsX1_add) B.pre
  have hown : s.vm.findClass RX1 = some m.cls := findClass_of_methodNamed B.named
  have hlocks := B.notSynchronized
  have kf15 := hts (.fieldLink RX1 15 "TargetRows$Queue" "places" "[I") (List.mem_cons_of_mem _ kw_154)
  have kf19 := hts (.fieldLink RX1 19 "TargetRows$Queue" "told" "[I") (List.mem_cons_of_mem _ kw_155)
  have kf22 := hts (.fieldLink RX1 22 "TargetRows$Queue" "depths" "[I") (List.mem_cons_of_mem _ kw_156)
  have kf25 := hts (.fieldLink RX1 25 "TargetRows$Queue" "rings" "[I") (List.mem_cons_of_mem _ kw_157)
  have kf28 := hts (.fieldLink RX1 28 "TargetRows$Queue" "size" "I") (List.mem_cons_of_mem _ kw_150)
  have kf35 := hts (.fieldLink RX1 35 "TargetRows$Returns" "depth" "I") (List.mem_cons_of_mem _ kw_126)
  have kf9 := hts (.fieldLink RX1 9 "TargetRows$Queue" "ringLength" "I") (List.mem_cons_of_mem _ kw_153)
  subst hsz
  have hD := hD0.self (sz := s.heap.size)
  generalize hAe : va_A [(h0, .inr (1, [.int (nI (qs)), .int (nI (qf)), .int (nI L), .ref (h1), .ref (h2), .ref (h3), .ref (h4)])), (h1, .inl (cI, 16, .inl (qp))), (h2, .inl (cI, 16, .inl (qt))), (h3, .inl (cI, 16, .inl (qd))), (h4, .inl (cI, 16 * L, .inl (qr))), (g0, .inr (2, [.int (nI L), .int (nI (rd)), .int (ro), .int (ru), .ref (g1)])), (g1, .inl (cI, L, .inl (rp)))] s.heap.size = A at hD ⊢
  have hA : ∀ q : Nat, s.heap.size ≤ q → A q := fun q h => by rw [← hAe]; exact Or.inr h
  have hS : va_S A s.heap s.heap [] := va_S.rf
  have hP : va_P D vwCl [(h0, .inr (1, [.int (nI (qs)), .int (nI (qf)), .int (nI L), .ref (h1), .ref (h2), .ref (h3), .ref (h4)])), (h1, .inl (cI, 16, .inl (qp))), (h2, .inl (cI, 16, .inl (qt))), (h3, .inl (cI, 16, .inl (qd))), (h4, .inl (cI, 16 * L, .inl (qr))), (g0, .inr (2, [.int (nI L), .int (nI (rd)), .int (ro), .int (ru), .ref (g1)])), (g1, .inl (cI, L, .inl (rp)))] s.heap := hP
  have hD : va_D A [(h0, .inr (1, [.int (nI (qs)), .int (nI (qf)), .int (nI L), .ref (h1), .ref (h2), .ref (h3), .ref (h4)])), (h1, .inl (cI, 16, .inl (qp))), (h2, .inl (cI, 16, .inl (qt))), (h3, .inl (cI, 16, .inl (qd))), (h4, .inl (cI, 16 * L, .inl (qr))), (g0, .inr (2, [.int (nI L), .int (nI (rd)), .int (ro), .int (ru), .ref (g1)])), (g1, .inl (cI, L, .inl (rp)))] := hD
  have hl := lv_entry ([.ref (h0), .int (p0), .int (p1), .ref (g0)]) (n := 5) (Nat.le_of_ble_eq_true rfl)
  rw [lg_entry_eq]
  generalize (lg_sl ([.ref (h0), .int (p0), .int (p1), .ref (g0)]) ++ List.replicate (5 - (lg_sl ([.ref (h0), .int (p0), .int (p1), .ref (g0)])).length) Slot.unset).toArray = ls at hl ⊢
  have hl : lv_has ls 5 [(0, .ref (h0)), (1, .int (p0)), (2, .int (p1)), (3, .ref (g0))] := hl
  refine lv_aload_n hx hb dX1_add_0 rfl (lv_at hl 0 rfl) ?_
  refine lv_aload_n hx hb dX1_add_1 rfl (lv_at hl 0 rfl) ?_
  refine va_get (D := D) (ci := 1) (v := .int (nI (qs))) (C := RX1) (T := TX1) (N := 7) hx hb hts (fun w h => List.mem_cons_of_mem _ (hiX1 w h)) hown hK hP 0 rfl rfl 0 (by decide) kf28 (fun _ h9 => h9) rfl dX1_add_2 ?_
  refine kc_i (wc := [(h0, .inr (1, [.int (nI (qs)), .int (nI (qf)), .int (nI L), .ref (h1), .ref (h2), .ref (h3), .ref (h4)])), (h1, .inl (cI, 16, .inl (qp))), (h2, .inl (cI, 16, .inl (qt))), (h3, .inl (cI, 16, .inl (qd))), (h4, .inl (cI, 16 * L, .inl (qr)))]) (wr := [(g0, .inr (2, [.int (nI L), .int (nI (rd)), .int (ro), .int (ru), .ref (g1)])), (g1, .inl (cI, L, .inl (rp)))]) [0, 1, 2, 3, 4] [5, 6] rfl rfl (by decide) (by decide) hP hD hS hA (va_runV (As := [.int (nI (qs))]) (rest := []) ⟨hx, hb, hml, hown, hts⟩ (c_X1_indexOf l D cI cJ cZ _ _ _ _ _ _ _ _ _ _ _ _ _ _ (by omega) hf hL) (cwV 1 hts (kw_V kw_348 kw_350 kw_5 kw_32 kw_351) rfl rfl rfl (by decide +kernel) ⟨Nat.le_of_ble_eq_true rfl, Nat.le_of_ble_eq_true rfl⟩) ⟨kP_blind, va_recv hK (hP.sub (ws' := [(h0, .inr (1, [.int (nI (qs)), .int (nI (qf)), .int (nI L), .ref (h1), .ref (h2), .ref (h3), .ref (h4)])), (h1, .inl (cI, 16, .inl (qp))), (h2, .inl (cI, 16, .inl (qt))), (h3, .inl (cI, 16, .inl (qd))), (h4, .inl (cI, 16 * L, .inl (qr)))]) [0, 1, 2, 3, 4] rfl) (ci := 1) (q0 := 0) rfl rfl, kP_at (hP.sub [0, 1, 2, 3, 4] rfl) hK (hD.sub [0, 1, 2, 3, 4] (by decide) rfl)⟩ rfl rfl hl.1 rfl (lv_room (Nat.le_of_ble_eq_true rfl)) dX1_add_5 ⟨Nat.zero_le _, Nat.zero_le _⟩) (fun H locs hP hD hS => ?_)
  have hP := hP.sub (ws' := [(h0, .inr (1, [.int (nI (qs)), .int (nI (qf)), .int (nI L), .ref (h1), .ref (h2), .ref (h3), .ref (h4)])), (h1, .inl (cI, 16, .inl (qp))), (h2, .inl (cI, 16, .inl (qt))), (h3, .inl (cI, 16, .inl (qd))), (h4, .inl (cI, 16 * L, .inl (qr))), (g0, .inr (2, [.int (nI L), .int (nI (rd)), .int (ro), .int (ru), .ref (g1)])), (g1, .inl (cI, L, .inl (rp)))]) [2, 3, 4, 5, 6, 0, 1] rfl
  have hD := hD.sub (ws' := [(h0, .inr (1, [.int (nI (qs)), .int (nI (qf)), .int (nI L), .ref (h1), .ref (h2), .ref (h3), .ref (h4)])), (h1, .inl (cI, 16, .inl (qp))), (h2, .inl (cI, 16, .inl (qt))), (h3, .inl (cI, 16, .inl (qd))), (h4, .inl (cI, 16 * L, .inl (qr))), (g0, .inr (2, [.int (nI L), .int (nI (rd)), .int (ro), .int (ru), .ref (g1)])), (g1, .inl (cI, L, .inl (rp)))]) [2, 3, 4, 5, 6, 0, 1] (by decide) rfl
  refine lv_istore (lv' := [(4, .int (nI (qf_ix (qp, qt, qd, qr, qs, qf) (qs)))), (0, .ref (h0)), (1, .int (p0)), (2, .int (p1)), (3, .ref (g0))]) hx hb dX1_add_8 hl (by decide) rfl (fun ls hl => ?_)
  refine lv_aload_n hx hb dX1_add_10 rfl (lv_at hl 1 rfl) ?_
  refine va_get (D := D) (ci := 1) (v := .ref (h1)) (C := RX1) (T := TX1) (N := 7) hx hb hts (fun w h => List.mem_cons_of_mem _ (hiX1 w h)) hown hK hP 0 rfl rfl 3 (by decide) kf15 (fun _ h9 => h9) rfl dX1_add_11 ?_
  refine lv_iload hx hb dX1_add_14 (lv_at hl 0 rfl) ?_
  refine lv_iload_n hx hb dX1_add_16 rfl (lv_at hl 2 rfl) ?_
  refine ka_ist hx hb hK hP hD hS 1 0 rfl rfl (k := qf_ix (qp, qt, qd, qr, qs, qf) (qs)) (rfl) (⟨qf_ix_lt _ _, by decide⟩) dX1_add_17 (fun H locs hP hD hS => ?_)
  have hP : va_P D vwCl [(h0, .inr (1, [.int (nI (qs)), .int (nI (qf)), .int (nI L), .ref (h1), .ref (h2), .ref (h3), .ref (h4)])), (h1, .inl (cI, 16, .inl (upd (qp) (qf_ix (qp, qt, qd, qr, qs, qf) (qs)) (p0)))), (h2, .inl (cI, 16, .inl (qt))), (h3, .inl (cI, 16, .inl (qd))), (h4, .inl (cI, 16 * L, .inl (qr))), (g0, .inr (2, [.int (nI L), .int (nI (rd)), .int (ro), .int (ru), .ref (g1)])), (g1, .inl (cI, L, .inl (rp)))] H := hP
  have hD : va_D A [(h0, .inr (1, [.int (nI (qs)), .int (nI (qf)), .int (nI L), .ref (h1), .ref (h2), .ref (h3), .ref (h4)])), (h1, .inl (cI, 16, .inl (upd (qp) (qf_ix (qp, qt, qd, qr, qs, qf) (qs)) (p0)))), (h2, .inl (cI, 16, .inl (qt))), (h3, .inl (cI, 16, .inl (qd))), (h4, .inl (cI, 16 * L, .inl (qr))), (g0, .inr (2, [.int (nI L), .int (nI (rd)), .int (ro), .int (ru), .ref (g1)])), (g1, .inl (cI, L, .inl (rp)))] := hD
  refine lv_aload_n hx hb dX1_add_18 rfl (lv_at hl 1 rfl) ?_
  refine va_get (D := D) (ci := 1) (v := .ref (h2)) (C := RX1) (T := TX1) (N := 7) hx hb hts (fun w h => List.mem_cons_of_mem _ (hiX1 w h)) hown hK hP 0 rfl rfl 4 (by decide) kf19 (fun _ h9 => h9) rfl dX1_add_19 ?_
  refine lv_iload hx hb dX1_add_22 (lv_at hl 0 rfl) ?_
  refine lv_iload_n hx hb dX1_add_24 rfl (lv_at hl 3 rfl) ?_
  refine ka_ist hx hb hK hP hD hS 2 0 rfl rfl (k := qf_ix (qp, qt, qd, qr, qs, qf) (qs)) (rfl) (⟨qf_ix_lt _ _, by decide⟩) dX1_add_25 (fun H locs hP hD hS => ?_)
  have hP : va_P D vwCl [(h0, .inr (1, [.int (nI (qs)), .int (nI (qf)), .int (nI L), .ref (h1), .ref (h2), .ref (h3), .ref (h4)])), (h1, .inl (cI, 16, .inl (upd (qp) (qf_ix (qp, qt, qd, qr, qs, qf) (qs)) (p0)))), (h2, .inl (cI, 16, .inl (upd (qt) (qf_ix (qp, qt, qd, qr, qs, qf) (qs)) (p1)))), (h3, .inl (cI, 16, .inl (qd))), (h4, .inl (cI, 16 * L, .inl (qr))), (g0, .inr (2, [.int (nI L), .int (nI (rd)), .int (ro), .int (ru), .ref (g1)])), (g1, .inl (cI, L, .inl (rp)))] H := hP
  have hD : va_D A [(h0, .inr (1, [.int (nI (qs)), .int (nI (qf)), .int (nI L), .ref (h1), .ref (h2), .ref (h3), .ref (h4)])), (h1, .inl (cI, 16, .inl (upd (qp) (qf_ix (qp, qt, qd, qr, qs, qf) (qs)) (p0)))), (h2, .inl (cI, 16, .inl (upd (qt) (qf_ix (qp, qt, qd, qr, qs, qf) (qs)) (p1)))), (h3, .inl (cI, 16, .inl (qd))), (h4, .inl (cI, 16 * L, .inl (qr))), (g0, .inr (2, [.int (nI L), .int (nI (rd)), .int (ro), .int (ru), .ref (g1)])), (g1, .inl (cI, L, .inl (rp)))] := hD
  refine lv_aload_n hx hb dX1_add_26 rfl (lv_at hl 1 rfl) ?_
  refine va_get (D := D) (ci := 1) (v := .ref (h3)) (C := RX1) (T := TX1) (N := 7) hx hb hts (fun w h => List.mem_cons_of_mem _ (hiX1 w h)) hown hK hP 0 rfl rfl 5 (by decide) kf22 (fun _ h9 => h9) rfl dX1_add_27 ?_
  refine lv_iload hx hb dX1_add_30 (lv_at hl 0 rfl) ?_
  refine lv_aload_n hx hb dX1_add_32 rfl (lv_at hl 4 rfl) ?_
  refine va_get (D := D) (ci := 2) (v := .int (nI (rd))) (C := RX2) (T := TX2) (N := 5) hx hb hts (fun w h => List.mem_cons_of_mem _ (hiX2 w h)) hown hK hP 5 rfl rfl 1 (by decide) kf35 (fun _ h9 => h9) rfl dX1_add_33 ?_
  refine ka_ist hx hb hK hP hD hS 3 0 rfl rfl (k := qf_ix (qp, qt, qd, qr, qs, qf) (qs)) (rfl) (⟨qf_ix_lt _ _, by decide⟩) dX1_add_36 (fun H locs hP hD hS => ?_)
  have hP : va_P D vwCl [(h0, .inr (1, [.int (nI (qs)), .int (nI (qf)), .int (nI L), .ref (h1), .ref (h2), .ref (h3), .ref (h4)])), (h1, .inl (cI, 16, .inl (upd (qp) (qf_ix (qp, qt, qd, qr, qs, qf) (qs)) (p0)))), (h2, .inl (cI, 16, .inl (upd (qt) (qf_ix (qp, qt, qd, qr, qs, qf) (qs)) (p1)))), (h3, .inl (cI, 16, .inl (upd (qd) (qf_ix (qp, qt, qd, qr, qs, qf) (qs)) (nI (rd))))), (h4, .inl (cI, 16 * L, .inl (qr))), (g0, .inr (2, [.int (nI L), .int (nI (rd)), .int (ro), .int (ru), .ref (g1)])), (g1, .inl (cI, L, .inl (rp)))] H := hP
  have hD : va_D A [(h0, .inr (1, [.int (nI (qs)), .int (nI (qf)), .int (nI L), .ref (h1), .ref (h2), .ref (h3), .ref (h4)])), (h1, .inl (cI, 16, .inl (upd (qp) (qf_ix (qp, qt, qd, qr, qs, qf) (qs)) (p0)))), (h2, .inl (cI, 16, .inl (upd (qt) (qf_ix (qp, qt, qd, qr, qs, qf) (qs)) (p1)))), (h3, .inl (cI, 16, .inl (upd (qd) (qf_ix (qp, qt, qd, qr, qs, qf) (qs)) (nI (rd))))), (h4, .inl (cI, 16 * L, .inl (qr))), (g0, .inr (2, [.int (nI L), .int (nI (rd)), .int (ro), .int (ru), .ref (g1)])), (g1, .inl (cI, L, .inl (rp)))] := hD
  refine lv_aload_n hx hb dX1_add_37 rfl (lv_at hl 4 rfl) ?_
  refine lv_aload_n hx hb dX1_add_38 rfl (lv_at hl 1 rfl) ?_
  refine va_get (D := D) (ci := 1) (v := .ref (h4)) (C := RX1) (T := TX1) (N := 7) hx hb hts (fun w h => List.mem_cons_of_mem _ (hiX1 w h)) hown hK hP 0 rfl rfl 6 (by decide) kf25 (fun _ h9 => h9) rfl dX1_add_39 ?_
  refine lv_iload hx hb dX1_add_42 (lv_at hl 0 rfl) ?_
  refine lv_aload_n hx hb dX1_add_44 rfl (lv_at hl 1 rfl) ?_
  refine va_get (D := D) (ci := 1) (v := .int (nI L)) (C := RX1) (T := TX1) (N := 7) hx hb hts (fun w h => List.mem_cons_of_mem _ (hiX1 w h)) hown hK hP 0 rfl rfl 2 (by decide) kf9 (fun _ h9 => h9) rfl dX1_add_45 ?_
  refine lv_imul hx hb dX1_add_48 ?_
  refine kt_i (y := nI (qf_ix (qp, qt, qd, qr, qs, qf) (qs) * L)) (pk_mul _ _) ?_
  refine kc_v (wc := [(g0, .inr (2, [.int (nI L), .int (nI (rd)), .int (ro), .int (ru), .ref (g1)])), (g1, .inl (cI, L, .inl (rp))), (h4, .inl (cI, 16 * L, .inl (qr)))]) (wr := [(h0, .inr (1, [.int (nI (qs)), .int (nI (qf)), .int (nI L), .ref (h1), .ref (h2), .ref (h3), .ref (h4)])), (h1, .inl (cI, 16, .inl (upd (qp) (qf_ix (qp, qt, qd, qr, qs, qf) (qs)) (p0)))), (h2, .inl (cI, 16, .inl (upd (qt) (qf_ix (qp, qt, qd, qr, qs, qf) (qs)) (p1)))), (h3, .inl (cI, 16, .inl (upd (qd) (qf_ix (qp, qt, qd, qr, qs, qf) (qs)) (nI (rd)))))]) [5, 6, 4] [0, 1, 2, 3] rfl rfl (by decide) (by decide) hP hD hS hA (va_runV (As := [.ref (h4), .int (nI (qf_ix (qp, qt, qd, qr, qs, qf) (qs) * L))]) (rest := []) ⟨hx, hb, hml, hown, hts⟩ (c_X2_copyTo l D cI cJ cZ _ _ _ _ _ _ _ _ _ _ _ _ hd (by omega) (q_room (qf_ix_lt _ _) hd) (by omega)) (cwV 2 hts (kw_V kw_352 kw_353 kw_354 kw_31 kw_355) rfl rfl rfl (by decide +kernel) ⟨Nat.le_of_ble_eq_true rfl, Nat.le_of_ble_eq_true rfl⟩) ⟨kP_blind, va_recv hK (hP.sub (ws' := [(g0, .inr (2, [.int (nI L), .int (nI (rd)), .int (ro), .int (ru), .ref (g1)])), (g1, .inl (cI, L, .inl (rp))), (h4, .inl (cI, 16 * L, .inl (qr)))]) [5, 6, 4] rfl) (ci := 2) (q0 := 0) rfl rfl, kP_at (hP.sub [5, 6, 4] rfl) hK (hD.sub [5, 6, 4] (by decide) rfl)⟩ rfl rfl hl.1 rfl (lv_room (Nat.le_of_ble_eq_true rfl)) dX1_add_49 ⟨Nat.zero_le _, Nat.zero_le _⟩) (fun H locs hP hD hS => ?_)
  have hP := hP.sub (ws' := [(h0, .inr (1, [.int (nI (qs)), .int (nI (qf)), .int (nI L), .ref (h1), .ref (h2), .ref (h3), .ref (h4)])), (h1, .inl (cI, 16, .inl (upd (qp) (qf_ix (qp, qt, qd, qr, qs, qf) (qs)) (p0)))), (h2, .inl (cI, 16, .inl (upd (qt) (qf_ix (qp, qt, qd, qr, qs, qf) (qs)) (p1)))), (h3, .inl (cI, 16, .inl (upd (qd) (qf_ix (qp, qt, qd, qr, qs, qf) (qs)) (nI (rd))))), (h4, .inl (cI, 16 * L, .inl (va_cpy (rp) (qr) 0 (qf_ix (qp, qt, qd, qr, qs, qf) (qs) * L) (rd)))), (g0, .inr (2, [.int (nI L), .int (nI (rd)), .int (ro), .int (ru), .ref (g1)])), (g1, .inl (cI, L, .inl (rp)))]) [0, 1, 2, 3, 6, 4, 5] rfl
  have hD := hD.sub (ws' := [(h0, .inr (1, [.int (nI (qs)), .int (nI (qf)), .int (nI L), .ref (h1), .ref (h2), .ref (h3), .ref (h4)])), (h1, .inl (cI, 16, .inl (upd (qp) (qf_ix (qp, qt, qd, qr, qs, qf) (qs)) (p0)))), (h2, .inl (cI, 16, .inl (upd (qt) (qf_ix (qp, qt, qd, qr, qs, qf) (qs)) (p1)))), (h3, .inl (cI, 16, .inl (upd (qd) (qf_ix (qp, qt, qd, qr, qs, qf) (qs)) (nI (rd))))), (h4, .inl (cI, 16 * L, .inl (va_cpy (rp) (qr) 0 (qf_ix (qp, qt, qd, qr, qs, qf) (qs) * L) (rd)))), (g0, .inr (2, [.int (nI L), .int (nI (rd)), .int (ro), .int (ru), .ref (g1)])), (g1, .inl (cI, L, .inl (rp)))]) [0, 1, 2, 3, 6, 4, 5] (by decide) rfl
  refine lv_aload_n hx hb dX1_add_52 rfl (lv_at hl 1 rfl) ?_
  refine lv_dup hx hb dX1_add_53 rfl ?_
  refine va_get (D := D) (ci := 1) (v := .int (nI (qs))) (C := RX1) (T := TX1) (N := 7) hx hb hts (fun w h => List.mem_cons_of_mem _ (hiX1 w h)) hown hK hP 0 rfl rfl 0 (by decide) kf28 (fun _ h9 => h9) rfl dX1_add_54 ?_
  refine lv_iconst (v := 1) hx hb dX1_add_57 (by decide) ?_
  refine lv_iadd hx hb dX1_add_58 ?_
  refine kt_i (y := nI (qs + 1)) (nI_1 _) ?_
  refine va_put (D := D) (ci := 1) (v := .int (nI (qs + 1))) (ty := .int) (C := RX1) (T := TX1) (N := 7) hx hb hts (fun w h => List.mem_cons_of_mem _ (hiX1 w h)) tyX1 tyX1_ok nmX1 hown hK hP hD hS 0 rfl rfl 0 (by decide) kf28 (fun _ h9 => h9) rfl (by decide +kernel) rfl rfl (Nat.le_of_ble_eq_true rfl) dX1_add_59 (fun H locs hP hD hS => ?_)
  have hP : va_P D vwCl [(h0, .inr (1, [.int (nI (qs + 1)), .int (nI (qf)), .int (nI L), .ref (h1), .ref (h2), .ref (h3), .ref (h4)])), (h1, .inl (cI, 16, .inl (upd (qp) (qf_ix (qp, qt, qd, qr, qs, qf) (qs)) (p0)))), (h2, .inl (cI, 16, .inl (upd (qt) (qf_ix (qp, qt, qd, qr, qs, qf) (qs)) (p1)))), (h3, .inl (cI, 16, .inl (upd (qd) (qf_ix (qp, qt, qd, qr, qs, qf) (qs)) (nI (rd))))), (h4, .inl (cI, 16 * L, .inl (va_cpy (rp) (qr) 0 (qf_ix (qp, qt, qd, qr, qs, qf) (qs) * L) (rd)))), (g0, .inr (2, [.int (nI L), .int (nI (rd)), .int (ro), .int (ru), .ref (g1)])), (g1, .inl (cI, L, .inl (rp)))] H := hP
  have hD : va_D A [(h0, .inr (1, [.int (nI (qs + 1)), .int (nI (qf)), .int (nI L), .ref (h1), .ref (h2), .ref (h3), .ref (h4)])), (h1, .inl (cI, 16, .inl (upd (qp) (qf_ix (qp, qt, qd, qr, qs, qf) (qs)) (p0)))), (h2, .inl (cI, 16, .inl (upd (qt) (qf_ix (qp, qt, qd, qr, qs, qf) (qs)) (p1)))), (h3, .inl (cI, 16, .inl (upd (qd) (qf_ix (qp, qt, qd, qr, qs, qf) (qs)) (nI (rd))))), (h4, .inl (cI, 16 * L, .inl (va_cpy (rp) (qr) 0 (qf_ix (qp, qt, qd, qr, qs, qf) (qs) * L) (rd)))), (g0, .inr (2, [.int (nI L), .int (nI (rd)), .int (ro), .int (ru), .ref (g1)])), (g1, .inl (cI, L, .inl (rp)))] := hD
  exact kr_v (rfl) hx hb hr hlocks hP hK hD hS trivial dX1_add_62
