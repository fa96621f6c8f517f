set_option maxHeartbeats 4000000 in
set_option maxRecDepth 100000 in
/-- entry, of one that is there -/
theorem c_X5_entry (l : Launch) (D : va_G) (cI cJ cZ : ClassId) (sz : Nat) (e0 e1 e2 e3 e4 e5 e6 e7 e8 e9 e10 e11 e12 e13 : Nat) (S Wy sb L : Nat) (mhs mg mk mt mu : Fn) (tm : Int32) (rg rq : Fn) (mh : Int32) (mr : Fn) (md : Nat) (mv mz : Int32) (mp mo mw mx : Fn) (mn : Nat) (mcs : Fn) (ml mth : Int32) (k0 k1 : Nat) (p2 : Int32) (hk0 : k0 < S) (hk1 : k1 < Wy) (hw0 : ¬ p2 < 0) (hw2 : p2 ≤ 2) (hS16 : S ≤ 16) (hW4 : Wy ≤ 4) : KI l yX5_entry wsX5_entry ({ frames := 1, cells := 0, slots := 0, locals := 22 } : Room) D (kTy cI cJ cZ) [.ref (e0), .int (nI k0), .int (nI k1), .int (p2)] [(e0, .inr (5, [.int (mth), .int (nI S), .int (nI Wy), .int (nI L), .int (nI sb), .ref (e1), .ref (e2), .ref (e3), .ref (e4), .ref (e5), .int (tm), .ref (e6), .ref (e7), .int (mh), .int (nI (md)), .ref (e8), .int (nI (mn)), .ref (e9), .ref (e10), .ref (e11), .ref (e12), .ref (e13), .int (mv), .int (mz), .int (ml)])), (e1, .inl (cZ, 64, .inl (mhs))), (e2, .inl (cI, 64, .inl (mg))), (e3, .inl (cI, 64, .inl (mk))), (e4, .inl (cI, 64, .inl (mt))), (e5, .inl (cI, 64, .inl (mu))), (e6, .inl (cI, 64, .inl (rg))), (e7, .inl (cI, 64, .inl (rq))), (e8, .inl (cI, 17, .inl (mr))), (e9, .inl (cI, 16, .inl (mp))), (e10, .inl (cI, 16, .inl (mo))), (e11, .inl (cI, 16, .inl (mw))), (e12, .inl (cI, 272, .inl (mx))), (e13, .inl (cI, 8, .inl (mcs)))] sz (wMo e0 e1 e2 e3 e4 e5 e6 e7 e8 e9 e10 e11 e12 e13 cI cZ S Wy sb L ((mhs, mg, mk, mt, mu, tm), (rg, rq, mh), (mr, md, mv, mz), (mp, mo, mw, mx, mn), mcs, ml, 0)) (if mhs (4 * k0 + k1) = 0 then (if p2 = 0 then -1 else 0) else if p2 = 0 then mg (4 * k0 + k1) else if p2 = 1 then mk (4 * k0 + k1) else mt (4 * k0 + k1)) 0 0 := by
  refine Met.ofW (cc := cX5_entry) (maxL := 5) (ret := (some .int)) (by decide) rfl ?_
  intro p e s m args below meth c s₁ B hml hv
  obtain ⟨rfl, hsz, hP, hK, hD0⟩ := hv
  have hx := B.exec
  have hb := B.bytes
  have hr := B.returns
  have hts := atoms_spec (ws := wsX5_entry) B.pre
  have hown : s.vm.findClass RX5 = some m.cls := findClass_of_methodNamed B.named
  have hlocks := B.notSynchronized
  have kf13 := hts (.fieldLink RX5 13 "TargetRowsModel" "tag" "[I") (List.mem_cons_of_mem _ kw_519)
  have kf17 := hts (.fieldLink RX5 17 "TargetRowsModel" "kind" "[I") (List.mem_cons_of_mem _ kw_520)
  have kf20 := hts (.fieldLink RX5 20 "TargetRowsModel" "target" "[I") (List.mem_cons_of_mem _ kw_521)
  have kf54 := hts (.fieldLink RX5 54 "TargetRowsModel" "sets" "I") (List.mem_cons_of_mem _ kw_514)
  have kf61 := hts (.fieldLink RX5 61 "TargetRowsModel" "ways" "I") (List.mem_cons_of_mem _ kw_515)
  have kf67 := hts (.fieldLink RX5 67 "TargetRowsModel" "thrown" "I") (List.mem_cons_of_mem _ kw_513)
  have kf7 := hts (.fieldLink RX5 7 "TargetRowsModel" "has" "[Z") (List.mem_cons_of_mem _ kw_518)
  subst hsz
  have hD := hD0.self (sz := s.heap.size)
  generalize hAe : va_A [(e0, .inr (5, [.int (mth), .int (nI S), .int (nI Wy), .int (nI L), .int (nI sb), .ref (e1), .ref (e2), .ref (e3), .ref (e4), .ref (e5), .int (tm), .ref (e6), .ref (e7), .int (mh), .int (nI (md)), .ref (e8), .int (nI (mn)), .ref (e9), .ref (e10), .ref (e11), .ref (e12), .ref (e13), .int (mv), .int (mz), .int (ml)])), (e1, .inl (cZ, 64, .inl (mhs))), (e2, .inl (cI, 64, .inl (mg))), (e3, .inl (cI, 64, .inl (mk))), (e4, .inl (cI, 64, .inl (mt))), (e5, .inl (cI, 64, .inl (mu))), (e6, .inl (cI, 64, .inl (rg))), (e7, .inl (cI, 64, .inl (rq))), (e8, .inl (cI, 17, .inl (mr))), (e9, .inl (cI, 16, .inl (mp))), (e10, .inl (cI, 16, .inl (mo))), (e11, .inl (cI, 16, .inl (mw))), (e12, .inl (cI, 272, .inl (mx))), (e13, .inl (cI, 8, .inl (mcs)))] s.heap.size = A at hD ⊢
  have hA : ∀ q : Nat, s.heap.size ≤ q → A q := fun q h => by rw [← hAe]; exact Or.inr h
  have hS : va_S A s.heap s.heap [] := va_S.rf
  have hP : va_P D vwCl [(e0, .inr (5, [.int (mth), .int (nI S), .int (nI Wy), .int (nI L), .int (nI sb), .ref (e1), .ref (e2), .ref (e3), .ref (e4), .ref (e5), .int (tm), .ref (e6), .ref (e7), .int (mh), .int (nI (md)), .ref (e8), .int (nI (mn)), .ref (e9), .ref (e10), .ref (e11), .ref (e12), .ref (e13), .int (mv), .int (mz), .int (ml)])), (e1, .inl (cZ, 64, .inl (mhs))), (e2, .inl (cI, 64, .inl (mg))), (e3, .inl (cI, 64, .inl (mk))), (e4, .inl (cI, 64, .inl (mt))), (e5, .inl (cI, 64, .inl (mu))), (e6, .inl (cI, 64, .inl (rg))), (e7, .inl (cI, 64, .inl (rq))), (e8, .inl (cI, 17, .inl (mr))), (e9, .inl (cI, 16, .inl (mp))), (e10, .inl (cI, 16, .inl (mo))), (e11, .inl (cI, 16, .inl (mw))), (e12, .inl (cI, 272, .inl (mx))), (e13, .inl (cI, 8, .inl (mcs)))] s.heap := hP
  have hD : va_D A [(e0, .inr (5, [.int (mth), .int (nI S), .int (nI Wy), .int (nI L), .int (nI sb), .ref (e1), .ref (e2), .ref (e3), .ref (e4), .ref (e5), .int (tm), .ref (e6), .ref (e7), .int (mh), .int (nI (md)), .ref (e8), .int (nI (mn)), .ref (e9), .ref (e10), .ref (e11), .ref (e12), .ref (e13), .int (mv), .int (mz), .int (ml)])), (e1, .inl (cZ, 64, .inl (mhs))), (e2, .inl (cI, 64, .inl (mg))), (e3, .inl (cI, 64, .inl (mk))), (e4, .inl (cI, 64, .inl (mt))), (e5, .inl (cI, 64, .inl (mu))), (e6, .inl (cI, 64, .inl (rg))), (e7, .inl (cI, 64, .inl (rq))), (e8, .inl (cI, 17, .inl (mr))), (e9, .inl (cI, 16, .inl (mp))), (e10, .inl (cI, 16, .inl (mo))), (e11, .inl (cI, 16, .inl (mw))), (e12, .inl (cI, 272, .inl (mx))), (e13, .inl (cI, 8, .inl (mcs)))] := hD
  have hl := lv_entry ([.ref (e0), .int (nI k0), .int (nI k1), .int (p2)]) (n := 5) (Nat.le_of_ble_eq_true rfl)
  rw [lg_entry_eq]
  generalize (lg_sl ([.ref (e0), .int (nI k0), .int (nI k1), .int (p2)]) ++ List.replicate (5 - (lg_sl ([.ref (e0), .int (nI k0), .int (nI k1), .int (p2)])).length) Slot.unset).toArray = ls at hl ⊢
  have hl : lv_has ls 5 [(0, .ref (e0)), (1, .int (nI k0)), (2, .int (nI k1)), (3, .int (p2))] := hl
  refine lv_aload_n hx hb dX5_entry_0 rfl (lv_at hl 0 rfl) ?_
  refine lv_iconst (v := 0) hx hb dX5_entry_1 (by decide) ?_
  refine va_put (D := D) (ci := 5) (v := .int (0)) (ty := .int) (C := RX5) (T := TX5) (N := 25) hx hb hts (fun w h => List.mem_cons_of_mem _ (hiX5 w h)) tyX5 tyX5_ok nmX5 hown hK hP hD hS 0 rfl rfl 0 (by decide) kf67 (fun _ h9 => h9) rfl (by decide +kernel) rfl rfl (Nat.le_of_ble_eq_true rfl) dX5_entry_2 (fun H locs hP hD hS => ?_)
  have hP : va_P D vwCl [(e0, .inr (5, [.int (0), .int (nI S), .int (nI Wy), .int (nI L), .int (nI sb), .ref (e1), .ref (e2), .ref (e3), .ref (e4), .ref (e5), .int (tm), .ref (e6), .ref (e7), .int (mh), .int (nI (md)), .ref (e8), .int (nI (mn)), .ref (e9), .ref (e10), .ref (e11), .ref (e12), .ref (e13), .int (mv), .int (mz), .int (ml)])), (e1, .inl (cZ, 64, .inl (mhs))), (e2, .inl (cI, 64, .inl (mg))), (e3, .inl (cI, 64, .inl (mk))), (e4, .inl (cI, 64, .inl (mt))), (e5, .inl (cI, 64, .inl (mu))), (e6, .inl (cI, 64, .inl (rg))), (e7, .inl (cI, 64, .inl (rq))), (e8, .inl (cI, 17, .inl (mr))), (e9, .inl (cI, 16, .inl (mp))), (e10, .inl (cI, 16, .inl (mo))), (e11, .inl (cI, 16, .inl (mw))), (e12, .inl (cI, 272, .inl (mx))), (e13, .inl (cI, 8, .inl (mcs)))] H := hP
  have hD : va_D A [(e0, .inr (5, [.int (0), .int (nI S), .int (nI Wy), .int (nI L), .int (nI sb), .ref (e1), .ref (e2), .ref (e3), .ref (e4), .ref (e5), .int (tm), .ref (e6), .ref (e7), .int (mh), .int (nI (md)), .ref (e8), .int (nI (mn)), .ref (e9), .ref (e10), .ref (e11), .ref (e12), .ref (e13), .int (mv), .int (mz), .int (ml)])), (e1, .inl (cZ, 64, .inl (mhs))), (e2, .inl (cI, 64, .inl (mg))), (e3, .inl (cI, 64, .inl (mk))), (e4, .inl (cI, 64, .inl (mt))), (e5, .inl (cI, 64, .inl (mu))), (e6, .inl (cI, 64, .inl (rg))), (e7, .inl (cI, 64, .inl (rq))), (e8, .inl (cI, 17, .inl (mr))), (e9, .inl (cI, 16, .inl (mp))), (e10, .inl (cI, 16, .inl (mo))), (e11, .inl (cI, 16, .inl (mw))), (e12, .inl (cI, 272, .inl (mx))), (e13, .inl (cI, 8, .inl (mcs)))] := hD
  refine lv_iload_n hx hb dX5_entry_5 rfl (lv_at hl 1 rfl) ?_
  refine lv_iconst (v := 0) hx hb dX5_entry_6 (by decide) ?_
  refine lv_aload_n hx hb dX5_entry_7 rfl (lv_at hl 0 rfl) ?_
  refine va_get (D := D) (ci := 5) (v := .int (nI S)) (C := RX5) (T := TX5) (N := 25) hx hb hts (fun w h => List.mem_cons_of_mem _ (hiX5 w h)) hown hK hP 0 rfl rfl 1 (by decide) kf54 (fun _ h9 => h9) rfl dX5_entry_8 ?_
  refine lv_iconst (v := 1) hx hb dX5_entry_11 (by decide) ?_
  refine lv_isub hx hb dX5_entry_12 ?_
  refine kc_i (wc := []) (wr := [(e0, .inr (5, [.int (0), .int (nI S), .int (nI Wy), .int (nI L), .int (nI sb), .ref (e1), .ref (e2), .ref (e3), .ref (e4), .ref (e5), .int (tm), .ref (e6), .ref (e7), .int (mh), .int (nI (md)), .ref (e8), .int (nI (mn)), .ref (e9), .ref (e10), .ref (e11), .ref (e12), .ref (e13), .int (mv), .int (mz), .int (ml)])), (e1, .inl (cZ, 64, .inl (mhs))), (e2, .inl (cI, 64, .inl (mg))), (e3, .inl (cI, 64, .inl (mk))), (e4, .inl (cI, 64, .inl (mt))), (e5, .inl (cI, 64, .inl (mu))), (e6, .inl (cI, 64, .inl (rg))), (e7, .inl (cI, 64, .inl (rq))), (e8, .inl (cI, 17, .inl (mr))), (e9, .inl (cI, 16, .inl (mp))), (e10, .inl (cI, 16, .inl (mo))), (e11, .inl (cI, 16, .inl (mw))), (e12, .inl (cI, 272, .inl (mx))), (e13, .inl (cI, 8, .inl (mcs)))]) [] [0, 1, 2, 3, 4, 5, 6, 7, 8, 9, 10, 11, 12, 13] rfl rfl (by decide) (by decide) hP hD hS hA (va_runS (As := [.int (nI k0), .int (0), .int ((nI S) - (1))]) (rest := []) ⟨hx, hb, hml, hown, hts⟩ (c_X5_within l D cI cJ cZ _ _ _ _) (va_cwS 3 hts (kw_S kw_641 kw_642 kw_33 kw_643) rfl rfl rfl (by decide +kernel) ⟨Nat.le_of_ble_eq_true rfl, Nat.le_of_ble_eq_true rfl⟩) ⟨kP_blind, kP_at (hP.sub [] rfl) hK (hD.sub [] (by decide) rfl)⟩ rfl rfl hl.1 rfl (lv_room (Nat.le_of_ble_eq_true rfl)) dX5_entry_13 ⟨Nat.zero_le _, Nat.zero_le _⟩) (fun H locs hP hD hS => ?_)
  have hP := hP.sub (ws' := [(e0, .inr (5, [.int (0), .int (nI S), .int (nI Wy), .int (nI L), .int (nI sb), .ref (e1), .ref (e2), .ref (e3), .ref (e4), .ref (e5), .int (tm), .ref (e6), .ref (e7), .int (mh), .int (nI (md)), .ref (e8), .int (nI (mn)), .ref (e9), .ref (e10), .ref (e11), .ref (e12), .ref (e13), .int (mv), .int (mz), .int (ml)])), (e1, .inl (cZ, 64, .inl (mhs))), (e2, .inl (cI, 64, .inl (mg))), (e3, .inl (cI, 64, .inl (mk))), (e4, .inl (cI, 64, .inl (mt))), (e5, .inl (cI, 64, .inl (mu))), (e6, .inl (cI, 64, .inl (rg))), (e7, .inl (cI, 64, .inl (rq))), (e8, .inl (cI, 17, .inl (mr))), (e9, .inl (cI, 16, .inl (mp))), (e10, .inl (cI, 16, .inl (mo))), (e11, .inl (cI, 16, .inl (mw))), (e12, .inl (cI, 272, .inl (mx))), (e13, .inl (cI, 8, .inl (mcs)))]) [0, 1, 2, 3, 4, 5, 6, 7, 8, 9, 10, 11, 12, 13] rfl
  have hD := hD.sub (ws' := [(e0, .inr (5, [.int (0), .int (nI S), .int (nI Wy), .int (nI L), .int (nI sb), .ref (e1), .ref (e2), .ref (e3), .ref (e4), .ref (e5), .int (tm), .ref (e6), .ref (e7), .int (mh), .int (nI (md)), .ref (e8), .int (nI (mn)), .ref (e9), .ref (e10), .ref (e11), .ref (e12), .ref (e13), .int (mv), .int (mz), .int (ml)])), (e1, .inl (cZ, 64, .inl (mhs))), (e2, .inl (cI, 64, .inl (mg))), (e3, .inl (cI, 64, .inl (mk))), (e4, .inl (cI, 64, .inl (mt))), (e5, .inl (cI, 64, .inl (mu))), (e6, .inl (cI, 64, .inl (rg))), (e7, .inl (cI, 64, .inl (rq))), (e8, .inl (cI, 17, .inl (mr))), (e9, .inl (cI, 16, .inl (mp))), (e10, .inl (cI, 16, .inl (mo))), (e11, .inl (cI, 16, .inl (mw))), (e12, .inl (cI, 272, .inl (mx))), (e13, .inl (cI, 8, .inl (mcs)))]) [0, 1, 2, 3, 4, 5, 6, 7, 8, 9, 10, 11, 12, 13] (by decide) rfl
  refine kt_i (y := 1) (mwk hk0 (by omega)) ?_
  refine lv_if_eq (tgt := 42) hx hb dX5_entry_16 (by decide) (fun c_16 => absurd c_16 (by decide)) (fun c_16 => ?_)
  refine lv_iload_n hx hb dX5_entry_19 rfl (lv_at hl 2 rfl) ?_
  refine lv_iconst (v := 0) hx hb dX5_entry_20 (by decide) ?_
  refine lv_aload_n hx hb dX5_entry_21 rfl (lv_at hl 0 rfl) ?_
  refine va_get (D := D) (ci := 5) (v := .int (nI Wy)) (C := RX5) (T := TX5) (N := 25) hx hb hts (fun w h => List.mem_cons_of_mem _ (hiX5 w h)) hown hK hP 0 rfl rfl 2 (by decide) kf61 (fun _ h9 => h9) rfl dX5_entry_22 ?_
  refine lv_iconst (v := 1) hx hb dX5_entry_25 (by decide) ?_
  refine lv_isub hx hb dX5_entry_26 ?_
  refine kc_i (wc := []) (wr := [(e0, .inr (5, [.int (0), .int (nI S), .int (nI Wy), .int (nI L), .int (nI sb), .ref (e1), .ref (e2), .ref (e3), .ref (e4), .ref (e5), .int (tm), .ref (e6), .ref (e7), .int (mh), .int (nI (md)), .ref (e8), .int (nI (mn)), .ref (e9), .ref (e10), .ref (e11), .ref (e12), .ref (e13), .int (mv), .int (mz), .int (ml)])), (e1, .inl (cZ, 64, .inl (mhs))), (e2, .inl (cI, 64, .inl (mg))), (e3, .inl (cI, 64, .inl (mk))), (e4, .inl (cI, 64, .inl (mt))), (e5, .inl (cI, 64, .inl (mu))), (e6, .inl (cI, 64, .inl (rg))), (e7, .inl (cI, 64, .inl (rq))), (e8, .inl (cI, 17, .inl (mr))), (e9, .inl (cI, 16, .inl (mp))), (e10, .inl (cI, 16, .inl (mo))), (e11, .inl (cI, 16, .inl (mw))), (e12, .inl (cI, 272, .inl (mx))), (e13, .inl (cI, 8, .inl (mcs)))]) [] [0, 1, 2, 3, 4, 5, 6, 7, 8, 9, 10, 11, 12, 13] rfl rfl (by decide) (by decide) hP hD hS hA (va_runS (As := [.int (nI k1), .int (0), .int ((nI Wy) - (1))]) (rest := []) ⟨hx, hb, hml, hown, hts⟩ (c_X5_within l D cI cJ cZ _ _ _ _) (va_cwS 3 hts (kw_S kw_641 kw_642 kw_33 kw_643) rfl rfl rfl (by decide +kernel) ⟨Nat.le_of_ble_eq_true rfl, Nat.le_of_ble_eq_true rfl⟩) ⟨kP_blind, kP_at (hP.sub [] rfl) hK (hD.sub [] (by decide) rfl)⟩ rfl rfl hl.1 rfl (lv_room (Nat.le_of_ble_eq_true rfl)) dX5_entry_27 ⟨Nat.zero_le _, Nat.zero_le _⟩) (fun H locs hP hD hS => ?_)
  have hP := hP.sub (ws' := [(e0, .inr (5, [.int (0), .int (nI S), .int (nI Wy), .int (nI L), .int (nI sb), .ref (e1), .ref (e2), .ref (e3), .ref (e4), .ref (e5), .int (tm), .ref (e6), .ref (e7), .int (mh), .int (nI (md)), .ref (e8), .int (nI (mn)), .ref (e9), .ref (e10), .ref (e11), .ref (e12), .ref (e13), .int (mv), .int (mz), .int (ml)])), (e1, .inl (cZ, 64, .inl (mhs))), (e2, .inl (cI, 64, .inl (mg))), (e3, .inl (cI, 64, .inl (mk))), (e4, .inl (cI, 64, .inl (mt))), (e5, .inl (cI, 64, .inl (mu))), (e6, .inl (cI, 64, .inl (rg))), (e7, .inl (cI, 64, .inl (rq))), (e8, .inl (cI, 17, .inl (mr))), (e9, .inl (cI, 16, .inl (mp))), (e10, .inl (cI, 16, .inl (mo))), (e11, .inl (cI, 16, .inl (mw))), (e12, .inl (cI, 272, .inl (mx))), (e13, .inl (cI, 8, .inl (mcs)))]) [0, 1, 2, 3, 4, 5, 6, 7, 8, 9, 10, 11, 12, 13] rfl
  have hD := hD.sub (ws' := [(e0, .inr (5, [.int (0), .int (nI S), .int (nI Wy), .int (nI L), .int (nI sb), .ref (e1), .ref (e2), .ref (e3), .ref (e4), .ref (e5), .int (tm), .ref (e6), .ref (e7), .int (mh), .int (nI (md)), .ref (e8), .int (nI (mn)), .ref (e9), .ref (e10), .ref (e11), .ref (e12), .ref (e13), .int (mv), .int (mz), .int (ml)])), (e1, .inl (cZ, 64, .inl (mhs))), (e2, .inl (cI, 64, .inl (mg))), (e3, .inl (cI, 64, .inl (mk))), (e4, .inl (cI, 64, .inl (mt))), (e5, .inl (cI, 64, .inl (mu))), (e6, .inl (cI, 64, .inl (rg))), (e7, .inl (cI, 64, .inl (rq))), (e8, .inl (cI, 17, .inl (mr))), (e9, .inl (cI, 16, .inl (mp))), (e10, .inl (cI, 16, .inl (mo))), (e11, .inl (cI, 16, .inl (mw))), (e12, .inl (cI, 272, .inl (mx))), (e13, .inl (cI, 8, .inl (mcs)))]) [0, 1, 2, 3, 4, 5, 6, 7, 8, 9, 10, 11, 12, 13] (by decide) rfl
  refine kt_i (y := 1) (mwk hk1 (by omega)) ?_
  refine lv_if_eq (tgt := 42) hx hb dX5_entry_30 (by decide) (fun c_30 => absurd c_30 (by decide)) (fun c_30 => ?_)
  refine lv_iload_n hx hb dX5_entry_33 rfl (lv_at hl 3 rfl) ?_
  refine lv_iconst (v := 0) hx hb dX5_entry_34 (by decide) ?_
  refine lv_iconst (v := 2) hx hb dX5_entry_35 (by decide) ?_
  refine kc_i (wc := []) (wr := [(e0, .inr (5, [.int (0), .int (nI S), .int (nI Wy), .int (nI L), .int (nI sb), .ref (e1), .ref (e2), .ref (e3), .ref (e4), .ref (e5), .int (tm), .ref (e6), .ref (e7), .int (mh), .int (nI (md)), .ref (e8), .int (nI (mn)), .ref (e9), .ref (e10), .ref (e11), .ref (e12), .ref (e13), .int (mv), .int (mz), .int (ml)])), (e1, .inl (cZ, 64, .inl (mhs))), (e2, .inl (cI, 64, .inl (mg))), (e3, .inl (cI, 64, .inl (mk))), (e4, .inl (cI, 64, .inl (mt))), (e5, .inl (cI, 64, .inl (mu))), (e6, .inl (cI, 64, .inl (rg))), (e7, .inl (cI, 64, .inl (rq))), (e8, .inl (cI, 17, .inl (mr))), (e9, .inl (cI, 16, .inl (mp))), (e10, .inl (cI, 16, .inl (mo))), (e11, .inl (cI, 16, .inl (mw))), (e12, .inl (cI, 272, .inl (mx))), (e13, .inl (cI, 8, .inl (mcs)))]) [] [0, 1, 2, 3, 4, 5, 6, 7, 8, 9, 10, 11, 12, 13] rfl rfl (by decide) (by decide) hP hD hS hA (va_runS (As := [.int (p2), .int (0), .int (2)]) (rest := []) ⟨hx, hb, hml, hown, hts⟩ (c_X5_within l D cI cJ cZ _ _ _ _) (va_cwS 3 hts (kw_S kw_641 kw_642 kw_33 kw_643) rfl rfl rfl (by decide +kernel) ⟨Nat.le_of_ble_eq_true rfl, Nat.le_of_ble_eq_true rfl⟩) ⟨kP_blind, kP_at (hP.sub [] rfl) hK (hD.sub [] (by decide) rfl)⟩ rfl rfl hl.1 rfl (lv_room (Nat.le_of_ble_eq_true rfl)) dX5_entry_36 ⟨Nat.zero_le _, Nat.zero_le _⟩) (fun H locs hP hD hS => ?_)
  have hP := hP.sub (ws' := [(e0, .inr (5, [.int (0), .int (nI S), .int (nI Wy), .int (nI L), .int (nI sb), .ref (e1), .ref (e2), .ref (e3), .ref (e4), .ref (e5), .int (tm), .ref (e6), .ref (e7), .int (mh), .int (nI (md)), .ref (e8), .int (nI (mn)), .ref (e9), .ref (e10), .ref (e11), .ref (e12), .ref (e13), .int (mv), .int (mz), .int (ml)])), (e1, .inl (cZ, 64, .inl (mhs))), (e2, .inl (cI, 64, .inl (mg))), (e3, .inl (cI, 64, .inl (mk))), (e4, .inl (cI, 64, .inl (mt))), (e5, .inl (cI, 64, .inl (mu))), (e6, .inl (cI, 64, .inl (rg))), (e7, .inl (cI, 64, .inl (rq))), (e8, .inl (cI, 17, .inl (mr))), (e9, .inl (cI, 16, .inl (mp))), (e10, .inl (cI, 16, .inl (mo))), (e11, .inl (cI, 16, .inl (mw))), (e12, .inl (cI, 272, .inl (mx))), (e13, .inl (cI, 8, .inl (mcs)))]) [0, 1, 2, 3, 4, 5, 6, 7, 8, 9, 10, 11, 12, 13] rfl
  have hD := hD.sub (ws' := [(e0, .inr (5, [.int (0), .int (nI S), .int (nI Wy), .int (nI L), .int (nI sb), .ref (e1), .ref (e2), .ref (e3), .ref (e4), .ref (e5), .int (tm), .ref (e6), .ref (e7), .int (mh), .int (nI (md)), .ref (e8), .int (nI (mn)), .ref (e9), .ref (e10), .ref (e11), .ref (e12), .ref (e13), .int (mv), .int (mz), .int (ml)])), (e1, .inl (cZ, 64, .inl (mhs))), (e2, .inl (cI, 64, .inl (mg))), (e3, .inl (cI, 64, .inl (mk))), (e4, .inl (cI, 64, .inl (mt))), (e5, .inl (cI, 64, .inl (mu))), (e6, .inl (cI, 64, .inl (rg))), (e7, .inl (cI, 64, .inl (rq))), (e8, .inl (cI, 17, .inl (mr))), (e9, .inl (cI, 16, .inl (mp))), (e10, .inl (cI, 16, .inl (mo))), (e11, .inl (cI, 16, .inl (mw))), (e12, .inl (cI, 272, .inl (mx))), (e13, .inl (cI, 8, .inl (mcs)))]) [0, 1, 2, 3, 4, 5, 6, 7, 8, 9, 10, 11, 12, 13] (by decide) rfl
  refine kt_i (y := 1) (mw1 (Int32.not_lt.mp hw0) hw2) ?_
  refine lv_if_ne (tgt := 48) hx hb dX5_entry_39 (by decide) (fun c_39 => ?_) (fun c_39 => absurd c_39 (by decide))
  refine lv_iconst (v := 4) hx hb dX5_entry_48 (by decide) ?_
  refine lv_iload_n hx hb dX5_entry_49 rfl (lv_at hl 1 rfl) ?_
  refine lv_imul hx hb dX5_entry_50 ?_
  refine kt_i (y := nI (4 * k0)) (pk_mul 4 _) ?_
  refine lv_iload_n hx hb dX5_entry_51 rfl (lv_at hl 2 rfl) ?_
  refine lv_iadd hx hb dX5_entry_52 ?_
  refine kt_i (y := nI (4 * k0 + k1)) (nI_add _ _) ?_
  refine lv_istore (lv' := [(4, .int (nI (4 * k0 + k1))), (0, .ref (e0)), (1, .int (nI k0)), (2, .int (nI k1)), (3, .int (p2))]) hx hb dX5_entry_53 hl (by decide) rfl (fun ls hl => ?_)
  refine lv_aload_n hx hb dX5_entry_55 rfl (lv_at hl 1 rfl) ?_
  refine va_get (D := D) (ci := 5) (v := .ref (e1)) (C := RX5) (T := TX5) (N := 25) hx hb hts (fun w h => List.mem_cons_of_mem _ (hiX5 w h)) hown hK hP 0 rfl rfl 5 (by decide) kf7 (fun _ h9 => h9) rfl dX5_entry_56 ?_
  refine lv_iload hx hb dX5_entry_59 (lv_at hl 0 rfl) ?_
  refine ka_zld hx hb hK hP 1 2 rfl rfl (k := 4 * k0 + k1) (rfl) (⟨by omega, by decide⟩) dX5_entry_61 ?_
  refine lv_if_ne (tgt := 75) hx hb dX5_entry_62 (by decide) (fun c_62 => ?_) (fun c_62 => ?_)
  ·
    refine lv_iload_n hx hb dX5_entry_75 rfl (lv_at hl 4 rfl) ?_
    refine lv_if_ne (tgt := 89) hx hb dX5_entry_76 (by decide) (fun c_76 => ?_) (fun c_76 => ?_)
    ·
      refine lv_iload_n hx hb dX5_entry_89 rfl (lv_at hl 4 rfl) ?_
      refine lv_iconst (v := 1) hx hb dX5_entry_90 (by decide) ?_
      refine lv_icmp_ne (tgt := 104) hx hb dX5_entry_91 (by decide) (fun c_91 => ?_) (fun c_91 => ?_)
      ·
        refine lv_aload_n hx hb dX5_entry_104 rfl (lv_at hl 1 rfl) ?_
        refine va_get (D := D) (ci := 5) (v := .ref (e4)) (C := RX5) (T := TX5) (N := 25) hx hb hts (fun w h => List.mem_cons_of_mem _ (hiX5 w h)) hown hK hP 0 rfl rfl 8 (by decide) kf20 (fun _ h9 => h9) rfl dX5_entry_105 ?_
        refine lv_iload hx hb dX5_entry_108 (lv_at hl 0 rfl) ?_
        refine ka_ild hx hb hK hP 4 0 rfl rfl (k := 4 * k0 + k1) (rfl) (⟨by omega, by decide⟩) dX5_entry_110 ?_
        exact kr_i (rfl) hx hb hr hlocks hP hK hD hS (by rw [if_neg c_62, if_neg c_76, if_neg c_91]) dX5_entry_111
      ·
        refine lv_aload_n hx hb dX5_entry_94 rfl (lv_at hl 1 rfl) ?_
        refine va_get (D := D) (ci := 5) (v := .ref (e3)) (C := RX5) (T := TX5) (N := 25) hx hb hts (fun w h => List.mem_cons_of_mem _ (hiX5 w h)) hown hK hP 0 rfl rfl 7 (by decide) kf17 (fun _ h9 => h9) rfl dX5_entry_95 ?_
        refine lv_iload hx hb dX5_entry_98 (lv_at hl 0 rfl) ?_
        refine ka_ild hx hb hK hP 3 0 rfl rfl (k := 4 * k0 + k1) (rfl) (⟨by omega, by decide⟩) dX5_entry_100 ?_
        refine lv_goto (tgt := 111) hx hb dX5_entry_101 (by decide) ?_
        exact kr_i (rfl) hx hb hr hlocks hP hK hD hS (by rw [if_neg c_62, if_neg c_76, if_pos c_91]) dX5_entry_111
    ·
      refine lv_aload_n hx hb dX5_entry_79 rfl (lv_at hl 1 rfl) ?_
      refine va_get (D := D) (ci := 5) (v := .ref (e2)) (C := RX5) (T := TX5) (N := 25) hx hb hts (fun w h => List.mem_cons_of_mem _ (hiX5 w h)) hown hK hP 0 rfl rfl 6 (by decide) kf13 (fun _ h9 => h9) rfl dX5_entry_80 ?_
      refine lv_iload hx hb dX5_entry_83 (lv_at hl 0 rfl) ?_
      refine ka_ild hx hb hK hP 2 0 rfl rfl (k := 4 * k0 + k1) (rfl) (⟨by omega, by decide⟩) dX5_entry_85 ?_
      refine lv_goto (tgt := 111) hx hb dX5_entry_86 (by decide) ?_
      exact kr_i (rfl) hx hb hr hlocks hP hK hD hS (by rw [if_neg c_62, if_pos c_76]) dX5_entry_111
  ·
    refine lv_iload_n hx hb dX5_entry_65 rfl (lv_at hl 4 rfl) ?_
    refine lv_if_ne (tgt := 73) hx hb dX5_entry_66 (by decide) (fun c_66 => ?_) (fun c_66 => ?_)
    ·
      refine lv_iconst (v := 0) hx hb dX5_entry_73 (by decide) ?_
      exact kr_i (rfl) hx hb hr hlocks hP hK hD hS (by rw [if_pos c_62, if_neg c_66]) dX5_entry_74
    ·
      refine lv_iconst (v := (-1)) hx hb dX5_entry_69 (by decide) ?_
      refine lv_goto (tgt := 74) hx hb dX5_entry_70 (by decide) ?_
      exact kr_i (rfl) hx hb hr hlocks hP hK hD hS (by rw [if_pos c_62, if_pos c_66]) dX5_entry_74

set_option maxHeartbeats 4000000 in
set_option maxRecDepth 100000 in
/-- row -/
theorem c_X5_row (l : Launch) (D : va_G) (cI cJ cZ : ClassId) (sz : Nat) (e0 e1 e2 e3 e4 e5 e6 e7 e8 e9 e10 e11 e12 e13 : Nat) (S Wy sb L : Nat) (mhs mg mk mt mu : Fn) (tm : Int32) (rg rq : Fn) (mh : Int32) (mr : Fn) (md : Nat) (mv mz : Int32) (mp mo mw mx : Fn) (mn : Nat) (mcs : Fn) (ml mth : Int32) (k0 : Nat) (p1 : Int32) (hk0 : k0 < 64) (hw0 : ¬ p1 < 0) (hw1 : p1 ≤ 1) : KI l yX5_row wsX5_row ({ frames := 1, cells := 0, slots := 0, locals := 22 } : Room) D (kTy cI cJ cZ) [.ref (e0), .int (nI k0), .int (p1)] [(e0, .inr (5, [.int (mth), .int (nI S), .int (nI Wy), .int (nI L), .int (nI sb), .ref (e1), .ref (e2), .ref (e3), .ref (e4), .ref (e5), .int (tm), .ref (e6), .ref (e7), .int (mh), .int (nI (md)), .ref (e8), .int (nI (mn)), .ref (e9), .ref (e10), .ref (e11), .ref (e12), .ref (e13), .int (mv), .int (mz), .int (ml)])), (e1, .inl (cZ, 64, .inl (mhs))), (e2, .inl (cI, 64, .inl (mg))), (e3, .inl (cI, 64, .inl (mk))), (e4, .inl (cI, 64, .inl (mt))), (e5, .inl (cI, 64, .inl (mu))), (e6, .inl (cI, 64, .inl (rg))), (e7, .inl (cI, 64, .inl (rq))), (e8, .inl (cI, 17, .inl (mr))), (e9, .inl (cI, 16, .inl (mp))), (e10, .inl (cI, 16, .inl (mo))), (e11, .inl (cI, 16, .inl (mw))), (e12, .inl (cI, 272, .inl (mx))), (e13, .inl (cI, 8, .inl (mcs)))] sz (wMo e0 e1 e2 e3 e4 e5 e6 e7 e8 e9 e10 e11 e12 e13 cI cZ S Wy sb L ((mhs, mg, mk, mt, mu, tm), (rg, rq, mh), (mr, md, mv, mz), (mp, mo, mw, mx, mn), mcs, ml, 0)) (if p1 = 0 then rg k0 else rq k0) 0 0 := by
  refine Met.ofW (cc := cX5_row) (maxL := 3) (ret := (some .int)) (by decide) rfl ?_
  intro p e s m args below meth c s₁ B hml hv
  obtain ⟨rfl, hsz, hP, hK, hD0⟩ := hv
  have hx := B.exec
  have hb := B.bytes
  have hr := B.returns
  have hts := atoms_spec (ws := wsX5_row) B.pre
  have hown : s.vm.findClass RX5 = some m.cls := findClass_of_methodNamed B.named
  have hlocks := B.notSynchronized
  have kf26 := hts (.fieldLink RX5 26 "TargetRowsModel" "rowTag" "[I") (List.mem_cons_of_mem _ kw_524)
  have kf29 := hts (.fieldLink RX5 29 "TargetRowsModel" "rowTarget" "[I") (List.mem_cons_of_mem _ kw_525)
  have kf67 := hts (.fieldLink RX5 67 "TargetRowsModel" "thrown" "I") (List.mem_cons_of_mem _ kw_513)
  subst hsz
  have hD := hD0.self (sz := s.heap.size)
  generalize hAe : va_A [(e0, .inr (5, [.int (mth), .int (nI S), .int (nI Wy), .int (nI L), .int (nI sb), .ref (e1), .ref (e2), .ref (e3), .ref (e4), .ref (e5), .int (tm), .ref (e6), .ref (e7), .int (mh), .int (nI (md)), .ref (e8), .int (nI (mn)), .ref (e9), .ref (e10), .ref (e11), .ref (e12), .ref (e13), .int (mv), .int (mz), .int (ml)])), (e1, .inl (cZ, 64, .inl (mhs))), (e2, .inl (cI, 64, .inl (mg))), (e3, .inl (cI, 64, .inl (mk))), (e4, .inl (cI, 64, .inl (mt))), (e5, .inl (cI, 64, .inl (mu))), (e6, .inl (cI, 64, .inl (rg))), (e7, .inl (cI, 64, .inl (rq))), (e8, .inl (cI, 17, .inl (mr))), (e9, .inl (cI, 16, .inl (mp))), (e10, .inl (cI, 16, .inl (mo))), (e11, .inl (cI, 16, .inl (mw))), (e12, .inl (cI, 272, .inl (mx))), (e13, .inl (cI, 8, .inl (mcs)))] s.heap.size = A at hD ⊢
  have hA : ∀ q : Nat, s.heap.size ≤ q → A q := fun q h => by rw [← hAe]; exact Or.inr h
  have hS : va_S A s.heap s.heap [] := va_S.rf
  have hP : va_P D vwCl [(e0, .inr (5, [.int (mth), .int (nI S), .int (nI Wy), .int (nI L), .int (nI sb), .ref (e1), .ref (e2), .ref (e3), .ref (e4), .ref (e5), .int (tm), .ref (e6), .ref (e7), .int (mh), .int (nI (md)), .ref (e8), .int (nI (mn)), .ref (e9), .ref (e10), .ref (e11), .ref (e12), .ref (e13), .int (mv), .int (mz), .int (ml)])), (e1, .inl (cZ, 64, .inl (mhs))), (e2, .inl (cI, 64, .inl (mg))), (e3, .inl (cI, 64, .inl (mk))), (e4, .inl (cI, 64, .inl (mt))), (e5, .inl (cI, 64, .inl (mu))), (e6, .inl (cI, 64, .inl (rg))), (e7, .inl (cI, 64, .inl (rq))), (e8, .inl (cI, 17, .inl (mr))), (e9, .inl (cI, 16, .inl (mp))), (e10, .inl (cI, 16, .inl (mo))), (e11, .inl (cI, 16, .inl (mw))), (e12, .inl (cI, 272, .inl (mx))), (e13, .inl (cI, 8, .inl (mcs)))] s.heap := hP
  have hD : va_D A [(e0, .inr (5, [.int (mth), .int (nI S), .int (nI Wy), .int (nI L), .int (nI sb), .ref (e1), .ref (e2), .ref (e3), .ref (e4), .ref (e5), .int (tm), .ref (e6), .ref (e7), .int (mh), .int (nI (md)), .ref (e8), .int (nI (mn)), .ref (e9), .ref (e10), .ref (e11), .ref (e12), .ref (e13), .int (mv), .int (mz), .int (ml)])), (e1, .inl (cZ, 64, .inl (mhs))), (e2, .inl (cI, 64, .inl (mg))), (e3, .inl (cI, 64, .inl (mk))), (e4, .inl (cI, 64, .inl (mt))), (e5, .inl (cI, 64, .inl (mu))), (e6, .inl (cI, 64, .inl (rg))), (e7, .inl (cI, 64, .inl (rq))), (e8, .inl (cI, 17, .inl (mr))), (e9, .inl (cI, 16, .inl (mp))), (e10, .inl (cI, 16, .inl (mo))), (e11, .inl (cI, 16, .inl (mw))), (e12, .inl (cI, 272, .inl (mx))), (e13, .inl (cI, 8, .inl (mcs)))] := hD
  have hl := lv_entry ([.ref (e0), .int (nI k0), .int (p1)]) (n := 3) (Nat.le_of_ble_eq_true rfl)
  rw [lg_entry_eq]
  generalize (lg_sl ([.ref (e0), .int (nI k0), .int (p1)]) ++ List.replicate (3 - (lg_sl ([.ref (e0), .int (nI k0), .int (p1)])).length) Slot.unset).toArray = ls at hl ⊢
  have hl : lv_has ls 3 [(0, .ref (e0)), (1, .int (nI k0)), (2, .int (p1))] := hl
  refine lv_aload_n hx hb dX5_row_0 rfl (lv_at hl 0 rfl) ?_
  refine lv_iconst (v := 0) hx hb dX5_row_1 (by decide) ?_
  refine va_put (D := D) (ci := 5) (v := .int (0)) (ty := .int) (C := RX5) (T := TX5) (N := 25) hx hb hts (fun w h => List.mem_cons_of_mem _ (hiX5 w h)) tyX5 tyX5_ok nmX5 hown hK hP hD hS 0 rfl rfl 0 (by decide) kf67 (fun _ h9 => h9) rfl (by decide +kernel) rfl rfl (Nat.le_of_ble_eq_true rfl) dX5_row_2 (fun H locs hP hD hS => ?_)
  have hP : va_P D vwCl [(e0, .inr (5, [.int (0), .int (nI S), .int (nI Wy), .int (nI L), .int (nI sb), .ref (e1), .ref (e2), .ref (e3), .ref (e4), .ref (e5), .int (tm), .ref (e6), .ref (e7), .int (mh), .int (nI (md)), .ref (e8), .int (nI (mn)), .ref (e9), .ref (e10), .ref (e11), .ref (e12), .ref (e13), .int (mv), .int (mz), .int (ml)])), (e1, .inl (cZ, 64, .inl (mhs))), (e2, .inl (cI, 64, .inl (mg))), (e3, .inl (cI, 64, .inl (mk))), (e4, .inl (cI, 64, .inl (mt))), (e5, .inl (cI, 64, .inl (mu))), (e6, .inl (cI, 64, .inl (rg))), (e7, .inl (cI, 64, .inl (rq))), (e8, .inl (cI, 17, .inl (mr))), (e9, .inl (cI, 16, .inl (mp))), (e10, .inl (cI, 16, .inl (mo))), (e11, .inl (cI, 16, .inl (mw))), (e12, .inl (cI, 272, .inl (mx))), (e13, .inl (cI, 8, .inl (mcs)))] H := hP
  have hD : va_D A [(e0, .inr (5, [.int (0), .int (nI S), .int (nI Wy), .int (nI L), .int (nI sb), .ref (e1), .ref (e2), .ref (e3), .ref (e4), .ref (e5), .int (tm), .ref (e6), .ref (e7), .int (mh), .int (nI (md)), .ref (e8), .int (nI (mn)), .ref (e9), .ref (e10), .ref (e11), .ref (e12), .ref (e13), .int (mv), .int (mz), .int (ml)])), (e1, .inl (cZ, 64, .inl (mhs))), (e2, .inl (cI, 64, .inl (mg))), (e3, .inl (cI, 64, .inl (mk))), (e4, .inl (cI, 64, .inl (mt))), (e5, .inl (cI, 64, .inl (mu))), (e6, .inl (cI, 64, .inl (rg))), (e7, .inl (cI, 64, .inl (rq))), (e8, .inl (cI, 17, .inl (mr))), (e9, .inl (cI, 16, .inl (mp))), (e10, .inl (cI, 16, .inl (mo))), (e11, .inl (cI, 16, .inl (mw))), (e12, .inl (cI, 272, .inl (mx))), (e13, .inl (cI, 8, .inl (mcs)))] := hD
  refine lv_iload_n hx hb dX5_row_5 rfl (lv_at hl 1 rfl) ?_
  refine lv_iconst (v := 0) hx hb dX5_row_6 (by decide) ?_
  refine lv_bipush (v := 63) hx hb dX5_row_7 (by decide) ?_
  refine kc_i (wc := []) (wr := [(e0, .inr (5, [.int (0), .int (nI S), .int (nI Wy), .int (nI L), .int (nI sb), .ref (e1), .ref (e2), .ref (e3), .ref (e4), .ref (e5), .int (tm), .ref (e6), .ref (e7), .int (mh), .int (nI (md)), .ref (e8), .int (nI (mn)), .ref (e9), .ref (e10), .ref (e11), .ref (e12), .ref (e13), .int (mv), .int (mz), .int (ml)])), (e1, .inl (cZ, 64, .inl (mhs))), (e2, .inl (cI, 64, .inl (mg))), (e3, .inl (cI, 64, .inl (mk))), (e4, .inl (cI, 64, .inl (mt))), (e5, .inl (cI, 64, .inl (mu))), (e6, .inl (cI, 64, .inl (rg))), (e7, .inl (cI, 64, .inl (rq))), (e8, .inl (cI, 17, .inl (mr))), (e9, .inl (cI, 16, .inl (mp))), (e10, .inl (cI, 16, .inl (mo))), (e11, .inl (cI, 16, .inl (mw))), (e12, .inl (cI, 272, .inl (mx))), (e13, .inl (cI, 8, .inl (mcs)))]) [] [0, 1, 2, 3, 4, 5, 6, 7, 8, 9, 10, 11, 12, 13] rfl rfl (by decide) (by decide) hP hD hS hA (va_runS (As := [.int (nI k0), .int (0), .int (63)]) (rest := []) ⟨hx, hb, hml, hown, hts⟩ (c_X5_within l D cI cJ cZ _ _ _ _) (va_cwS 3 hts (kw_S kw_641 kw_642 kw_33 kw_643) rfl rfl rfl (by decide +kernel) ⟨Nat.le_of_ble_eq_true rfl, Nat.le_of_ble_eq_true rfl⟩) ⟨kP_blind, kP_at (hP.sub [] rfl) hK (hD.sub [] (by decide) rfl)⟩ rfl rfl hl.1 rfl (lv_room (Nat.le_of_ble_eq_true rfl)) dX5_row_9 ⟨Nat.zero_le _, Nat.zero_le _⟩) (fun H locs hP hD hS => ?_)
  have hP := hP.sub (ws' := [(e0, .inr (5, [.int (0), .int (nI S), .int (nI Wy), .int (nI L), .int (nI sb), .ref (e1), .ref (e2), .ref (e3), .ref (e4), .ref (e5), .int (tm), .ref (e6), .ref (e7), .int (mh), .int (nI (md)), .ref (e8), .int (nI (mn)), .ref (e9), .ref (e10), .ref (e11), .ref (e12), .ref (e13), .int (mv), .int (mz), .int (ml)])), (e1, .inl (cZ, 64, .inl (mhs))), (e2, .inl (cI, 64, .inl (mg))), (e3, .inl (cI, 64, .inl (mk))), (e4, .inl (cI, 64, .inl (mt))), (e5, .inl (cI, 64, .inl (mu))), (e6, .inl (cI, 64, .inl (rg))), (e7, .inl (cI, 64, .inl (rq))), (e8, .inl (cI, 17, .inl (mr))), (e9, .inl (cI, 16, .inl (mp))), (e10, .inl (cI, 16, .inl (mo))), (e11, .inl (cI, 16, .inl (mw))), (e12, .inl (cI, 272, .inl (mx))), (e13, .inl (cI, 8, .inl (mcs)))]) [0, 1, 2, 3, 4, 5, 6, 7, 8, 9, 10, 11, 12, 13] rfl
  have hD := hD.sub (ws' := [(e0, .inr (5, [.int (0), .int (nI S), .int (nI Wy), .int (nI L), .int (nI sb), .ref (e1), .ref (e2), .ref (e3), .ref (e4), .ref (e5), .int (tm), .ref (e6), .ref (e7), .int (mh), .int (nI (md)), .ref (e8), .int (nI (mn)), .ref (e9), .ref (e10), .ref (e11), .ref (e12), .ref (e13), .int (mv), .int (mz), .int (ml)])), (e1, .inl (cZ, 64, .inl (mhs))), (e2, .inl (cI, 64, .inl (mg))), (e3, .inl (cI, 64, .inl (mk))), (e4, .inl (cI, 64, .inl (mt))), (e5, .inl (cI, 64, .inl (mu))), (e6, .inl (cI, 64, .inl (rg))), (e7, .inl (cI, 64, .inl (rq))), (e8, .inl (cI, 17, .inl (mr))), (e9, .inl (cI, 16, .inl (mp))), (e10, .inl (cI, 16, .inl (mo))), (e11, .inl (cI, 16, .inl (mw))), (e12, .inl (cI, 272, .inl (mx))), (e13, .inl (cI, 8, .inl (mcs)))]) [0, 1, 2, 3, 4, 5, 6, 7, 8, 9, 10, 11, 12, 13] (by decide) rfl
  refine kt_i (y := 1) (mwk (N := 64) hk0 (by decide)) ?_
  refine lv_if_eq (tgt := 24) hx hb dX5_row_12 (by decide) (fun c_12 => absurd c_12 (by decide)) (fun c_12 => ?_)
  refine lv_iload_n hx hb dX5_row_15 rfl (lv_at hl 2 rfl) ?_
  refine lv_iconst (v := 0) hx hb dX5_row_16 (by decide) ?_
  refine lv_iconst (v := 1) hx hb dX5_row_17 (by decide) ?_
  refine kc_i (wc := []) (wr := [(e0, .inr (5, [.int (0), .int (nI S), .int (nI Wy), .int (nI L), .int (nI sb), .ref (e1), .ref (e2), .ref (e3), .ref (e4), .ref (e5), .int (tm), .ref (e6), .ref (e7), .int (mh), .int (nI (md)), .ref (e8), .int (nI (mn)), .ref (e9), .ref (e10), .ref (e11), .ref (e12), .ref (e13), .int (mv), .int (mz), .int (ml)])), (e1, .inl (cZ, 64, .inl (mhs))), (e2, .inl (cI, 64, .inl (mg))), (e3, .inl (cI, 64, .inl (mk))), (e4, .inl (cI, 64, .inl (mt))), (e5, .inl (cI, 64, .inl (mu))), (e6, .inl (cI, 64, .inl (rg))), (e7, .inl (cI, 64, .inl (rq))), (e8, .inl (cI, 17, .inl (mr))), (e9, .inl (cI, 16, .inl (mp))), (e10, .inl (cI, 16, .inl (mo))), (e11, .inl (cI, 16, .inl (mw))), (e12, .inl (cI, 272, .inl (mx))), (e13, .inl (cI, 8, .inl (mcs)))]) [] [0, 1, 2, 3, 4, 5, 6, 7, 8, 9, 10, 11, 12, 13] rfl rfl (by decide) (by decide) hP hD hS hA (va_runS (As := [.int (p1), .int (0), .int (1)]) (rest := []) ⟨hx, hb, hml, hown, hts⟩ (c_X5_within l D cI cJ cZ _ _ _ _) (va_cwS 3 hts (kw_S kw_641 kw_642 kw_33 kw_643) rfl rfl rfl (by decide +kernel) ⟨Nat.le_of_ble_eq_true rfl, Nat.le_of_ble_eq_true rfl⟩) ⟨kP_blind, kP_at (hP.sub [] rfl) hK (hD.sub [] (by decide) rfl)⟩ rfl rfl hl.1 rfl (lv_room (Nat.le_of_ble_eq_true rfl)) dX5_row_18 ⟨Nat.zero_le _, Nat.zero_le _⟩) (fun H locs hP hD hS => ?_)
  have hP := hP.sub (ws' := [(e0, .inr (5, [.int (0), .int (nI S), .int (nI Wy), .int (nI L), .int (nI sb), .ref (e1), .ref (e2), .ref (e3), .ref (e4), .ref (e5), .int (tm), .ref (e6), .ref (e7), .int (mh), .int (nI (md)), .ref (e8), .int (nI (mn)), .ref (e9), .ref (e10), .ref (e11), .ref (e12), .ref (e13), .int (mv), .int (mz), .int (ml)])), (e1, .inl (cZ, 64, .inl (mhs))), (e2, .inl (cI, 64, .inl (mg))), (e3, .inl (cI, 64, .inl (mk))), (e4, .inl (cI, 64, .inl (mt))), (e5, .inl (cI, 64, .inl (mu))), (e6, .inl (cI, 64, .inl (rg))), (e7, .inl (cI, 64, .inl (rq))), (e8, .inl (cI, 17, .inl (mr))), (e9, .inl (cI, 16, .inl (mp))), (e10, .inl (cI, 16, .inl (mo))), (e11, .inl (cI, 16, .inl (mw))), (e12, .inl (cI, 272, .inl (mx))), (e13, .inl (cI, 8, .inl (mcs)))]) [0, 1, 2, 3, 4, 5, 6, 7, 8, 9, 10, 11, 12, 13] rfl
  have hD := hD.sub (ws' := [(e0, .inr (5, [.int (0), .int (nI S), .int (nI Wy), .int (nI L), .int (nI sb), .ref (e1), .ref (e2), .ref (e3), .ref (e4), .ref (e5), .int (tm), .ref (e6), .ref (e7), .int (mh), .int (nI (md)), .ref (e8), .int (nI (mn)), .ref (e9), .ref (e10), .ref (e11), .ref (e12), .ref (e13), .int (mv), .int (mz), .int (ml)])), (e1, .inl (cZ, 64, .inl (mhs))), (e2, .inl (cI, 64, .inl (mg))), (e3, .inl (cI, 64, .inl (mk))), (e4, .inl (cI, 64, .inl (mt))), (e5, .inl (cI, 64, .inl (mu))), (e6, .inl (cI, 64, .inl (rg))), (e7, .inl (cI, 64, .inl (rq))), (e8, .inl (cI, 17, .inl (mr))), (e9, .inl (cI, 16, .inl (mp))), (e10, .inl (cI, 16, .inl (mo))), (e11, .inl (cI, 16, .inl (mw))), (e12, .inl (cI, 272, .inl (mx))), (e13, .inl (cI, 8, .inl (mcs)))]) [0, 1, 2, 3, 4, 5, 6, 7, 8, 9, 10, 11, 12, 13] (by decide) rfl
  refine kt_i (y := 1) (mw1 (Int32.not_lt.mp hw0) hw1) ?_
  refine lv_if_ne (tgt := 30) hx hb dX5_row_21 (by decide) (fun c_21 => ?_) (fun c_21 => absurd c_21 (by decide))
  refine lv_iload_n hx hb dX5_row_30 rfl (lv_at hl 2 rfl) ?_
  refine lv_if_ne (tgt := 43) hx hb dX5_row_31 (by decide) (fun c_31 => ?_) (fun c_31 => ?_)
  ·
    refine lv_aload_n hx hb dX5_row_43 rfl (lv_at hl 0 rfl) ?_
    refine va_get (D := D) (ci := 5) (v := .ref (e7)) (C := RX5) (T := TX5) (N := 25) hx hb hts (fun w h => List.mem_cons_of_mem _ (hiX5 w h)) hown hK hP 0 rfl rfl 12 (by decide) kf29 (fun _ h9 => h9) rfl dX5_row_44 ?_
    refine lv_iload_n hx hb dX5_row_47 rfl (lv_at hl 1 rfl) ?_
    refine ka_ild hx hb hK hP 7 0 rfl rfl (k := k0) (rfl) (⟨hk0, by decide⟩) dX5_row_48 ?_
    exact kr_i (rfl) hx hb hr hlocks hP hK hD hS ((if_neg c_31).symm) dX5_row_49
  ·
    refine lv_aload_n hx hb dX5_row_34 rfl (lv_at hl 0 rfl) ?_
    refine va_get (D := D) (ci := 5) (v := .ref (e6)) (C := RX5) (T := TX5) (N := 25) hx hb hts (fun w h => List.mem_cons_of_mem _ (hiX5 w h)) hown hK hP 0 rfl rfl 11 (by decide) kf26 (fun _ h9 => h9) rfl dX5_row_35 ?_
    refine lv_iload_n hx hb dX5_row_38 rfl (lv_at hl 1 rfl) ?_
    refine ka_ild hx hb hK hP 6 0 rfl rfl (k := k0) (rfl) (⟨hk0, by decide⟩) dX5_row_39 ?_
    refine lv_goto (tgt := 49) hx hb dX5_row_40 (by decide) ?_
    exact kr_i (rfl) hx hb hr hlocks hP hK hD hS ((if_pos c_31).symm) dX5_row_49

set_option maxHeartbeats 4000000 in
set_option maxRecDepth 100000 in
/-- ring -/
theorem c_X5_ring (l : Launch) (D : va_G) (cI cJ cZ : ClassId) (sz : Nat) (e0 e1 e2 e3 e4 e5 e6 e7 e8 e9 e10 e11 e12 e13 : Nat) (S Wy sb L : Nat) (mhs mg mk mt mu : Fn) (tm : Int32) (rg rq : Fn) (mh : Int32) (mr : Fn) (md : Nat) (mv mz : Int32) (mp mo mw mx : Fn) (mn : Nat) (mcs : Fn) (ml mth : Int32) (k0 : Nat) (hk0 : k0 < md) (hd : md ≤ L) (hL : L ≤ 16) : KI l yX5_ring wsX5_ring ({ frames := 1, cells := 0, slots := 0, locals := 22 } : Room) D (kTy cI cJ cZ) [.ref (e0), .int (nI k0)] [(e0, .inr (5, [.int (mth), .int (nI S), .int (nI Wy), .int (nI L), .int (nI sb), .ref (e1), .ref (e2), .ref (e3), .ref (e4), .ref (e5), .int (tm), .ref (e6), .ref (e7), .int (mh), .int (nI (md)), .ref (e8), .int (nI (mn)), .ref (e9), .ref (e10), .ref (e11), .ref (e12), .ref (e13), .int (mv), .int (mz), .int (ml)])), (e1, .inl (cZ, 64, .inl (mhs))), (e2, .inl (cI, 64, .inl (mg))), (e3, .inl (cI, 64, .inl (mk))), (e4, .inl (cI, 64, .inl (mt))), (e5, .inl (cI, 64, .inl (mu))), (e6, .inl (cI, 64, .inl (rg))), (e7, .inl (cI, 64, .inl (rq))), (e8, .inl (cI, 17, .inl (mr))), (e9, .inl (cI, 16, .inl (mp))), (e10, .inl (cI, 16, .inl (mo))), (e11, .inl (cI, 16, .inl (mw))), (e12, .inl (cI, 272, .inl (mx))), (e13, .inl (cI, 8, .inl (mcs)))] sz (wMo e0 e1 e2 e3 e4 e5 e6 e7 e8 e9 e10 e11 e12 e13 cI cZ S Wy sb L ((mhs, mg, mk, mt, mu, tm), (rg, rq, mh), (mr, md, mv, mz), (mp, mo, mw, mx, mn), mcs, ml, 0)) (mr (md - 1 - k0)) 0 0 := by
  refine Met.ofW (cc := cX5_ring) (maxL := 2) (ret := (some .int)) (by decide) rfl ?_
  intro p e s m args below meth c s₁ B hml hv
  obtain ⟨rfl, hsz, hP, hK, hD0⟩ := hv
  have hx := B.exec
  have hb := B.bytes
  have hr := B.returns
  have hts := atoms_spec (ws := wsX5_ring) B.pre
  have hown : s.vm.findClass RX5 = some m.cls := findClass_of_methodNamed B.named
  have hlocks := B.notSynchronized
  have kf32 := hts (.fieldLink RX5 32 "TargetRowsModel" "ring" "[I") (List.mem_cons_of_mem _ kw_528)
  have kf67 := hts (.fieldLink RX5 67 "TargetRowsModel" "thrown" "I") (List.mem_cons_of_mem _ kw_513)
  have kf80 := hts (.fieldLink RX5 80 "TargetRowsModel" "deep" "I") (List.mem_cons_of_mem _ kw_527)
  subst hsz
  have hD := hD0.self (sz := s.heap.size)
  generalize hAe : va_A [(e0, .inr (5, [.int (mth), .int (nI S), .int (nI Wy), .int (nI L), .int (nI sb), .ref (e1), .ref (e2), .ref (e3), .ref (e4), .ref (e5), .int (tm), .ref (e6), .ref (e7), .int (mh), .int (nI (md)), .ref (e8), .int (nI (mn)), .ref (e9), .ref (e10), .ref (e11), .ref (e12), .ref (e13), .int (mv), .int (mz), .int (ml)])), (e1, .inl (cZ, 64, .inl (mhs))), (e2, .inl (cI, 64, .inl (mg))), (e3, .inl (cI, 64, .inl (mk))), (e4, .inl (cI, 64, .inl (mt))), (e5, .inl (cI, 64, .inl (mu))), (e6, .inl (cI, 64, .inl (rg))), (e7, .inl (cI, 64, .inl (rq))), (e8, .inl (cI, 17, .inl (mr))), (e9, .inl (cI, 16, .inl (mp))), (e10, .inl (cI, 16, .inl (mo))), (e11, .inl (cI, 16, .inl (mw))), (e12, .inl (cI, 272, .inl (mx))), (e13, .inl (cI, 8, .inl (mcs)))] s.heap.size = A at hD ⊢
  have hA : ∀ q : Nat, s.heap.size ≤ q → A q := fun q h => by rw [← hAe]; exact Or.inr h
  have hS : va_S A s.heap s.heap [] := va_S.rf
  have hP : va_P D vwCl [(e0, .inr (5, [.int (mth), .int (nI S), .int (nI Wy), .int (nI L), .int (nI sb), .ref (e1), .ref (e2), .ref (e3), .ref (e4), .ref (e5), .int (tm), .ref (e6), .ref (e7), .int (mh), .int (nI (md)), .ref (e8), .int (nI (mn)), .ref (e9), .ref (e10), .ref (e11), .ref (e12), .ref (e13), .int (mv), .int (mz), .int (ml)])), (e1, .inl (cZ, 64, .inl (mhs))), (e2, .inl (cI, 64, .inl (mg))), (e3, .inl (cI, 64, .inl (mk))), (e4, .inl (cI, 64, .inl (mt))), (e5, .inl (cI, 64, .inl (mu))), (e6, .inl (cI, 64, .inl (rg))), (e7, .inl (cI, 64, .inl (rq))), (e8, .inl (cI, 17, .inl (mr))), (e9, .inl (cI, 16, .inl (mp))), (e10, .inl (cI, 16, .inl (mo))), (e11, .inl (cI, 16, .inl (mw))), (e12, .inl (cI, 272, .inl (mx))), (e13, .inl (cI, 8, .inl (mcs)))] s.heap := hP
  have hD : va_D A [(e0, .inr (5, [.int (mth), .int (nI S), .int (nI Wy), .int (nI L), .int (nI sb), .ref (e1), .ref (e2), .ref (e3), .ref (e4), .ref (e5), .int (tm), .ref (e6), .ref (e7), .int (mh), .int (nI (md)), .ref (e8), .int (nI (mn)), .ref (e9), .ref (e10), .ref (e11), .ref (e12), .ref (e13), .int (mv), .int (mz), .int (ml)])), (e1, .inl (cZ, 64, .inl (mhs))), (e2, .inl (cI, 64, .inl (mg))), (e3, .inl (cI, 64, .inl (mk))), (e4, .inl (cI, 64, .inl (mt))), (e5, .inl (cI, 64, .inl (mu))), (e6, .inl (cI, 64, .inl (rg))), (e7, .inl (cI, 64, .inl (rq))), (e8, .inl (cI, 17, .inl (mr))), (e9, .inl (cI, 16, .inl (mp))), (e10, .inl (cI, 16, .inl (mo))), (e11, .inl (cI, 16, .inl (mw))), (e12, .inl (cI, 272, .inl (mx))), (e13, .inl (cI, 8, .inl (mcs)))] := hD
  have hl := lv_entry ([.ref (e0), .int (nI k0)]) (n := 2) (Nat.le_of_ble_eq_true rfl)
  rw [lg_entry_eq]
  generalize (lg_sl ([.ref (e0), .int (nI k0)]) ++ List.replicate (2 - (lg_sl ([.ref (e0), .int (nI k0)])).length) Slot.unset).toArray = ls at hl ⊢
  have hl : lv_has ls 2 [(0, .ref (e0)), (1, .int (nI k0))] := hl
  refine lv_aload_n hx hb dX5_ring_0 rfl (lv_at hl 0 rfl) ?_
  refine lv_iconst (v := 0) hx hb dX5_ring_1 (by decide) ?_
  refine va_put (D := D) (ci := 5) (v := .int (0)) (ty := .int) (C := RX5) (T := TX5) (N := 25) hx hb hts (fun w h => List.mem_cons_of_mem _ (hiX5 w h)) tyX5 tyX5_ok nmX5 hown hK hP hD hS 0 rfl rfl 0 (by decide) kf67 (fun _ h9 => h9) rfl (by decide +kernel) rfl rfl (Nat.le_of_ble_eq_true rfl) dX5_ring_2 (fun H locs hP hD hS => ?_)
  have hP : va_P D vwCl [(e0, .inr (5, [.int (0), .int (nI S), .int (nI Wy), .int (nI L), .int (nI sb), .ref (e1), .ref (e2), .ref (e3), .ref (e4), .ref (e5), .int (tm), .ref (e6), .ref (e7), .int (mh), .int (nI (md)), .ref (e8), .int (nI (mn)), .ref (e9), .ref (e10), .ref (e11), .ref (e12), .ref (e13), .int (mv), .int (mz), .int (ml)])), (e1, .inl (cZ, 64, .inl (mhs))), (e2, .inl (cI, 64, .inl (mg))), (e3, .inl (cI, 64, .inl (mk))), (e4, .inl (cI, 64, .inl (mt))), (e5, .inl (cI, 64, .inl (mu))), (e6, .inl (cI, 64, .inl (rg))), (e7, .inl (cI, 64, .inl (rq))), (e8, .inl (cI, 17, .inl (mr))), (e9, .inl (cI, 16, .inl (mp))), (e10, .inl (cI, 16, .inl (mo))), (e11, .inl (cI, 16, .inl (mw))), (e12, .inl (cI, 272, .inl (mx))), (e13, .inl (cI, 8, .inl (mcs)))] H := hP
  have hD : va_D A [(e0, .inr (5, [.int (0), .int (nI S), .int (nI Wy), .int (nI L), .int (nI sb), .ref (e1), .ref (e2), .ref (e3), .ref (e4), .ref (e5), .int (tm), .ref (e6), .ref (e7), .int (mh), .int (nI (md)), .ref (e8), .int (nI (mn)), .ref (e9), .ref (e10), .ref (e11), .ref (e12), .ref (e13), .int (mv), .int (mz), .int (ml)])), (e1, .inl (cZ, 64, .inl (mhs))), (e2, .inl (cI, 64, .inl (mg))), (e3, .inl (cI, 64, .inl (mk))), (e4, .inl (cI, 64, .inl (mt))), (e5, .inl (cI, 64, .inl (mu))), (e6, .inl (cI, 64, .inl (rg))), (e7, .inl (cI, 64, .inl (rq))), (e8, .inl (cI, 17, .inl (mr))), (e9, .inl (cI, 16, .inl (mp))), (e10, .inl (cI, 16, .inl (mo))), (e11, .inl (cI, 16, .inl (mw))), (e12, .inl (cI, 272, .inl (mx))), (e13, .inl (cI, 8, .inl (mcs)))] := hD
  refine lv_iload_n hx hb dX5_ring_5 rfl (lv_at hl 1 rfl) ?_
  refine lv_iconst (v := 0) hx hb dX5_ring_6 (by decide) ?_
  refine lv_aload_n hx hb dX5_ring_7 rfl (lv_at hl 0 rfl) ?_
  refine va_get (D := D) (ci := 5) (v := .int (nI (md))) (C := RX5) (T := TX5) (N := 25) hx hb hts (fun w h => List.mem_cons_of_mem _ (hiX5 w h)) hown hK hP 0 rfl rfl 14 (by decide) kf80 (fun _ h9 => h9) rfl dX5_ring_8 ?_
  refine lv_iconst (v := 1) hx hb dX5_ring_11 (by decide) ?_
  refine lv_isub hx hb dX5_ring_12 ?_
  refine kc_i (wc := []) (wr := [(e0, .inr (5, [.int (0), .int (nI S), .int (nI Wy), .int (nI L), .int (nI sb), .ref (e1), .ref (e2), .ref (e3), .ref (e4), .ref (e5), .int (tm), .ref (e6), .ref (e7), .int (mh), .int (nI (md)), .ref (e8), .int (nI (mn)), .ref (e9), .ref (e10), .ref (e11), .ref (e12), .ref (e13), .int (mv), .int (mz), .int (ml)])), (e1, .inl (cZ, 64, .inl (mhs))), (e2, .inl (cI, 64, .inl (mg))), (e3, .inl (cI, 64, .inl (mk))), (e4, .inl (cI, 64, .inl (mt))), (e5, .inl (cI, 64, .inl (mu))), (e6, .inl (cI, 64, .inl (rg))), (e7, .inl (cI, 64, .inl (rq))), (e8, .inl (cI, 17, .inl (mr))), (e9, .inl (cI, 16, .inl (mp))), (e10, .inl (cI, 16, .inl (mo))), (e11, .inl (cI, 16, .inl (mw))), (e12, .inl (cI, 272, .inl (mx))), (e13, .inl (cI, 8, .inl (mcs)))]) [] [0, 1, 2, 3, 4, 5, 6, 7, 8, 9, 10, 11, 12, 13] rfl rfl (by decide) (by decide) hP hD hS hA (va_runS (As := [.int (nI k0), .int (0), .int ((nI (md)) - (1))]) (rest := []) ⟨hx, hb, hml, hown, hts⟩ (c_X5_within l D cI cJ cZ _ _ _ _) (va_cwS 3 hts (kw_S kw_641 kw_642 kw_33 kw_643) rfl rfl rfl (by decide +kernel) ⟨Nat.le_of_ble_eq_true rfl, Nat.le_of_ble_eq_true rfl⟩) ⟨kP_blind, kP_at (hP.sub [] rfl) hK (hD.sub [] (by decide) rfl)⟩ rfl rfl hl.1 rfl (lv_room (Nat.le_of_ble_eq_true rfl)) dX5_ring_13 ⟨Nat.zero_le _, Nat.zero_le _⟩) (fun H locs hP hD hS => ?_)
  have hP := hP.sub (ws' := [(e0, .inr (5, [.int (0), .int (nI S), .int (nI Wy), .int (nI L), .int (nI sb), .ref (e1), .ref (e2), .ref (e3), .ref (e4), .ref (e5), .int (tm), .ref (e6), .ref (e7), .int (mh), .int (nI (md)), .ref (e8), .int (nI (mn)), .ref (e9), .ref (e10), .ref (e11), .ref (e12), .ref (e13), .int (mv), .int (mz), .int (ml)])), (e1, .inl (cZ, 64, .inl (mhs))), (e2, .inl (cI, 64, .inl (mg))), (e3, .inl (cI, 64, .inl (mk))), (e4, .inl (cI, 64, .inl (mt))), (e5, .inl (cI, 64, .inl (mu))), (e6, .inl (cI, 64, .inl (rg))), (e7, .inl (cI, 64, .inl (rq))), (e8, .inl (cI, 17, .inl (mr))), (e9, .inl (cI, 16, .inl (mp))), (e10, .inl (cI, 16, .inl (mo))), (e11, .inl (cI, 16, .inl (mw))), (e12, .inl (cI, 272, .inl (mx))), (e13, .inl (cI, 8, .inl (mcs)))]) [0, 1, 2, 3, 4, 5, 6, 7, 8, 9, 10, 11, 12, 13] rfl
  have hD := hD.sub (ws' := [(e0, .inr (5, [.int (0), .int (nI S), .int (nI Wy), .int (nI L), .int (nI sb), .ref (e1), .ref (e2), .ref (e3), .ref (e4), .ref (e5), .int (tm), .ref (e6), .ref (e7), .int (mh), .int (nI (md)), .ref (e8), .int (nI (mn)), .ref (e9), .ref (e10), .ref (e11), .ref (e12), .ref (e13), .int (mv), .int (mz), .int (ml)])), (e1, .inl (cZ, 64, .inl (mhs))), (e2, .inl (cI, 64, .inl (mg))), (e3, .inl (cI, 64, .inl (mk))), (e4, .inl (cI, 64, .inl (mt))), (e5, .inl (cI, 64, .inl (mu))), (e6, .inl (cI, 64, .inl (rg))), (e7, .inl (cI, 64, .inl (rq))), (e8, .inl (cI, 17, .inl (mr))), (e9, .inl (cI, 16, .inl (mp))), (e10, .inl (cI, 16, .inl (mo))), (e11, .inl (cI, 16, .inl (mw))), (e12, .inl (cI, 272, .inl (mx))), (e13, .inl (cI, 8, .inl (mcs)))]) [0, 1, 2, 3, 4, 5, 6, 7, 8, 9, 10, 11, 12, 13] (by decide) rfl
  refine kt_i (y := 1) (mwk hk0 (by omega)) ?_
  refine lv_if_eq (tgt := 35) hx hb dX5_ring_16 (by decide) (fun c_16 => absurd c_16 (by decide)) (fun c_16 => ?_)
  refine lv_aload_n hx hb dX5_ring_19 rfl (lv_at hl 0 rfl) ?_
  refine va_get (D := D) (ci := 5) (v := .ref (e8)) (C := RX5) (T := TX5) (N := 25) hx hb hts (fun w h => List.mem_cons_of_mem _ (hiX5 w h)) hown hK hP 0 rfl rfl 15 (by decide) kf32 (fun _ h9 => h9) rfl dX5_ring_20 ?_
  refine lv_aload_n hx hb dX5_ring_23 rfl (lv_at hl 0 rfl) ?_
  refine va_get (D := D) (ci := 5) (v := .int (nI (md))) (C := RX5) (T := TX5) (N := 25) hx hb hts (fun w h => List.mem_cons_of_mem _ (hiX5 w h)) hown hK hP 0 rfl rfl 14 (by decide) kf80 (fun _ h9 => h9) rfl dX5_ring_24 ?_
  refine lv_iconst (v := 1) hx hb dX5_ring_27 (by decide) ?_
  refine lv_isub hx hb dX5_ring_28 ?_
  refine kt_i (y := nI (md - 1)) (pk_sub (b := 1) (by omega)) ?_
  refine lv_iload_n hx hb dX5_ring_29 rfl (lv_at hl 1 rfl) ?_
  refine lv_isub hx hb dX5_ring_30 ?_
  refine kt_i (y := nI (md - 1 - k0)) (pk_sub (by omega)) ?_
  refine ka_ild hx hb hK hP 8 0 rfl rfl (k := md - 1 - k0) (rfl) (⟨by omega, by decide⟩) dX5_ring_31 ?_
  refine lv_goto (tgt := 40) hx hb dX5_ring_32 (by decide) ?_
  exact kr_i (rfl) hx hb hr hlocks hP hK hD hS (rfl) dX5_ring_40

set_option maxHeartbeats 4000000 in
set_option maxRecDepth 100000 in
/-- queued -/
theorem c_X5_queued (l : Launch) (D : va_G) (cI cJ cZ : ClassId) (sz : Nat) (e0 e1 e2 e3 e4 e5 e6 e7 e8 e9 e10 e11 e12 e13 : Nat) (S Wy sb L : Nat) (mhs mg mk mt mu : Fn) (tm : Int32) (rg rq : Fn) (mh : Int32) (mr : Fn) (md : Nat) (mv mz : Int32) (mp mo mw mx : Fn) (mn : Nat) (mcs : Fn) (ml mth : Int32) (k0 : Nat) (p1 : Int32) (hk0 : k0 < mn) (hw0 : ¬ p1 < 0) (hw1 : p1 ≤ 1) (hn : mn ≤ 16) : KI l yX5_queued wsX5_queued ({ frames := 1, cells := 0, slots := 0, locals := 22 } : Room) D (kTy cI cJ cZ) [.ref (e0), .int (nI k0), .int (p1)] [(e0, .inr (5, [.int (mth), .int (nI S), .int (nI Wy), .int (nI L), .int (nI sb), .ref (e1), .ref (e2), .ref (e3), .ref (e4), .ref (e5), .int (tm), .ref (e6), .ref (e7), .int (mh), .int (nI (md)), .ref (e8), .int (nI (mn)), .ref (e9), .ref (e10), .ref (e11), .ref (e12), .ref (e13), .int (mv), .int (mz), .int (ml)])), (e1, .inl (cZ, 64, .inl (mhs))), (e2, .inl (cI, 64, .inl (mg))), (e3, .inl (cI, 64, .inl (mk))), (e4, .inl (cI, 64, .inl (mt))), (e5, .inl (cI, 64, .inl (mu))), (e6, .inl (cI, 64, .inl (rg))), (e7, .inl (cI, 64, .inl (rq))), (e8, .inl (cI, 17, .inl (mr))), (e9, .inl (cI, 16, .inl (mp))), (e10, .inl (cI, 16, .inl (mo))), (e11, .inl (cI, 16, .inl (mw))), (e12, .inl (cI, 272, .inl (mx))), (e13, .inl (cI, 8, .inl (mcs)))] sz (wMo e0 e1 e2 e3 e4 e5 e6 e7 e8 e9 e10 e11 e12 e13 cI cZ S Wy sb L ((mhs, mg, mk, mt, mu, tm), (rg, rq, mh), (mr, md, mv, mz), (mp, mo, mw, mx, mn), mcs, ml, 0)) (if p1 = 0 then mp k0 else mo k0) 0 0 := by
  refine Met.ofW (cc := cX5_queued) (maxL := 3) (ret := (some .int)) (by decide) rfl ?_
  intro p e s m args below meth c s₁ B hml hv
  obtain ⟨rfl, hsz, hP, hK, hD0⟩ := hv
  have hx := B.exec
  have hb := B.bytes
  have hr := B.returns
  have hts := atoms_spec (ws := wsX5_queued) B.pre
  have hown : s.vm.findClass RX5 = some m.cls := findClass_of_methodNamed B.named
  have hlocks := B.notSynchronized
  have kf101 := hts (.fieldLink RX5 101 "TargetRowsModel" "queued" "I") (List.mem_cons_of_mem _ kw_529)
  have kf35 := hts (.fieldLink RX5 35 "TargetRowsModel" "place" "[I") (List.mem_cons_of_mem _ kw_530)
  have kf38 := hts (.fieldLink RX5 38 "TargetRowsModel" "told" "[I") (List.mem_cons_of_mem _ kw_531)
  have kf67 := hts (.fieldLink RX5 67 "TargetRowsModel" "thrown" "I") (List.mem_cons_of_mem _ kw_513)
  subst hsz
  have hD := hD0.self (sz := s.heap.size)
  generalize hAe : va_A [(e0, .inr (5, [.int (mth), .int (nI S), .int (nI Wy), .int (nI L), .int (nI sb), .ref (e1), .ref (e2), .ref (e3), .ref (e4), .ref (e5), .int (tm), .ref (e6), .ref (e7), .int (mh), .int (nI (md)), .ref (e8), .int (nI (mn)), .ref (e9), .ref (e10), .ref (e11), .ref (e12), .ref (e13), .int (mv), .int (mz), .int (ml)])), (e1, .inl (cZ, 64, .inl (mhs))), (e2, .inl (cI, 64, .inl (mg))), (e3, .inl (cI, 64, .inl (mk))), (e4, .inl (cI, 64, .inl (mt))), (e5, .inl (cI, 64, .inl (mu))), (e6, .inl (cI, 64, .inl (rg))), (e7, .inl (cI, 64, .inl (rq))), (e8, .inl (cI, 17, .inl (mr))), (e9, .inl (cI, 16, .inl (mp))), (e10, .inl (cI, 16, .inl (mo))), (e11, .inl (cI, 16, .inl (mw))), (e12, .inl (cI, 272, .inl (mx))), (e13, .inl (cI, 8, .inl (mcs)))] s.heap.size = A at hD ⊢
  have hA : ∀ q : Nat, s.heap.size ≤ q → A q := fun q h => by rw [← hAe]; exact Or.inr h
  have hS : va_S A s.heap s.heap [] := va_S.rf
  have hP : va_P D vwCl [(e0, .inr (5, [.int (mth), .int (nI S), .int (nI Wy), .int (nI L), .int (nI sb), .ref (e1), .ref (e2), .ref (e3), .ref (e4), .ref (e5), .int (tm), .ref (e6), .ref (e7), .int (mh), .int (nI (md)), .ref (e8), .int (nI (mn)), .ref (e9), .ref (e10), .ref (e11), .ref (e12), .ref (e13), .int (mv), .int (mz), .int (ml)])), (e1, .inl (cZ, 64, .inl (mhs))), (e2, .inl (cI, 64, .inl (mg))), (e3, .inl (cI, 64, .inl (mk))), (e4, .inl (cI, 64, .inl (mt))), (e5, .inl (cI, 64, .inl (mu))), (e6, .inl (cI, 64, .inl (rg))), (e7, .inl (cI, 64, .inl (rq))), (e8, .inl (cI, 17, .inl (mr))), (e9, .inl (cI, 16, .inl (mp))), (e10, .inl (cI, 16, .inl (mo))), (e11, .inl (cI, 16, .inl (mw))), (e12, .inl (cI, 272, .inl (mx))), (e13, .inl (cI, 8, .inl (mcs)))] s.heap := hP
  have hD : va_D A [(e0, .inr (5, [.int (mth), .int (nI S), .int (nI Wy), .int (nI L), .int (nI sb), .ref (e1), .ref (e2), .ref (e3), .ref (e4), .ref (e5), .int (tm), .ref (e6), .ref (e7), .int (mh), .int (nI (md)), .ref (e8), .int (nI (mn)), .ref (e9), .ref (e10), .ref (e11), .ref (e12), .ref (e13), .int (mv), .int (mz), .int (ml)])), (e1, .inl (cZ, 64, .inl (mhs))), (e2, .inl (cI, 64, .inl (mg))), (e3, .inl (cI, 64, .inl (mk))), (e4, .inl (cI, 64, .inl (mt))), (e5, .inl (cI, 64, .inl (mu))), (e6, .inl (cI, 64, .inl (rg))), (e7, .inl (cI, 64, .inl (rq))), (e8, .inl (cI, 17, .inl (mr))), (e9, .inl (cI, 16, .inl (mp))), (e10, .inl (cI, 16, .inl (mo))), (e11, .inl (cI, 16, .inl (mw))), (e12, .inl (cI, 272, .inl (mx))), (e13, .inl (cI, 8, .inl (mcs)))] := hD
  have hl := lv_entry ([.ref (e0), .int (nI k0), .int (p1)]) (n := 3) (Nat.le_of_ble_eq_true rfl)
  rw [lg_entry_eq]
  generalize (lg_sl ([.ref (e0), .int (nI k0), .int (p1)]) ++ List.replicate (3 - (lg_sl ([.ref (e0), .int (nI k0), .int (p1)])).length) Slot.unset).toArray = ls at hl ⊢
  have hl : lv_has ls 3 [(0, .ref (e0)), (1, .int (nI k0)), (2, .int (p1))] := hl
  refine lv_aload_n hx hb dX5_queued_0 rfl (lv_at hl 0 rfl) ?_
  refine lv_iconst (v := 0) hx hb dX5_queued_1 (by decide) ?_
  refine va_put (D := D) (ci := 5) (v := .int (0)) (ty := .int) (C := RX5) (T := TX5) (N := 25) hx hb hts (fun w h => List.mem_cons_of_mem _ (hiX5 w h)) tyX5 tyX5_ok nmX5 hown hK hP hD hS 0 rfl rfl 0 (by decide) kf67 (fun _ h9 => h9) rfl (by decide +kernel) rfl rfl (Nat.le_of_ble_eq_true rfl) dX5_queued_2 (fun H locs hP hD hS => ?_)
  have hP : va_P D vwCl [(e0, .inr (5, [.int (0), .int (nI S), .int (nI Wy), .int (nI L), .int (nI sb), .ref (e1), .ref (e2), .ref (e3), .ref (e4), .ref (e5), .int (tm), .ref (e6), .ref (e7), .int (mh), .int (nI (md)), .ref (e8), .int (nI (mn)), .ref (e9), .ref (e10), .ref (e11), .ref (e12), .ref (e13), .int (mv), .int (mz), .int (ml)])), (e1, .inl (cZ, 64, .inl (mhs))), (e2, .inl (cI, 64, .inl (mg))), (e3, .inl (cI, 64, .inl (mk))), (e4, .inl (cI, 64, .inl (mt))), (e5, .inl (cI, 64, .inl (mu))), (e6, .inl (cI, 64, .inl (rg))), (e7, .inl (cI, 64, .inl (rq))), (e8, .inl (cI, 17, .inl (mr))), (e9, .inl (cI, 16, .inl (mp))), (e10, .inl (cI, 16, .inl (mo))), (e11, .inl (cI, 16, .inl (mw))), (e12, .inl (cI, 272, .inl (mx))), (e13, .inl (cI, 8, .inl (mcs)))] H := hP
  have hD : va_D A [(e0, .inr (5, [.int (0), .int (nI S), .int (nI Wy), .int (nI L), .int (nI sb), .ref (e1), .ref (e2), .ref (e3), .ref (e4), .ref (e5), .int (tm), .ref (e6), .ref (e7), .int (mh), .int (nI (md)), .ref (e8), .int (nI (mn)), .ref (e9), .ref (e10), .ref (e11), .ref (e12), .ref (e13), .int (mv), .int (mz), .int (ml)])), (e1, .inl (cZ, 64, .inl (mhs))), (e2, .inl (cI, 64, .inl (mg))), (e3, .inl (cI, 64, .inl (mk))), (e4, .inl (cI, 64, .inl (mt))), (e5, .inl (cI, 64, .inl (mu))), (e6, .inl (cI, 64, .inl (rg))), (e7, .inl (cI, 64, .inl (rq))), (e8, .inl (cI, 17, .inl (mr))), (e9, .inl (cI, 16, .inl (mp))), (e10, .inl (cI, 16, .inl (mo))), (e11, .inl (cI, 16, .inl (mw))), (e12, .inl (cI, 272, .inl (mx))), (e13, .inl (cI, 8, .inl (mcs)))] := hD
  refine lv_iload_n hx hb dX5_queued_5 rfl (lv_at hl 1 rfl) ?_
  refine lv_iconst (v := 0) hx hb dX5_queued_6 (by decide) ?_
  refine lv_aload_n hx hb dX5_queued_7 rfl (lv_at hl 0 rfl) ?_
  refine va_get (D := D) (ci := 5) (v := .int (nI (mn))) (C := RX5) (T := TX5) (N := 25) hx hb hts (fun w h => List.mem_cons_of_mem _ (hiX5 w h)) hown hK hP 0 rfl rfl 16 (by decide) kf101 (fun _ h9 => h9) rfl dX5_queued_8 ?_
  refine lv_iconst (v := 1) hx hb dX5_queued_11 (by decide) ?_
  refine lv_isub hx hb dX5_queued_12 ?_
  refine kc_i (wc := []) (wr := [(e0, .inr (5, [.int (0), .int (nI S), .int (nI Wy), .int (nI L), .int (nI sb), .ref (e1), .ref (e2), .ref (e3), .ref (e4), .ref (e5), .int (tm), .ref (e6), .ref (e7), .int (mh), .int (nI (md)), .ref (e8), .int (nI (mn)), .ref (e9), .ref (e10), .ref (e11), .ref (e12), .ref (e13), .int (mv), .int (mz), .int (ml)])), (e1, .inl (cZ, 64, .inl (mhs))), (e2, .inl (cI, 64, .inl (mg))), (e3, .inl (cI, 64, .inl (mk))), (e4, .inl (cI, 64, .inl (mt))), (e5, .inl (cI, 64, .inl (mu))), (e6, .inl (cI, 64, .inl (rg))), (e7, .inl (cI, 64, .inl (rq))), (e8, .inl (cI, 17, .inl (mr))), (e9, .inl (cI, 16, .inl (mp))), (e10, .inl (cI, 16, .inl (mo))), (e11, .inl (cI, 16, .inl (mw))), (e12, .inl (cI, 272, .inl (mx))), (e13, .inl (cI, 8, .inl (mcs)))]) [] [0, 1, 2, 3, 4, 5, 6, 7, 8, 9, 10, 11, 12, 13] rfl rfl (by decide) (by decide) hP hD hS hA (va_runS (As := [.int (nI k0), .int (0), .int ((nI (mn)) - (1))]) (rest := []) ⟨hx, hb, hml, hown, hts⟩ (c_X5_within l D cI cJ cZ _ _ _ _) (va_cwS 3 hts (kw_S kw_641 kw_642 kw_33 kw_643) rfl rfl rfl (by decide +kernel) ⟨Nat.le_of_ble_eq_true rfl, Nat.le_of_ble_eq_true rfl⟩) ⟨kP_blind, kP_at (hP.sub [] rfl) hK (hD.sub [] (by decide) rfl)⟩ rfl rfl hl.1 rfl (lv_room (Nat.le_of_ble_eq_true rfl)) dX5_queued_13 ⟨Nat.zero_le _, Nat.zero_le _⟩) (fun H locs hP hD hS => ?_)
  have hP := hP.sub (ws' := [(e0, .inr (5, [.int (0), .int (nI S), .int (nI Wy), .int (nI L), .int (nI sb), .ref (e1), .ref (e2), .ref (e3), .ref (e4), .ref (e5), .int (tm), .ref (e6), .ref (e7), .int (mh), .int (nI (md)), .ref (e8), .int (nI (mn)), .ref (e9), .ref (e10), .ref (e11), .ref (e12), .ref (e13), .int (mv), .int (mz), .int (ml)])), (e1, .inl (cZ, 64, .inl (mhs))), (e2, .inl (cI, 64, .inl (mg))), (e3, .inl (cI, 64, .inl (mk))), (e4, .inl (cI, 64, .inl (mt))), (e5, .inl (cI, 64, .inl (mu))), (e6, .inl (cI, 64, .inl (rg))), (e7, .inl (cI, 64, .inl (rq))), (e8, .inl (cI, 17, .inl (mr))), (e9, .inl (cI, 16, .inl (mp))), (e10, .inl (cI, 16, .inl (mo))), (e11, .inl (cI, 16, .inl (mw))), (e12, .inl (cI, 272, .inl (mx))), (e13, .inl (cI, 8, .inl (mcs)))]) [0, 1, 2, 3, 4, 5, 6, 7, 8, 9, 10, 11, 12, 13] rfl
  have hD := hD.sub (ws' := [(e0, .inr (5, [.int (0), .int (nI S), .int (nI Wy), .int (nI L), .int (nI sb), .ref (e1), .ref (e2), .ref (e3), .ref (e4), .ref (e5), .int (tm), .ref (e6), .ref (e7), .int (mh), .int (nI (md)), .ref (e8), .int (nI (mn)), .ref (e9), .ref (e10), .ref (e11), .ref (e12), .ref (e13), .int (mv), .int (mz), .int (ml)])), (e1, .inl (cZ, 64, .inl (mhs))), (e2, .inl (cI, 64, .inl (mg))), (e3, .inl (cI, 64, .inl (mk))), (e4, .inl (cI, 64, .inl (mt))), (e5, .inl (cI, 64, .inl (mu))), (e6, .inl (cI, 64, .inl (rg))), (e7, .inl (cI, 64, .inl (rq))), (e8, .inl (cI, 17, .inl (mr))), (e9, .inl (cI, 16, .inl (mp))), (e10, .inl (cI, 16, .inl (mo))), (e11, .inl (cI, 16, .inl (mw))), (e12, .inl (cI, 272, .inl (mx))), (e13, .inl (cI, 8, .inl (mcs)))]) [0, 1, 2, 3, 4, 5, 6, 7, 8, 9, 10, 11, 12, 13] (by decide) rfl
  refine kt_i (y := 1) (mwk hk0 (by omega)) ?_
  refine lv_if_eq (tgt := 28) hx hb dX5_queued_16 (by decide) (fun c_16 => absurd c_16 (by decide)) (fun c_16 => ?_)
  refine lv_iload_n hx hb dX5_queued_19 rfl (lv_at hl 2 rfl) ?_
  refine lv_iconst (v := 0) hx hb dX5_queued_20 (by decide) ?_
  refine lv_iconst (v := 1) hx hb dX5_queued_21 (by decide) ?_
  refine kc_i (wc := []) (wr := [(e0, .inr (5, [.int (0), .int (nI S), .int (nI Wy), .int (nI L), .int (nI sb), .ref (e1), .ref (e2), .ref (e3), .ref (e4), .ref (e5), .int (tm), .ref (e6), .ref (e7), .int (mh), .int (nI (md)), .ref (e8), .int (nI (mn)), .ref (e9), .ref (e10), .ref (e11), .ref (e12), .ref (e13), .int (mv), .int (mz), .int (ml)])), (e1, .inl (cZ, 64, .inl (mhs))), (e2, .inl (cI, 64, .inl (mg))), (e3, .inl (cI, 64, .inl (mk))), (e4, .inl (cI, 64, .inl (mt))), (e5, .inl (cI, 64, .inl (mu))), (e6, .inl (cI, 64, .inl (rg))), (e7, .inl (cI, 64, .inl (rq))), (e8, .inl (cI, 17, .inl (mr))), (e9, .inl (cI, 16, .inl (mp))), (e10, .inl (cI, 16, .inl (mo))), (e11, .inl (cI, 16, .inl (mw))), (e12, .inl (cI, 272, .inl (mx))), (e13, .inl (cI, 8, .inl (mcs)))]) [] [0, 1, 2, 3, 4, 5, 6, 7, 8, 9, 10, 11, 12, 13] rfl rfl (by decide) (by decide) hP hD hS hA (va_runS (As := [.int (p1), .int (0), .int (1)]) (rest := []) ⟨hx, hb, hml, hown, hts⟩ (c_X5_within l D cI cJ cZ _ _ _ _) (va_cwS 3 hts (kw_S kw_641 kw_642 kw_33 kw_643) rfl rfl rfl (by decide +kernel) ⟨Nat.le_of_ble_eq_true rfl, Nat.le_of_ble_eq_true rfl⟩) ⟨kP_blind, kP_at (hP.sub [] rfl) hK (hD.sub [] (by decide) rfl)⟩ rfl rfl hl.1 rfl (lv_room (Nat.le_of_ble_eq_true rfl)) dX5_queued_22 ⟨Nat.zero_le _, Nat.zero_le _⟩) (fun H locs hP hD hS => ?_)
  have hP := hP.sub (ws' := [(e0, .inr (5, [.int (0), .int (nI S), .int (nI Wy), .int (nI L), .int (nI sb), .ref (e1), .ref (e2), .ref (e3), .ref (e4), .ref (e5), .int (tm), .ref (e6), .ref (e7), .int (mh), .int (nI (md)), .ref (e8), .int (nI (mn)), .ref (e9), .ref (e10), .ref (e11), .ref (e12), .ref (e13), .int (mv), .int (mz), .int (ml)])), (e1, .inl (cZ, 64, .inl (mhs))), (e2, .inl (cI, 64, .inl (mg))), (e3, .inl (cI, 64, .inl (mk))), (e4, .inl (cI, 64, .inl (mt))), (e5, .inl (cI, 64, .inl (mu))), (e6, .inl (cI, 64, .inl (rg))), (e7, .inl (cI, 64, .inl (rq))), (e8, .inl (cI, 17, .inl (mr))), (e9, .inl (cI, 16, .inl (mp))), (e10, .inl (cI, 16, .inl (mo))), (e11, .inl (cI, 16, .inl (mw))), (e12, .inl (cI, 272, .inl (mx))), (e13, .inl (cI, 8, .inl (mcs)))]) [0, 1, 2, 3, 4, 5, 6, 7, 8, 9, 10, 11, 12, 13] rfl
  have hD := hD.sub (ws' := [(e0, .inr (5, [.int (0), .int (nI S), .int (nI Wy), .int (nI L), .int (nI sb), .ref (e1), .ref (e2), .ref (e3), .ref (e4), .ref (e5), .int (tm), .ref (e6), .ref (e7), .int (mh), .int (nI (md)), .ref (e8), .int (nI (mn)), .ref (e9), .ref (e10), .ref (e11), .ref (e12), .ref (e13), .int (mv), .int (mz), .int (ml)])), (e1, .inl (cZ, 64, .inl (mhs))), (e2, .inl (cI, 64, .inl (mg))), (e3, .inl (cI, 64, .inl (mk))), (e4, .inl (cI, 64, .inl (mt))), (e5, .inl (cI, 64, .inl (mu))), (e6, .inl (cI, 64, .inl (rg))), (e7, .inl (cI, 64, .inl (rq))), (e8, .inl (cI, 17, .inl (mr))), (e9, .inl (cI, 16, .inl (mp))), (e10, .inl (cI, 16, .inl (mo))), (e11, .inl (cI, 16, .inl (mw))), (e12, .inl (cI, 272, .inl (mx))), (e13, .inl (cI, 8, .inl (mcs)))]) [0, 1, 2, 3, 4, 5, 6, 7, 8, 9, 10, 11, 12, 13] (by decide) rfl
  refine kt_i (y := 1) (mw1 (Int32.not_lt.mp hw0) hw1) ?_
  refine lv_if_ne (tgt := 34) hx hb dX5_queued_25 (by decide) (fun c_25 => ?_) (fun c_25 => absurd c_25 (by decide))
  refine lv_iload_n hx hb dX5_queued_34 rfl (lv_at hl 2 rfl) ?_
  refine lv_if_ne (tgt := 47) hx hb dX5_queued_35 (by decide) (fun c_35 => ?_) (fun c_35 => ?_)
  ·
    refine lv_aload_n hx hb dX5_queued_47 rfl (lv_at hl 0 rfl) ?_
    refine va_get (D := D) (ci := 5) (v := .ref (e10)) (C := RX5) (T := TX5) (N := 25) hx hb hts (fun w h => List.mem_cons_of_mem _ (hiX5 w h)) hown hK hP 0 rfl rfl 18 (by decide) kf38 (fun _ h9 => h9) rfl dX5_queued_48 ?_
    refine lv_iload_n hx hb dX5_queued_51 rfl (lv_at hl 1 rfl) ?_
    refine ka_ild hx hb hK hP 10 0 rfl rfl (k := k0) (rfl) (⟨by omega, by decide⟩) dX5_queued_52 ?_
    exact kr_i (rfl) hx hb hr hlocks hP hK hD hS ((if_neg c_35).symm) dX5_queued_53
  ·
    refine lv_aload_n hx hb dX5_queued_38 rfl (lv_at hl 0 rfl) ?_
    refine va_get (D := D) (ci := 5) (v := .ref (e9)) (C := RX5) (T := TX5) (N := 25) hx hb hts (fun w h => List.mem_cons_of_mem _ (hiX5 w h)) hown hK hP 0 rfl rfl 17 (by decide) kf35 (fun _ h9 => h9) rfl dX5_queued_39 ?_
    refine lv_iload_n hx hb dX5_queued_42 rfl (lv_at hl 1 rfl) ?_
    refine ka_ild hx hb hK hP 9 0 rfl rfl (k := k0) (rfl) (⟨by omega, by decide⟩) dX5_queued_43 ?_
    refine lv_goto (tgt := 53) hx hb dX5_queued_44 (by decide) ?_
    exact kr_i (rfl) hx hb hr hlocks hP hK hD hS ((if_pos c_35).symm) dX5_queued_53

set_option maxHeartbeats 4000000 in
set_option maxRecDepth 100000 in
/-- storage -/
theorem c_X5_storage (l : Launch) (D : va_G) (cI cJ cZ : ClassId) (sz : Nat) (e0 e1 e2 e3 e4 e5 e6 e7 e8 e9 e10 e11 e12 e13 : Nat) (S Wy sb L : Nat) (mhs mg mk mt mu : Fn) (tm : Int32) (rg rq : Fn) (mh : Int32) (mr : Fn) (md : Nat) (mv mz : Int32) (mp mo mw mx : Fn) (mn : Nat) (mcs : Fn) (ml mth : Int32) : KI l yX5_storage wsX5_storage ({ frames := 0, cells := 0, slots := 0, locals := 0 } : Room) D (kTy cI cJ cZ) [.ref (e0)] [(e0, .inr (5, [.int (mth), .int (nI S), .int (nI Wy), .int (nI L), .int (nI sb), .ref (e1), .ref (e2), .ref (e3), .ref (e4), .ref (e5), .int (tm), .ref (e6), .ref (e7), .int (mh), .int (nI (md)), .ref (e8), .int (nI (mn)), .ref (e9), .ref (e10), .ref (e11), .ref (e12), .ref (e13), .int (mv), .int (mz), .int (ml)])), (e1, .inl (cZ, 64, .inl (mhs))), (e2, .inl (cI, 64, .inl (mg))), (e3, .inl (cI, 64, .inl (mk))), (e4, .inl (cI, 64, .inl (mt))), (e5, .inl (cI, 64, .inl (mu))), (e6, .inl (cI, 64, .inl (rg))), (e7, .inl (cI, 64, .inl (rq))), (e8, .inl (cI, 17, .inl (mr))), (e9, .inl (cI, 16, .inl (mp))), (e10, .inl (cI, 16, .inl (mo))), (e11, .inl (cI, 16, .inl (mw))), (e12, .inl (cI, 272, .inl (mx))), (e13, .inl (cI, 8, .inl (mcs)))] sz (wMo e0 e1 e2 e3 e4 e5 e6 e7 e8 e9 e10 e11 e12 e13 cI cZ S Wy sb L ((mhs, mg, mk, mt, mu, tm), (rg, rq, mh), (mr, md, mv, mz), (mp, mo, mw, mx, mn), mcs, ml, 0)) ((((42 * nI S) * nI Wy + 2560) + 32 * nI L) + 24) 0 0 := by
  refine Met.ofW (cc := cX5_storage) (maxL := 1) (ret := (some .int)) (by decide) rfl ?_
  intro p e s m args below meth c s₁ B hml hv
  obtain ⟨rfl, hsz, hP, hK, hD0⟩ := hv
  have hx := B.exec
  have hb := B.bytes
  have hr := B.returns
  have hts := atoms_spec (ws := wsX5_storage) B.pre
  have hown : s.vm.findClass RX5 = some m.cls := findClass_of_methodNamed B.named
  have hlocks := B.notSynchronized
  have kf54 := hts (.fieldLink RX5 54 "TargetRowsModel" "sets" "I") (List.mem_cons_of_mem _ kw_514)
  have kf61 := hts (.fieldLink RX5 61 "TargetRowsModel" "ways" "I") (List.mem_cons_of_mem _ kw_515)
  have kf64 := hts (.fieldLink RX5 64 "TargetRowsModel" "room" "I") (List.mem_cons_of_mem _ kw_516)
  have kf67 := hts (.fieldLink RX5 67 "TargetRowsModel" "thrown" "I") (List.mem_cons_of_mem _ kw_513)
  subst hsz
  have hD := hD0.self (sz := s.heap.size)
  generalize hAe : va_A [(e0, .inr (5, [.int (mth), .int (nI S), .int (nI Wy), .int (nI L), .int (nI sb), .ref (e1), .ref (e2), .ref (e3), .ref (e4), .ref (e5), .int (tm), .ref (e6), .ref (e7), .int (mh), .int (nI (md)), .ref (e8), .int (nI (mn)), .ref (e9), .ref (e10), .ref (e11), .ref (e12), .ref (e13), .int (mv), .int (mz), .int (ml)])), (e1, .inl (cZ, 64, .inl (mhs))), (e2, .inl (cI, 64, .inl (mg))), (e3, .inl (cI, 64, .inl (mk))), (e4, .inl (cI, 64, .inl (mt))), (e5, .inl (cI, 64, .inl (mu))), (e6, .inl (cI, 64, .inl (rg))), (e7, .inl (cI, 64, .inl (rq))), (e8, .inl (cI, 17, .inl (mr))), (e9, .inl (cI, 16, .inl (mp))), (e10, .inl (cI, 16, .inl (mo))), (e11, .inl (cI, 16, .inl (mw))), (e12, .inl (cI, 272, .inl (mx))), (e13, .inl (cI, 8, .inl (mcs)))] s.heap.size = A at hD ⊢
  have hA : ∀ q : Nat, s.heap.size ≤ q → A q := fun q h => by rw [← hAe]; exact Or.inr h
  have hS : va_S A s.heap s.heap [] := va_S.rf
  have hP : va_P D vwCl [(e0, .inr (5, [.int (mth), .int (nI S), .int (nI Wy), .int (nI L), .int (nI sb), .ref (e1), .ref (e2), .ref (e3), .ref (e4), .ref (e5), .int (tm), .ref (e6), .ref (e7), .int (mh), .int (nI (md)), .ref (e8), .int (nI (mn)), .ref (e9), .ref (e10), .ref (e11), .ref (e12), .ref (e13), .int (mv), .int (mz), .int (ml)])), (e1, .inl (cZ, 64, .inl (mhs))), (e2, .inl (cI, 64, .inl (mg))), (e3, .inl (cI, 64, .inl (mk))), (e4, .inl (cI, 64, .inl (mt))), (e5, .inl (cI, 64, .inl (mu))), (e6, .inl (cI, 64, .inl (rg))), (e7, .inl (cI, 64, .inl (rq))), (e8, .inl (cI, 17, .inl (mr))), (e9, .inl (cI, 16, .inl (mp))), (e10, .inl (cI, 16, .inl (mo))), (e11, .inl (cI, 16, .inl (mw))), (e12, .inl (cI, 272, .inl (mx))), (e13, .inl (cI, 8, .inl (mcs)))] s.heap := hP
  have hD : va_D A [(e0, .inr (5, [.int (mth), .int (nI S), .int (nI Wy), .int (nI L), .int (nI sb), .ref (e1), .ref (e2), .ref (e3), .ref (e4), .ref (e5), .int (tm), .ref (e6), .ref (e7), .int (mh), .int (nI (md)), .ref (e8), .int (nI (mn)), .ref (e9), .ref (e10), .ref (e11), .ref (e12), .ref (e13), .int (mv), .int (mz), .int (ml)])), (e1, .inl (cZ, 64, .inl (mhs))), (e2, .inl (cI, 64, .inl (mg))), (e3, .inl (cI, 64, .inl (mk))), (e4, .inl (cI, 64, .inl (mt))), (e5, .inl (cI, 64, .inl (mu))), (e6, .inl (cI, 64, .inl (rg))), (e7, .inl (cI, 64, .inl (rq))), (e8, .inl (cI, 17, .inl (mr))), (e9, .inl (cI, 16, .inl (mp))), (e10, .inl (cI, 16, .inl (mo))), (e11, .inl (cI, 16, .inl (mw))), (e12, .inl (cI, 272, .inl (mx))), (e13, .inl (cI, 8, .inl (mcs)))] := hD
  have hl := lv_entry ([.ref (e0)]) (n := 1) (Nat.le_of_ble_eq_true rfl)
  rw [lg_entry_eq]
  generalize (lg_sl ([.ref (e0)]) ++ List.replicate (1 - (lg_sl ([.ref (e0)])).length) Slot.unset).toArray = ls at hl ⊢
  have hl : lv_has ls 1 [(0, .ref (e0))] := hl
  refine lv_aload_n hx hb dX5_storage_0 rfl (lv_at hl 0 rfl) ?_
  refine lv_iconst (v := 0) hx hb dX5_storage_1 (by decide) ?_
  refine va_put (D := D) (ci := 5) (v := .int (0)) (ty := .int) (C := RX5) (T := TX5) (N := 25) hx hb hts (fun w h => List.mem_cons_of_mem _ (hiX5 w h)) tyX5 tyX5_ok nmX5 hown hK hP hD hS 0 rfl rfl 0 (by decide) kf67 (fun _ h9 => h9) rfl (by decide +kernel) rfl rfl (Nat.le_of_ble_eq_true rfl) dX5_storage_2 (fun H locs hP hD hS => ?_)
  have hP : va_P D vwCl [(e0, .inr (5, [.int (0), .int (nI S), .int (nI Wy), .int (nI L), .int (nI sb), .ref (e1), .ref (e2), .ref (e3), .ref (e4), .ref (e5), .int (tm), .ref (e6), .ref (e7), .int (mh), .int (nI (md)), .ref (e8), .int (nI (mn)), .ref (e9), .ref (e10), .ref (e11), .ref (e12), .ref (e13), .int (mv), .int (mz), .int (ml)])), (e1, .inl (cZ, 64, .inl (mhs))), (e2, .inl (cI, 64, .inl (mg))), (e3, .inl (cI, 64, .inl (mk))), (e4, .inl (cI, 64, .inl (mt))), (e5, .inl (cI, 64, .inl (mu))), (e6, .inl (cI, 64, .inl (rg))), (e7, .inl (cI, 64, .inl (rq))), (e8, .inl (cI, 17, .inl (mr))), (e9, .inl (cI, 16, .inl (mp))), (e10, .inl (cI, 16, .inl (mo))), (e11, .inl (cI, 16, .inl (mw))), (e12, .inl (cI, 272, .inl (mx))), (e13, .inl (cI, 8, .inl (mcs)))] H := hP
  have hD : va_D A [(e0, .inr (5, [.int (0), .int (nI S), .int (nI Wy), .int (nI L), .int (nI sb), .ref (e1), .ref (e2), .ref (e3), .ref (e4), .ref (e5), .int (tm), .ref (e6), .ref (e7), .int (mh), .int (nI (md)), .ref (e8), .int (nI (mn)), .ref (e9), .ref (e10), .ref (e11), .ref (e12), .ref (e13), .int (mv), .int (mz), .int (ml)])), (e1, .inl (cZ, 64, .inl (mhs))), (e2, .inl (cI, 64, .inl (mg))), (e3, .inl (cI, 64, .inl (mk))), (e4, .inl (cI, 64, .inl (mt))), (e5, .inl (cI, 64, .inl (mu))), (e6, .inl (cI, 64, .inl (rg))), (e7, .inl (cI, 64, .inl (rq))), (e8, .inl (cI, 17, .inl (mr))), (e9, .inl (cI, 16, .inl (mp))), (e10, .inl (cI, 16, .inl (mo))), (e11, .inl (cI, 16, .inl (mw))), (e12, .inl (cI, 272, .inl (mx))), (e13, .inl (cI, 8, .inl (mcs)))] := hD
  refine lv_bipush (v := 42) hx hb dX5_storage_5 (by decide) ?_
  refine lv_aload_n hx hb dX5_storage_7 rfl (lv_at hl 0 rfl) ?_
  refine va_get (D := D) (ci := 5) (v := .int (nI S)) (C := RX5) (T := TX5) (N := 25) hx hb hts (fun w h => List.mem_cons_of_mem _ (hiX5 w h)) hown hK hP 0 rfl rfl 1 (by decide) kf54 (fun _ h9 => h9) rfl dX5_storage_8 ?_
  refine lv_imul hx hb dX5_storage_11 ?_
  refine lv_aload_n hx hb dX5_storage_12 rfl (lv_at hl 0 rfl) ?_
  refine va_get (D := D) (ci := 5) (v := .int (nI Wy)) (C := RX5) (T := TX5) (N := 25) hx hb hts (fun w h => List.mem_cons_of_mem _ (hiX5 w h)) hown hK hP 0 rfl rfl 2 (by decide) kf61 (fun _ h9 => h9) rfl dX5_storage_13 ?_
  refine lv_imul hx hb dX5_storage_16 ?_
  refine lv_sipush (v := 2560) hx hb dX5_storage_17 (by decide) ?_
  refine lv_iadd hx hb dX5_storage_20 ?_
  refine lv_bipush (v := 32) hx hb dX5_storage_21 (by decide) ?_
  refine lv_aload_n hx hb dX5_storage_23 rfl (lv_at hl 0 rfl) ?_
  refine va_get (D := D) (ci := 5) (v := .int (nI L)) (C := RX5) (T := TX5) (N := 25) hx hb hts (fun w h => List.mem_cons_of_mem _ (hiX5 w h)) hown hK hP 0 rfl rfl 3 (by decide) kf64 (fun _ h9 => h9) rfl dX5_storage_24 ?_
  refine lv_imul hx hb dX5_storage_27 ?_
  refine lv_iadd hx hb dX5_storage_28 ?_
  refine lv_bipush (v := 24) hx hb dX5_storage_29 (by decide) ?_
  refine lv_iadd hx hb dX5_storage_31 ?_
  exact kr_i (rfl) hx hb hr hlocks hP hK hD hS (rfl) dX5_storage_32

set_option maxHeartbeats 4000000 in
set_option maxRecDepth 100000 in
/-- count -/
theorem c_X5_count (l : Launch) (D : va_G) (cI cJ cZ : ClassId) (sz : Nat) (e0 e1 e2 e3 e4 e5 e6 e7 e8 e9 e10 e11 e12 e13 : Nat) (S Wy sb L : Nat) (mhs mg mk mt mu : Fn) (tm : Int32) (rg rq : Fn) (mh : Int32) (mr : Fn) (md : Nat) (mv mz : Int32) (mp mo mw mx : Fn) (mn : Nat) (mcs : Fn) (ml mth : Int32) (p0 : Int32) : KI l yX5_count wsX5_count ({ frames := 1, cells := 0, slots := 0, locals := 22 } : Room) D (kTy cI cJ cZ) [.ref (e0), .int (p0)] [(e0, .inr (5, [.int (mth), .int (nI S), .int (nI Wy), .int (nI L), .int (nI sb), .ref (e1), .ref (e2), .ref (e3), .ref (e4), .ref (e5), .int (tm), .ref (e6), .ref (e7), .int (mh), .int (nI (md)), .ref (e8), .int (nI (mn)), .ref (e9), .ref (e10), .ref (e11), .ref (e12), .ref (e13), .int (mv), .int (mz), .int (ml)])), (e1, .inl (cZ, 64, .inl (mhs))), (e2, .inl (cI, 64, .inl (mg))), (e3, .inl (cI, 64, .inl (mk))), (e4, .inl (cI, 64, .inl (mt))), (e5, .inl (cI, 64, .inl (mu))), (e6, .inl (cI, 64, .inl (rg))), (e7, .inl (cI, 64, .inl (rq))), (e8, .inl (cI, 17, .inl (mr))), (e9, .inl (cI, 16, .inl (mp))), (e10, .inl (cI, 16, .inl (mo))), (e11, .inl (cI, 16, .inl (mw))), (e12, .inl (cI, 272, .inl (mx))), (e13, .inl (cI, 8, .inl (mcs)))] sz (wMo e0 e1 e2 e3 e4 e5 e6 e7 e8 e9 e10 e11 e12 e13 cI cZ S Wy sb L ((mhs, mg, mk, mt, mu, tm), (rg, rq, mh), (mr, md, mv, mz), (mp, mo, mw, mx, mn), mcs, ml, 0)) (mf_count S Wy L ((mhs, mg, mk, mt, mu, tm), (rg, rq, mh), (mr, md, mv, mz), (mp, mo, mw, mx, mn), mcs, ml, mth) p0) 0 0 := by
  refine Met.ofW (cc := cX5_count) (maxL := 4) (ret := (some .int)) (by decide) rfl ?_
  intro p e s m args below meth c s₁ B hml hv
  obtain ⟨rfl, hsz, hP, hK, hD0⟩ := hv
  have hx := B.exec
  have hb := B.bytes
  have hr := B.returns
  have hts := atoms_spec (ws := wsX5_count) B.pre
  have hown : s.vm.findClass RX5 = some m.cls := findClass_of_methodNamed B.named
  have hlocks := B.notSynchronized
  have kf101 := hts (.fieldLink RX5 101 "TargetRowsModel" "queued" "I") (List.mem_cons_of_mem _ kw_529)
  have kf132 := hts (.fieldLink RX5 132 "TargetRowsModel" "lost" "I") (List.mem_cons_of_mem _ kw_537)
  have kf47 := hts (.fieldLink RX5 47 "TargetRowsModel" "counts" "[I") (List.mem_cons_of_mem _ kw_534)
  have kf54 := hts (.fieldLink RX5 54 "TargetRowsModel" "sets" "I") (List.mem_cons_of_mem _ kw_514)
  have kf61 := hts (.fieldLink RX5 61 "TargetRowsModel" "ways" "I") (List.mem_cons_of_mem _ kw_515)
  have kf64 := hts (.fieldLink RX5 64 "TargetRowsModel" "room" "I") (List.mem_cons_of_mem _ kw_516)
  have kf67 := hts (.fieldLink RX5 67 "TargetRowsModel" "thrown" "I") (List.mem_cons_of_mem _ kw_513)
  have kf7 := hts (.fieldLink RX5 7 "TargetRowsModel" "has" "[Z") (List.mem_cons_of_mem _ kw_518)
  have kf77 := hts (.fieldLink RX5 77 "TargetRowsModel" "history" "I") (List.mem_cons_of_mem _ kw_526)
  have kf80 := hts (.fieldLink RX5 80 "TargetRowsModel" "deep" "I") (List.mem_cons_of_mem _ kw_527)
  have kf83 := hts (.fieldLink RX5 83 "TargetRowsModel" "overflows" "I") (List.mem_cons_of_mem _ kw_535)
  have kf86 := hts (.fieldLink RX5 86 "TargetRowsModel" "underflows" "I") (List.mem_cons_of_mem _ kw_536)
  subst hsz
  have hD := hD0.self (sz := s.heap.size)
  generalize hAe : va_A [(e0, .inr (5, [.int (mth), .int (nI S), .int (nI Wy), .int (nI L), .int (nI sb), .ref (e1), .ref (e2), .ref (e3), .ref (e4), .ref (e5), .int (tm), .ref (e6), .ref (e7), .int (mh), .int (nI (md)), .ref (e8), .int (nI (mn)), .ref (e9), .ref (e10), .ref (e11), .ref (e12), .ref (e13), .int (mv), .int (mz), .int (ml)])), (e1, .inl (cZ, 64, .inl (mhs))), (e2, .inl (cI, 64, .inl (mg))), (e3, .inl (cI, 64, .inl (mk))), (e4, .inl (cI, 64, .inl (mt))), (e5, .inl (cI, 64, .inl (mu))), (e6, .inl (cI, 64, .inl (rg))), (e7, .inl (cI, 64, .inl (rq))), (e8, .inl (cI, 17, .inl (mr))), (e9, .inl (cI, 16, .inl (mp))), (e10, .inl (cI, 16, .inl (mo))), (e11, .inl (cI, 16, .inl (mw))), (e12, .inl (cI, 272, .inl (mx))), (e13, .inl (cI, 8, .inl (mcs)))] s.heap.size = A at hD ⊢
  have hA : ∀ q : Nat, s.heap.size ≤ q → A q := fun q h => by rw [← hAe]; exact Or.inr h
  have hS : va_S A s.heap s.heap [] := va_S.rf
  have hP : va_P D vwCl [(e0, .inr (5, [.int (mth), .int (nI S), .int (nI Wy), .int (nI L), .int (nI sb), .ref (e1), .ref (e2), .ref (e3), .ref (e4), .ref (e5), .int (tm), .ref (e6), .ref (e7), .int (mh), .int (nI (md)), .ref (e8), .int (nI (mn)), .ref (e9), .ref (e10), .ref (e11), .ref (e12), .ref (e13), .int (mv), .int (mz), .int (ml)])), (e1, .inl (cZ, 64, .inl (mhs))), (e2, .inl (cI, 64, .inl (mg))), (e3, .inl (cI, 64, .inl (mk))), (e4, .inl (cI, 64, .inl (mt))), (e5, .inl (cI, 64, .inl (mu))), (e6, .inl (cI, 64, .inl (rg))), (e7, .inl (cI, 64, .inl (rq))), (e8, .inl (cI, 17, .inl (mr))), (e9, .inl (cI, 16, .inl (mp))), (e10, .inl (cI, 16, .inl (mo))), (e11, .inl (cI, 16, .inl (mw))), (e12, .inl (cI, 272, .inl (mx))), (e13, .inl (cI, 8, .inl (mcs)))] s.heap := hP
  have hD : va_D A [(e0, .inr (5, [.int (mth), .int (nI S), .int (nI Wy), .int (nI L), .int (nI sb), .ref (e1), .ref (e2), .ref (e3), .ref (e4), .ref (e5), .int (tm), .ref (e6), .ref (e7), .int (mh), .int (nI (md)), .ref (e8), .int (nI (mn)), .ref (e9), .ref (e10), .ref (e11), .ref (e12), .ref (e13), .int (mv), .int (mz), .int (ml)])), (e1, .inl (cZ, 64, .inl (mhs))), (e2, .inl (cI, 64, .inl (mg))), (e3, .inl (cI, 64, .inl (mk))), (e4, .inl (cI, 64, .inl (mt))), (e5, .inl (cI, 64, .inl (mu))), (e6, .inl (cI, 64, .inl (rg))), (e7, .inl (cI, 64, .inl (rq))), (e8, .inl (cI, 17, .inl (mr))), (e9, .inl (cI, 16, .inl (mp))), (e10, .inl (cI, 16, .inl (mo))), (e11, .inl (cI, 16, .inl (mw))), (e12, .inl (cI, 272, .inl (mx))), (e13, .inl (cI, 8, .inl (mcs)))] := hD
  have hl := lv_entry ([.ref (e0), .int (p0)]) (n := 4) (Nat.le_of_ble_eq_true rfl)
  rw [lg_entry_eq]
  generalize (lg_sl ([.ref (e0), .int (p0)]) ++ List.replicate (4 - (lg_sl ([.ref (e0), .int (p0)])).length) Slot.unset).toArray = ls at hl ⊢
  have hl : lv_has ls 4 [(0, .ref (e0)), (1, .int (p0))] := hl
  refine lv_aload_n hx hb dX5_count_0 rfl (lv_at hl 0 rfl) ?_
  refine lv_iconst (v := 0) hx hb dX5_count_1 (by decide) ?_
  refine va_put (D := D) (ci := 5) (v := .int (0)) (ty := .int) (C := RX5) (T := TX5) (N := 25) hx hb hts (fun w h => List.mem_cons_of_mem _ (hiX5 w h)) tyX5 tyX5_ok nmX5 hown hK hP hD hS 0 rfl rfl 0 (by decide) kf67 (fun _ h9 => h9) rfl (by decide +kernel) rfl rfl (Nat.le_of_ble_eq_true rfl) dX5_count_2 (fun H locs hP hD hS => ?_)
  have hP : va_P D vwCl [(e0, .inr (5, [.int (0), .int (nI S), .int (nI Wy), .int (nI L), .int (nI sb), .ref (e1), .ref (e2), .ref (e3), .ref (e4), .ref (e5), .int (tm), .ref (e6), .ref (e7), .int (mh), .int (nI (md)), .ref (e8), .int (nI (mn)), .ref (e9), .ref (e10), .ref (e11), .ref (e12), .ref (e13), .int (mv), .int (mz), .int (ml)])), (e1, .inl (cZ, 64, .inl (mhs))), (e2, .inl (cI, 64, .inl (mg))), (e3, .inl (cI, 64, .inl (mk))), (e4, .inl (cI, 64, .inl (mt))), (e5, .inl (cI, 64, .inl (mu))), (e6, .inl (cI, 64, .inl (rg))), (e7, .inl (cI, 64, .inl (rq))), (e8, .inl (cI, 17, .inl (mr))), (e9, .inl (cI, 16, .inl (mp))), (e10, .inl (cI, 16, .inl (mo))), (e11, .inl (cI, 16, .inl (mw))), (e12, .inl (cI, 272, .inl (mx))), (e13, .inl (cI, 8, .inl (mcs)))] H := hP
  have hD : va_D A [(e0, .inr (5, [.int (0), .int (nI S), .int (nI Wy), .int (nI L), .int (nI sb), .ref (e1), .ref (e2), .ref (e3), .ref (e4), .ref (e5), .int (tm), .ref (e6), .ref (e7), .int (mh), .int (nI (md)), .ref (e8), .int (nI (mn)), .ref (e9), .ref (e10), .ref (e11), .ref (e12), .ref (e13), .int (mv), .int (mz), .int (ml)])), (e1, .inl (cZ, 64, .inl (mhs))), (e2, .inl (cI, 64, .inl (mg))), (e3, .inl (cI, 64, .inl (mk))), (e4, .inl (cI, 64, .inl (mt))), (e5, .inl (cI, 64, .inl (mu))), (e6, .inl (cI, 64, .inl (rg))), (e7, .inl (cI, 64, .inl (rq))), (e8, .inl (cI, 17, .inl (mr))), (e9, .inl (cI, 16, .inl (mp))), (e10, .inl (cI, 16, .inl (mo))), (e11, .inl (cI, 16, .inl (mw))), (e12, .inl (cI, 272, .inl (mx))), (e13, .inl (cI, 8, .inl (mcs)))] := hD
  refine lv_iload_n hx hb dX5_count_5 rfl (lv_at hl 1 rfl) ?_
  refine lv_iconst (v := 0) hx hb dX5_count_6 (by decide) ?_
  refine lv_bipush (v := 17) hx hb dX5_count_7 (by decide) ?_
  refine kc_i (wc := []) (wr := [(e0, .inr (5, [.int (0), .int (nI S), .int (nI Wy), .int (nI L), .int (nI sb), .ref (e1), .ref (e2), .ref (e3), .ref (e4), .ref (e5), .int (tm), .ref (e6), .ref (e7), .int (mh), .int (nI (md)), .ref (e8), .int (nI (mn)), .ref (e9), .ref (e10), .ref (e11), .ref (e12), .ref (e13), .int (mv), .int (mz), .int (ml)])), (e1, .inl (cZ, 64, .inl (mhs))), (e2, .inl (cI, 64, .inl (mg))), (e3, .inl (cI, 64, .inl (mk))), (e4, .inl (cI, 64, .inl (mt))), (e5, .inl (cI, 64, .inl (mu))), (e6, .inl (cI, 64, .inl (rg))), (e7, .inl (cI, 64, .inl (rq))), (e8, .inl (cI, 17, .inl (mr))), (e9, .inl (cI, 16, .inl (mp))), (e10, .inl (cI, 16, .inl (mo))), (e11, .inl (cI, 16, .inl (mw))), (e12, .inl (cI, 272, .inl (mx))), (e13, .inl (cI, 8, .inl (mcs)))]) [] [0, 1, 2, 3, 4, 5, 6, 7, 8, 9, 10, 11, 12, 13] rfl rfl (by decide) (by decide) hP hD hS hA (va_runS (As := [.int (p0), .int (0), .int (17)]) (rest := []) ⟨hx, hb, hml, hown, hts⟩ (c_X5_within l D cI cJ cZ _ _ _ _) (va_cwS 3 hts (kw_S kw_641 kw_642 kw_33 kw_643) rfl rfl rfl (by decide +kernel) ⟨Nat.le_of_ble_eq_true rfl, Nat.le_of_ble_eq_true rfl⟩) ⟨kP_blind, kP_at (hP.sub [] rfl) hK (hD.sub [] (by decide) rfl)⟩ rfl rfl hl.1 rfl (lv_room (Nat.le_of_ble_eq_true rfl)) dX5_count_9 ⟨Nat.zero_le _, Nat.zero_le _⟩) (fun H locs hP hD hS => ?_)
  have hP := hP.sub (ws' := [(e0, .inr (5, [.int (0), .int (nI S), .int (nI Wy), .int (nI L), .int (nI sb), .ref (e1), .ref (e2), .ref (e3), .ref (e4), .ref (e5), .int (tm), .ref (e6), .ref (e7), .int (mh), .int (nI (md)), .ref (e8), .int (nI (mn)), .ref (e9), .ref (e10), .ref (e11), .ref (e12), .ref (e13), .int (mv), .int (mz), .int (ml)])), (e1, .inl (cZ, 64, .inl (mhs))), (e2, .inl (cI, 64, .inl (mg))), (e3, .inl (cI, 64, .inl (mk))), (e4, .inl (cI, 64, .inl (mt))), (e5, .inl (cI, 64, .inl (mu))), (e6, .inl (cI, 64, .inl (rg))), (e7, .inl (cI, 64, .inl (rq))), (e8, .inl (cI, 17, .inl (mr))), (e9, .inl (cI, 16, .inl (mp))), (e10, .inl (cI, 16, .inl (mo))), (e11, .inl (cI, 16, .inl (mw))), (e12, .inl (cI, 272, .inl (mx))), (e13, .inl (cI, 8, .inl (mcs)))]) [0, 1, 2, 3, 4, 5, 6, 7, 8, 9, 10, 11, 12, 13] rfl
  have hD := hD.sub (ws' := [(e0, .inr (5, [.int (0), .int (nI S), .int (nI Wy), .int (nI L), .int (nI sb), .ref (e1), .ref (e2), .ref (e3), .ref (e4), .ref (e5), .int (tm), .ref (e6), .ref (e7), .int (mh), .int (nI (md)), .ref (e8), .int (nI (mn)), .ref (e9), .ref (e10), .ref (e11), .ref (e12), .ref (e13), .int (mv), .int (mz), .int (ml)])), (e1, .inl (cZ, 64, .inl (mhs))), (e2, .inl (cI, 64, .inl (mg))), (e3, .inl (cI, 64, .inl (mk))), (e4, .inl (cI, 64, .inl (mt))), (e5, .inl (cI, 64, .inl (mu))), (e6, .inl (cI, 64, .inl (rg))), (e7, .inl (cI, 64, .inl (rq))), (e8, .inl (cI, 17, .inl (mr))), (e9, .inl (cI, 16, .inl (mp))), (e10, .inl (cI, 16, .inl (mo))), (e11, .inl (cI, 16, .inl (mw))), (e12, .inl (cI, 272, .inl (mx))), (e13, .inl (cI, 8, .inl (mcs)))]) [0, 1, 2, 3, 4, 5, 6, 7, 8, 9, 10, 11, 12, 13] (by decide) rfl
  by_cases hw9 : (0 : Int32) ≤ p0 ∧ p0 ≤ 17
  ·
    refine kt_i (y := 1) (if_pos hw9) ?_
    refine lv_if_ne (tgt := 17) hx hb dX5_count_12 (by decide) (fun c_12 => ?_) (fun c_12 => absurd c_12 (by decide))
    refine lv_iload_n hx hb dX5_count_17 rfl (lv_at hl 1 rfl) ?_
    refine lv_bipush (v := 8) hx hb dX5_count_18 (by decide) ?_
    refine lv_icmp_ge (tgt := 30) hx hb dX5_count_20 (by decide) (fun c_20 => ?_) (fun c_20 => ?_)
    ·
      refine lv_iconst (v := 0) hx hb dX5_count_30 (by decide) ?_
      refine lv_istore_n (lv' := [(2, .int (0)), (0, .ref (e0)), (1, .int (p0))]) hx hb dX5_count_31 rfl hl (by decide) rfl (fun ls hl => ?_)
      refine lv_iconst (v := 0) hx hb dX5_count_32 (by decide) ?_
      refine kt_i (y := nI 0) (rfl) ?_
      refine lv_istore_n (lv' := [(3, .int (nI 0)), (2, .int (0)), (0, .ref (e0)), (1, .int (p0))]) hx hb dX5_count_33 rfl hl (by decide) rfl (fun ls hl => ?_)
      refine kloop (nL := 4) (I := fun n w lv => ∃ (ev : Nat) (ac : Int32), w = [(e0, .inr (5, [.int (0), .int (nI S), .int (nI Wy), .int (nI L), .int (nI sb), .ref (e1), .ref (e2), .ref (e3), .ref (e4), .ref (e5), .int (tm), .ref (e6), .ref (e7), .int (mh), .int (nI (md)), .ref (e8), .int (nI (mn)), .ref (e9), .ref (e10), .ref (e11), .ref (e12), .ref (e13), .int (mv), .int (mz), .int (ml)])), (e1, .inl (cZ, 64, .inl (mhs))), (e2, .inl (cI, 64, .inl (mg))), (e3, .inl (cI, 64, .inl (mk))), (e4, .inl (cI, 64, .inl (mt))), (e5, .inl (cI, 64, .inl (mu))), (e6, .inl (cI, 64, .inl (rg))), (e7, .inl (cI, 64, .inl (rq))), (e8, .inl (cI, 17, .inl (mr))), (e9, .inl (cI, 16, .inl (mp))), (e10, .inl (cI, 16, .inl (mo))), (e11, .inl (cI, 16, .inl (mw))), (e12, .inl (cI, 272, .inl (mx))), (e13, .inl (cI, 8, .inl (mcs)))] ∧ lv = [(0, .ref (e0)), (1, .int (p0)), (2, .int (ac)), (3, .int (nI ev))] ∧ mf_cnt mhs ev n ac = mf_cnt mhs 0 64 0 ∧ ev + n = 64) (fun n w lv H locs ls hI hP hD hS hl ih => ?_) (64) _ _ _ _ _ ⟨0, 0, rfl, rfl, rfl, rfl⟩ hP hD hS (lv_sub hl [2, 3, 1, 0] rfl)
      obtain ⟨ev, ac, rfl, rfl, hinv, hk⟩ := hI
      rcases n with _ | n
      ·
        refine lv_iload_n hx hb dX5_count_34 rfl (lv_at hl 3 rfl) ?_
        refine lv_bipush (v := 64) hx hb dX5_count_35 (by decide) ?_
        refine lv_icmp_ge (tgt := 63) hx hb dX5_count_37 (by decide) (fun c_37 => ?_) (fun c_37 => absurd (nI_le (a := 64) (b := ev) (by omega) (by omega)) c_37)
        have hac : ac = mf_cnt mhs 0 64 0 := hinv
        refine lv_iload_n hx hb dX5_count_63 rfl (lv_at hl 1 rfl) ?_
        by_cases e108 : p0 = 8
        · subst e108
          refine lv_tableIn (off := 52) (tgt := 116) hx hb dX5_count_64 (by decide) (by decide) (by decide) (by decide) ?_
          refine lv_aload_n hx hb dX5_count_116 rfl (lv_at hl 0 rfl) ?_
          refine va_get (D := D) (ci := 5) (v := .int (mv)) (C := RX5) (T := TX5) (N := 25) hx hb hts (fun w h => List.mem_cons_of_mem _ (hiX5 w h)) hown hK hP 0 rfl rfl 22 (by decide) kf83 (fun _ h9 => h9) rfl dX5_count_117 ?_
          exact kr_i (rfl) hx hb hr hlocks hP hK hD hS (rfl) dX5_count_120
        by_cases e109 : p0 = 9
        · subst e109
          refine lv_tableIn (off := 57) (tgt := 121) hx hb dX5_count_64 (by decide) (by decide) (by decide) (by decide) ?_
          refine lv_aload_n hx hb dX5_count_121 rfl (lv_at hl 0 rfl) ?_
          refine va_get (D := D) (ci := 5) (v := .int (mz)) (C := RX5) (T := TX5) (N := 25) hx hb hts (fun w h => List.mem_cons_of_mem _ (hiX5 w h)) hown hK hP 0 rfl rfl 23 (by decide) kf86 (fun _ h9 => h9) rfl dX5_count_122 ?_
          exact kr_i (rfl) hx hb hr hlocks hP hK hD hS (rfl) dX5_count_125
        by_cases e110 : p0 = 10
        · subst e110
          refine lv_tableIn (off := 62) (tgt := 126) hx hb dX5_count_64 (by decide) (by decide) (by decide) (by decide) ?_
          refine lv_aload_n hx hb dX5_count_126 rfl (lv_at hl 0 rfl) ?_
          refine va_get (D := D) (ci := 5) (v := .int (nI (mn))) (C := RX5) (T := TX5) (N := 25) hx hb hts (fun w h => List.mem_cons_of_mem _ (hiX5 w h)) hown hK hP 0 rfl rfl 16 (by decide) kf101 (fun _ h9 => h9) rfl dX5_count_127 ?_
          exact kr_i (rfl) hx hb hr hlocks hP hK hD hS (rfl) dX5_count_130
        by_cases e111 : p0 = 11
        · subst e111
          refine lv_tableIn (off := 67) (tgt := 131) hx hb dX5_count_64 (by decide) (by decide) (by decide) (by decide) ?_
          refine lv_aload_n hx hb dX5_count_131 rfl (lv_at hl 0 rfl) ?_
          refine va_get (D := D) (ci := 5) (v := .int (nI (md))) (C := RX5) (T := TX5) (N := 25) hx hb hts (fun w h => List.mem_cons_of_mem _ (hiX5 w h)) hown hK hP 0 rfl rfl 14 (by decide) kf80 (fun _ h9 => h9) rfl dX5_count_132 ?_
          exact kr_i (rfl) hx hb hr hlocks hP hK hD hS (rfl) dX5_count_135
        by_cases e112 : p0 = 12
        · subst e112
          refine lv_tableIn (off := 72) (tgt := 136) hx hb dX5_count_64 (by decide) (by decide) (by decide) (by decide) ?_
          refine lv_iload_n hx hb dX5_count_136 rfl (lv_at hl 2 rfl) ?_
          exact kr_i (rfl) hx hb hr hlocks hP hK hD hS (hac) dX5_count_137
        by_cases e113 : p0 = 13
        · subst e113
          refine lv_tableIn (off := 74) (tgt := 138) hx hb dX5_count_64 (by decide) (by decide) (by decide) (by decide) ?_
          refine lv_aload_n hx hb dX5_count_138 rfl (lv_at hl 0 rfl) ?_
          refine va_get (D := D) (ci := 5) (v := .int (mh)) (C := RX5) (T := TX5) (N := 25) hx hb hts (fun w h => List.mem_cons_of_mem _ (hiX5 w h)) hown hK hP 0 rfl rfl 13 (by decide) kf77 (fun _ h9 => h9) rfl dX5_count_139 ?_
          exact kr_i (rfl) hx hb hr hlocks hP hK hD hS (rfl) dX5_count_142
        by_cases e114 : p0 = 14
        · subst e114
          refine lv_tableIn (off := 79) (tgt := 143) hx hb dX5_count_64 (by decide) (by decide) (by decide) (by decide) ?_
          refine lv_aload_n hx hb dX5_count_143 rfl (lv_at hl 0 rfl) ?_
          refine va_get (D := D) (ci := 5) (v := .int (ml)) (C := RX5) (T := TX5) (N := 25) hx hb hts (fun w h => List.mem_cons_of_mem _ (hiX5 w h)) hown hK hP 0 rfl rfl 24 (by decide) kf132 (fun _ h9 => h9) rfl dX5_count_144 ?_
          exact kr_i (rfl) hx hb hr hlocks hP hK hD hS (rfl) dX5_count_147
        by_cases e115 : p0 = 15
        · subst e115
          refine lv_tableIn (off := 84) (tgt := 148) hx hb dX5_count_64 (by decide) (by decide) (by decide) (by decide) ?_
          refine lv_aload_n hx hb dX5_count_148 rfl (lv_at hl 0 rfl) ?_
          refine va_get (D := D) (ci := 5) (v := .int (nI S)) (C := RX5) (T := TX5) (N := 25) hx hb hts (fun w h => List.mem_cons_of_mem _ (hiX5 w h)) hown hK hP 0 rfl rfl 1 (by decide) kf54 (fun _ h9 => h9) rfl dX5_count_149 ?_
          exact kr_i (rfl) hx hb hr hlocks hP hK hD hS (rfl) dX5_count_152
        by_cases e116 : p0 = 16
        · subst e116
          refine lv_tableIn (off := 89) (tgt := 153) hx hb dX5_count_64 (by decide) (by decide) (by decide) (by decide) ?_
          refine lv_aload_n hx hb dX5_count_153 rfl (lv_at hl 0 rfl) ?_
          refine va_get (D := D) (ci := 5) (v := .int (nI Wy)) (C := RX5) (T := TX5) (N := 25) hx hb hts (fun w h => List.mem_cons_of_mem _ (hiX5 w h)) hown hK hP 0 rfl rfl 2 (by decide) kf61 (fun _ h9 => h9) rfl dX5_count_154 ?_
          exact kr_i (rfl) hx hb hr hlocks hP hK hD hS (rfl) dX5_count_157
        refine lv_tableOut (tgt := 158) hx hb dX5_count_64 (ct17 c_20 hw9.2 e108 e109 e110 e111 e112 e113 e114 e115 e116) (by decide) ?_
        refine lv_aload_n hx hb dX5_count_158 rfl (lv_at hl 0 rfl) ?_
        refine va_get (D := D) (ci := 5) (v := .int (nI L)) (C := RX5) (T := TX5) (N := 25) hx hb hts (fun w h => List.mem_cons_of_mem _ (hiX5 w h)) hown hK hP 0 rfl rfl 3 (by decide) kf64 (fun _ h9 => h9) rfl dX5_count_159 ?_
        exact kr_i (rfl) hx hb hr hlocks hP hK hD hS (by simp only [mf_count]; rw [if_neg (fun q => q hw9), if_neg (Int32.not_lt.mpr c_20), if_neg e108, if_neg e109, if_neg e110, if_neg e111, if_neg e112, if_neg e113, if_neg e114, if_neg e115, if_neg e116]) dX5_count_162
      ·
        refine lv_iload_n hx hb dX5_count_34 rfl (lv_at hl 3 rfl) ?_
        refine lv_bipush (v := 64) hx hb dX5_count_35 (by decide) ?_
        refine lv_icmp_ge (tgt := 63) hx hb dX5_count_37 (by decide) (fun c_37 => absurd c_37 (nI_ge (a := ev) (b := 64) (by omega) (by omega))) (fun c_37 => ?_)
        refine lv_iload_n hx hb dX5_count_40 rfl (lv_at hl 2 rfl) ?_
        refine lv_aload_n hx hb dX5_count_41 rfl (lv_at hl 0 rfl) ?_
        refine va_get (D := D) (ci := 5) (v := .ref (e1)) (C := RX5) (T := TX5) (N := 25) hx hb hts (fun w h => List.mem_cons_of_mem _ (hiX5 w h)) hown hK hP 0 rfl rfl 5 (by decide) kf7 (fun _ h9 => h9) rfl dX5_count_42 ?_
        refine lv_iload_n hx hb dX5_count_45 rfl (lv_at hl 3 rfl) ?_
        refine ka_zld hx hb hK hP 1 2 rfl rfl (k := ev) (rfl) (⟨by omega, by decide⟩) dX5_count_46 ?_
        refine lv_if_eq (tgt := 54) hx hb dX5_count_47 (by decide) (fun c_47 => ?_) (fun c_47 => ?_)
        ·
          refine lv_iconst (v := 0) hx hb dX5_count_54 (by decide) ?_
          refine lv_iadd hx hb dX5_count_55 ?_
          refine lv_istore_n (lv' := [(2, .int ((ac) + (0))), (0, .ref (e0)), (1, .int (p0)), (3, .int (nI ev))]) hx hb dX5_count_56 rfl hl (by decide) rfl (fun ls hl => ?_)
          refine lv_iinc (v := nI (ev + 1)) (lv' := [(3, .int (nI (ev + 1))), (2, .int ((ac) + (0))), (0, .ref (e0)), (1, .int (p0))]) hx hb dX5_count_57 hl (k := 3) rfl (nI_1 ev) (by decide) rfl (fun ls hl => ?_)
          refine lv_goto (tgt := 34) hx hb dX5_count_60 (by decide) ?_
          exact ih n _ _ _ _ _ rfl ⟨ev + 1, _, rfl, rfl, by rw [← hinv]; simp only [mf_cnt]; rw [if_pos c_47], by omega⟩ hP hD hS (lv_sub hl [2, 3, 1, 0] rfl)
        ·
          refine lv_iconst (v := 1) hx hb dX5_count_50 (by decide) ?_
          refine lv_goto (tgt := 55) hx hb dX5_count_51 (by decide) ?_
          refine lv_iadd hx hb dX5_count_55 ?_
          refine lv_istore_n (lv' := [(2, .int ((ac) + (1))), (0, .ref (e0)), (1, .int (p0)), (3, .int (nI ev))]) hx hb dX5_count_56 rfl hl (by decide) rfl (fun ls hl => ?_)
          refine lv_iinc (v := nI (ev + 1)) (lv' := [(3, .int (nI (ev + 1))), (2, .int ((ac) + (1))), (0, .ref (e0)), (1, .int (p0))]) hx hb dX5_count_57 hl (k := 3) rfl (nI_1 ev) (by decide) rfl (fun ls hl => ?_)
          refine lv_goto (tgt := 34) hx hb dX5_count_60 (by decide) ?_
          exact ih n _ _ _ _ _ rfl ⟨ev + 1, _, rfl, rfl, by rw [← hinv]; simp only [mf_cnt]; rw [if_neg c_47], by omega⟩ hP hD hS (lv_sub hl [2, 3, 1, 0] rfl)
    ·
      obtain ⟨k, hk, ek⟩ := ct8 hw9.1 (Int32.not_le.mp c_20)
      refine lv_aload_n hx hb dX5_count_23 rfl (lv_at hl 0 rfl) ?_
      refine va_get (D := D) (ci := 5) (v := .ref (e13)) (C := RX5) (T := TX5) (N := 25) hx hb hts (fun w h => List.mem_cons_of_mem _ (hiX5 w h)) hown hK hP 0 rfl rfl 21 (by decide) kf47 (fun _ h9 => h9) rfl dX5_count_24 ?_
      refine lv_iload_n hx hb dX5_count_27 rfl (lv_at hl 1 rfl) ?_
      refine kt_i (y := nI k) (ek) ?_
      refine ka_ild hx hb hK hP 13 0 rfl rfl (k := k) (rfl) (⟨hk, by decide⟩) dX5_count_28 ?_
      exact kr_i (rfl) hx hb hr hlocks hP hK hD hS (by simp only [mf_count]; rw [if_neg (fun q => q hw9), if_pos (Int32.not_le.mp c_20), ek, nI_clamp (show k < 2 ^ 31 by omega)]) dX5_count_29
  ·
    refine kt_i (y := 0) (if_neg hw9) ?_
    refine lv_if_ne (tgt := 17) hx hb dX5_count_12 (by decide) (fun c_12 => absurd rfl c_12) (fun c_12 => ?_)
    refine lv_iconst (v := (-1)) hx hb dX5_count_15 (by decide) ?_
    exact kr_i (rfl) hx hb hr hlocks hP hK hD hS ((if_pos hw9).symm) dX5_count_16
