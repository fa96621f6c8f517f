set_option maxHeartbeats 4000000 in
set_option maxRecDepth 100000 in
/-- tell -/
theorem c_X5_tell (l : Launch) (D : va_G) (cI cJ cZ : ClassId) (sz : Nat) (e0 e1 e2 e3 e4 e5 e6 e7 e8 e9 e10 e11 e12 e13 : Nat) (S Wy sb L : Nat) (mhs mg mk mt mu : Fn) (tm : Int32) (rg rq : Fn) (mh : Int32) (mr : Fn) (md : Nat) (mv mz : Int32) (mp mo mw mx : Fn) (mn : Nat) (mcs : Fn) (ml mth : Int32) (p0 : Int32) (hSs : S = 0 ∨ S = 2 ^ sb) (hS16 : S ≤ 16) (hsb : sb ≤ 4) (hW : 0 < Wy) (hW4 : Wy ≤ 4) (hd : md ≤ L) (hL : L ≤ 16) (hn : mn ≤ 16) : KI l yX5_tell wsX5_tell ({ frames := 2, cells := 0, slots := 0, locals := 44 } : Room) D (kTy cI cJ cZ) [.ref (e0), .int (p0)] [(e0, .inr (5, [.int (mth), .int (nI S), .int (nI Wy), .int (nI L), .int (nI sb), .ref (e1), .ref (e2), .ref (e3), .ref (e4), .ref (e5), .int (tm), .ref (e6), .ref (e7), .int (mh), .int (nI (md)), .ref (e8), .int (nI (mn)), .ref (e9), .ref (e10), .ref (e11), .ref (e12), .ref (e13), .int (mv), .int (mz), .int (ml)])), (e1, .inl (cZ, 64, .inl (mhs))), (e2, .inl (cI, 64, .inl (mg))), (e3, .inl (cI, 64, .inl (mk))), (e4, .inl (cI, 64, .inl (mt))), (e5, .inl (cI, 64, .inl (mu))), (e6, .inl (cI, 64, .inl (rg))), (e7, .inl (cI, 64, .inl (rq))), (e8, .inl (cI, 17, .inl (mr))), (e9, .inl (cI, 16, .inl (mp))), (e10, .inl (cI, 16, .inl (mo))), (e11, .inl (cI, 16, .inl (mw))), (e12, .inl (cI, 272, .inl (mx))), (e13, .inl (cI, 8, .inl (mcs)))] sz (wMo e0 e1 e2 e3 e4 e5 e6 e7 e8 e9 e10 e11 e12 e13 cI cZ S Wy sb L ((mhs, mg, mk, mt, mu, tm), (rg, rq, mh), (mr, md, mv, mz), (mp, mo, mw, mx, mn), mcs, ml, mth)) (mf_tell (mhs, mg, mk, mt, mu, tm) (rg, rq, mh) (mr, md, mv, mz) p0 (mf_find S Wy sb (mhs, mg, mk, mt, mu, tm) (p0))) 0 0 := by
  refine Met.ofW (cc := cX5_tell) (maxL := 4) (ret := (some .int)) (by decide) rfl ?_
  intro p e s m args below meth c s₁ B hml hv
  obtain ⟨rfl, hsz, hP, hK, hD0⟩ := hv
  have hx := B.exec
  have hb := B.bytes
  have hr := B.returns
  have hts := atoms_spec (ws := wsX5_tell) B.pre
  have hown : s.vm.findClass RX5 = some m.cls := findClass_of_methodNamed B.named
  have hlocks := B.notSynchronized
  have kf17 := hts (.fieldLink RX5 17 "TargetRowsModel" "kind" "[I") (List.mem_cons_of_mem _ kw_520)
  have kf20 := hts (.fieldLink RX5 20 "TargetRowsModel" "target" "[I") (List.mem_cons_of_mem _ kw_521)
  have kf26 := hts (.fieldLink RX5 26 "TargetRowsModel" "rowTag" "[I") (List.mem_cons_of_mem _ kw_524)
  have kf29 := hts (.fieldLink RX5 29 "TargetRowsModel" "rowTarget" "[I") (List.mem_cons_of_mem _ kw_525)
  have kf32 := hts (.fieldLink RX5 32 "TargetRowsModel" "ring" "[I") (List.mem_cons_of_mem _ kw_528)
  have kf80 := hts (.fieldLink RX5 80 "TargetRowsModel" "deep" "I") (List.mem_cons_of_mem _ kw_527)
  subst hsz
  have hD := hD0.self (sz := s.heap.size)
  generalize hAe : va_A [(e0, .inr (5, [.int (mth), .int (nI S), .int (nI Wy), .int (nI L), .int (nI sb), .ref (e1), .ref (e2), .ref (e3), .ref (e4), .ref (e5), .int (tm), .ref (e6), .ref (e7), .int (mh), .int (nI (md)), .ref (e8), .int (nI (mn)), .ref (e9), .ref (e10), .ref (e11), .ref (e12), .ref (e13), .int (mv), .int (mz), .int (ml)])), (e1, .inl (cZ, 64, .inl (mhs))), (e2, .inl (cI, 64, .inl (mg))), (e3, .inl (cI, 64, .inl (mk))), (e4, .inl (cI, 64, .inl (mt))), (e5, .inl (cI, 64, .inl (mu))), (e6, .inl (cI, 64, .inl (rg))), (e7, .inl (cI, 64, .inl (rq))), (e8, .inl (cI, 17, .inl (mr))), (e9, .inl (cI, 16, .inl (mp))), (e10, .inl (cI, 16, .inl (mo))), (e11, .inl (cI, 16, .inl (mw))), (e12, .inl (cI, 272, .inl (mx))), (e13, .inl (cI, 8, .inl (mcs)))] s.heap.size = A at hD ⊢
  have hA : ∀ q : Nat, s.heap.size ≤ q → A q := fun q h => by rw [← hAe]; exact Or.inr h
  have hS : va_S A s.heap s.heap [] := va_S.rf
  have hP : va_P D vwCl [(e0, .inr (5, [.int (mth), .int (nI S), .int (nI Wy), .int (nI L), .int (nI sb), .ref (e1), .ref (e2), .ref (e3), .ref (e4), .ref (e5), .int (tm), .ref (e6), .ref (e7), .int (mh), .int (nI (md)), .ref (e8), .int (nI (mn)), .ref (e9), .ref (e10), .ref (e11), .ref (e12), .ref (e13), .int (mv), .int (mz), .int (ml)])), (e1, .inl (cZ, 64, .inl (mhs))), (e2, .inl (cI, 64, .inl (mg))), (e3, .inl (cI, 64, .inl (mk))), (e4, .inl (cI, 64, .inl (mt))), (e5, .inl (cI, 64, .inl (mu))), (e6, .inl (cI, 64, .inl (rg))), (e7, .inl (cI, 64, .inl (rq))), (e8, .inl (cI, 17, .inl (mr))), (e9, .inl (cI, 16, .inl (mp))), (e10, .inl (cI, 16, .inl (mo))), (e11, .inl (cI, 16, .inl (mw))), (e12, .inl (cI, 272, .inl (mx))), (e13, .inl (cI, 8, .inl (mcs)))] s.heap := hP
  have hD : va_D A [(e0, .inr (5, [.int (mth), .int (nI S), .int (nI Wy), .int (nI L), .int (nI sb), .ref (e1), .ref (e2), .ref (e3), .ref (e4), .ref (e5), .int (tm), .ref (e6), .ref (e7), .int (mh), .int (nI (md)), .ref (e8), .int (nI (mn)), .ref (e9), .ref (e10), .ref (e11), .ref (e12), .ref (e13), .int (mv), .int (mz), .int (ml)])), (e1, .inl (cZ, 64, .inl (mhs))), (e2, .inl (cI, 64, .inl (mg))), (e3, .inl (cI, 64, .inl (mk))), (e4, .inl (cI, 64, .inl (mt))), (e5, .inl (cI, 64, .inl (mu))), (e6, .inl (cI, 64, .inl (rg))), (e7, .inl (cI, 64, .inl (rq))), (e8, .inl (cI, 17, .inl (mr))), (e9, .inl (cI, 16, .inl (mp))), (e10, .inl (cI, 16, .inl (mo))), (e11, .inl (cI, 16, .inl (mw))), (e12, .inl (cI, 272, .inl (mx))), (e13, .inl (cI, 8, .inl (mcs)))] := hD
  have hl := lv_entry ([.ref (e0), .int (p0)]) (n := 4) (Nat.le_of_ble_eq_true rfl)
  rw [lg_entry_eq]
  generalize (lg_sl ([.ref (e0), .int (p0)]) ++ List.replicate (4 - (lg_sl ([.ref (e0), .int (p0)])).length) Slot.unset).toArray = ls at hl ⊢
  have hl : lv_has ls 4 [(0, .ref (e0)), (1, .int (p0))] := hl
  refine lv_aload_n hx hb dX5_tell_0 rfl (lv_at hl 0 rfl) ?_
  refine lv_iload_n hx hb dX5_tell_1 rfl (lv_at hl 1 rfl) ?_
  refine kc_i (wc := [(e0, .inr (5, [.int (mth), .int (nI S), .int (nI Wy), .int (nI L), .int (nI sb), .ref (e1), .ref (e2), .ref (e3), .ref (e4), .ref (e5), .int (tm), .ref (e6), .ref (e7), .int (mh), .int (nI (md)), .ref (e8), .int (nI (mn)), .ref (e9), .ref (e10), .ref (e11), .ref (e12), .ref (e13), .int (mv), .int (mz), .int (ml)])), (e1, .inl (cZ, 64, .inl (mhs))), (e2, .inl (cI, 64, .inl (mg))), (e3, .inl (cI, 64, .inl (mk))), (e4, .inl (cI, 64, .inl (mt))), (e5, .inl (cI, 64, .inl (mu))), (e6, .inl (cI, 64, .inl (rg))), (e7, .inl (cI, 64, .inl (rq))), (e8, .inl (cI, 17, .inl (mr))), (e9, .inl (cI, 16, .inl (mp))), (e10, .inl (cI, 16, .inl (mo))), (e11, .inl (cI, 16, .inl (mw))), (e12, .inl (cI, 272, .inl (mx))), (e13, .inl (cI, 8, .inl (mcs)))]) (wr := []) [0, 1, 2, 3, 4, 5, 6, 7, 8, 9, 10, 11, 12, 13] [] rfl rfl (by decide) (by decide) hP hD hS hA (va_runV (As := [.int (p0)]) (rest := []) ⟨hx, hb, hml, hown, hts⟩ (c_X5_find l D cI cJ cZ _ _ _ _ _ _ _ _ _ _ _ _ _ _ _ _ _ _ _ _ _ _ _ _ _ _ _ _ _ _ _ _ _ _ _ _ _ _ _ _ _ hSs hS16 hsb hW hW4) (cwV 1 hts (kw_V kw_602 kw_604 kw_13 kw_33 kw_605) rfl rfl rfl (by decide +kernel) ⟨Nat.le_of_ble_eq_true rfl, Nat.le_of_ble_eq_true rfl⟩) ⟨kP_blind, va_recv hK (hP.sub (ws' := [(e0, .inr (5, [.int (mth), .int (nI S), .int (nI Wy), .int (nI L), .int (nI sb), .ref (e1), .ref (e2), .ref (e3), .ref (e4), .ref (e5), .int (tm), .ref (e6), .ref (e7), .int (mh), .int (nI (md)), .ref (e8), .int (nI (mn)), .ref (e9), .ref (e10), .ref (e11), .ref (e12), .ref (e13), .int (mv), .int (mz), .int (ml)])), (e1, .inl (cZ, 64, .inl (mhs))), (e2, .inl (cI, 64, .inl (mg))), (e3, .inl (cI, 64, .inl (mk))), (e4, .inl (cI, 64, .inl (mt))), (e5, .inl (cI, 64, .inl (mu))), (e6, .inl (cI, 64, .inl (rg))), (e7, .inl (cI, 64, .inl (rq))), (e8, .inl (cI, 17, .inl (mr))), (e9, .inl (cI, 16, .inl (mp))), (e10, .inl (cI, 16, .inl (mo))), (e11, .inl (cI, 16, .inl (mw))), (e12, .inl (cI, 272, .inl (mx))), (e13, .inl (cI, 8, .inl (mcs)))]) [0, 1, 2, 3, 4, 5, 6, 7, 8, 9, 10, 11, 12, 13] rfl) (ci := 5) (q0 := 0) rfl rfl, kP_at (hP.sub [0, 1, 2, 3, 4, 5, 6, 7, 8, 9, 10, 11, 12, 13] rfl) hK (hD.sub [0, 1, 2, 3, 4, 5, 6, 7, 8, 9, 10, 11, 12, 13] (by decide) rfl)⟩ rfl rfl hl.1 rfl (lv_room (Nat.le_of_ble_eq_true rfl)) dX5_tell_2 ⟨Nat.zero_le _, Nat.zero_le _⟩) (fun H locs hP hD hS => ?_)
  have hP := hP.sub (ws' := [(e0, .inr (5, [.int (mth), .int (nI S), .int (nI Wy), .int (nI L), .int (nI sb), .ref (e1), .ref (e2), .ref (e3), .ref (e4), .ref (e5), .int (tm), .ref (e6), .ref (e7), .int (mh), .int (nI (md)), .ref (e8), .int (nI (mn)), .ref (e9), .ref (e10), .ref (e11), .ref (e12), .ref (e13), .int (mv), .int (mz), .int (ml)])), (e1, .inl (cZ, 64, .inl (mhs))), (e2, .inl (cI, 64, .inl (mg))), (e3, .inl (cI, 64, .inl (mk))), (e4, .inl (cI, 64, .inl (mt))), (e5, .inl (cI, 64, .inl (mu))), (e6, .inl (cI, 64, .inl (rg))), (e7, .inl (cI, 64, .inl (rq))), (e8, .inl (cI, 17, .inl (mr))), (e9, .inl (cI, 16, .inl (mp))), (e10, .inl (cI, 16, .inl (mo))), (e11, .inl (cI, 16, .inl (mw))), (e12, .inl (cI, 272, .inl (mx))), (e13, .inl (cI, 8, .inl (mcs)))]) [0, 1, 2, 3, 4, 5, 6, 7, 8, 9, 10, 11, 12, 13] rfl
  have hD := hD.sub (ws' := [(e0, .inr (5, [.int (mth), .int (nI S), .int (nI Wy), .int (nI L), .int (nI sb), .ref (e1), .ref (e2), .ref (e3), .ref (e4), .ref (e5), .int (tm), .ref (e6), .ref (e7), .int (mh), .int (nI (md)), .ref (e8), .int (nI (mn)), .ref (e9), .ref (e10), .ref (e11), .ref (e12), .ref (e13), .int (mv), .int (mz), .int (ml)])), (e1, .inl (cZ, 64, .inl (mhs))), (e2, .inl (cI, 64, .inl (mg))), (e3, .inl (cI, 64, .inl (mk))), (e4, .inl (cI, 64, .inl (mt))), (e5, .inl (cI, 64, .inl (mu))), (e6, .inl (cI, 64, .inl (rg))), (e7, .inl (cI, 64, .inl (rq))), (e8, .inl (cI, 17, .inl (mr))), (e9, .inl (cI, 16, .inl (mp))), (e10, .inl (cI, 16, .inl (mo))), (e11, .inl (cI, 16, .inl (mw))), (e12, .inl (cI, 272, .inl (mx))), (e13, .inl (cI, 8, .inl (mcs)))]) [0, 1, 2, 3, 4, 5, 6, 7, 8, 9, 10, 11, 12, 13] (by decide) rfl
  rcases hfo : mf_find S Wy sb (mhs, mg, mk, mt, mu, tm) (p0) with _ | o
  ·
    refine kt_i (y := -1) (rfl) ?_
    refine lv_istore_n (lv' := [(2, .int (-1)), (0, .ref (e0)), (1, .int (p0))]) hx hb dX5_tell_5 rfl hl (by decide) rfl (fun ls hl => ?_)
    refine lv_iload_n hx hb dX5_tell_6 rfl (lv_at hl 0 rfl) ?_
    refine lv_if_ge (tgt := 14) hx hb dX5_tell_7 (by decide) (fun c_7 => absurd c_7 (by decide)) (fun c_7 => ?_)
    refine lv_iload_n hx hb dX5_tell_10 rfl (lv_at hl 2 rfl) ?_
    refine lv_iconst (v := 4) hx hb dX5_tell_11 (by decide) ?_
    refine lv_iadd hx hb dX5_tell_12 ?_
    exact kr_i (rfl) hx hb hr hlocks hP hK hD hS (rfl) dX5_tell_13
  ·
    have ho : o < 64 := mf_find_lt hS16 hW4 hfo
    refine kt_i (y := nI o) (rfl) ?_
    refine lv_istore_n (lv' := [(2, .int (nI o)), (0, .ref (e0)), (1, .int (p0))]) hx hb dX5_tell_5 rfl hl (by decide) rfl (fun ls hl => ?_)
    refine lv_iload_n hx hb dX5_tell_6 rfl (lv_at hl 0 rfl) ?_
    refine lv_if_ge (tgt := 14) hx hb dX5_tell_7 (by decide) (fun c_7 => ?_) (fun c_7 => absurd (nI_pos' (by omega)) c_7)
    refine lv_aload_n hx hb dX5_tell_14 rfl (lv_at hl 1 rfl) ?_
    refine lv_iload_n hx hb dX5_tell_15 rfl (lv_at hl 2 rfl) ?_
    refine kc_i (wc := [(e0, .inr (5, [.int (mth), .int (nI S), .int (nI Wy), .int (nI L), .int (nI sb), .ref (e1), .ref (e2), .ref (e3), .ref (e4), .ref (e5), .int (tm), .ref (e6), .ref (e7), .int (mh), .int (nI (md)), .ref (e8), .int (nI (mn)), .ref (e9), .ref (e10), .ref (e11), .ref (e12), .ref (e13), .int (mv), .int (mz), .int (ml)])), (e1, .inl (cZ, 64, .inl (mhs))), (e2, .inl (cI, 64, .inl (mg))), (e3, .inl (cI, 64, .inl (mk))), (e4, .inl (cI, 64, .inl (mt))), (e5, .inl (cI, 64, .inl (mu))), (e6, .inl (cI, 64, .inl (rg))), (e7, .inl (cI, 64, .inl (rq))), (e8, .inl (cI, 17, .inl (mr))), (e9, .inl (cI, 16, .inl (mp))), (e10, .inl (cI, 16, .inl (mo))), (e11, .inl (cI, 16, .inl (mw))), (e12, .inl (cI, 272, .inl (mx))), (e13, .inl (cI, 8, .inl (mcs)))]) (wr := []) [0, 1, 2, 3, 4, 5, 6, 7, 8, 9, 10, 11, 12, 13] [] rfl rfl (by decide) (by decide) hP hD hS hA (va_runV (As := [.int (p0)]) (rest := []) ⟨hx, hb, hml, hown, hts⟩ (c_X5_rowOf l D cI cJ cZ _ _ _ _ _ _ _ _ _ _ _ _ _ _ _ _ _ _ _ _ _ _ _ _ _ _ _ _ _ _ _ _ _ _ _ _ _ _ _ _ _) (cwV 1 hts (kw_V kw_614 kw_616 kw_16 kw_33 kw_617) rfl rfl rfl (by decide +kernel) ⟨Nat.le_of_ble_eq_true rfl, Nat.le_of_ble_eq_true rfl⟩) ⟨kP_blind, va_recv hK (hP.sub (ws' := [(e0, .inr (5, [.int (mth), .int (nI S), .int (nI Wy), .int (nI L), .int (nI sb), .ref (e1), .ref (e2), .ref (e3), .ref (e4), .ref (e5), .int (tm), .ref (e6), .ref (e7), .int (mh), .int (nI (md)), .ref (e8), .int (nI (mn)), .ref (e9), .ref (e10), .ref (e11), .ref (e12), .ref (e13), .int (mv), .int (mz), .int (ml)])), (e1, .inl (cZ, 64, .inl (mhs))), (e2, .inl (cI, 64, .inl (mg))), (e3, .inl (cI, 64, .inl (mk))), (e4, .inl (cI, 64, .inl (mt))), (e5, .inl (cI, 64, .inl (mu))), (e6, .inl (cI, 64, .inl (rg))), (e7, .inl (cI, 64, .inl (rq))), (e8, .inl (cI, 17, .inl (mr))), (e9, .inl (cI, 16, .inl (mp))), (e10, .inl (cI, 16, .inl (mo))), (e11, .inl (cI, 16, .inl (mw))), (e12, .inl (cI, 272, .inl (mx))), (e13, .inl (cI, 8, .inl (mcs)))]) [0, 1, 2, 3, 4, 5, 6, 7, 8, 9, 10, 11, 12, 13] rfl) (ci := 5) (q0 := 0) rfl rfl, kP_at (hP.sub [0, 1, 2, 3, 4, 5, 6, 7, 8, 9, 10, 11, 12, 13] rfl) hK (hD.sub [0, 1, 2, 3, 4, 5, 6, 7, 8, 9, 10, 11, 12, 13] (by decide) rfl)⟩ rfl rfl hl.1 rfl (lv_room (Nat.le_of_ble_eq_true rfl)) dX5_tell_16 ⟨Nat.zero_le _, Nat.zero_le _⟩) (fun H locs hP hD hS => ?_)
    have hP := hP.sub (ws' := [(e0, .inr (5, [.int (mth), .int (nI S), .int (nI Wy), .int (nI L), .int (nI sb), .ref (e1), .ref (e2), .ref (e3), .ref (e4), .ref (e5), .int (tm), .ref (e6), .ref (e7), .int (mh), .int (nI (md)), .ref (e8), .int (nI (mn)), .ref (e9), .ref (e10), .ref (e11), .ref (e12), .ref (e13), .int (mv), .int (mz), .int (ml)])), (e1, .inl (cZ, 64, .inl (mhs))), (e2, .inl (cI, 64, .inl (mg))), (e3, .inl (cI, 64, .inl (mk))), (e4, .inl (cI, 64, .inl (mt))), (e5, .inl (cI, 64, .inl (mu))), (e6, .inl (cI, 64, .inl (rg))), (e7, .inl (cI, 64, .inl (rq))), (e8, .inl (cI, 17, .inl (mr))), (e9, .inl (cI, 16, .inl (mp))), (e10, .inl (cI, 16, .inl (mo))), (e11, .inl (cI, 16, .inl (mw))), (e12, .inl (cI, 272, .inl (mx))), (e13, .inl (cI, 8, .inl (mcs)))]) [0, 1, 2, 3, 4, 5, 6, 7, 8, 9, 10, 11, 12, 13] rfl
    have hD := hD.sub (ws' := [(e0, .inr (5, [.int (mth), .int (nI S), .int (nI Wy), .int (nI L), .int (nI sb), .ref (e1), .ref (e2), .ref (e3), .ref (e4), .ref (e5), .int (tm), .ref (e6), .ref (e7), .int (mh), .int (nI (md)), .ref (e8), .int (nI (mn)), .ref (e9), .ref (e10), .ref (e11), .ref (e12), .ref (e13), .int (mv), .int (mz), .int (ml)])), (e1, .inl (cZ, 64, .inl (mhs))), (e2, .inl (cI, 64, .inl (mg))), (e3, .inl (cI, 64, .inl (mk))), (e4, .inl (cI, 64, .inl (mt))), (e5, .inl (cI, 64, .inl (mu))), (e6, .inl (cI, 64, .inl (rg))), (e7, .inl (cI, 64, .inl (rq))), (e8, .inl (cI, 17, .inl (mr))), (e9, .inl (cI, 16, .inl (mp))), (e10, .inl (cI, 16, .inl (mo))), (e11, .inl (cI, 16, .inl (mw))), (e12, .inl (cI, 272, .inl (mx))), (e13, .inl (cI, 8, .inl (mcs)))]) [0, 1, 2, 3, 4, 5, 6, 7, 8, 9, 10, 11, 12, 13] (by decide) rfl
    refine lv_istore_n (lv' := [(3, .int (nI (mf_ix (mh) (p0)))), (2, .int (nI o)), (0, .ref (e0)), (1, .int (p0))]) hx hb dX5_tell_19 rfl hl (by decide) rfl (fun ls hl => ?_)
    refine lv_aload_n hx hb dX5_tell_20 rfl (lv_at hl 2 rfl) ?_
    refine va_get (D := D) (ci := 5) (v := .ref (e3)) (C := RX5) (T := TX5) (N := 25) hx hb hts (fun w h => List.mem_cons_of_mem _ (hiX5 w h)) hown hK hP 0 rfl rfl 7 (by decide) kf17 (fun _ h9 => h9) rfl dX5_tell_21 ?_
    refine lv_iload_n hx hb dX5_tell_24 rfl (lv_at hl 1 rfl) ?_
    refine ka_ild hx hb hK hP 3 0 rfl rfl (k := o) (rfl) (⟨ho, by decide⟩) dX5_tell_25 ?_
    refine lv_iconst (v := 2) hx hb dX5_tell_26 (by decide) ?_
    refine lv_icmp_ne (tgt := 49) hx hb dX5_tell_27 (by decide) (fun c_27 => ?_) (fun c_27 => ?_)
    ·
      refine lv_aload_n hx hb dX5_tell_49 rfl (lv_at hl 2 rfl) ?_
      refine va_get (D := D) (ci := 5) (v := .ref (e3)) (C := RX5) (T := TX5) (N := 25) hx hb hts (fun w h => List.mem_cons_of_mem _ (hiX5 w h)) hown hK hP 0 rfl rfl 7 (by decide) kf17 (fun _ h9 => h9) rfl dX5_tell_50 ?_
      refine lv_iload_n hx hb dX5_tell_53 rfl (lv_at hl 1 rfl) ?_
      refine ka_ild hx hb hK hP 3 0 rfl rfl (k := o) (rfl) (⟨ho, by decide⟩) dX5_tell_54 ?_
      refine lv_iconst (v := 3) hx hb dX5_tell_55 (by decide) ?_
      refine lv_icmp_ne (tgt := 79) hx hb dX5_tell_56 (by decide) (fun c_56 => ?_) (fun c_56 => ?_)
      ·
        refine lv_aload_n hx hb dX5_tell_79 rfl (lv_at hl 2 rfl) ?_
        refine va_get (D := D) (ci := 5) (v := .ref (e4)) (C := RX5) (T := TX5) (N := 25) hx hb hts (fun w h => List.mem_cons_of_mem _ (hiX5 w h)) hown hK hP 0 rfl rfl 8 (by decide) kf20 (fun _ h9 => h9) rfl dX5_tell_80 ?_
        refine lv_iload_n hx hb dX5_tell_83 rfl (lv_at hl 1 rfl) ?_
        refine ka_ild hx hb hK hP 4 0 rfl rfl (k := o) (rfl) (⟨ho, by decide⟩) dX5_tell_84 ?_
        exact kr_i (rfl) hx hb hr hlocks hP hK hD hS (by simp only [mf_tell]; rw [if_neg (fun q => c_27 q.1), if_neg (fun q => c_56 q.1)]) dX5_tell_85
      ·
        refine lv_aload_n hx hb dX5_tell_59 rfl (lv_at hl 2 rfl) ?_
        refine va_get (D := D) (ci := 5) (v := .ref (e6)) (C := RX5) (T := TX5) (N := 25) hx hb hts (fun w h => List.mem_cons_of_mem _ (hiX5 w h)) hown hK hP 0 rfl rfl 11 (by decide) kf26 (fun _ h9 => h9) rfl dX5_tell_60 ?_
        refine lv_iload_n hx hb dX5_tell_63 rfl (lv_at hl 0 rfl) ?_
        refine ka_ild hx hb hK hP 6 0 rfl rfl (k := mf_ix (mh) (p0)) (rfl) (⟨mf_ix_lt _ _, by decide⟩) dX5_tell_64 ?_
        refine lv_iload_n hx hb dX5_tell_65 rfl (lv_at hl 3 rfl) ?_
        refine kc_i (wc := []) (wr := [(e0, .inr (5, [.int (mth), .int (nI S), .int (nI Wy), .int (nI L), .int (nI sb), .ref (e1), .ref (e2), .ref (e3), .ref (e4), .ref (e5), .int (tm), .ref (e6), .ref (e7), .int (mh), .int (nI (md)), .ref (e8), .int (nI (mn)), .ref (e9), .ref (e10), .ref (e11), .ref (e12), .ref (e13), .int (mv), .int (mz), .int (ml)])), (e1, .inl (cZ, 64, .inl (mhs))), (e2, .inl (cI, 64, .inl (mg))), (e3, .inl (cI, 64, .inl (mk))), (e4, .inl (cI, 64, .inl (mt))), (e5, .inl (cI, 64, .inl (mu))), (e6, .inl (cI, 64, .inl (rg))), (e7, .inl (cI, 64, .inl (rq))), (e8, .inl (cI, 17, .inl (mr))), (e9, .inl (cI, 16, .inl (mp))), (e10, .inl (cI, 16, .inl (mo))), (e11, .inl (cI, 16, .inl (mw))), (e12, .inl (cI, 272, .inl (mx))), (e13, .inl (cI, 8, .inl (mcs)))]) [] [0, 1, 2, 3, 4, 5, 6, 7, 8, 9, 10, 11, 12, 13] rfl rfl (by decide) (by decide) hP hD hS hA (va_runS (As := [.int (p0)]) (rest := [.int ((rg) (mf_ix (mh) (p0)))]) ⟨hx, hb, hml, hown, hts⟩ (c_X5_rowTagOf l D cI cJ cZ _ _) (va_cwS 1 hts (kw_S kw_618 kw_619 kw_33 kw_620) rfl rfl rfl (by decide +kernel) ⟨Nat.le_of_ble_eq_true rfl, Nat.le_of_ble_eq_true rfl⟩) ⟨kP_blind, kP_at (hP.sub [] rfl) hK (hD.sub [] (by decide) rfl)⟩ rfl rfl hl.1 rfl (lv_room (Nat.le_of_ble_eq_true rfl)) dX5_tell_66 ⟨Nat.zero_le _, Nat.zero_le _⟩) (fun H locs hP hD hS => ?_)
        have hP := hP.sub (ws' := [(e0, .inr (5, [.int (mth), .int (nI S), .int (nI Wy), .int (nI L), .int (nI sb), .ref (e1), .ref (e2), .ref (e3), .ref (e4), .ref (e5), .int (tm), .ref (e6), .ref (e7), .int (mh), .int (nI (md)), .ref (e8), .int (nI (mn)), .ref (e9), .ref (e10), .ref (e11), .ref (e12), .ref (e13), .int (mv), .int (mz), .int (ml)])), (e1, .inl (cZ, 64, .inl (mhs))), (e2, .inl (cI, 64, .inl (mg))), (e3, .inl (cI, 64, .inl (mk))), (e4, .inl (cI, 64, .inl (mt))), (e5, .inl (cI, 64, .inl (mu))), (e6, .inl (cI, 64, .inl (rg))), (e7, .inl (cI, 64, .inl (rq))), (e8, .inl (cI, 17, .inl (mr))), (e9, .inl (cI, 16, .inl (mp))), (e10, .inl (cI, 16, .inl (mo))), (e11, .inl (cI, 16, .inl (mw))), (e12, .inl (cI, 272, .inl (mx))), (e13, .inl (cI, 8, .inl (mcs)))]) [0, 1, 2, 3, 4, 5, 6, 7, 8, 9, 10, 11, 12, 13] rfl
        have hD := hD.sub (ws' := [(e0, .inr (5, [.int (mth), .int (nI S), .int (nI Wy), .int (nI L), .int (nI sb), .ref (e1), .ref (e2), .ref (e3), .ref (e4), .ref (e5), .int (tm), .ref (e6), .ref (e7), .int (mh), .int (nI (md)), .ref (e8), .int (nI (mn)), .ref (e9), .ref (e10), .ref (e11), .ref (e12), .ref (e13), .int (mv), .int (mz), .int (ml)])), (e1, .inl (cZ, 64, .inl (mhs))), (e2, .inl (cI, 64, .inl (mg))), (e3, .inl (cI, 64, .inl (mk))), (e4, .inl (cI, 64, .inl (mt))), (e5, .inl (cI, 64, .inl (mu))), (e6, .inl (cI, 64, .inl (rg))), (e7, .inl (cI, 64, .inl (rq))), (e8, .inl (cI, 17, .inl (mr))), (e9, .inl (cI, 16, .inl (mp))), (e10, .inl (cI, 16, .inl (mo))), (e11, .inl (cI, 16, .inl (mw))), (e12, .inl (cI, 272, .inl (mx))), (e13, .inl (cI, 8, .inl (mcs)))]) [0, 1, 2, 3, 4, 5, 6, 7, 8, 9, 10, 11, 12, 13] (by decide) rfl
        refine lv_icmp_ne (tgt := 79) hx hb dX5_tell_69 (by decide) (fun c_69 => ?_) (fun c_69 => ?_)
        ·
          refine lv_aload_n hx hb dX5_tell_79 rfl (lv_at hl 2 rfl) ?_
          refine va_get (D := D) (ci := 5) (v := .ref (e4)) (C := RX5) (T := TX5) (N := 25) hx hb hts (fun w h => List.mem_cons_of_mem _ (hiX5 w h)) hown hK hP 0 rfl rfl 8 (by decide) kf20 (fun _ h9 => h9) rfl dX5_tell_80 ?_
          refine lv_iload_n hx hb dX5_tell_83 rfl (lv_at hl 1 rfl) ?_
          refine ka_ild hx hb hK hP 4 0 rfl rfl (k := o) (rfl) (⟨ho, by decide⟩) dX5_tell_84 ?_
          exact kr_i (rfl) hx hb hr hlocks hP hK hD hS (by simp only [mf_tell]; rw [if_neg (fun q => c_27 q.1), if_neg (fun q => c_69 q.2)]) dX5_tell_85
        ·
          refine lv_aload_n hx hb dX5_tell_72 rfl (lv_at hl 2 rfl) ?_
          refine va_get (D := D) (ci := 5) (v := .ref (e7)) (C := RX5) (T := TX5) (N := 25) hx hb hts (fun w h => List.mem_cons_of_mem _ (hiX5 w h)) hown hK hP 0 rfl rfl 12 (by decide) kf29 (fun _ h9 => h9) rfl dX5_tell_73 ?_
          refine lv_iload_n hx hb dX5_tell_76 rfl (lv_at hl 0 rfl) ?_
          refine ka_ild hx hb hK hP 7 0 rfl rfl (k := mf_ix (mh) (p0)) (rfl) (⟨mf_ix_lt _ _, by decide⟩) dX5_tell_77 ?_
          exact kr_i (rfl) hx hb hr hlocks hP hK hD hS (by simp only [mf_tell]; rw [if_neg (fun q => c_27 q.1), if_pos ⟨c_56, c_69⟩]) dX5_tell_78
    ·
      refine lv_aload_n hx hb dX5_tell_30 rfl (lv_at hl 2 rfl) ?_
      refine va_get (D := D) (ci := 5) (v := .int (nI (md))) (C := RX5) (T := TX5) (N := 25) hx hb hts (fun w h => List.mem_cons_of_mem _ (hiX5 w h)) hown hK hP 0 rfl rfl 14 (by decide) kf80 (fun _ h9 => h9) rfl dX5_tell_31 ?_
      refine lv_if_le (tgt := 49) hx hb dX5_tell_34 (by decide) (fun c_34 => ?_) (fun c_34 => ?_)
      ·
        have hrd : ¬ 0 < md := fun q => absurd c_34 (nI_nle q (by omega))
        refine lv_aload_n hx hb dX5_tell_49 rfl (lv_at hl 2 rfl) ?_
        refine va_get (D := D) (ci := 5) (v := .ref (e3)) (C := RX5) (T := TX5) (N := 25) hx hb hts (fun w h => List.mem_cons_of_mem _ (hiX5 w h)) hown hK hP 0 rfl rfl 7 (by decide) kf17 (fun _ h9 => h9) rfl dX5_tell_50 ?_
        refine lv_iload_n hx hb dX5_tell_53 rfl (lv_at hl 1 rfl) ?_
        refine ka_ild hx hb hK hP 3 0 rfl rfl (k := o) (rfl) (⟨ho, by decide⟩) dX5_tell_54 ?_
        refine lv_iconst (v := 3) hx hb dX5_tell_55 (by decide) ?_
        refine lv_icmp_ne (tgt := 79) hx hb dX5_tell_56 (by decide) (fun c_56 => ?_) (fun c_56 => ?_)
        ·
          refine lv_aload_n hx hb dX5_tell_79 rfl (lv_at hl 2 rfl) ?_
          refine va_get (D := D) (ci := 5) (v := .ref (e4)) (C := RX5) (T := TX5) (N := 25) hx hb hts (fun w h => List.mem_cons_of_mem _ (hiX5 w h)) hown hK hP 0 rfl rfl 8 (by decide) kf20 (fun _ h9 => h9) rfl dX5_tell_80 ?_
          refine lv_iload_n hx hb dX5_tell_83 rfl (lv_at hl 1 rfl) ?_
          refine ka_ild hx hb hK hP 4 0 rfl rfl (k := o) (rfl) (⟨ho, by decide⟩) dX5_tell_84 ?_
          exact kr_i (rfl) hx hb hr hlocks hP hK hD hS (by simp only [mf_tell]; rw [if_neg (fun q => absurd q.2 hrd), if_neg (fun q => c_56 q.1)]) dX5_tell_85
        ·
          refine lv_aload_n hx hb dX5_tell_59 rfl (lv_at hl 2 rfl) ?_
          refine va_get (D := D) (ci := 5) (v := .ref (e6)) (C := RX5) (T := TX5) (N := 25) hx hb hts (fun w h => List.mem_cons_of_mem _ (hiX5 w h)) hown hK hP 0 rfl rfl 11 (by decide) kf26 (fun _ h9 => h9) rfl dX5_tell_60 ?_
          refine lv_iload_n hx hb dX5_tell_63 rfl (lv_at hl 0 rfl) ?_
          refine ka_ild hx hb hK hP 6 0 rfl rfl (k := mf_ix (mh) (p0)) (rfl) (⟨mf_ix_lt _ _, by decide⟩) dX5_tell_64 ?_
          refine lv_iload_n hx hb dX5_tell_65 rfl (lv_at hl 3 rfl) ?_
          refine kc_i (wc := []) (wr := [(e0, .inr (5, [.int (mth), .int (nI S), .int (nI Wy), .int (nI L), .int (nI sb), .ref (e1), .ref (e2), .ref (e3), .ref (e4), .ref (e5), .int (tm), .ref (e6), .ref (e7), .int (mh), .int (nI (md)), .ref (e8), .int (nI (mn)), .ref (e9), .ref (e10), .ref (e11), .ref (e12), .ref (e13), .int (mv), .int (mz), .int (ml)])), (e1, .inl (cZ, 64, .inl (mhs))), (e2, .inl (cI, 64, .inl (mg))), (e3, .inl (cI, 64, .inl (mk))), (e4, .inl (cI, 64, .inl (mt))), (e5, .inl (cI, 64, .inl (mu))), (e6, .inl (cI, 64, .inl (rg))), (e7, .inl (cI, 64, .inl (rq))), (e8, .inl (cI, 17, .inl (mr))), (e9, .inl (cI, 16, .inl (mp))), (e10, .inl (cI, 16, .inl (mo))), (e11, .inl (cI, 16, .inl (mw))), (e12, .inl (cI, 272, .inl (mx))), (e13, .inl (cI, 8, .inl (mcs)))]) [] [0, 1, 2, 3, 4, 5, 6, 7, 8, 9, 10, 11, 12, 13] rfl rfl (by decide) (by decide) hP hD hS hA (va_runS (As := [.int (p0)]) (rest := [.int ((rg) (mf_ix (mh) (p0)))]) ⟨hx, hb, hml, hown, hts⟩ (c_X5_rowTagOf l D cI cJ cZ _ _) (va_cwS 1 hts (kw_S kw_618 kw_619 kw_33 kw_620) rfl rfl rfl (by decide +kernel) ⟨Nat.le_of_ble_eq_true rfl, Nat.le_of_ble_eq_true rfl⟩) ⟨kP_blind, kP_at (hP.sub [] rfl) hK (hD.sub [] (by decide) rfl)⟩ rfl rfl hl.1 rfl (lv_room (Nat.le_of_ble_eq_true rfl)) dX5_tell_66 ⟨Nat.zero_le _, Nat.zero_le _⟩) (fun H locs hP hD hS => ?_)
          have hP := hP.sub (ws' := [(e0, .inr (5, [.int (mth), .int (nI S), .int (nI Wy), .int (nI L), .int (nI sb), .ref (e1), .ref (e2), .ref (e3), .ref (e4), .ref (e5), .int (tm), .ref (e6), .ref (e7), .int (mh), .int (nI (md)), .ref (e8), .int (nI (mn)), .ref (e9), .ref (e10), .ref (e11), .ref (e12), .ref (e13), .int (mv), .int (mz), .int (ml)])), (e1, .inl (cZ, 64, .inl (mhs))), (e2, .inl (cI, 64, .inl (mg))), (e3, .inl (cI, 64, .inl (mk))), (e4, .inl (cI, 64, .inl (mt))), (e5, .inl (cI, 64, .inl (mu))), (e6, .inl (cI, 64, .inl (rg))), (e7, .inl (cI, 64, .inl (rq))), (e8, .inl (cI, 17, .inl (mr))), (e9, .inl (cI, 16, .inl (mp))), (e10, .inl (cI, 16, .inl (mo))), (e11, .inl (cI, 16, .inl (mw))), (e12, .inl (cI, 272, .inl (mx))), (e13, .inl (cI, 8, .inl (mcs)))]) [0, 1, 2, 3, 4, 5, 6, 7, 8, 9, 10, 11, 12, 13] rfl
          have hD := hD.sub (ws' := [(e0, .inr (5, [.int (mth), .int (nI S), .int (nI Wy), .int (nI L), .int (nI sb), .ref (e1), .ref (e2), .ref (e3), .ref (e4), .ref (e5), .int (tm), .ref (e6), .ref (e7), .int (mh), .int (nI (md)), .ref (e8), .int (nI (mn)), .ref (e9), .ref (e10), .ref (e11), .ref (e12), .ref (e13), .int (mv), .int (mz), .int (ml)])), (e1, .inl (cZ, 64, .inl (mhs))), (e2, .inl (cI, 64, .inl (mg))), (e3, .inl (cI, 64, .inl (mk))), (e4, .inl (cI, 64, .inl (mt))), (e5, .inl (cI, 64, .inl (mu))), (e6, .inl (cI, 64, .inl (rg))), (e7, .inl (cI, 64, .inl (rq))), (e8, .inl (cI, 17, .inl (mr))), (e9, .inl (cI, 16, .inl (mp))), (e10, .inl (cI, 16, .inl (mo))), (e11, .inl (cI, 16, .inl (mw))), (e12, .inl (cI, 272, .inl (mx))), (e13, .inl (cI, 8, .inl (mcs)))]) [0, 1, 2, 3, 4, 5, 6, 7, 8, 9, 10, 11, 12, 13] (by decide) rfl
          refine lv_icmp_ne (tgt := 79) hx hb dX5_tell_69 (by decide) (fun c_69 => ?_) (fun c_69 => ?_)
          ·
            refine lv_aload_n hx hb dX5_tell_79 rfl (lv_at hl 2 rfl) ?_
            refine va_get (D := D) (ci := 5) (v := .ref (e4)) (C := RX5) (T := TX5) (N := 25) hx hb hts (fun w h => List.mem_cons_of_mem _ (hiX5 w h)) hown hK hP 0 rfl rfl 8 (by decide) kf20 (fun _ h9 => h9) rfl dX5_tell_80 ?_
            refine lv_iload_n hx hb dX5_tell_83 rfl (lv_at hl 1 rfl) ?_
            refine ka_ild hx hb hK hP 4 0 rfl rfl (k := o) (rfl) (⟨ho, by decide⟩) dX5_tell_84 ?_
            exact kr_i (rfl) hx hb hr hlocks hP hK hD hS (by simp only [mf_tell]; rw [if_neg (fun q => absurd q.2 hrd), if_neg (fun q => c_69 q.2)]) dX5_tell_85
          ·
            refine lv_aload_n hx hb dX5_tell_72 rfl (lv_at hl 2 rfl) ?_
            refine va_get (D := D) (ci := 5) (v := .ref (e7)) (C := RX5) (T := TX5) (N := 25) hx hb hts (fun w h => List.mem_cons_of_mem _ (hiX5 w h)) hown hK hP 0 rfl rfl 12 (by decide) kf29 (fun _ h9 => h9) rfl dX5_tell_73 ?_
            refine lv_iload_n hx hb dX5_tell_76 rfl (lv_at hl 0 rfl) ?_
            refine ka_ild hx hb hK hP 7 0 rfl rfl (k := mf_ix (mh) (p0)) (rfl) (⟨mf_ix_lt _ _, by decide⟩) dX5_tell_77 ?_
            exact kr_i (rfl) hx hb hr hlocks hP hK hD hS (by simp only [mf_tell]; rw [if_neg (fun q => absurd q.2 hrd), if_pos ⟨c_56, c_69⟩]) dX5_tell_78
      ·
        have hrd : 0 < md := by
          rcases Nat.eq_zero_or_pos md with q | q
          · exact absurd (by rw [q]; decide) c_34
          · exact q
        refine lv_aload_n hx hb dX5_tell_37 rfl (lv_at hl 2 rfl) ?_
        refine va_get (D := D) (ci := 5) (v := .ref (e8)) (C := RX5) (T := TX5) (N := 25) hx hb hts (fun w h => List.mem_cons_of_mem _ (hiX5 w h)) hown hK hP 0 rfl rfl 15 (by decide) kf32 (fun _ h9 => h9) rfl dX5_tell_38 ?_
        refine lv_aload_n hx hb dX5_tell_41 rfl (lv_at hl 2 rfl) ?_
        refine va_get (D := D) (ci := 5) (v := .int (nI (md))) (C := RX5) (T := TX5) (N := 25) hx hb hts (fun w h => List.mem_cons_of_mem _ (hiX5 w h)) hown hK hP 0 rfl rfl 14 (by decide) kf80 (fun _ h9 => h9) rfl dX5_tell_42 ?_
        refine lv_iconst (v := 1) hx hb dX5_tell_45 (by decide) ?_
        refine lv_isub hx hb dX5_tell_46 ?_
        refine kt_i (y := nI (md - 1)) (pk_sub (b := 1) (by omega)) ?_
        refine ka_ild hx hb hK hP 8 0 rfl rfl (k := md - 1) (rfl) (⟨by omega, by decide⟩) dX5_tell_47 ?_
        exact kr_i (rfl) hx hb hr hlocks hP hK hD hS (by simp only [mf_tell]; rw [if_pos ⟨c_27, hrd⟩]) dX5_tell_48

set_option maxHeartbeats 4000000 in
set_option maxRecDepth 100000 in
/-- ask -/
theorem c_X5_ask (l : Launch) (D : va_G) (cI cJ cZ : ClassId) (sz : Nat) (e0 e1 e2 e3 e4 e5 e6 e7 e8 e9 e10 e11 e12 e13 : Nat) (S Wy sb L : Nat) (mhs mg mk mt mu : Fn) (tm : Int32) (rg rq : Fn) (mh : Int32) (mr : Fn) (md : Nat) (mv mz : Int32) (mp mo mw mx : Fn) (mn : Nat) (mcs : Fn) (ml mth : Int32) (p0 : Int32) (hSs : S = 0 ∨ S = 2 ^ sb) (hS16 : S ≤ 16) (hsb : sb ≤ 4) (hW : 0 < Wy) (hW4 : Wy ≤ 4) (hd : md ≤ L) (hL : L ≤ 16) (hn : mn ≤ 16) : KI l yX5_ask wsX5_ask ({ frames := 3, cells := 0, slots := 0, locals := 67 } : Room) D (kTy cI cJ cZ) [.ref (e0), .int (p0)] [(e0, .inr (5, [.int (mth), .int (nI S), .int (nI Wy), .int (nI L), .int (nI sb), .ref (e1), .ref (e2), .ref (e3), .ref (e4), .ref (e5), .int (tm), .ref (e6), .ref (e7), .int (mh), .int (nI (md)), .ref (e8), .int (nI (mn)), .ref (e9), .ref (e10), .ref (e11), .ref (e12), .ref (e13), .int (mv), .int (mz), .int (ml)])), (e1, .inl (cZ, 64, .inl (mhs))), (e2, .inl (cI, 64, .inl (mg))), (e3, .inl (cI, 64, .inl (mk))), (e4, .inl (cI, 64, .inl (mt))), (e5, .inl (cI, 64, .inl (mu))), (e6, .inl (cI, 64, .inl (rg))), (e7, .inl (cI, 64, .inl (rq))), (e8, .inl (cI, 17, .inl (mr))), (e9, .inl (cI, 16, .inl (mp))), (e10, .inl (cI, 16, .inl (mo))), (e11, .inl (cI, 16, .inl (mw))), (e12, .inl (cI, 272, .inl (mx))), (e13, .inl (cI, 8, .inl (mcs)))] sz (wMo e0 e1 e2 e3 e4 e5 e6 e7 e8 e9 e10 e11 e12 e13 cI cZ S Wy sb L ((mhs, mg, mk, mt, mu, tm), (rg, rq, mh), (mr, md, mv, mz), (mp, mo, mw, mx, mn), mcs, ml, 0)) (mf_tell (mhs, mg, mk, mt, mu, tm) (rg, rq, mh) (mr, md, mv, mz) (p0) (mf_find S Wy sb (mhs, mg, mk, mt, mu, tm) (p0))) 0 0 := by
  refine Met.ofW (cc := cX5_ask) (maxL := 2) (ret := (some .int)) (by decide) rfl ?_
  intro p e s m args below meth c s₁ B hml hv
  obtain ⟨rfl, hsz, hP, hK, hD0⟩ := hv
  have hx := B.exec
  have hb := B.bytes
  have hr := B.returns
  have hts := atoms_spec (ws := wsX5_ask) B.pre
  have hown : s.vm.findClass RX5 = some m.cls := findClass_of_methodNamed B.named
  have hlocks := B.notSynchronized
  have kf67 := hts (.fieldLink RX5 67 "TargetRowsModel" "thrown" "I") (List.mem_cons_of_mem _ kw_513)
  subst hsz
  have hD := hD0.self (sz := s.heap.size)
  generalize hAe : va_A [(e0, .inr (5, [.int (mth), .int (nI S), .int (nI Wy), .int (nI L), .int (nI sb), .ref (e1), .ref (e2), .ref (e3), .ref (e4), .ref (e5), .int (tm), .ref (e6), .ref (e7), .int (mh), .int (nI (md)), .ref (e8), .int (nI (mn)), .ref (e9), .ref (e10), .ref (e11), .ref (e12), .ref (e13), .int (mv), .int (mz), .int (ml)])), (e1, .inl (cZ, 64, .inl (mhs))), (e2, .inl (cI, 64, .inl (mg))), (e3, .inl (cI, 64, .inl (mk))), (e4, .inl (cI, 64, .inl (mt))), (e5, .inl (cI, 64, .inl (mu))), (e6, .inl (cI, 64, .inl (rg))), (e7, .inl (cI, 64, .inl (rq))), (e8, .inl (cI, 17, .inl (mr))), (e9, .inl (cI, 16, .inl (mp))), (e10, .inl (cI, 16, .inl (mo))), (e11, .inl (cI, 16, .inl (mw))), (e12, .inl (cI, 272, .inl (mx))), (e13, .inl (cI, 8, .inl (mcs)))] s.heap.size = A at hD ⊢
  have hA : ∀ q : Nat, s.heap.size ≤ q → A q := fun q h => by rw [← hAe]; exact Or.inr h
  have hS : va_S A s.heap s.heap [] := va_S.rf
  have hP : va_P D vwCl [(e0, .inr (5, [.int (mth), .int (nI S), .int (nI Wy), .int (nI L), .int (nI sb), .ref (e1), .ref (e2), .ref (e3), .ref (e4), .ref (e5), .int (tm), .ref (e6), .ref (e7), .int (mh), .int (nI (md)), .ref (e8), .int (nI (mn)), .ref (e9), .ref (e10), .ref (e11), .ref (e12), .ref (e13), .int (mv), .int (mz), .int (ml)])), (e1, .inl (cZ, 64, .inl (mhs))), (e2, .inl (cI, 64, .inl (mg))), (e3, .inl (cI, 64, .inl (mk))), (e4, .inl (cI, 64, .inl (mt))), (e5, .inl (cI, 64, .inl (mu))), (e6, .inl (cI, 64, .inl (rg))), (e7, .inl (cI, 64, .inl (rq))), (e8, .inl (cI, 17, .inl (mr))), (e9, .inl (cI, 16, .inl (mp))), (e10, .inl (cI, 16, .inl (mo))), (e11, .inl (cI, 16, .inl (mw))), (e12, .inl (cI, 272, .inl (mx))), (e13, .inl (cI, 8, .inl (mcs)))] s.heap := hP
  have hD : va_D A [(e0, .inr (5, [.int (mth), .int (nI S), .int (nI Wy), .int (nI L), .int (nI sb), .ref (e1), .ref (e2), .ref (e3), .ref (e4), .ref (e5), .int (tm), .ref (e6), .ref (e7), .int (mh), .int (nI (md)), .ref (e8), .int (nI (mn)), .ref (e9), .ref (e10), .ref (e11), .ref (e12), .ref (e13), .int (mv), .int (mz), .int (ml)])), (e1, .inl (cZ, 64, .inl (mhs))), (e2, .inl (cI, 64, .inl (mg))), (e3, .inl (cI, 64, .inl (mk))), (e4, .inl (cI, 64, .inl (mt))), (e5, .inl (cI, 64, .inl (mu))), (e6, .inl (cI, 64, .inl (rg))), (e7, .inl (cI, 64, .inl (rq))), (e8, .inl (cI, 17, .inl (mr))), (e9, .inl (cI, 16, .inl (mp))), (e10, .inl (cI, 16, .inl (mo))), (e11, .inl (cI, 16, .inl (mw))), (e12, .inl (cI, 272, .inl (mx))), (e13, .inl (cI, 8, .inl (mcs)))] := hD
  have hl := lv_entry ([.ref (e0), .int (p0)]) (n := 2) (Nat.le_of_ble_eq_true rfl)
  rw [lg_entry_eq]
  generalize (lg_sl ([.ref (e0), .int (p0)]) ++ List.replicate (2 - (lg_sl ([.ref (e0), .int (p0)])).length) Slot.unset).toArray = ls at hl ⊢
  have hl : lv_has ls 2 [(0, .ref (e0)), (1, .int (p0))] := hl
  refine lv_aload_n hx hb dX5_ask_0 rfl (lv_at hl 0 rfl) ?_
  refine lv_iconst (v := 0) hx hb dX5_ask_1 (by decide) ?_
  refine va_put (D := D) (ci := 5) (v := .int (0)) (ty := .int) (C := RX5) (T := TX5) (N := 25) hx hb hts (fun w h => List.mem_cons_of_mem _ (hiX5 w h)) tyX5 tyX5_ok nmX5 hown hK hP hD hS 0 rfl rfl 0 (by decide) kf67 (fun _ h9 => h9) rfl (by decide +kernel) rfl rfl (Nat.le_of_ble_eq_true rfl) dX5_ask_2 (fun H locs hP hD hS => ?_)
  have hP : va_P D vwCl [(e0, .inr (5, [.int (0), .int (nI S), .int (nI Wy), .int (nI L), .int (nI sb), .ref (e1), .ref (e2), .ref (e3), .ref (e4), .ref (e5), .int (tm), .ref (e6), .ref (e7), .int (mh), .int (nI (md)), .ref (e8), .int (nI (mn)), .ref (e9), .ref (e10), .ref (e11), .ref (e12), .ref (e13), .int (mv), .int (mz), .int (ml)])), (e1, .inl (cZ, 64, .inl (mhs))), (e2, .inl (cI, 64, .inl (mg))), (e3, .inl (cI, 64, .inl (mk))), (e4, .inl (cI, 64, .inl (mt))), (e5, .inl (cI, 64, .inl (mu))), (e6, .inl (cI, 64, .inl (rg))), (e7, .inl (cI, 64, .inl (rq))), (e8, .inl (cI, 17, .inl (mr))), (e9, .inl (cI, 16, .inl (mp))), (e10, .inl (cI, 16, .inl (mo))), (e11, .inl (cI, 16, .inl (mw))), (e12, .inl (cI, 272, .inl (mx))), (e13, .inl (cI, 8, .inl (mcs)))] H := hP
  have hD : va_D A [(e0, .inr (5, [.int (0), .int (nI S), .int (nI Wy), .int (nI L), .int (nI sb), .ref (e1), .ref (e2), .ref (e3), .ref (e4), .ref (e5), .int (tm), .ref (e6), .ref (e7), .int (mh), .int (nI (md)), .ref (e8), .int (nI (mn)), .ref (e9), .ref (e10), .ref (e11), .ref (e12), .ref (e13), .int (mv), .int (mz), .int (ml)])), (e1, .inl (cZ, 64, .inl (mhs))), (e2, .inl (cI, 64, .inl (mg))), (e3, .inl (cI, 64, .inl (mk))), (e4, .inl (cI, 64, .inl (mt))), (e5, .inl (cI, 64, .inl (mu))), (e6, .inl (cI, 64, .inl (rg))), (e7, .inl (cI, 64, .inl (rq))), (e8, .inl (cI, 17, .inl (mr))), (e9, .inl (cI, 16, .inl (mp))), (e10, .inl (cI, 16, .inl (mo))), (e11, .inl (cI, 16, .inl (mw))), (e12, .inl (cI, 272, .inl (mx))), (e13, .inl (cI, 8, .inl (mcs)))] := hD
  refine lv_aload_n hx hb dX5_ask_5 rfl (lv_at hl 0 rfl) ?_
  refine lv_iload_n hx hb dX5_ask_6 rfl (lv_at hl 1 rfl) ?_
  refine kc_i (wc := [(e0, .inr (5, [.int (0), .int (nI S), .int (nI Wy), .int (nI L), .int (nI sb), .ref (e1), .ref (e2), .ref (e3), .ref (e4), .ref (e5), .int (tm), .ref (e6), .ref (e7), .int (mh), .int (nI (md)), .ref (e8), .int (nI (mn)), .ref (e9), .ref (e10), .ref (e11), .ref (e12), .ref (e13), .int (mv), .int (mz), .int (ml)])), (e1, .inl (cZ, 64, .inl (mhs))), (e2, .inl (cI, 64, .inl (mg))), (e3, .inl (cI, 64, .inl (mk))), (e4, .inl (cI, 64, .inl (mt))), (e5, .inl (cI, 64, .inl (mu))), (e6, .inl (cI, 64, .inl (rg))), (e7, .inl (cI, 64, .inl (rq))), (e8, .inl (cI, 17, .inl (mr))), (e9, .inl (cI, 16, .inl (mp))), (e10, .inl (cI, 16, .inl (mo))), (e11, .inl (cI, 16, .inl (mw))), (e12, .inl (cI, 272, .inl (mx))), (e13, .inl (cI, 8, .inl (mcs)))]) (wr := []) [0, 1, 2, 3, 4, 5, 6, 7, 8, 9, 10, 11, 12, 13] [] rfl rfl (by decide) (by decide) hP hD hS hA (va_runV (As := [.int (p0)]) (rest := []) ⟨hx, hb, hml, hown, hts⟩ (c_X5_tell l D cI cJ cZ _ _ _ _ _ _ _ _ _ _ _ _ _ _ _ _ _ _ _ _ _ _ _ _ _ _ _ _ _ _ _ _ _ _ _ _ _ _ _ _ _ hSs hS16 hsb hW hW4 hd hL hn) (cwV 1 hts (kw_V kw_598 kw_600 kw_12 kw_33 kw_601) rfl rfl rfl (by decide +kernel) ⟨Nat.le_of_ble_eq_true rfl, Nat.le_of_ble_eq_true rfl⟩) ⟨kP_blind, va_recv hK (hP.sub (ws' := [(e0, .inr (5, [.int (0), .int (nI S), .int (nI Wy), .int (nI L), .int (nI sb), .ref (e1), .ref (e2), .ref (e3), .ref (e4), .ref (e5), .int (tm), .ref (e6), .ref (e7), .int (mh), .int (nI (md)), .ref (e8), .int (nI (mn)), .ref (e9), .ref (e10), .ref (e11), .ref (e12), .ref (e13), .int (mv), .int (mz), .int (ml)])), (e1, .inl (cZ, 64, .inl (mhs))), (e2, .inl (cI, 64, .inl (mg))), (e3, .inl (cI, 64, .inl (mk))), (e4, .inl (cI, 64, .inl (mt))), (e5, .inl (cI, 64, .inl (mu))), (e6, .inl (cI, 64, .inl (rg))), (e7, .inl (cI, 64, .inl (rq))), (e8, .inl (cI, 17, .inl (mr))), (e9, .inl (cI, 16, .inl (mp))), (e10, .inl (cI, 16, .inl (mo))), (e11, .inl (cI, 16, .inl (mw))), (e12, .inl (cI, 272, .inl (mx))), (e13, .inl (cI, 8, .inl (mcs)))]) [0, 1, 2, 3, 4, 5, 6, 7, 8, 9, 10, 11, 12, 13] rfl) (ci := 5) (q0 := 0) rfl rfl, kP_at (hP.sub [0, 1, 2, 3, 4, 5, 6, 7, 8, 9, 10, 11, 12, 13] rfl) hK (hD.sub [0, 1, 2, 3, 4, 5, 6, 7, 8, 9, 10, 11, 12, 13] (by decide) rfl)⟩ rfl rfl hl.1 rfl (lv_room (Nat.le_of_ble_eq_true rfl)) dX5_ask_7 ⟨Nat.zero_le _, Nat.zero_le _⟩) (fun H locs hP hD hS => ?_)
  have hP := hP.sub (ws' := [(e0, .inr (5, [.int (0), .int (nI S), .int (nI Wy), .int (nI L), .int (nI sb), .ref (e1), .ref (e2), .ref (e3), .ref (e4), .ref (e5), .int (tm), .ref (e6), .ref (e7), .int (mh), .int (nI (md)), .ref (e8), .int (nI (mn)), .ref (e9), .ref (e10), .ref (e11), .ref (e12), .ref (e13), .int (mv), .int (mz), .int (ml)])), (e1, .inl (cZ, 64, .inl (mhs))), (e2, .inl (cI, 64, .inl (mg))), (e3, .inl (cI, 64, .inl (mk))), (e4, .inl (cI, 64, .inl (mt))), (e5, .inl (cI, 64, .inl (mu))), (e6, .inl (cI, 64, .inl (rg))), (e7, .inl (cI, 64, .inl (rq))), (e8, .inl (cI, 17, .inl (mr))), (e9, .inl (cI, 16, .inl (mp))), (e10, .inl (cI, 16, .inl (mo))), (e11, .inl (cI, 16, .inl (mw))), (e12, .inl (cI, 272, .inl (mx))), (e13, .inl (cI, 8, .inl (mcs)))]) [0, 1, 2, 3, 4, 5, 6, 7, 8, 9, 10, 11, 12, 13] rfl
  have hD := hD.sub (ws' := [(e0, .inr (5, [.int (0), .int (nI S), .int (nI Wy), .int (nI L), .int (nI sb), .ref (e1), .ref (e2), .ref (e3), .ref (e4), .ref (e5), .int (tm), .ref (e6), .ref (e7), .int (mh), .int (nI (md)), .ref (e8), .int (nI (mn)), .ref (e9), .ref (e10), .ref (e11), .ref (e12), .ref (e13), .int (mv), .int (mz), .int (ml)])), (e1, .inl (cZ, 64, .inl (mhs))), (e2, .inl (cI, 64, .inl (mg))), (e3, .inl (cI, 64, .inl (mk))), (e4, .inl (cI, 64, .inl (mt))), (e5, .inl (cI, 64, .inl (mu))), (e6, .inl (cI, 64, .inl (rg))), (e7, .inl (cI, 64, .inl (rq))), (e8, .inl (cI, 17, .inl (mr))), (e9, .inl (cI, 16, .inl (mp))), (e10, .inl (cI, 16, .inl (mo))), (e11, .inl (cI, 16, .inl (mw))), (e12, .inl (cI, 272, .inl (mx))), (e13, .inl (cI, 8, .inl (mcs)))]) [0, 1, 2, 3, 4, 5, 6, 7, 8, 9, 10, 11, 12, 13] (by decide) rfl
  exact kr_i (rfl) hx hb hr hlocks hP hK hD hS (rfl) dX5_ask_10

set_option maxHeartbeats 4000000 in
set_option maxRecDepth 100000 in
/-- causeOf -/
theorem c_X5_causeOf (l : Launch) (D : va_G) (cI cJ cZ : ClassId) (sz : Nat) (e0 e1 e2 e3 e4 e5 e6 e7 e8 e9 e10 e11 e12 e13 : Nat) (S Wy sb L : Nat) (mhs mg mk mt mu : Fn) (tm : Int32) (rg rq : Fn) (mh : Int32) (mr : Fn) (md : Nat) (mv mz : Int32) (mp mo mw mx : Fn) (mn : Nat) (mcs : Fn) (ml mth : Int32) (p0 p1 p2 : Int32) (hSs : S = 0 ∨ S = 2 ^ sb) (hS16 : S ≤ 16) (hsb : sb ≤ 4) (hW : 0 < Wy) (hW4 : Wy ≤ 4) : KI l yX5_causeOf wsX5_causeOf ({ frames := 2, cells := 0, slots := 0, locals := 44 } : Room) D (kTy cI cJ cZ) [.ref (e0), .int (p0), .int (p1), .int (p2)] [(e0, .inr (5, [.int (mth), .int (nI S), .int (nI Wy), .int (nI L), .int (nI sb), .ref (e1), .ref (e2), .ref (e3), .ref (e4), .ref (e5), .int (tm), .ref (e6), .ref (e7), .int (mh), .int (nI (md)), .ref (e8), .int (nI (mn)), .ref (e9), .ref (e10), .ref (e11), .ref (e12), .ref (e13), .int (mv), .int (mz), .int (ml)])), (e1, .inl (cZ, 64, .inl (mhs))), (e2, .inl (cI, 64, .inl (mg))), (e3, .inl (cI, 64, .inl (mk))), (e4, .inl (cI, 64, .inl (mt))), (e5, .inl (cI, 64, .inl (mu))), (e6, .inl (cI, 64, .inl (rg))), (e7, .inl (cI, 64, .inl (rq))), (e8, .inl (cI, 17, .inl (mr))), (e9, .inl (cI, 16, .inl (mp))), (e10, .inl (cI, 16, .inl (mo))), (e11, .inl (cI, 16, .inl (mw))), (e12, .inl (cI, 272, .inl (mx))), (e13, .inl (cI, 8, .inl (mcs)))] sz (wMo e0 e1 e2 e3 e4 e5 e6 e7 e8 e9 e10 e11 e12 e13 cI cZ S Wy sb L ((mhs, mg, mk, mt, mu, tm), (rg, rq, mh), (mr, md, mv, mz), (mp, mo, mw, mx, mn), mcs, ml, mth)) (cf_cause mk p1 p2 (mf_find S Wy sb (mhs, mg, mk, mt, mu, tm) (p0))) 0 0 := by
  refine Met.ofW (cc := cX5_causeOf) (maxL := 5) (ret := (some .int)) (by decide) rfl ?_
  intro p e s m args below meth c s₁ B hml hv
  obtain ⟨rfl, hsz, hP, hK, hD0⟩ := hv
  have hx := B.exec
  have hb := B.bytes
  have hr := B.returns
  have hts := atoms_spec (ws := wsX5_causeOf) B.pre
  have hown : s.vm.findClass RX5 = some m.cls := findClass_of_methodNamed B.named
  have hlocks := B.notSynchronized
  have kf17 := hts (.fieldLink RX5 17 "TargetRowsModel" "kind" "[I") (List.mem_cons_of_mem _ kw_520)
  subst hsz
  have hD := hD0.self (sz := s.heap.size)
  generalize hAe : va_A [(e0, .inr (5, [.int (mth), .int (nI S), .int (nI Wy), .int (nI L), .int (nI sb), .ref (e1), .ref (e2), .ref (e3), .ref (e4), .ref (e5), .int (tm), .ref (e6), .ref (e7), .int (mh), .int (nI (md)), .ref (e8), .int (nI (mn)), .ref (e9), .ref (e10), .ref (e11), .ref (e12), .ref (e13), .int (mv), .int (mz), .int (ml)])), (e1, .inl (cZ, 64, .inl (mhs))), (e2, .inl (cI, 64, .inl (mg))), (e3, .inl (cI, 64, .inl (mk))), (e4, .inl (cI, 64, .inl (mt))), (e5, .inl (cI, 64, .inl (mu))), (e6, .inl (cI, 64, .inl (rg))), (e7, .inl (cI, 64, .inl (rq))), (e8, .inl (cI, 17, .inl (mr))), (e9, .inl (cI, 16, .inl (mp))), (e10, .inl (cI, 16, .inl (mo))), (e11, .inl (cI, 16, .inl (mw))), (e12, .inl (cI, 272, .inl (mx))), (e13, .inl (cI, 8, .inl (mcs)))] s.heap.size = A at hD ⊢
  have hA : ∀ q : Nat, s.heap.size ≤ q → A q := fun q h => by rw [← hAe]; exact Or.inr h
  have hS : va_S A s.heap s.heap [] := va_S.rf
  have hP : va_P D vwCl [(e0, .inr (5, [.int (mth), .int (nI S), .int (nI Wy), .int (nI L), .int (nI sb), .ref (e1), .ref (e2), .ref (e3), .ref (e4), .ref (e5), .int (tm), .ref (e6), .ref (e7), .int (mh), .int (nI (md)), .ref (e8), .int (nI (mn)), .ref (e9), .ref (e10), .ref (e11), .ref (e12), .ref (e13), .int (mv), .int (mz), .int (ml)])), (e1, .inl (cZ, 64, .inl (mhs))), (e2, .inl (cI, 64, .inl (mg))), (e3, .inl (cI, 64, .inl (mk))), (e4, .inl (cI, 64, .inl (mt))), (e5, .inl (cI, 64, .inl (mu))), (e6, .inl (cI, 64, .inl (rg))), (e7, .inl (cI, 64, .inl (rq))), (e8, .inl (cI, 17, .inl (mr))), (e9, .inl (cI, 16, .inl (mp))), (e10, .inl (cI, 16, .inl (mo))), (e11, .inl (cI, 16, .inl (mw))), (e12, .inl (cI, 272, .inl (mx))), (e13, .inl (cI, 8, .inl (mcs)))] s.heap := hP
  have hD : va_D A [(e0, .inr (5, [.int (mth), .int (nI S), .int (nI Wy), .int (nI L), .int (nI sb), .ref (e1), .ref (e2), .ref (e3), .ref (e4), .ref (e5), .int (tm), .ref (e6), .ref (e7), .int (mh), .int (nI (md)), .ref (e8), .int (nI (mn)), .ref (e9), .ref (e10), .ref (e11), .ref (e12), .ref (e13), .int (mv), .int (mz), .int (ml)])), (e1, .inl (cZ, 64, .inl (mhs))), (e2, .inl (cI, 64, .inl (mg))), (e3, .inl (cI, 64, .inl (mk))), (e4, .inl (cI, 64, .inl (mt))), (e5, .inl (cI, 64, .inl (mu))), (e6, .inl (cI, 64, .inl (rg))), (e7, .inl (cI, 64, .inl (rq))), (e8, .inl (cI, 17, .inl (mr))), (e9, .inl (cI, 16, .inl (mp))), (e10, .inl (cI, 16, .inl (mo))), (e11, .inl (cI, 16, .inl (mw))), (e12, .inl (cI, 272, .inl (mx))), (e13, .inl (cI, 8, .inl (mcs)))] := hD
  have hl := lv_entry ([.ref (e0), .int (p0), .int (p1), .int (p2)]) (n := 5) (Nat.le_of_ble_eq_true rfl)
  rw [lg_entry_eq]
  generalize (lg_sl ([.ref (e0), .int (p0), .int (p1), .int (p2)]) ++ List.replicate (5 - (lg_sl ([.ref (e0), .int (p0), .int (p1), .int (p2)])).length) Slot.unset).toArray = ls at hl ⊢
  have hl : lv_has ls 5 [(0, .ref (e0)), (1, .int (p0)), (2, .int (p1)), (3, .int (p2))] := hl
  refine lv_aload_n hx hb dX5_causeOf_0 rfl (lv_at hl 0 rfl) ?_
  refine lv_iload_n hx hb dX5_causeOf_1 rfl (lv_at hl 1 rfl) ?_
  refine kc_i (wc := [(e0, .inr (5, [.int (mth), .int (nI S), .int (nI Wy), .int (nI L), .int (nI sb), .ref (e1), .ref (e2), .ref (e3), .ref (e4), .ref (e5), .int (tm), .ref (e6), .ref (e7), .int (mh), .int (nI (md)), .ref (e8), .int (nI (mn)), .ref (e9), .ref (e10), .ref (e11), .ref (e12), .ref (e13), .int (mv), .int (mz), .int (ml)])), (e1, .inl (cZ, 64, .inl (mhs))), (e2, .inl (cI, 64, .inl (mg))), (e3, .inl (cI, 64, .inl (mk))), (e4, .inl (cI, 64, .inl (mt))), (e5, .inl (cI, 64, .inl (mu))), (e6, .inl (cI, 64, .inl (rg))), (e7, .inl (cI, 64, .inl (rq))), (e8, .inl (cI, 17, .inl (mr))), (e9, .inl (cI, 16, .inl (mp))), (e10, .inl (cI, 16, .inl (mo))), (e11, .inl (cI, 16, .inl (mw))), (e12, .inl (cI, 272, .inl (mx))), (e13, .inl (cI, 8, .inl (mcs)))]) (wr := []) [0, 1, 2, 3, 4, 5, 6, 7, 8, 9, 10, 11, 12, 13] [] rfl rfl (by decide) (by decide) hP hD hS hA (va_runV (As := [.int (p0)]) (rest := []) ⟨hx, hb, hml, hown, hts⟩ (c_X5_find l D cI cJ cZ _ _ _ _ _ _ _ _ _ _ _ _ _ _ _ _ _ _ _ _ _ _ _ _ _ _ _ _ _ _ _ _ _ _ _ _ _ _ _ _ _ hSs hS16 hsb hW hW4) (cwV 1 hts (kw_V kw_602 kw_604 kw_13 kw_33 kw_605) rfl rfl rfl (by decide +kernel) ⟨Nat.le_of_ble_eq_true rfl, Nat.le_of_ble_eq_true rfl⟩) ⟨kP_blind, va_recv hK (hP.sub (ws' := [(e0, .inr (5, [.int (mth), .int (nI S), .int (nI Wy), .int (nI L), .int (nI sb), .ref (e1), .ref (e2), .ref (e3), .ref (e4), .ref (e5), .int (tm), .ref (e6), .ref (e7), .int (mh), .int (nI (md)), .ref (e8), .int (nI (mn)), .ref (e9), .ref (e10), .ref (e11), .ref (e12), .ref (e13), .int (mv), .int (mz), .int (ml)])), (e1, .inl (cZ, 64, .inl (mhs))), (e2, .inl (cI, 64, .inl (mg))), (e3, .inl (cI, 64, .inl (mk))), (e4, .inl (cI, 64, .inl (mt))), (e5, .inl (cI, 64, .inl (mu))), (e6, .inl (cI, 64, .inl (rg))), (e7, .inl (cI, 64, .inl (rq))), (e8, .inl (cI, 17, .inl (mr))), (e9, .inl (cI, 16, .inl (mp))), (e10, .inl (cI, 16, .inl (mo))), (e11, .inl (cI, 16, .inl (mw))), (e12, .inl (cI, 272, .inl (mx))), (e13, .inl (cI, 8, .inl (mcs)))]) [0, 1, 2, 3, 4, 5, 6, 7, 8, 9, 10, 11, 12, 13] rfl) (ci := 5) (q0 := 0) rfl rfl, kP_at (hP.sub [0, 1, 2, 3, 4, 5, 6, 7, 8, 9, 10, 11, 12, 13] rfl) hK (hD.sub [0, 1, 2, 3, 4, 5, 6, 7, 8, 9, 10, 11, 12, 13] (by decide) rfl)⟩ rfl rfl hl.1 rfl (lv_room (Nat.le_of_ble_eq_true rfl)) dX5_causeOf_2 ⟨Nat.zero_le _, Nat.zero_le _⟩) (fun H locs hP hD hS => ?_)
  have hP := hP.sub (ws' := [(e0, .inr (5, [.int (mth), .int (nI S), .int (nI Wy), .int (nI L), .int (nI sb), .ref (e1), .ref (e2), .ref (e3), .ref (e4), .ref (e5), .int (tm), .ref (e6), .ref (e7), .int (mh), .int (nI (md)), .ref (e8), .int (nI (mn)), .ref (e9), .ref (e10), .ref (e11), .ref (e12), .ref (e13), .int (mv), .int (mz), .int (ml)])), (e1, .inl (cZ, 64, .inl (mhs))), (e2, .inl (cI, 64, .inl (mg))), (e3, .inl (cI, 64, .inl (mk))), (e4, .inl (cI, 64, .inl (mt))), (e5, .inl (cI, 64, .inl (mu))), (e6, .inl (cI, 64, .inl (rg))), (e7, .inl (cI, 64, .inl (rq))), (e8, .inl (cI, 17, .inl (mr))), (e9, .inl (cI, 16, .inl (mp))), (e10, .inl (cI, 16, .inl (mo))), (e11, .inl (cI, 16, .inl (mw))), (e12, .inl (cI, 272, .inl (mx))), (e13, .inl (cI, 8, .inl (mcs)))]) [0, 1, 2, 3, 4, 5, 6, 7, 8, 9, 10, 11, 12, 13] rfl
  have hD := hD.sub (ws' := [(e0, .inr (5, [.int (mth), .int (nI S), .int (nI Wy), .int (nI L), .int (nI sb), .ref (e1), .ref (e2), .ref (e3), .ref (e4), .ref (e5), .int (tm), .ref (e6), .ref (e7), .int (mh), .int (nI (md)), .ref (e8), .int (nI (mn)), .ref (e9), .ref (e10), .ref (e11), .ref (e12), .ref (e13), .int (mv), .int (mz), .int (ml)])), (e1, .inl (cZ, 64, .inl (mhs))), (e2, .inl (cI, 64, .inl (mg))), (e3, .inl (cI, 64, .inl (mk))), (e4, .inl (cI, 64, .inl (mt))), (e5, .inl (cI, 64, .inl (mu))), (e6, .inl (cI, 64, .inl (rg))), (e7, .inl (cI, 64, .inl (rq))), (e8, .inl (cI, 17, .inl (mr))), (e9, .inl (cI, 16, .inl (mp))), (e10, .inl (cI, 16, .inl (mo))), (e11, .inl (cI, 16, .inl (mw))), (e12, .inl (cI, 272, .inl (mx))), (e13, .inl (cI, 8, .inl (mcs)))]) [0, 1, 2, 3, 4, 5, 6, 7, 8, 9, 10, 11, 12, 13] (by decide) rfl
  rcases hfo : mf_find S Wy sb (mhs, mg, mk, mt, mu, tm) (p0) with _ | o
  ·
    refine kt_i (y := -1) (rfl) ?_
    refine lv_istore (lv' := [(4, .int (-1)), (0, .ref (e0)), (1, .int (p0)), (2, .int (p1)), (3, .int (p2))]) hx hb dX5_causeOf_5 hl (by decide) rfl (fun ls hl => ?_)
    refine lv_iload hx hb dX5_causeOf_7 (lv_at hl 0 rfl) ?_
    refine lv_if_ge (tgt := 18) hx hb dX5_causeOf_9 (by decide) (fun c_9 => absurd c_9 (by decide)) (fun c_9 => ?_)
    refine lv_iload_n hx hb dX5_causeOf_12 rfl (lv_at hl 4 rfl) ?_
    refine lv_if_eq (tgt := 18) hx hb dX5_causeOf_13 (by decide) (fun c_13 => ?_) (fun c_13 => ?_)
    ·
      refine lv_iload hx hb dX5_causeOf_18 (lv_at hl 0 rfl) ?_
      refine lv_if_lt (tgt := 36) hx hb dX5_causeOf_20 (by decide) (fun c_20 => ?_) (fun c_20 => absurd (by decide) c_20)
      refine lv_iload_n hx hb dX5_causeOf_36 rfl (lv_at hl 3 rfl) ?_
      refine lv_iconst (v := 2) hx hb dX5_causeOf_37 (by decide) ?_
      refine lv_icmp_ne (tgt := 43) hx hb dX5_causeOf_38 (by decide) (fun c_38 => ?_) (fun c_38 => ?_)
      ·
        refine lv_iload_n hx hb dX5_causeOf_43 rfl (lv_at hl 3 rfl) ?_
        refine lv_iconst (v := 3) hx hb dX5_causeOf_44 (by decide) ?_
        refine lv_icmp_ne (tgt := 50) hx hb dX5_causeOf_45 (by decide) (fun c_45 => ?_) (fun c_45 => ?_)
        ·
          refine lv_iload_n hx hb dX5_causeOf_50 rfl (lv_at hl 4 rfl) ?_
          refine lv_if_eq (tgt := 59) hx hb dX5_causeOf_51 (by decide) (fun c_51 => ?_) (fun c_51 => absurd c_13 c_51)
          refine lv_iconst (v := 5) hx hb dX5_causeOf_59 (by decide) ?_
          exact kr_i (rfl) hx hb hr hlocks hP hK hD hS (by simp only [cf_cause, cf_tail, if_pos c_13, if_neg c_38, if_neg c_45, if_pos c_51]) dX5_causeOf_60
        ·
          refine lv_iconst (v := 4) hx hb dX5_causeOf_48 (by decide) ?_
          exact kr_i (rfl) hx hb hr hlocks hP hK hD hS (by simp only [cf_cause, cf_tail, if_pos c_13, if_neg c_38, if_pos c_45]) dX5_causeOf_49
      ·
        refine lv_iconst (v := 3) hx hb dX5_causeOf_41 (by decide) ?_
        exact kr_i (rfl) hx hb hr hlocks hP hK hD hS (by simp only [cf_cause, cf_tail, if_pos c_13, if_pos c_38]) dX5_causeOf_42
    ·
      refine lv_iconst (v := 1) hx hb dX5_causeOf_16 (by decide) ?_
      exact kr_i (rfl) hx hb hr hlocks hP hK hD hS (by simp only [cf_cause]; rw [if_neg c_13]) dX5_causeOf_17
  ·
    have ho : o < 64 := mf_find_lt hS16 hW4 hfo
    refine kt_i (y := nI o) (rfl) ?_
    refine lv_istore (lv' := [(4, .int (nI o)), (0, .ref (e0)), (1, .int (p0)), (2, .int (p1)), (3, .int (p2))]) hx hb dX5_causeOf_5 hl (by decide) rfl (fun ls hl => ?_)
    refine lv_iload hx hb dX5_causeOf_7 (lv_at hl 0 rfl) ?_
    refine lv_if_ge (tgt := 18) hx hb dX5_causeOf_9 (by decide) (fun c_9 => ?_) (fun c_9 => absurd (nI_pos' (by omega)) c_9)
    refine lv_iload hx hb dX5_causeOf_18 (lv_at hl 0 rfl) ?_
    refine lv_if_lt (tgt := 36) hx hb dX5_causeOf_20 (by decide) (fun c_20 => absurd c_20 (nI_pos (by omega))) (fun c_20 => ?_)
    refine lv_aload_n hx hb dX5_causeOf_23 rfl (lv_at hl 1 rfl) ?_
    refine va_get (D := D) (ci := 5) (v := .ref (e3)) (C := RX5) (T := TX5) (N := 25) hx hb hts (fun w h => List.mem_cons_of_mem _ (hiX5 w h)) hown hK hP 0 rfl rfl 7 (by decide) kf17 (fun _ h9 => h9) rfl dX5_causeOf_24 ?_
    refine lv_iload hx hb dX5_causeOf_27 (lv_at hl 0 rfl) ?_
    refine ka_ild hx hb hK hP 3 0 rfl rfl (k := o) (rfl) (⟨ho, by decide⟩) dX5_causeOf_29 ?_
    refine lv_iload_n hx hb dX5_causeOf_30 rfl (lv_at hl 3 rfl) ?_
    refine lv_icmp_eq (tgt := 36) hx hb dX5_causeOf_31 (by decide) (fun c_31 => ?_) (fun c_31 => ?_)
    ·
      refine lv_iload_n hx hb dX5_causeOf_36 rfl (lv_at hl 3 rfl) ?_
      refine lv_iconst (v := 2) hx hb dX5_causeOf_37 (by decide) ?_
      refine lv_icmp_ne (tgt := 43) hx hb dX5_causeOf_38 (by decide) (fun c_38 => ?_) (fun c_38 => ?_)
      ·
        refine lv_iload_n hx hb dX5_causeOf_43 rfl (lv_at hl 3 rfl) ?_
        refine lv_iconst (v := 3) hx hb dX5_causeOf_44 (by decide) ?_
        refine lv_icmp_ne (tgt := 50) hx hb dX5_causeOf_45 (by decide) (fun c_45 => ?_) (fun c_45 => ?_)
        ·
          refine lv_iload_n hx hb dX5_causeOf_50 rfl (lv_at hl 4 rfl) ?_
          refine lv_if_eq (tgt := 59) hx hb dX5_causeOf_51 (by decide) (fun c_51 => ?_) (fun c_51 => ?_)
          ·
            refine lv_iconst (v := 5) hx hb dX5_causeOf_59 (by decide) ?_
            exact kr_i (rfl) hx hb hr hlocks hP hK hD hS (by simp only [cf_cause, cf_tail, if_pos c_31, if_neg c_38, if_neg c_45, if_pos c_51]) dX5_causeOf_60
          ·
            refine lv_bipush (v := 6) hx hb dX5_causeOf_54 (by decide) ?_
            refine lv_goto (tgt := 60) hx hb dX5_causeOf_56 (by decide) ?_
            exact kr_i (rfl) hx hb hr hlocks hP hK hD hS (by simp only [cf_cause, cf_tail, if_pos c_31, if_neg c_38, if_neg c_45, if_neg c_51]) dX5_causeOf_60
        ·
          refine lv_iconst (v := 4) hx hb dX5_causeOf_48 (by decide) ?_
          exact kr_i (rfl) hx hb hr hlocks hP hK hD hS (by simp only [cf_cause, cf_tail, if_pos c_31, if_neg c_38, if_pos c_45]) dX5_causeOf_49
      ·
        refine lv_iconst (v := 3) hx hb dX5_causeOf_41 (by decide) ?_
        exact kr_i (rfl) hx hb hr hlocks hP hK hD hS (by simp only [cf_cause, cf_tail, if_pos c_31, if_pos c_38]) dX5_causeOf_42
    ·
      refine lv_iconst (v := 2) hx hb dX5_causeOf_34 (by decide) ?_
      exact kr_i (rfl) hx hb hr hlocks hP hK hD hS (by simp only [cf_cause]; rw [if_neg c_31]) dX5_causeOf_35
