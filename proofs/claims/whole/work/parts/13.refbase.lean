set_option maxHeartbeats 4000000 in
set_option maxRecDepth 100000 in
/-- thrown -/
theorem c_X5_thrown (l : Launch) (D : va_G) (cI cJ cZ : ClassId) (sz : Nat) (e0 e1 e2 e3 e4 e5 e6 e7 e8 e9 e10 e11 e12 e13 : Nat) (S Wy sb L : Nat) (mhs mg mk mt mu : Fn) (tm : Int32) (rg rq : Fn) (mh : Int32) (mr : Fn) (md : Nat) (mv mz : Int32) (mp mo mw mx : Fn) (mn : Nat) (mcs : Fn) (ml mth : Int32) : KI l yX5_thrown wsX5_thrown ({ frames := 0, cells := 0, slots := 0, locals := 0 } : Room) D (kTy cI cJ cZ) [.ref (e0)] [(e0, .inr (5, [.int (mth), .int (nI S), .int (nI Wy), .int (nI L), .int (nI sb), .ref (e1), .ref (e2), .ref (e3), .ref (e4), .ref (e5), .int (tm), .ref (e6), .ref (e7), .int (mh), .int (nI (md)), .ref (e8), .int (nI (mn)), .ref (e9), .ref (e10), .ref (e11), .ref (e12), .ref (e13), .int (mv), .int (mz), .int (ml)])), (e1, .inl (cZ, 64, .inl (mhs))), (e2, .inl (cI, 64, .inl (mg))), (e3, .inl (cI, 64, .inl (mk))), (e4, .inl (cI, 64, .inl (mt))), (e5, .inl (cI, 64, .inl (mu))), (e6, .inl (cI, 64, .inl (rg))), (e7, .inl (cI, 64, .inl (rq))), (e8, .inl (cI, 17, .inl (mr))), (e9, .inl (cI, 16, .inl (mp))), (e10, .inl (cI, 16, .inl (mo))), (e11, .inl (cI, 16, .inl (mw))), (e12, .inl (cI, 272, .inl (mx))), (e13, .inl (cI, 8, .inl (mcs)))] sz (wMo e0 e1 e2 e3 e4 e5 e6 e7 e8 e9 e10 e11 e12 e13 cI cZ S Wy sb L ((mhs, mg, mk, mt, mu, tm), (rg, rq, mh), (mr, md, mv, mz), (mp, mo, mw, mx, mn), mcs, ml, mth)) (mth) 0 0 := by
  refine Met.ofW (cc := cX5_thrown) (maxL := 1) (ret := (some .int)) (by decide) rfl ?_
  intro p e s m args below meth c s₁ B hml hv
  obtain ⟨rfl, hsz, hP, hK, hD0⟩ := hv
  have hx := B.exec
  have hb := B.bytes
  have hr := B.returns
  have hts := atoms_spec (ws := wsX5_thrown) B.pre
  have hown : s.vm.findClass RX5 = some m.cls := findClass_of_methodNamed B.named
  have hlocks := B.notSynchronized
  have kf67 := hts (.fieldLink RX5 67 "TargetRowsModel" "thrown" "I") (List.mem_cons_of_mem _ kw_513)
  subst hsz
  have hD := hD0.self (sz := s.heap.size)
  generalize hAe : va_A [(e0, .inr (5, [.int (mth), .int (nI S), .int (nI Wy), .int (nI L), .int (nI sb), .ref (e1), .ref (e2), .ref (e3), .ref (e4), .ref (e5), .int (tm), .ref (e6), .ref (e7), .int (mh), .int (nI (md)), .ref (e8), .int (nI (mn)), .ref (e9), .ref (e10), .ref (e11), .ref (e12), .ref (e13), .int (mv), .int (mz), .int (ml)])), (e1, .inl (cZ, 64, .inl (mhs))), (e2, .inl (cI, 64, .inl (mg))), (e3, .inl (cI, 64, .inl (mk))), (e4, .inl (cI, 64, .inl (mt))), (e5, .inl (cI, 64, .inl (mu))), (e6, .inl (cI, 64, .inl (rg))), (e7, .inl (cI, 64, .inl (rq))), (e8, .inl (cI, 17, .inl (mr))), (e9, .inl (cI, 16, .inl (mp))), (e10, .inl (cI, 16, .inl (mo))), (e11, .inl (cI, 16, .inl (mw))), (e12, .inl (cI, 272, .inl (mx))), (e13, .inl (cI, 8, .inl (mcs)))] s.heap.size = A at hD ⊢
  have hA : ∀ q : Nat, s.heap.size ≤ q → A q := fun q h => by rw [← hAe]; exact Or.inr h
  have hS : va_S A s.heap s.heap [] := va_S.rf
  have hP : va_P D vwCl [(e0, .inr (5, [.int (mth), .int (nI S), .int (nI Wy), .int (nI L), .int (nI sb), .ref (e1), .ref (e2), .ref (e3), .ref (e4), .ref (e5), .int (tm), .ref (e6), .ref (e7), .int (mh), .int (nI (md)), .ref (e8), .int (nI (mn)), .ref (e9), .ref (e10), .ref (e11), .ref (e12), .ref (e13), .int (mv), .int (mz), .int (ml)])), (e1, .inl (cZ, 64, .inl (mhs))), (e2, .inl (cI, 64, .inl (mg))), (e3, .inl (cI, 64, .inl (mk))), (e4, .inl (cI, 64, .inl (mt))), (e5, .inl (cI, 64, .inl (mu))), (e6, .inl (cI, 64, .inl (rg))), (e7, .inl (cI, 64, .inl (rq))), (e8, .inl (cI, 17, .inl (mr))), (e9, .inl (cI, 16, .inl (mp))), (e10, .inl (cI, 16, .inl (mo))), (e11, .inl (cI, 16, .inl (mw))), (e12, .inl (cI, 272, .inl (mx))), (e13, .inl (cI, 8, .inl (mcs)))] s.heap := hP
  have hD : va_D A [(e0, .inr (5, [.int (mth), .int (nI S), .int (nI Wy), .int (nI L), .int (nI sb), .ref (e1), .ref (e2), .ref (e3), .ref (e4), .ref (e5), .int (tm), .ref (e6), .ref (e7), .int (mh), .int (nI (md)), .ref (e8), .int (nI (mn)), .ref (e9), .ref (e10), .ref (e11), .ref (e12), .ref (e13), .int (mv), .int (mz), .int (ml)])), (e1, .inl (cZ, 64, .inl (mhs))), (e2, .inl (cI, 64, .inl (mg))), (e3, .inl (cI, 64, .inl (mk))), (e4, .inl (cI, 64, .inl (mt))), (e5, .inl (cI, 64, .inl (mu))), (e6, .inl (cI, 64, .inl (rg))), (e7, .inl (cI, 64, .inl (rq))), (e8, .inl (cI, 17, .inl (mr))), (e9, .inl (cI, 16, .inl (mp))), (e10, .inl (cI, 16, .inl (mo))), (e11, .inl (cI, 16, .inl (mw))), (e12, .inl (cI, 272, .inl (mx))), (e13, .inl (cI, 8, .inl (mcs)))] := hD
  have hl := lv_entry ([.ref (e0)]) (n := 1) (Nat.le_of_ble_eq_true rfl)
  rw [lg_entry_eq]
  generalize (lg_sl ([.ref (e0)]) ++ List.replicate (1 - (lg_sl ([.ref (e0)])).length) Slot.unset).toArray = ls at hl ⊢
  have hl : lv_has ls 1 [(0, .ref (e0))] := hl
  refine lv_aload_n hx hb dX5_thrown_0 rfl (lv_at hl 0 rfl) ?_
  refine va_get (D := D) (ci := 5) (v := .int (mth)) (C := RX5) (T := TX5) (N := 25) hx hb hts (fun w h => List.mem_cons_of_mem _ (hiX5 w h)) hown hK hP 0 rfl rfl 0 (by decide) kf67 (fun _ h9 => h9) rfl dX5_thrown_1 ?_
  exact kr_i (rfl) hx hb hr hlocks hP hK hD hS (rfl) dX5_thrown_4

set_option maxHeartbeats 4000000 in
set_option maxRecDepth 100000 in
/-- fail -/
theorem c_X5_fail (l : Launch) (D : va_G) (cI cJ cZ : ClassId) (sz : Nat) (e0 e1 e2 e3 e4 e5 e6 e7 e8 e9 e10 e11 e12 e13 : Nat) (S Wy sb L : Nat) (mhs mg mk mt mu : Fn) (tm : Int32) (rg rq : Fn) (mh : Int32) (mr : Fn) (md : Nat) (mv mz : Int32) (mp mo mw mx : Fn) (mn : Nat) (mcs : Fn) (ml mth : Int32) (p0 : Int32) : KI l yX5_fail wsX5_fail ({ frames := 0, cells := 0, slots := 0, locals := 0 } : Room) D (kTy cI cJ cZ) [.ref (e0), .int (p0)] [(e0, .inr (5, [.int (mth), .int (nI S), .int (nI Wy), .int (nI L), .int (nI sb), .ref (e1), .ref (e2), .ref (e3), .ref (e4), .ref (e5), .int (tm), .ref (e6), .ref (e7), .int (mh), .int (nI (md)), .ref (e8), .int (nI (mn)), .ref (e9), .ref (e10), .ref (e11), .ref (e12), .ref (e13), .int (mv), .int (mz), .int (ml)])), (e1, .inl (cZ, 64, .inl (mhs))), (e2, .inl (cI, 64, .inl (mg))), (e3, .inl (cI, 64, .inl (mk))), (e4, .inl (cI, 64, .inl (mt))), (e5, .inl (cI, 64, .inl (mu))), (e6, .inl (cI, 64, .inl (rg))), (e7, .inl (cI, 64, .inl (rq))), (e8, .inl (cI, 17, .inl (mr))), (e9, .inl (cI, 16, .inl (mp))), (e10, .inl (cI, 16, .inl (mo))), (e11, .inl (cI, 16, .inl (mw))), (e12, .inl (cI, 272, .inl (mx))), (e13, .inl (cI, 8, .inl (mcs)))] sz (wMo e0 e1 e2 e3 e4 e5 e6 e7 e8 e9 e10 e11 e12 e13 cI cZ S Wy sb L ((mhs, mg, mk, mt, mu, tm), (rg, rq, mh), (mr, md, mv, mz), (mp, mo, mw, mx, mn), mcs, ml, p0)) (0) 0 0 := by
  refine Met.ofW (cc := cX5_fail) (maxL := 2) (ret := (some .int)) (by decide) rfl ?_
  intro p e s m args below meth c s₁ B hml hv
  obtain ⟨rfl, hsz, hP, hK, hD0⟩ := hv
  have hx := B.exec
  have hb := B.bytes
  have hr := B.returns
  have hts := atoms_spec (ws := wsX5_fail) B.pre
  have hown : s.vm.findClass RX5 = some m.cls := findClass_of_methodNamed B.named
  have hlocks := B.notSynchronized
  have kf67 := hts (.fieldLink RX5 67 "TargetRowsModel" "thrown" "I") (List.mem_cons_of_mem _ kw_513)
  subst hsz
  have hD := hD0.self (sz := s.heap.size)
  generalize hAe : va_A [(e0, .inr (5, [.int (mth), .int (nI S), .int (nI Wy), .int (nI L), .int (nI sb), .ref (e1), .ref (e2), .ref (e3), .ref (e4), .ref (e5), .int (tm), .ref (e6), .ref (e7), .int (mh), .int (nI (md)), .ref (e8), .int (nI (mn)), .ref (e9), .ref (e10), .ref (e11), .ref (e12), .ref (e13), .int (mv), .int (mz), .int (ml)])), (e1, .inl (cZ, 64, .inl (mhs))), (e2, .inl (cI, 64, .inl (mg))), (e3, .inl (cI, 64, .inl (mk))), (e4, .inl (cI, 64, .inl (mt))), (e5, .inl (cI, 64, .inl (mu))), (e6, .inl (cI, 64, .inl (rg))), (e7, .inl (cI, 64, .inl (rq))), (e8, .inl (cI, 17, .inl (mr))), (e9, .inl (cI, 16, .inl (mp))), (e10, .inl (cI, 16, .inl (mo))), (e11, .inl (cI, 16, .inl (mw))), (e12, .inl (cI, 272, .inl (mx))), (e13, .inl (cI, 8, .inl (mcs)))] s.heap.size = A at hD ⊢
  have hA : ∀ q : Nat, s.heap.size ≤ q → A q := fun q h => by rw [← hAe]; exact Or.inr h
  have hS : va_S A s.heap s.heap [] := va_S.rf
  have hP : va_P D vwCl [(e0, .inr (5, [.int (mth), .int (nI S), .int (nI Wy), .int (nI L), .int (nI sb), .ref (e1), .ref (e2), .ref (e3), .ref (e4), .ref (e5), .int (tm), .ref (e6), .ref (e7), .int (mh), .int (nI (md)), .ref (e8), .int (nI (mn)), .ref (e9), .ref (e10), .ref (e11), .ref (e12), .ref (e13), .int (mv), .int (mz), .int (ml)])), (e1, .inl (cZ, 64, .inl (mhs))), (e2, .inl (cI, 64, .inl (mg))), (e3, .inl (cI, 64, .inl (mk))), (e4, .inl (cI, 64, .inl (mt))), (e5, .inl (cI, 64, .inl (mu))), (e6, .inl (cI, 64, .inl (rg))), (e7, .inl (cI, 64, .inl (rq))), (e8, .inl (cI, 17, .inl (mr))), (e9, .inl (cI, 16, .inl (mp))), (e10, .inl (cI, 16, .inl (mo))), (e11, .inl (cI, 16, .inl (mw))), (e12, .inl (cI, 272, .inl (mx))), (e13, .inl (cI, 8, .inl (mcs)))] s.heap := hP
  have hD : va_D A [(e0, .inr (5, [.int (mth), .int (nI S), .int (nI Wy), .int (nI L), .int (nI sb), .ref (e1), .ref (e2), .ref (e3), .ref (e4), .ref (e5), .int (tm), .ref (e6), .ref (e7), .int (mh), .int (nI (md)), .ref (e8), .int (nI (mn)), .ref (e9), .ref (e10), .ref (e11), .ref (e12), .ref (e13), .int (mv), .int (mz), .int (ml)])), (e1, .inl (cZ, 64, .inl (mhs))), (e2, .inl (cI, 64, .inl (mg))), (e3, .inl (cI, 64, .inl (mk))), (e4, .inl (cI, 64, .inl (mt))), (e5, .inl (cI, 64, .inl (mu))), (e6, .inl (cI, 64, .inl (rg))), (e7, .inl (cI, 64, .inl (rq))), (e8, .inl (cI, 17, .inl (mr))), (e9, .inl (cI, 16, .inl (mp))), (e10, .inl (cI, 16, .inl (mo))), (e11, .inl (cI, 16, .inl (mw))), (e12, .inl (cI, 272, .inl (mx))), (e13, .inl (cI, 8, .inl (mcs)))] := hD
  have hl := lv_entry ([.ref (e0), .int (p0)]) (n := 2) (Nat.le_of_ble_eq_true rfl)
  rw [lg_entry_eq]
  generalize (lg_sl ([.ref (e0), .int (p0)]) ++ List.replicate (2 - (lg_sl ([.ref (e0), .int (p0)])).length) Slot.unset).toArray = ls at hl ⊢
  have hl : lv_has ls 2 [(0, .ref (e0)), (1, .int (p0))] := hl
  refine lv_aload_n hx hb dX5_fail_0 rfl (lv_at hl 0 rfl) ?_
  refine lv_iload_n hx hb dX5_fail_1 rfl (lv_at hl 1 rfl) ?_
  refine va_put (D := D) (ci := 5) (v := .int (p0)) (ty := .int) (C := RX5) (T := TX5) (N := 25) hx hb hts (fun w h => List.mem_cons_of_mem _ (hiX5 w h)) tyX5 tyX5_ok nmX5 hown hK hP hD hS 0 rfl rfl 0 (by decide) kf67 (fun _ h9 => h9) rfl (by decide +kernel) rfl rfl (Nat.le_of_ble_eq_true rfl) dX5_fail_2 (fun H locs hP hD hS => ?_)
  have hP : va_P D vwCl [(e0, .inr (5, [.int (p0), .int (nI S), .int (nI Wy), .int (nI L), .int (nI sb), .ref (e1), .ref (e2), .ref (e3), .ref (e4), .ref (e5), .int (tm), .ref (e6), .ref (e7), .int (mh), .int (nI (md)), .ref (e8), .int (nI (mn)), .ref (e9), .ref (e10), .ref (e11), .ref (e12), .ref (e13), .int (mv), .int (mz), .int (ml)])), (e1, .inl (cZ, 64, .inl (mhs))), (e2, .inl (cI, 64, .inl (mg))), (e3, .inl (cI, 64, .inl (mk))), (e4, .inl (cI, 64, .inl (mt))), (e5, .inl (cI, 64, .inl (mu))), (e6, .inl (cI, 64, .inl (rg))), (e7, .inl (cI, 64, .inl (rq))), (e8, .inl (cI, 17, .inl (mr))), (e9, .inl (cI, 16, .inl (mp))), (e10, .inl (cI, 16, .inl (mo))), (e11, .inl (cI, 16, .inl (mw))), (e12, .inl (cI, 272, .inl (mx))), (e13, .inl (cI, 8, .inl (mcs)))] H := hP
  have hD : va_D A [(e0, .inr (5, [.int (p0), .int (nI S), .int (nI Wy), .int (nI L), .int (nI sb), .ref (e1), .ref (e2), .ref (e3), .ref (e4), .ref (e5), .int (tm), .ref (e6), .ref (e7), .int (mh), .int (nI (md)), .ref (e8), .int (nI (mn)), .ref (e9), .ref (e10), .ref (e11), .ref (e12), .ref (e13), .int (mv), .int (mz), .int (ml)])), (e1, .inl (cZ, 64, .inl (mhs))), (e2, .inl (cI, 64, .inl (mg))), (e3, .inl (cI, 64, .inl (mk))), (e4, .inl (cI, 64, .inl (mt))), (e5, .inl (cI, 64, .inl (mu))), (e6, .inl (cI, 64, .inl (rg))), (e7, .inl (cI, 64, .inl (rq))), (e8, .inl (cI, 17, .inl (mr))), (e9, .inl (cI, 16, .inl (mp))), (e10, .inl (cI, 16, .inl (mo))), (e11, .inl (cI, 16, .inl (mw))), (e12, .inl (cI, 272, .inl (mx))), (e13, .inl (cI, 8, .inl (mcs)))] := hD
  refine lv_iconst (v := 0) hx hb dX5_fail_5 (by decide) ?_
  exact kr_i (rfl) hx hb hr hlocks hP hK hD hS (rfl) dX5_fail_6

set_option maxHeartbeats 4000000 in
set_option maxRecDepth 100000 in
/-- within -/
theorem c_X5_within (l : Launch) (D : va_G) (cI cJ cZ : ClassId) (sz : Nat) (p0 p1 p2 : Int32) : KI l yX5_within wsX5_within ({ frames := 0, cells := 0, slots := 0, locals := 0 } : Room) D (kTy cI cJ cZ) [.int (p0), .int (p1), .int (p2)] [] sz ([]) (mf_within p0 p1 p2) 0 0 := by
  refine Met.ofW (cc := cX5_within) (maxL := 3) (ret := (some .boolean)) (by decide) rfl ?_
  intro p e s m args below meth c s₁ B hml hv
  obtain ⟨rfl, hsz, hP, hK, hD0⟩ := hv
  have hx := B.exec
  have hb := B.bytes
  have hr := B.returns
  have hts := atoms_spec (ws := wsX5_within) B.pre
  have hown : s.vm.findClass RX5 = some m.cls := findClass_of_methodNamed B.named
  have hlocks := B.notSynchronized
  subst hsz
  have hD := hD0.self (sz := s.heap.size)
  generalize hAe : va_A [] s.heap.size = A at hD ⊢
  have hA : ∀ q : Nat, s.heap.size ≤ q → A q := fun q h => by rw [← hAe]; exact Or.inr h
  have hS : va_S A s.heap s.heap [] := va_S.rf
  have hP : va_P D vwCl [] s.heap := hP
  have hD : va_D A [] := hD
  have hl := lv_entry ([.int (p0), .int (p1), .int (p2)]) (n := 3) (Nat.le_of_ble_eq_true rfl)
  rw [lg_entry_eq]
  generalize (lg_sl ([.int (p0), .int (p1), .int (p2)]) ++ List.replicate (3 - (lg_sl ([.int (p0), .int (p1), .int (p2)])).length) Slot.unset).toArray = ls at hl ⊢
  have hl : lv_has ls 3 [(0, .int (p0)), (1, .int (p1)), (2, .int (p2))] := hl
  refine lv_iload_n hx hb dX5_within_0 rfl (lv_at hl 0 rfl) ?_
  refine lv_iload_n hx hb dX5_within_1 rfl (lv_at hl 1 rfl) ?_
  refine lv_icmp_lt (tgt := 14) hx hb dX5_within_2 (by decide) (fun c_2 => ?_) (fun c_2 => ?_)
  ·
    refine lv_iconst (v := 0) hx hb dX5_within_14 (by decide) ?_
    exact kr_z (rfl) hx hb hr hlocks hP hK hD hS (rfl) ((if_neg (fun q => absurd q.1 (Int32.not_le.mpr c_2))).symm) dX5_within_15
  ·
    refine lv_iload_n hx hb dX5_within_5 rfl (lv_at hl 0 rfl) ?_
    refine lv_iload_n hx hb dX5_within_6 rfl (lv_at hl 2 rfl) ?_
    refine lv_icmp_gt (tgt := 14) hx hb dX5_within_7 (by decide) (fun c_7 => ?_) (fun c_7 => ?_)
    ·
      refine lv_iconst (v := 0) hx hb dX5_within_14 (by decide) ?_
      exact kr_z (rfl) hx hb hr hlocks hP hK hD hS (rfl) ((if_neg (fun q => absurd q.2 (Int32.not_le.mpr c_7))).symm) dX5_within_15
    ·
      refine lv_iconst (v := 1) hx hb dX5_within_10 (by decide) ?_
      refine lv_goto (tgt := 15) hx hb dX5_within_11 (by decide) ?_
      exact kr_z (rfl) hx hb hr hlocks hP hK hD hS (rfl) ((if_pos ⟨Int32.not_lt.mp c_2, Int32.not_lt.mp c_7⟩).symm) dX5_within_15

set_option maxHeartbeats 4000000 in
set_option maxRecDepth 100000 in
/-- rowTagOf -/
theorem c_X5_rowTagOf (l : Launch) (D : va_G) (cI cJ cZ : ClassId) (sz : Nat) (p0 : Int32) : KI l yX5_rowTagOf wsX5_rowTagOf ({ frames := 0, cells := 0, slots := 0, locals := 0 } : Room) D (kTy cI cJ cZ) [.int (p0)] [] sz ([]) (hf_tag p0) 0 0 := by
  refine Met.ofW (cc := cX5_rowTagOf) (maxL := 1) (ret := (some .int)) (by decide) rfl ?_
  intro p e s m args below meth c s₁ B hml hv
  obtain ⟨rfl, hsz, hP, hK, hD0⟩ := hv
  have hx := B.exec
  have hb := B.bytes
  have hr := B.returns
  have hts := atoms_spec (ws := wsX5_rowTagOf) B.pre
  have hown : s.vm.findClass RX5 = some m.cls := findClass_of_methodNamed B.named
  have hlocks := B.notSynchronized
  subst hsz
  have hD := hD0.self (sz := s.heap.size)
  generalize hAe : va_A [] s.heap.size = A at hD ⊢
  have hA : ∀ q : Nat, s.heap.size ≤ q → A q := fun q h => by rw [← hAe]; exact Or.inr h
  have hS : va_S A s.heap s.heap [] := va_S.rf
  have hP : va_P D vwCl [] s.heap := hP
  have hD : va_D A [] := hD
  have hl := lv_entry ([.int (p0)]) (n := 1) (Nat.le_of_ble_eq_true rfl)
  rw [lg_entry_eq]
  generalize (lg_sl ([.int (p0)]) ++ List.replicate (1 - (lg_sl ([.int (p0)])).length) Slot.unset).toArray = ls at hl ⊢
  have hl : lv_has ls 1 [(0, .int (p0))] := hl
  refine lv_iload_n hx hb dX5_rowTagOf_0 rfl (lv_at hl 0 rfl) ?_
  refine lv_bipush (v := 8) hx hb dX5_rowTagOf_1 (by decide) ?_
  refine lv_iushr (v := k_ush (p0) (8)) hx hb dX5_rowTagOf_3 rfl ?_
  refine lv_sipush (v := 255) hx hb dX5_rowTagOf_4 (by decide) ?_
  refine lv_iand hx hb dX5_rowTagOf_7 ?_
  exact kr_i (rfl) hx hb hr hlocks hP hK hD hS (rfl) dX5_rowTagOf_8

set_option maxHeartbeats 4000000 in
set_option maxRecDepth 100000 in
/-- firstOf -/
theorem c_X5_firstOf (l : Launch) (D : va_G) (cI cJ cZ : ClassId) (sz : Nat) (e0 e1 e2 e3 e4 e5 e6 e7 e8 e9 e10 e11 e12 e13 : Nat) (S Wy sb L : Nat) (mhs mg mk mt mu : Fn) (tm : Int32) (rg rq : Fn) (mh : Int32) (mr : Fn) (md : Nat) (mv mz : Int32) (mp mo mw mx : Fn) (mn : Nat) (mcs : Fn) (ml mth : Int32) (p0 : Int32) (hS2 : S = 2 ^ sb) (hsb : sb ≤ 4) : KI l yX5_firstOf wsX5_firstOf ({ frames := 0, cells := 0, slots := 0, locals := 0 } : Room) D (kTy cI cJ cZ) [.ref (e0), .int (p0)] [(e0, .inr (5, [.int (mth), .int (nI S), .int (nI Wy), .int (nI L), .int (nI sb), .ref (e1), .ref (e2), .ref (e3), .ref (e4), .ref (e5), .int (tm), .ref (e6), .ref (e7), .int (mh), .int (nI (md)), .ref (e8), .int (nI (mn)), .ref (e9), .ref (e10), .ref (e11), .ref (e12), .ref (e13), .int (mv), .int (mz), .int (ml)])), (e1, .inl (cZ, 64, .inl (mhs))), (e2, .inl (cI, 64, .inl (mg))), (e3, .inl (cI, 64, .inl (mk))), (e4, .inl (cI, 64, .inl (mt))), (e5, .inl (cI, 64, .inl (mu))), (e6, .inl (cI, 64, .inl (rg))), (e7, .inl (cI, 64, .inl (rq))), (e8, .inl (cI, 17, .inl (mr))), (e9, .inl (cI, 16, .inl (mp))), (e10, .inl (cI, 16, .inl (mo))), (e11, .inl (cI, 16, .inl (mw))), (e12, .inl (cI, 272, .inl (mx))), (e13, .inl (cI, 8, .inl (mcs)))] sz (wMo e0 e1 e2 e3 e4 e5 e6 e7 e8 e9 e10 e11 e12 e13 cI cZ S Wy sb L ((mhs, mg, mk, mt, mu, tm), (rg, rq, mh), (mr, md, mv, mz), (mp, mo, mw, mx, mn), mcs, ml, mth)) (nI (4 * ts_set S p0)) 0 0 := by
  refine Met.ofW (cc := cX5_firstOf) (maxL := 2) (ret := (some .int)) (by decide) rfl ?_
  intro p e s m args below meth c s₁ B hml hv
  obtain ⟨rfl, hsz, hP, hK, hD0⟩ := hv
  have hx := B.exec
  have hb := B.bytes
  have hr := B.returns
  have hts := atoms_spec (ws := wsX5_firstOf) B.pre
  have hown : s.vm.findClass RX5 = some m.cls := findClass_of_methodNamed B.named
  have hlocks := B.notSynchronized
  have kf54 := hts (.fieldLink RX5 54 "TargetRowsModel" "sets" "I") (List.mem_cons_of_mem _ kw_514)
  subst hsz
  have hD := hD0.self (sz := s.heap.size)
  generalize hAe : va_A [(e0, .inr (5, [.int (mth), .int (nI S), .int (nI Wy), .int (nI L), .int (nI sb), .ref (e1), .ref (e2), .ref (e3), .ref (e4), .ref (e5), .int (tm), .ref (e6), .ref (e7), .int (mh), .int (nI (md)), .ref (e8), .int (nI (mn)), .ref (e9), .ref (e10), .ref (e11), .ref (e12), .ref (e13), .int (mv), .int (mz), .int (ml)])), (e1, .inl (cZ, 64, .inl (mhs))), (e2, .inl (cI, 64, .inl (mg))), (e3, .inl (cI, 64, .inl (mk))), (e4, .inl (cI, 64, .inl (mt))), (e5, .inl (cI, 64, .inl (mu))), (e6, .inl (cI, 64, .inl (rg))), (e7, .inl (cI, 64, .inl (rq))), (e8, .inl (cI, 17, .inl (mr))), (e9, .inl (cI, 16, .inl (mp))), (e10, .inl (cI, 16, .inl (mo))), (e11, .inl (cI, 16, .inl (mw))), (e12, .inl (cI, 272, .inl (mx))), (e13, .inl (cI, 8, .inl (mcs)))] s.heap.size = A at hD ⊢
  have hA : ∀ q : Nat, s.heap.size ≤ q → A q := fun q h => by rw [← hAe]; exact Or.inr h
  have hS : va_S A s.heap s.heap [] := va_S.rf
  have hP : va_P D vwCl [(e0, .inr (5, [.int (mth), .int (nI S), .int (nI Wy), .int (nI L), .int (nI sb), .ref (e1), .ref (e2), .ref (e3), .ref (e4), .ref (e5), .int (tm), .ref (e6), .ref (e7), .int (mh), .int (nI (md)), .ref (e8), .int (nI (mn)), .ref (e9), .ref (e10), .ref (e11), .ref (e12), .ref (e13), .int (mv), .int (mz), .int (ml)])), (e1, .inl (cZ, 64, .inl (mhs))), (e2, .inl (cI, 64, .inl (mg))), (e3, .inl (cI, 64, .inl (mk))), (e4, .inl (cI, 64, .inl (mt))), (e5, .inl (cI, 64, .inl (mu))), (e6, .inl (cI, 64, .inl (rg))), (e7, .inl (cI, 64, .inl (rq))), (e8, .inl (cI, 17, .inl (mr))), (e9, .inl (cI, 16, .inl (mp))), (e10, .inl (cI, 16, .inl (mo))), (e11, .inl (cI, 16, .inl (mw))), (e12, .inl (cI, 272, .inl (mx))), (e13, .inl (cI, 8, .inl (mcs)))] s.heap := hP
  have hD : va_D A [(e0, .inr (5, [.int (mth), .int (nI S), .int (nI Wy), .int (nI L), .int (nI sb), .ref (e1), .ref (e2), .ref (e3), .ref (e4), .ref (e5), .int (tm), .ref (e6), .ref (e7), .int (mh), .int (nI (md)), .ref (e8), .int (nI (mn)), .ref (e9), .ref (e10), .ref (e11), .ref (e12), .ref (e13), .int (mv), .int (mz), .int (ml)])), (e1, .inl (cZ, 64, .inl (mhs))), (e2, .inl (cI, 64, .inl (mg))), (e3, .inl (cI, 64, .inl (mk))), (e4, .inl (cI, 64, .inl (mt))), (e5, .inl (cI, 64, .inl (mu))), (e6, .inl (cI, 64, .inl (rg))), (e7, .inl (cI, 64, .inl (rq))), (e8, .inl (cI, 17, .inl (mr))), (e9, .inl (cI, 16, .inl (mp))), (e10, .inl (cI, 16, .inl (mo))), (e11, .inl (cI, 16, .inl (mw))), (e12, .inl (cI, 272, .inl (mx))), (e13, .inl (cI, 8, .inl (mcs)))] := hD
  have hl := lv_entry ([.ref (e0), .int (p0)]) (n := 2) (Nat.le_of_ble_eq_true rfl)
  rw [lg_entry_eq]
  generalize (lg_sl ([.ref (e0), .int (p0)]) ++ List.replicate (2 - (lg_sl ([.ref (e0), .int (p0)])).length) Slot.unset).toArray = ls at hl ⊢
  have hl : lv_has ls 2 [(0, .ref (e0)), (1, .int (p0))] := hl
  refine lv_iconst (v := 4) hx hb dX5_firstOf_0 (by decide) ?_
  refine lv_iload_n hx hb dX5_firstOf_1 rfl (lv_at hl 1 rfl) ?_
  refine lv_iconst (v := 2) hx hb dX5_firstOf_2 (by decide) ?_
  refine lv_iushr (v := k_ush (p0) (2)) hx hb dX5_firstOf_3 rfl ?_
  refine lv_aload_n hx hb dX5_firstOf_4 rfl (lv_at hl 0 rfl) ?_
  refine va_get (D := D) (ci := 5) (v := .int (nI S)) (C := RX5) (T := TX5) (N := 25) hx hb hts (fun w h => List.mem_cons_of_mem _ (hiX5 w h)) hown hK hP 0 rfl rfl 1 (by decide) kf54 (fun _ h9 => h9) rfl dX5_firstOf_5 ?_
  refine lv_iconst (v := 1) hx hb dX5_firstOf_8 (by decide) ?_
  refine lv_isub hx hb dX5_firstOf_9 ?_
  refine lv_iand hx hb dX5_firstOf_10 ?_
  refine lv_imul hx hb dX5_firstOf_11 ?_
  refine kt_i (y := nI (4 * ts_set S p0)) (mf_set4 hS2 hsb p0) ?_
  exact kr_i (rfl) hx hb hr hlocks hP hK hD hS (rfl) dX5_firstOf_12

set_option maxHeartbeats 4000000 in
set_option maxRecDepth 100000 in
/-- tagOf -/
theorem c_X5_tagOf (l : Launch) (D : va_G) (cI cJ cZ : ClassId) (sz : Nat) (e0 e1 e2 e3 e4 e5 e6 e7 e8 e9 e10 e11 e12 e13 : Nat) (S Wy sb L : Nat) (mhs mg mk mt mu : Fn) (tm : Int32) (rg rq : Fn) (mh : Int32) (mr : Fn) (md : Nat) (mv mz : Int32) (mp mo mw mx : Fn) (mn : Nat) (mcs : Fn) (ml mth : Int32) (p0 : Int32) (hsb : sb ≤ 4) : KI l yX5_tagOf wsX5_tagOf ({ frames := 0, cells := 0, slots := 0, locals := 0 } : Room) D (kTy cI cJ cZ) [.ref (e0), .int (p0)] [(e0, .inr (5, [.int (mth), .int (nI S), .int (nI Wy), .int (nI L), .int (nI sb), .ref (e1), .ref (e2), .ref (e3), .ref (e4), .ref (e5), .int (tm), .ref (e6), .ref (e7), .int (mh), .int (nI (md)), .ref (e8), .int (nI (mn)), .ref (e9), .ref (e10), .ref (e11), .ref (e12), .ref (e13), .int (mv), .int (mz), .int (ml)])), (e1, .inl (cZ, 64, .inl (mhs))), (e2, .inl (cI, 64, .inl (mg))), (e3, .inl (cI, 64, .inl (mk))), (e4, .inl (cI, 64, .inl (mt))), (e5, .inl (cI, 64, .inl (mu))), (e6, .inl (cI, 64, .inl (rg))), (e7, .inl (cI, 64, .inl (rq))), (e8, .inl (cI, 17, .inl (mr))), (e9, .inl (cI, 16, .inl (mp))), (e10, .inl (cI, 16, .inl (mo))), (e11, .inl (cI, 16, .inl (mw))), (e12, .inl (cI, 272, .inl (mx))), (e13, .inl (cI, 8, .inl (mcs)))] sz (wMo e0 e1 e2 e3 e4 e5 e6 e7 e8 e9 e10 e11 e12 e13 cI cZ S Wy sb L ((mhs, mg, mk, mt, mu, tm), (rg, rq, mh), (mr, md, mv, mz), (mp, mo, mw, mx, mn), mcs, ml, mth)) (ts_tag sb p0) 0 0 := by
  refine Met.ofW (cc := cX5_tagOf) (maxL := 2) (ret := (some .int)) (by decide) rfl ?_
  intro p e s m args below meth c s₁ B hml hv
  obtain ⟨rfl, hsz, hP, hK, hD0⟩ := hv
  have hx := B.exec
  have hb := B.bytes
  have hr := B.returns
  have hts := atoms_spec (ws := wsX5_tagOf) B.pre
  have hown : s.vm.findClass RX5 = some m.cls := findClass_of_methodNamed B.named
  have hlocks := B.notSynchronized
  have kf58 := hts (.fieldLink RX5 58 "TargetRowsModel" "setBits" "I") (List.mem_cons_of_mem _ kw_517)
  subst hsz
  have hD := hD0.self (sz := s.heap.size)
  generalize hAe : va_A [(e0, .inr (5, [.int (mth), .int (nI S), .int (nI Wy), .int (nI L), .int (nI sb), .ref (e1), .ref (e2), .ref (e3), .ref (e4), .ref (e5), .int (tm), .ref (e6), .ref (e7), .int (mh), .int (nI (md)), .ref (e8), .int (nI (mn)), .ref (e9), .ref (e10), .ref (e11), .ref (e12), .ref (e13), .int (mv), .int (mz), .int (ml)])), (e1, .inl (cZ, 64, .inl (mhs))), (e2, .inl (cI, 64, .inl (mg))), (e3, .inl (cI, 64, .inl (mk))), (e4, .inl (cI, 64, .inl (mt))), (e5, .inl (cI, 64, .inl (mu))), (e6, .inl (cI, 64, .inl (rg))), (e7, .inl (cI, 64, .inl (rq))), (e8, .inl (cI, 17, .inl (mr))), (e9, .inl (cI, 16, .inl (mp))), (e10, .inl (cI, 16, .inl (mo))), (e11, .inl (cI, 16, .inl (mw))), (e12, .inl (cI, 272, .inl (mx))), (e13, .inl (cI, 8, .inl (mcs)))] s.heap.size = A at hD ⊢
  have hA : ∀ q : Nat, s.heap.size ≤ q → A q := fun q h => by rw [← hAe]; exact Or.inr h
  have hS : va_S A s.heap s.heap [] := va_S.rf
  have hP : va_P D vwCl [(e0, .inr (5, [.int (mth), .int (nI S), .int (nI Wy), .int (nI L), .int (nI sb), .ref (e1), .ref (e2), .ref (e3), .ref (e4), .ref (e5), .int (tm), .ref (e6), .ref (e7), .int (mh), .int (nI (md)), .ref (e8), .int (nI (mn)), .ref (e9), .ref (e10), .ref (e11), .ref (e12), .ref (e13), .int (mv), .int (mz), .int (ml)])), (e1, .inl (cZ, 64, .inl (mhs))), (e2, .inl (cI, 64, .inl (mg))), (e3, .inl (cI, 64, .inl (mk))), (e4, .inl (cI, 64, .inl (mt))), (e5, .inl (cI, 64, .inl (mu))), (e6, .inl (cI, 64, .inl (rg))), (e7, .inl (cI, 64, .inl (rq))), (e8, .inl (cI, 17, .inl (mr))), (e9, .inl (cI, 16, .inl (mp))), (e10, .inl (cI, 16, .inl (mo))), (e11, .inl (cI, 16, .inl (mw))), (e12, .inl (cI, 272, .inl (mx))), (e13, .inl (cI, 8, .inl (mcs)))] s.heap := hP
  have hD : va_D A [(e0, .inr (5, [.int (mth), .int (nI S), .int (nI Wy), .int (nI L), .int (nI sb), .ref (e1), .ref (e2), .ref (e3), .ref (e4), .ref (e5), .int (tm), .ref (e6), .ref (e7), .int (mh), .int (nI (md)), .ref (e8), .int (nI (mn)), .ref (e9), .ref (e10), .ref (e11), .ref (e12), .ref (e13), .int (mv), .int (mz), .int (ml)])), (e1, .inl (cZ, 64, .inl (mhs))), (e2, .inl (cI, 64, .inl (mg))), (e3, .inl (cI, 64, .inl (mk))), (e4, .inl (cI, 64, .inl (mt))), (e5, .inl (cI, 64, .inl (mu))), (e6, .inl (cI, 64, .inl (rg))), (e7, .inl (cI, 64, .inl (rq))), (e8, .inl (cI, 17, .inl (mr))), (e9, .inl (cI, 16, .inl (mp))), (e10, .inl (cI, 16, .inl (mo))), (e11, .inl (cI, 16, .inl (mw))), (e12, .inl (cI, 272, .inl (mx))), (e13, .inl (cI, 8, .inl (mcs)))] := hD
  have hl := lv_entry ([.ref (e0), .int (p0)]) (n := 2) (Nat.le_of_ble_eq_true rfl)
  rw [lg_entry_eq]
  generalize (lg_sl ([.ref (e0), .int (p0)]) ++ List.replicate (2 - (lg_sl ([.ref (e0), .int (p0)])).length) Slot.unset).toArray = ls at hl ⊢
  have hl : lv_has ls 2 [(0, .ref (e0)), (1, .int (p0))] := hl
  refine lv_iload_n hx hb dX5_tagOf_0 rfl (lv_at hl 1 rfl) ?_
  refine lv_iconst (v := 2) hx hb dX5_tagOf_1 (by decide) ?_
  refine lv_aload_n hx hb dX5_tagOf_2 rfl (lv_at hl 0 rfl) ?_
  refine va_get (D := D) (ci := 5) (v := .int (nI sb)) (C := RX5) (T := TX5) (N := 25) hx hb hts (fun w h => List.mem_cons_of_mem _ (hiX5 w h)) hown hK hP 0 rfl rfl 4 (by decide) kf58 (fun _ h9 => h9) rfl dX5_tagOf_3 ?_
  refine lv_iadd hx hb dX5_tagOf_6 ?_
  refine lv_iushr (v := k_ush (p0) ((2) + (nI sb))) hx hb dX5_tagOf_7 rfl ?_
  refine lv_sipush (v := 255) hx hb dX5_tagOf_8 (by decide) ?_
  refine lv_iand hx hb dX5_tagOf_11 ?_
  refine kt_i (y := ts_tag sb p0) (mf_tagl hsb p0) ?_
  exact kr_i (rfl) hx hb hr hlocks hP hK hD hS (rfl) dX5_tagOf_12

set_option maxHeartbeats 4000000 in
set_option maxRecDepth 100000 in
/-- rowOf -/
theorem c_X5_rowOf (l : Launch) (D : va_G) (cI cJ cZ : ClassId) (sz : Nat) (e0 e1 e2 e3 e4 e5 e6 e7 e8 e9 e10 e11 e12 e13 : Nat) (S Wy sb L : Nat) (mhs mg mk mt mu : Fn) (tm : Int32) (rg rq : Fn) (mh : Int32) (mr : Fn) (md : Nat) (mv mz : Int32) (mp mo mw mx : Fn) (mn : Nat) (mcs : Fn) (ml mth : Int32) (p0 : Int32) : KI l yX5_rowOf wsX5_rowOf ({ frames := 0, cells := 0, slots := 0, locals := 0 } : Room) D (kTy cI cJ cZ) [.ref (e0), .int (p0)] [(e0, .inr (5, [.int (mth), .int (nI S), .int (nI Wy), .int (nI L), .int (nI sb), .ref (e1), .ref (e2), .ref (e3), .ref (e4), .ref (e5), .int (tm), .ref (e6), .ref (e7), .int (mh), .int (nI (md)), .ref (e8), .int (nI (mn)), .ref (e9), .ref (e10), .ref (e11), .ref (e12), .ref (e13), .int (mv), .int (mz), .int (ml)])), (e1, .inl (cZ, 64, .inl (mhs))), (e2, .inl (cI, 64, .inl (mg))), (e3, .inl (cI, 64, .inl (mk))), (e4, .inl (cI, 64, .inl (mt))), (e5, .inl (cI, 64, .inl (mu))), (e6, .inl (cI, 64, .inl (rg))), (e7, .inl (cI, 64, .inl (rq))), (e8, .inl (cI, 17, .inl (mr))), (e9, .inl (cI, 16, .inl (mp))), (e10, .inl (cI, 16, .inl (mo))), (e11, .inl (cI, 16, .inl (mw))), (e12, .inl (cI, 272, .inl (mx))), (e13, .inl (cI, 8, .inl (mcs)))] sz (wMo e0 e1 e2 e3 e4 e5 e6 e7 e8 e9 e10 e11 e12 e13 cI cZ S Wy sb L ((mhs, mg, mk, mt, mu, tm), (rg, rq, mh), (mr, md, mv, mz), (mp, mo, mw, mx, mn), mcs, ml, mth)) (nI (mf_ix mh p0)) 0 0 := by
  refine Met.ofW (cc := cX5_rowOf) (maxL := 2) (ret := (some .int)) (by decide) rfl ?_
  intro p e s m args below meth c s₁ B hml hv
  obtain ⟨rfl, hsz, hP, hK, hD0⟩ := hv
  have hx := B.exec
  have hb := B.bytes
  have hr := B.returns
  have hts := atoms_spec (ws := wsX5_rowOf) B.pre
  have hown : s.vm.findClass RX5 = some m.cls := findClass_of_methodNamed B.named
  have hlocks := B.notSynchronized
  have kf77 := hts (.fieldLink RX5 77 "TargetRowsModel" "history" "I") (List.mem_cons_of_mem _ kw_526)
  subst hsz
  have hD := hD0.self (sz := s.heap.size)
  generalize hAe : va_A [(e0, .inr (5, [.int (mth), .int (nI S), .int (nI Wy), .int (nI L), .int (nI sb), .ref (e1), .ref (e2), .ref (e3), .ref (e4), .ref (e5), .int (tm), .ref (e6), .ref (e7), .int (mh), .int (nI (md)), .ref (e8), .int (nI (mn)), .ref (e9), .ref (e10), .ref (e11), .ref (e12), .ref (e13), .int (mv), .int (mz), .int (ml)])), (e1, .inl (cZ, 64, .inl (mhs))), (e2, .inl (cI, 64, .inl (mg))), (e3, .inl (cI, 64, .inl (mk))), (e4, .inl (cI, 64, .inl (mt))), (e5, .inl (cI, 64, .inl (mu))), (e6, .inl (cI, 64, .inl (rg))), (e7, .inl (cI, 64, .inl (rq))), (e8, .inl (cI, 17, .inl (mr))), (e9, .inl (cI, 16, .inl (mp))), (e10, .inl (cI, 16, .inl (mo))), (e11, .inl (cI, 16, .inl (mw))), (e12, .inl (cI, 272, .inl (mx))), (e13, .inl (cI, 8, .inl (mcs)))] s.heap.size = A at hD ⊢
  have hA : ∀ q : Nat, s.heap.size ≤ q → A q := fun q h => by rw [← hAe]; exact Or.inr h
  have hS : va_S A s.heap s.heap [] := va_S.rf
  have hP : va_P D vwCl [(e0, .inr (5, [.int (mth), .int (nI S), .int (nI Wy), .int (nI L), .int (nI sb), .ref (e1), .ref (e2), .ref (e3), .ref (e4), .ref (e5), .int (tm), .ref (e6), .ref (e7), .int (mh), .int (nI (md)), .ref (e8), .int (nI (mn)), .ref (e9), .ref (e10), .ref (e11), .ref (e12), .ref (e13), .int (mv), .int (mz), .int (ml)])), (e1, .inl (cZ, 64, .inl (mhs))), (e2, .inl (cI, 64, .inl (mg))), (e3, .inl (cI, 64, .inl (mk))), (e4, .inl (cI, 64, .inl (mt))), (e5, .inl (cI, 64, .inl (mu))), (e6, .inl (cI, 64, .inl (rg))), (e7, .inl (cI, 64, .inl (rq))), (e8, .inl (cI, 17, .inl (mr))), (e9, .inl (cI, 16, .inl (mp))), (e10, .inl (cI, 16, .inl (mo))), (e11, .inl (cI, 16, .inl (mw))), (e12, .inl (cI, 272, .inl (mx))), (e13, .inl (cI, 8, .inl (mcs)))] s.heap := hP
  have hD : va_D A [(e0, .inr (5, [.int (mth), .int (nI S), .int (nI Wy), .int (nI L), .int (nI sb), .ref (e1), .ref (e2), .ref (e3), .ref (e4), .ref (e5), .int (tm), .ref (e6), .ref (e7), .int (mh), .int (nI (md)), .ref (e8), .int (nI (mn)), .ref (e9), .ref (e10), .ref (e11), .ref (e12), .ref (e13), .int (mv), .int (mz), .int (ml)])), (e1, .inl (cZ, 64, .inl (mhs))), (e2, .inl (cI, 64, .inl (mg))), (e3, .inl (cI, 64, .inl (mk))), (e4, .inl (cI, 64, .inl (mt))), (e5, .inl (cI, 64, .inl (mu))), (e6, .inl (cI, 64, .inl (rg))), (e7, .inl (cI, 64, .inl (rq))), (e8, .inl (cI, 17, .inl (mr))), (e9, .inl (cI, 16, .inl (mp))), (e10, .inl (cI, 16, .inl (mo))), (e11, .inl (cI, 16, .inl (mw))), (e12, .inl (cI, 272, .inl (mx))), (e13, .inl (cI, 8, .inl (mcs)))] := hD
  have hl := lv_entry ([.ref (e0), .int (p0)]) (n := 2) (Nat.le_of_ble_eq_true rfl)
  rw [lg_entry_eq]
  generalize (lg_sl ([.ref (e0), .int (p0)]) ++ List.replicate (2 - (lg_sl ([.ref (e0), .int (p0)])).length) Slot.unset).toArray = ls at hl ⊢
  have hl : lv_has ls 2 [(0, .ref (e0)), (1, .int (p0))] := hl
  refine lv_iload_n hx hb dX5_rowOf_0 rfl (lv_at hl 1 rfl) ?_
  refine lv_iconst (v := 2) hx hb dX5_rowOf_1 (by decide) ?_
  refine lv_iushr (v := k_ush (p0) (2)) hx hb dX5_rowOf_2 rfl ?_
  refine lv_aload_n hx hb dX5_rowOf_3 rfl (lv_at hl 0 rfl) ?_
  refine va_get (D := D) (ci := 5) (v := .int (mh)) (C := RX5) (T := TX5) (N := 25) hx hb hts (fun w h => List.mem_cons_of_mem _ (hiX5 w h)) hown hK hP 0 rfl rfl 13 (by decide) kf77 (fun _ h9 => h9) rfl dX5_rowOf_4 ?_
  refine lv_ixor hx hb dX5_rowOf_7 ?_
  refine lv_aload_n hx hb dX5_rowOf_8 rfl (lv_at hl 0 rfl) ?_
  refine va_get (D := D) (ci := 5) (v := .int (mh)) (C := RX5) (T := TX5) (N := 25) hx hb hts (fun w h => List.mem_cons_of_mem _ (hiX5 w h)) hown hK hP 0 rfl rfl 13 (by decide) kf77 (fun _ h9 => h9) rfl dX5_rowOf_9 ?_
  refine lv_bipush (v := 6) hx hb dX5_rowOf_12 (by decide) ?_
  refine lv_ishr hx hb dX5_rowOf_14 ?_
  refine lv_ixor hx hb dX5_rowOf_15 ?_
  refine lv_aload_n hx hb dX5_rowOf_16 rfl (lv_at hl 0 rfl) ?_
  refine va_get (D := D) (ci := 5) (v := .int (mh)) (C := RX5) (T := TX5) (N := 25) hx hb hts (fun w h => List.mem_cons_of_mem _ (hiX5 w h)) hown hK hP 0 rfl rfl 13 (by decide) kf77 (fun _ h9 => h9) rfl dX5_rowOf_17 ?_
  refine lv_bipush (v := 12) hx hb dX5_rowOf_20 (by decide) ?_
  refine lv_ishr hx hb dX5_rowOf_22 ?_
  refine lv_ixor hx hb dX5_rowOf_23 ?_
  refine lv_aload_n hx hb dX5_rowOf_24 rfl (lv_at hl 0 rfl) ?_
  refine va_get (D := D) (ci := 5) (v := .int (mh)) (C := RX5) (T := TX5) (N := 25) hx hb hts (fun w h => List.mem_cons_of_mem _ (hiX5 w h)) hown hK hP 0 rfl rfl 13 (by decide) kf77 (fun _ h9 => h9) rfl dX5_rowOf_25 ?_
  refine lv_bipush (v := 18) hx hb dX5_rowOf_28 (by decide) ?_
  refine lv_ishr hx hb dX5_rowOf_30 ?_
  refine lv_ixor hx hb dX5_rowOf_31 ?_
  refine lv_bipush (v := 63) hx hb dX5_rowOf_32 (by decide) ?_
  refine lv_iand hx hb dX5_rowOf_34 ?_
  refine kt_i (y := nI (mf_ix mh p0)) (mf_ixl mh p0) ?_
  exact kr_i (rfl) hx hb hr hlocks hP hK hD hS (rfl) dX5_rowOf_35

set_option maxHeartbeats 4000000 in
set_option maxRecDepth 100000 in
/-- pop -/
theorem c_X5_pop (l : Launch) (D : va_G) (cI cJ cZ : ClassId) (sz : Nat) (e0 e1 e2 e3 e4 e5 e6 e7 e8 e9 e10 e11 e12 e13 : Nat) (S Wy sb L : Nat) (mhs mg mk mt mu : Fn) (tm : Int32) (rg rq : Fn) (mh : Int32) (mr : Fn) (md : Nat) (mv mz : Int32) (mp mo mw mx : Fn) (mn : Nat) (mcs : Fn) (ml mth : Int32) (hd : md ≤ L) (hL : L ≤ 16) : KV l yX5_pop wsX5_pop ({ frames := 0, cells := 0, slots := 0, locals := 0 } : Room) D (kTy cI cJ cZ) [.ref (e0)] [(e0, .inr (5, [.int (mth), .int (nI S), .int (nI Wy), .int (nI L), .int (nI sb), .ref (e1), .ref (e2), .ref (e3), .ref (e4), .ref (e5), .int (tm), .ref (e6), .ref (e7), .int (mh), .int (nI (md)), .ref (e8), .int (nI (mn)), .ref (e9), .ref (e10), .ref (e11), .ref (e12), .ref (e13), .int (mv), .int (mz), .int (ml)])), (e1, .inl (cZ, 64, .inl (mhs))), (e2, .inl (cI, 64, .inl (mg))), (e3, .inl (cI, 64, .inl (mk))), (e4, .inl (cI, 64, .inl (mt))), (e5, .inl (cI, 64, .inl (mu))), (e6, .inl (cI, 64, .inl (rg))), (e7, .inl (cI, 64, .inl (rq))), (e8, .inl (cI, 17, .inl (mr))), (e9, .inl (cI, 16, .inl (mp))), (e10, .inl (cI, 16, .inl (mo))), (e11, .inl (cI, 16, .inl (mw))), (e12, .inl (cI, 272, .inl (mx))), (e13, .inl (cI, 8, .inl (mcs)))] sz (wMo e0 e1 e2 e3 e4 e5 e6 e7 e8 e9 e10 e11 e12 e13 cI cZ S Wy sb L ((mhs, mg, mk, mt, mu, tm), (rg, rq, mh), rf_pop (mr, md, mv, mz), (mp, mo, mw, mx, mn), mcs, ml, mth)) 0 0 := by
  refine Met.ofW (cc := cX5_pop) (maxL := 1) (ret := none) (by decide) rfl ?_
  intro p e s m args below meth c s₁ B hml hv
  obtain ⟨rfl, hsz, hP, hK, hD0⟩ := hv
  have hx := B.exec
  have hb := B.bytes
  have hr := B.returns
  have hts := atoms_spec (ws := wsX5_pop) B.pre
  have hown : s.vm.findClass RX5 = some m.cls := findClass_of_methodNamed B.named
  have hlocks := B.notSynchronized
  have kf80 := hts (.fieldLink RX5 80 "TargetRowsModel" "deep" "I") (List.mem_cons_of_mem _ kw_527)
  have kf86 := hts (.fieldLink RX5 86 "TargetRowsModel" "underflows" "I") (List.mem_cons_of_mem _ kw_536)
  subst hsz
  have hD := hD0.self (sz := s.heap.size)
  generalize hAe : va_A [(e0, .inr (5, [.int (mth), .int (nI S), .int (nI Wy), .int (nI L), .int (nI sb), .ref (e1), .ref (e2), .ref (e3), .ref (e4), .ref (e5), .int (tm), .ref (e6), .ref (e7), .int (mh), .int (nI (md)), .ref (e8), .int (nI (mn)), .ref (e9), .ref (e10), .ref (e11), .ref (e12), .ref (e13), .int (mv), .int (mz), .int (ml)])), (e1, .inl (cZ, 64, .inl (mhs))), (e2, .inl (cI, 64, .inl (mg))), (e3, .inl (cI, 64, .inl (mk))), (e4, .inl (cI, 64, .inl (mt))), (e5, .inl (cI, 64, .inl (mu))), (e6, .inl (cI, 64, .inl (rg))), (e7, .inl (cI, 64, .inl (rq))), (e8, .inl (cI, 17, .inl (mr))), (e9, .inl (cI, 16, .inl (mp))), (e10, .inl (cI, 16, .inl (mo))), (e11, .inl (cI, 16, .inl (mw))), (e12, .inl (cI, 272, .inl (mx))), (e13, .inl (cI, 8, .inl (mcs)))] s.heap.size = A at hD ⊢
  have hA : ∀ q : Nat, s.heap.size ≤ q → A q := fun q h => by rw [← hAe]; exact Or.inr h
  have hS : va_S A s.heap s.heap [] := va_S.rf
  have hP : va_P D vwCl [(e0, .inr (5, [.int (mth), .int (nI S), .int (nI Wy), .int (nI L), .int (nI sb), .ref (e1), .ref (e2), .ref (e3), .ref (e4), .ref (e5), .int (tm), .ref (e6), .ref (e7), .int (mh), .int (nI (md)), .ref (e8), .int (nI (mn)), .ref (e9), .ref (e10), .ref (e11), .ref (e12), .ref (e13), .int (mv), .int (mz), .int (ml)])), (e1, .inl (cZ, 64, .inl (mhs))), (e2, .inl (cI, 64, .inl (mg))), (e3, .inl (cI, 64, .inl (mk))), (e4, .inl (cI, 64, .inl (mt))), (e5, .inl (cI, 64, .inl (mu))), (e6, .inl (cI, 64, .inl (rg))), (e7, .inl (cI, 64, .inl (rq))), (e8, .inl (cI, 17, .inl (mr))), (e9, .inl (cI, 16, .inl (mp))), (e10, .inl (cI, 16, .inl (mo))), (e11, .inl (cI, 16, .inl (mw))), (e12, .inl (cI, 272, .inl (mx))), (e13, .inl (cI, 8, .inl (mcs)))] s.heap := hP
  have hD : va_D A [(e0, .inr (5, [.int (mth), .int (nI S), .int (nI Wy), .int (nI L), .int (nI sb), .ref (e1), .ref (e2), .ref (e3), .ref (e4), .ref (e5), .int (tm), .ref (e6), .ref (e7), .int (mh), .int (nI (md)), .ref (e8), .int (nI (mn)), .ref (e9), .ref (e10), .ref (e11), .ref (e12), .ref (e13), .int (mv), .int (mz), .int (ml)])), (e1, .inl (cZ, 64, .inl (mhs))), (e2, .inl (cI, 64, .inl (mg))), (e3, .inl (cI, 64, .inl (mk))), (e4, .inl (cI, 64, .inl (mt))), (e5, .inl (cI, 64, .inl (mu))), (e6, .inl (cI, 64, .inl (rg))), (e7, .inl (cI, 64, .inl (rq))), (e8, .inl (cI, 17, .inl (mr))), (e9, .inl (cI, 16, .inl (mp))), (e10, .inl (cI, 16, .inl (mo))), (e11, .inl (cI, 16, .inl (mw))), (e12, .inl (cI, 272, .inl (mx))), (e13, .inl (cI, 8, .inl (mcs)))] := hD
  have hl := lv_entry ([.ref (e0)]) (n := 1) (Nat.le_of_ble_eq_true rfl)
  rw [lg_entry_eq]
  generalize (lg_sl ([.ref (e0)]) ++ List.replicate (1 - (lg_sl ([.ref (e0)])).length) Slot.unset).toArray = ls at hl ⊢
  have hl : lv_has ls 1 [(0, .ref (e0))] := hl
  refine lv_aload_n hx hb dX5_pop_0 rfl (lv_at hl 0 rfl) ?_
  refine va_get (D := D) (ci := 5) (v := .int (nI (md))) (C := RX5) (T := TX5) (N := 25) hx hb hts (fun w h => List.mem_cons_of_mem _ (hiX5 w h)) hown hK hP 0 rfl rfl 14 (by decide) kf80 (fun _ h9 => h9) rfl dX5_pop_1 ?_
  refine lv_if_ne (tgt := 20) hx hb dX5_pop_4 (by decide) (fun c_4 => ?_) (fun c_4 => ?_)
  ·
    have hd0 : md ≠ 0 := fun q => c_4 (by rw [q]; exact nI_0)
    refine lv_aload_n hx hb dX5_pop_20 rfl (lv_at hl 0 rfl) ?_
    refine lv_dup hx hb dX5_pop_21 rfl ?_
    refine va_get (D := D) (ci := 5) (v := .int (nI (md))) (C := RX5) (T := TX5) (N := 25) hx hb hts (fun w h => List.mem_cons_of_mem _ (hiX5 w h)) hown hK hP 0 rfl rfl 14 (by decide) kf80 (fun _ h9 => h9) rfl dX5_pop_22 ?_
    refine lv_iconst (v := 1) hx hb dX5_pop_25 (by decide) ?_
    refine lv_isub hx hb dX5_pop_26 ?_
    refine kt_i (y := nI (md - 1)) (pk_sub (b := 1) (by omega)) ?_
    refine va_put (D := D) (ci := 5) (v := .int (nI (md - 1))) (ty := .int) (C := RX5) (T := TX5) (N := 25) hx hb hts (fun w h => List.mem_cons_of_mem _ (hiX5 w h)) tyX5 tyX5_ok nmX5 hown hK hP hD hS 0 rfl rfl 14 (by decide) kf80 (fun _ h9 => h9) rfl (by decide +kernel) rfl rfl (Nat.le_of_ble_eq_true rfl) dX5_pop_27 (fun H locs hP hD hS => ?_)
    have hP : va_P D vwCl [(e0, .inr (5, [.int (mth), .int (nI S), .int (nI Wy), .int (nI L), .int (nI sb), .ref (e1), .ref (e2), .ref (e3), .ref (e4), .ref (e5), .int (tm), .ref (e6), .ref (e7), .int (mh), .int (nI (md - 1)), .ref (e8), .int (nI (mn)), .ref (e9), .ref (e10), .ref (e11), .ref (e12), .ref (e13), .int (mv), .int (mz), .int (ml)])), (e1, .inl (cZ, 64, .inl (mhs))), (e2, .inl (cI, 64, .inl (mg))), (e3, .inl (cI, 64, .inl (mk))), (e4, .inl (cI, 64, .inl (mt))), (e5, .inl (cI, 64, .inl (mu))), (e6, .inl (cI, 64, .inl (rg))), (e7, .inl (cI, 64, .inl (rq))), (e8, .inl (cI, 17, .inl (mr))), (e9, .inl (cI, 16, .inl (mp))), (e10, .inl (cI, 16, .inl (mo))), (e11, .inl (cI, 16, .inl (mw))), (e12, .inl (cI, 272, .inl (mx))), (e13, .inl (cI, 8, .inl (mcs)))] H := hP
    have hD : va_D A [(e0, .inr (5, [.int (mth), .int (nI S), .int (nI Wy), .int (nI L), .int (nI sb), .ref (e1), .ref (e2), .ref (e3), .ref (e4), .ref (e5), .int (tm), .ref (e6), .ref (e7), .int (mh), .int (nI (md - 1)), .ref (e8), .int (nI (mn)), .ref (e9), .ref (e10), .ref (e11), .ref (e12), .ref (e13), .int (mv), .int (mz), .int (ml)])), (e1, .inl (cZ, 64, .inl (mhs))), (e2, .inl (cI, 64, .inl (mg))), (e3, .inl (cI, 64, .inl (mk))), (e4, .inl (cI, 64, .inl (mt))), (e5, .inl (cI, 64, .inl (mu))), (e6, .inl (cI, 64, .inl (rg))), (e7, .inl (cI, 64, .inl (rq))), (e8, .inl (cI, 17, .inl (mr))), (e9, .inl (cI, 16, .inl (mp))), (e10, .inl (cI, 16, .inl (mo))), (e11, .inl (cI, 16, .inl (mw))), (e12, .inl (cI, 272, .inl (mx))), (e13, .inl (cI, 8, .inl (mcs)))] := hD
    exact kr_v (congrArg (wMo e0 e1 e2 e3 e4 e5 e6 e7 e8 e9 e10 e11 e12 e13 cI cZ S Wy sb L ) (show (((mhs, mg, mk, mt, mu, tm), (rg, rq, mh), (mr, md - 1, mv, mz), (mp, mo, mw, mx, mn), mcs, ml, mth) : Ms) = ((mhs, mg, mk, mt, mu, tm), (rg, rq, mh), rf_pop (mr, md, mv, mz), (mp, mo, mw, mx, mn), mcs, ml, mth) from by simp only [rf_pop, if_neg hd0])) hx hb hr hlocks hP hK hD hS trivial dX5_pop_30
  ·
    have hd0 : md = 0 := by
      rcases Nat.eq_zero_or_pos md with q | q
      · exact q
      · exact absurd c_4 (nI_ne0 q (by omega))
    refine lv_aload_n hx hb dX5_pop_7 rfl (lv_at hl 0 rfl) ?_
    refine lv_dup hx hb dX5_pop_8 rfl ?_
    refine va_get (D := D) (ci := 5) (v := .int (mz)) (C := RX5) (T := TX5) (N := 25) hx hb hts (fun w h => List.mem_cons_of_mem _ (hiX5 w h)) hown hK hP 0 rfl rfl 23 (by decide) kf86 (fun _ h9 => h9) rfl dX5_pop_9 ?_
    refine lv_iconst (v := 1) hx hb dX5_pop_12 (by decide) ?_
    refine lv_iadd hx hb dX5_pop_13 ?_
    refine va_put (D := D) (ci := 5) (v := .int ((mz) + (1))) (ty := .int) (C := RX5) (T := TX5) (N := 25) hx hb hts (fun w h => List.mem_cons_of_mem _ (hiX5 w h)) tyX5 tyX5_ok nmX5 hown hK hP hD hS 0 rfl rfl 23 (by decide) kf86 (fun _ h9 => h9) rfl (by decide +kernel) rfl rfl (Nat.le_of_ble_eq_true rfl) dX5_pop_14 (fun H locs hP hD hS => ?_)
    have hP : va_P D vwCl [(e0, .inr (5, [.int (mth), .int (nI S), .int (nI Wy), .int (nI L), .int (nI sb), .ref (e1), .ref (e2), .ref (e3), .ref (e4), .ref (e5), .int (tm), .ref (e6), .ref (e7), .int (mh), .int (nI (md)), .ref (e8), .int (nI (mn)), .ref (e9), .ref (e10), .ref (e11), .ref (e12), .ref (e13), .int (mv), .int ((mz) + (1)), .int (ml)])), (e1, .inl (cZ, 64, .inl (mhs))), (e2, .inl (cI, 64, .inl (mg))), (e3, .inl (cI, 64, .inl (mk))), (e4, .inl (cI, 64, .inl (mt))), (e5, .inl (cI, 64, .inl (mu))), (e6, .inl (cI, 64, .inl (rg))), (e7, .inl (cI, 64, .inl (rq))), (e8, .inl (cI, 17, .inl (mr))), (e9, .inl (cI, 16, .inl (mp))), (e10, .inl (cI, 16, .inl (mo))), (e11, .inl (cI, 16, .inl (mw))), (e12, .inl (cI, 272, .inl (mx))), (e13, .inl (cI, 8, .inl (mcs)))] H := hP
    have hD : va_D A [(e0, .inr (5, [.int (mth), .int (nI S), .int (nI Wy), .int (nI L), .int (nI sb), .ref (e1), .ref (e2), .ref (e3), .ref (e4), .ref (e5), .int (tm), .ref (e6), .ref (e7), .int (mh), .int (nI (md)), .ref (e8), .int (nI (mn)), .ref (e9), .ref (e10), .ref (e11), .ref (e12), .ref (e13), .int (mv), .int ((mz) + (1)), .int (ml)])), (e1, .inl (cZ, 64, .inl (mhs))), (e2, .inl (cI, 64, .inl (mg))), (e3, .inl (cI, 64, .inl (mk))), (e4, .inl (cI, 64, .inl (mt))), (e5, .inl (cI, 64, .inl (mu))), (e6, .inl (cI, 64, .inl (rg))), (e7, .inl (cI, 64, .inl (rq))), (e8, .inl (cI, 17, .inl (mr))), (e9, .inl (cI, 16, .inl (mp))), (e10, .inl (cI, 16, .inl (mo))), (e11, .inl (cI, 16, .inl (mw))), (e12, .inl (cI, 272, .inl (mx))), (e13, .inl (cI, 8, .inl (mcs)))] := hD
    refine lv_goto (tgt := 30) hx hb dX5_pop_17 (by decide) ?_
    exact kr_v (congrArg (wMo e0 e1 e2 e3 e4 e5 e6 e7 e8 e9 e10 e11 e12 e13 cI cZ S Wy sb L ) (show (((mhs, mg, mk, mt, mu, tm), (rg, rq, mh), (mr, md, mv, (mz) + (1)), (mp, mo, mw, mx, mn), mcs, ml, mth) : Ms) = ((mhs, mg, mk, mt, mu, tm), (rg, rq, mh), rf_pop (mr, md, mv, mz), (mp, mo, mw, mx, mn), mcs, ml, mth) from by simp only [rf_pop, if_pos hd0])) hx hb hr hlocks hP hK hD hS trivial dX5_pop_30

set_option maxHeartbeats 4000000 in
set_option maxRecDepth 100000 in
/-- push -/
theorem c_X5_push (l : Launch) (D : va_G) (cI cJ cZ : ClassId) (sz : Nat) (e0 e1 e2 e3 e4 e5 e6 e7 e8 e9 e10 e11 e12 e13 : Nat) (S Wy sb L : Nat) (mhs mg mk mt mu : Fn) (tm : Int32) (rg rq : Fn) (mh : Int32) (mr : Fn) (md : Nat) (mv mz : Int32) (mp mo mw mx : Fn) (mn : Nat) (mcs : Fn) (ml mth : Int32) (p0 : Int32) (hd : md ≤ L) (hL : L ≤ 16) : KV l yX5_push wsX5_push ({ frames := 0, cells := 0, slots := 0, locals := 0 } : Room) D (kTy cI cJ cZ) [.ref (e0), .int (p0)] [(e0, .inr (5, [.int (mth), .int (nI S), .int (nI Wy), .int (nI L), .int (nI sb), .ref (e1), .ref (e2), .ref (e3), .ref (e4), .ref (e5), .int (tm), .ref (e6), .ref (e7), .int (mh), .int (nI (md)), .ref (e8), .int (nI (mn)), .ref (e9), .ref (e10), .ref (e11), .ref (e12), .ref (e13), .int (mv), .int (mz), .int (ml)])), (e1, .inl (cZ, 64, .inl (mhs))), (e2, .inl (cI, 64, .inl (mg))), (e3, .inl (cI, 64, .inl (mk))), (e4, .inl (cI, 64, .inl (mt))), (e5, .inl (cI, 64, .inl (mu))), (e6, .inl (cI, 64, .inl (rg))), (e7, .inl (cI, 64, .inl (rq))), (e8, .inl (cI, 17, .inl (mr))), (e9, .inl (cI, 16, .inl (mp))), (e10, .inl (cI, 16, .inl (mo))), (e11, .inl (cI, 16, .inl (mw))), (e12, .inl (cI, 272, .inl (mx))), (e13, .inl (cI, 8, .inl (mcs)))] sz (wMo e0 e1 e2 e3 e4 e5 e6 e7 e8 e9 e10 e11 e12 e13 cI cZ S Wy sb L ((mhs, mg, mk, mt, mu, tm), (rg, rq, mh), mf_push L (mr, md, mv, mz) p0, (mp, mo, mw, mx, mn), mcs, ml, mth)) 0 0 := by
  refine Met.ofW (cc := cX5_push) (maxL := 3) (ret := none) (by decide) rfl ?_
  intro p e s m args below meth c s₁ B hml hv
  obtain ⟨rfl, hsz, hP, hK, hD0⟩ := hv
  have hx := B.exec
  have hb := B.bytes
  have hr := B.returns
  have hts := atoms_spec (ws := wsX5_push) B.pre
  have hown : s.vm.findClass RX5 = some m.cls := findClass_of_methodNamed B.named
  have hlocks := B.notSynchronized
  have kf32 := hts (.fieldLink RX5 32 "TargetRowsModel" "ring" "[I") (List.mem_cons_of_mem _ kw_528)
  have kf64 := hts (.fieldLink RX5 64 "TargetRowsModel" "room" "I") (List.mem_cons_of_mem _ kw_516)
  have kf80 := hts (.fieldLink RX5 80 "TargetRowsModel" "deep" "I") (List.mem_cons_of_mem _ kw_527)
  have kf83 := hts (.fieldLink RX5 83 "TargetRowsModel" "overflows" "I") (List.mem_cons_of_mem _ kw_535)
  subst hsz
  have hD := hD0.self (sz := s.heap.size)
  generalize hAe : va_A [(e0, .inr (5, [.int (mth), .int (nI S), .int (nI Wy), .int (nI L), .int (nI sb), .ref (e1), .ref (e2), .ref (e3), .ref (e4), .ref (e5), .int (tm), .ref (e6), .ref (e7), .int (mh), .int (nI (md)), .ref (e8), .int (nI (mn)), .ref (e9), .ref (e10), .ref (e11), .ref (e12), .ref (e13), .int (mv), .int (mz), .int (ml)])), (e1, .inl (cZ, 64, .inl (mhs))), (e2, .inl (cI, 64, .inl (mg))), (e3, .inl (cI, 64, .inl (mk))), (e4, .inl (cI, 64, .inl (mt))), (e5, .inl (cI, 64, .inl (mu))), (e6, .inl (cI, 64, .inl (rg))), (e7, .inl (cI, 64, .inl (rq))), (e8, .inl (cI, 17, .inl (mr))), (e9, .inl (cI, 16, .inl (mp))), (e10, .inl (cI, 16, .inl (mo))), (e11, .inl (cI, 16, .inl (mw))), (e12, .inl (cI, 272, .inl (mx))), (e13, .inl (cI, 8, .inl (mcs)))] s.heap.size = A at hD ⊢
  have hA : ∀ q : Nat, s.heap.size ≤ q → A q := fun q h => by rw [← hAe]; exact Or.inr h
  have hS : va_S A s.heap s.heap [] := va_S.rf
  have hP : va_P D vwCl [(e0, .inr (5, [.int (mth), .int (nI S), .int (nI Wy), .int (nI L), .int (nI sb), .ref (e1), .ref (e2), .ref (e3), .ref (e4), .ref (e5), .int (tm), .ref (e6), .ref (e7), .int (mh), .int (nI (md)), .ref (e8), .int (nI (mn)), .ref (e9), .ref (e10), .ref (e11), .ref (e12), .ref (e13), .int (mv), .int (mz), .int (ml)])), (e1, .inl (cZ, 64, .inl (mhs))), (e2, .inl (cI, 64, .inl (mg))), (e3, .inl (cI, 64, .inl (mk))), (e4, .inl (cI, 64, .inl (mt))), (e5, .inl (cI, 64, .inl (mu))), (e6, .inl (cI, 64, .inl (rg))), (e7, .inl (cI, 64, .inl (rq))), (e8, .inl (cI, 17, .inl (mr))), (e9, .inl (cI, 16, .inl (mp))), (e10, .inl (cI, 16, .inl (mo))), (e11, .inl (cI, 16, .inl (mw))), (e12, .inl (cI, 272, .inl (mx))), (e13, .inl (cI, 8, .inl (mcs)))] s.heap := hP
  have hD : va_D A [(e0, .inr (5, [.int (mth), .int (nI S), .int (nI Wy), .int (nI L), .int (nI sb), .ref (e1), .ref (e2), .ref (e3), .ref (e4), .ref (e5), .int (tm), .ref (e6), .ref (e7), .int (mh), .int (nI (md)), .ref (e8), .int (nI (mn)), .ref (e9), .ref (e10), .ref (e11), .ref (e12), .ref (e13), .int (mv), .int (mz), .int (ml)])), (e1, .inl (cZ, 64, .inl (mhs))), (e2, .inl (cI, 64, .inl (mg))), (e3, .inl (cI, 64, .inl (mk))), (e4, .inl (cI, 64, .inl (mt))), (e5, .inl (cI, 64, .inl (mu))), (e6, .inl (cI, 64, .inl (rg))), (e7, .inl (cI, 64, .inl (rq))), (e8, .inl (cI, 17, .inl (mr))), (e9, .inl (cI, 16, .inl (mp))), (e10, .inl (cI, 16, .inl (mo))), (e11, .inl (cI, 16, .inl (mw))), (e12, .inl (cI, 272, .inl (mx))), (e13, .inl (cI, 8, .inl (mcs)))] := hD
  have hl := lv_entry ([.ref (e0), .int (p0)]) (n := 3) (Nat.le_of_ble_eq_true rfl)
  rw [lg_entry_eq]
  generalize (lg_sl ([.ref (e0), .int (p0)]) ++ List.replicate (3 - (lg_sl ([.ref (e0), .int (p0)])).length) Slot.unset).toArray = ls at hl ⊢
  have hl : lv_has ls 3 [(0, .ref (e0)), (1, .int (p0))] := hl
  refine lv_aload_n hx hb dX5_push_0 rfl (lv_at hl 0 rfl) ?_
  refine va_get (D := D) (ci := 5) (v := .int (nI (md))) (C := RX5) (T := TX5) (N := 25) hx hb hts (fun w h => List.mem_cons_of_mem _ (hiX5 w h)) hown hK hP 0 rfl rfl 14 (by decide) kf80 (fun _ h9 => h9) rfl dX5_push_1 ?_
  refine lv_aload_n hx hb dX5_push_4 rfl (lv_at hl 0 rfl) ?_
  refine va_get (D := D) (ci := 5) (v := .int (nI L)) (C := RX5) (T := TX5) (N := 25) hx hb hts (fun w h => List.mem_cons_of_mem _ (hiX5 w h)) hown hK hP 0 rfl rfl 3 (by decide) kf64 (fun _ h9 => h9) rfl dX5_push_5 ?_
  refine lv_icmp_ne (tgt := 73) hx hb dX5_push_8 (by decide) (fun c_8 => ?_) (fun c_8 => ?_)
  ·
    have hne : md ≠ L := fun q => c_8 (by rw [q])
    refine lv_aload_n hx hb dX5_push_73 rfl (lv_at hl 0 rfl) ?_
    refine va_get (D := D) (ci := 5) (v := .ref (e8)) (C := RX5) (T := TX5) (N := 25) hx hb hts (fun w h => List.mem_cons_of_mem _ (hiX5 w h)) hown hK hP 0 rfl rfl 15 (by decide) kf32 (fun _ h9 => h9) rfl dX5_push_74 ?_
    refine lv_aload_n hx hb dX5_push_77 rfl (lv_at hl 0 rfl) ?_
    refine va_get (D := D) (ci := 5) (v := .int (nI (md))) (C := RX5) (T := TX5) (N := 25) hx hb hts (fun w h => List.mem_cons_of_mem _ (hiX5 w h)) hown hK hP 0 rfl rfl 14 (by decide) kf80 (fun _ h9 => h9) rfl dX5_push_78 ?_
    refine lv_iload_n hx hb dX5_push_81 rfl (lv_at hl 1 rfl) ?_
    refine ka_ist hx hb hK hP hD hS 8 0 rfl rfl (k := md) (rfl) (⟨by omega, by decide⟩) dX5_push_82 (fun H locs hP hD hS => ?_)
    have hP : va_P D vwCl [(e0, .inr (5, [.int (mth), .int (nI S), .int (nI Wy), .int (nI L), .int (nI sb), .ref (e1), .ref (e2), .ref (e3), .ref (e4), .ref (e5), .int (tm), .ref (e6), .ref (e7), .int (mh), .int (nI (md)), .ref (e8), .int (nI (mn)), .ref (e9), .ref (e10), .ref (e11), .ref (e12), .ref (e13), .int (mv), .int (mz), .int (ml)])), (e1, .inl (cZ, 64, .inl (mhs))), (e2, .inl (cI, 64, .inl (mg))), (e3, .inl (cI, 64, .inl (mk))), (e4, .inl (cI, 64, .inl (mt))), (e5, .inl (cI, 64, .inl (mu))), (e6, .inl (cI, 64, .inl (rg))), (e7, .inl (cI, 64, .inl (rq))), (e8, .inl (cI, 17, .inl (upd (mr) (md) (p0)))), (e9, .inl (cI, 16, .inl (mp))), (e10, .inl (cI, 16, .inl (mo))), (e11, .inl (cI, 16, .inl (mw))), (e12, .inl (cI, 272, .inl (mx))), (e13, .inl (cI, 8, .inl (mcs)))] H := hP
    have hD : va_D A [(e0, .inr (5, [.int (mth), .int (nI S), .int (nI Wy), .int (nI L), .int (nI sb), .ref (e1), .ref (e2), .ref (e3), .ref (e4), .ref (e5), .int (tm), .ref (e6), .ref (e7), .int (mh), .int (nI (md)), .ref (e8), .int (nI (mn)), .ref (e9), .ref (e10), .ref (e11), .ref (e12), .ref (e13), .int (mv), .int (mz), .int (ml)])), (e1, .inl (cZ, 64, .inl (mhs))), (e2, .inl (cI, 64, .inl (mg))), (e3, .inl (cI, 64, .inl (mk))), (e4, .inl (cI, 64, .inl (mt))), (e5, .inl (cI, 64, .inl (mu))), (e6, .inl (cI, 64, .inl (rg))), (e7, .inl (cI, 64, .inl (rq))), (e8, .inl (cI, 17, .inl (upd (mr) (md) (p0)))), (e9, .inl (cI, 16, .inl (mp))), (e10, .inl (cI, 16, .inl (mo))), (e11, .inl (cI, 16, .inl (mw))), (e12, .inl (cI, 272, .inl (mx))), (e13, .inl (cI, 8, .inl (mcs)))] := hD
    refine lv_aload_n hx hb dX5_push_83 rfl (lv_at hl 0 rfl) ?_
    refine lv_dup hx hb dX5_push_84 rfl ?_
    refine va_get (D := D) (ci := 5) (v := .int (nI (md))) (C := RX5) (T := TX5) (N := 25) hx hb hts (fun w h => List.mem_cons_of_mem _ (hiX5 w h)) hown hK hP 0 rfl rfl 14 (by decide) kf80 (fun _ h9 => h9) rfl dX5_push_85 ?_
    refine lv_iconst (v := 1) hx hb dX5_push_88 (by decide) ?_
    refine lv_iadd hx hb dX5_push_89 ?_
    refine kt_i (y := nI (md + 1)) (nI_1 _) ?_
    refine va_put (D := D) (ci := 5) (v := .int (nI (md + 1))) (ty := .int) (C := RX5) (T := TX5) (N := 25) hx hb hts (fun w h => List.mem_cons_of_mem _ (hiX5 w h)) tyX5 tyX5_ok nmX5 hown hK hP hD hS 0 rfl rfl 14 (by decide) kf80 (fun _ h9 => h9) rfl (by decide +kernel) rfl rfl (Nat.le_of_ble_eq_true rfl) dX5_push_90 (fun H locs hP hD hS => ?_)
    have hP : va_P D vwCl [(e0, .inr (5, [.int (mth), .int (nI S), .int (nI Wy), .int (nI L), .int (nI sb), .ref (e1), .ref (e2), .ref (e3), .ref (e4), .ref (e5), .int (tm), .ref (e6), .ref (e7), .int (mh), .int (nI (md + 1)), .ref (e8), .int (nI (mn)), .ref (e9), .ref (e10), .ref (e11), .ref (e12), .ref (e13), .int (mv), .int (mz), .int (ml)])), (e1, .inl (cZ, 64, .inl (mhs))), (e2, .inl (cI, 64, .inl (mg))), (e3, .inl (cI, 64, .inl (mk))), (e4, .inl (cI, 64, .inl (mt))), (e5, .inl (cI, 64, .inl (mu))), (e6, .inl (cI, 64, .inl (rg))), (e7, .inl (cI, 64, .inl (rq))), (e8, .inl (cI, 17, .inl (upd (mr) (md) (p0)))), (e9, .inl (cI, 16, .inl (mp))), (e10, .inl (cI, 16, .inl (mo))), (e11, .inl (cI, 16, .inl (mw))), (e12, .inl (cI, 272, .inl (mx))), (e13, .inl (cI, 8, .inl (mcs)))] H := hP
    have hD : va_D A [(e0, .inr (5, [.int (mth), .int (nI S), .int (nI Wy), .int (nI L), .int (nI sb), .ref (e1), .ref (e2), .ref (e3), .ref (e4), .ref (e5), .int (tm), .ref (e6), .ref (e7), .int (mh), .int (nI (md + 1)), .ref (e8), .int (nI (mn)), .ref (e9), .ref (e10), .ref (e11), .ref (e12), .ref (e13), .int (mv), .int (mz), .int (ml)])), (e1, .inl (cZ, 64, .inl (mhs))), (e2, .inl (cI, 64, .inl (mg))), (e3, .inl (cI, 64, .inl (mk))), (e4, .inl (cI, 64, .inl (mt))), (e5, .inl (cI, 64, .inl (mu))), (e6, .inl (cI, 64, .inl (rg))), (e7, .inl (cI, 64, .inl (rq))), (e8, .inl (cI, 17, .inl (upd (mr) (md) (p0)))), (e9, .inl (cI, 16, .inl (mp))), (e10, .inl (cI, 16, .inl (mo))), (e11, .inl (cI, 16, .inl (mw))), (e12, .inl (cI, 272, .inl (mx))), (e13, .inl (cI, 8, .inl (mcs)))] := hD
    exact kr_v (congrArg (wMo e0 e1 e2 e3 e4 e5 e6 e7 e8 e9 e10 e11 e12 e13 cI cZ S Wy sb L ) (show (((mhs, mg, mk, mt, mu, tm), (rg, rq, mh), (upd (mr) (md) (p0), md + 1, mv, mz), (mp, mo, mw, mx, mn), mcs, ml, mth) : Ms) = ((mhs, mg, mk, mt, mu, tm), (rg, rq, mh), mf_push L (mr, md, mv, mz) p0, (mp, mo, mw, mx, mn), mcs, ml, mth) from by simp only [mf_push, if_neg hne])) hx hb hr hlocks hP hK hD hS trivial dX5_push_93
  ·
    have heq : md = L := (nI_eq (by omega) (by omega)).mp c_8
    refine lv_aload_n hx hb dX5_push_11 rfl (lv_at hl 0 rfl) ?_
    refine lv_dup hx hb dX5_push_12 rfl ?_
    refine va_get (D := D) (ci := 5) (v := .int (mv)) (C := RX5) (T := TX5) (N := 25) hx hb hts (fun w h => List.mem_cons_of_mem _ (hiX5 w h)) hown hK hP 0 rfl rfl 22 (by decide) kf83 (fun _ h9 => h9) rfl dX5_push_13 ?_
    refine lv_iconst (v := 1) hx hb dX5_push_16 (by decide) ?_
    refine lv_iadd hx hb dX5_push_17 ?_
    refine va_put (D := D) (ci := 5) (v := .int ((mv) + (1))) (ty := .int) (C := RX5) (T := TX5) (N := 25) hx hb hts (fun w h => List.mem_cons_of_mem _ (hiX5 w h)) tyX5 tyX5_ok nmX5 hown hK hP hD hS 0 rfl rfl 22 (by decide) kf83 (fun _ h9 => h9) rfl (by decide +kernel) rfl rfl (Nat.le_of_ble_eq_true rfl) dX5_push_18 (fun H locs hP hD hS => ?_)
    have hP : va_P D vwCl [(e0, .inr (5, [.int (mth), .int (nI S), .int (nI Wy), .int (nI L), .int (nI sb), .ref (e1), .ref (e2), .ref (e3), .ref (e4), .ref (e5), .int (tm), .ref (e6), .ref (e7), .int (mh), .int (nI (md)), .ref (e8), .int (nI (mn)), .ref (e9), .ref (e10), .ref (e11), .ref (e12), .ref (e13), .int ((mv) + (1)), .int (mz), .int (ml)])), (e1, .inl (cZ, 64, .inl (mhs))), (e2, .inl (cI, 64, .inl (mg))), (e3, .inl (cI, 64, .inl (mk))), (e4, .inl (cI, 64, .inl (mt))), (e5, .inl (cI, 64, .inl (mu))), (e6, .inl (cI, 64, .inl (rg))), (e7, .inl (cI, 64, .inl (rq))), (e8, .inl (cI, 17, .inl (mr))), (e9, .inl (cI, 16, .inl (mp))), (e10, .inl (cI, 16, .inl (mo))), (e11, .inl (cI, 16, .inl (mw))), (e12, .inl (cI, 272, .inl (mx))), (e13, .inl (cI, 8, .inl (mcs)))] H := hP
    have hD : va_D A [(e0, .inr (5, [.int (mth), .int (nI S), .int (nI Wy), .int (nI L), .int (nI sb), .ref (e1), .ref (e2), .ref (e3), .ref (e4), .ref (e5), .int (tm), .ref (e6), .ref (e7), .int (mh), .int (nI (md)), .ref (e8), .int (nI (mn)), .ref (e9), .ref (e10), .ref (e11), .ref (e12), .ref (e13), .int ((mv) + (1)), .int (mz), .int (ml)])), (e1, .inl (cZ, 64, .inl (mhs))), (e2, .inl (cI, 64, .inl (mg))), (e3, .inl (cI, 64, .inl (mk))), (e4, .inl (cI, 64, .inl (mt))), (e5, .inl (cI, 64, .inl (mu))), (e6, .inl (cI, 64, .inl (rg))), (e7, .inl (cI, 64, .inl (rq))), (e8, .inl (cI, 17, .inl (mr))), (e9, .inl (cI, 16, .inl (mp))), (e10, .inl (cI, 16, .inl (mo))), (e11, .inl (cI, 16, .inl (mw))), (e12, .inl (cI, 272, .inl (mx))), (e13, .inl (cI, 8, .inl (mcs)))] := hD
    refine lv_iconst (v := 0) hx hb dX5_push_21 (by decide) ?_
    refine kt_i (y := nI 0) (rfl) ?_
    refine lv_istore_n (lv' := [(2, .int (nI 0)), (0, .ref (e0)), (1, .int (p0))]) hx hb dX5_push_22 rfl hl (by decide) rfl (fun ls hl => ?_)
    refine kloop (nL := 3) (I := fun n w lv => ∃ (f : Fn) (k : Nat), w = [(e0, .inr (5, [.int (mth), .int (nI S), .int (nI Wy), .int (nI L), .int (nI sb), .ref (e1), .ref (e2), .ref (e3), .ref (e4), .ref (e5), .int (tm), .ref (e6), .ref (e7), .int (mh), .int (nI (md)), .ref (e8), .int (nI (mn)), .ref (e9), .ref (e10), .ref (e11), .ref (e12), .ref (e13), .int ((mv) + (1)), .int (mz), .int (ml)])), (e1, .inl (cZ, 64, .inl (mhs))), (e2, .inl (cI, 64, .inl (mg))), (e3, .inl (cI, 64, .inl (mk))), (e4, .inl (cI, 64, .inl (mt))), (e5, .inl (cI, 64, .inl (mu))), (e6, .inl (cI, 64, .inl (rg))), (e7, .inl (cI, 64, .inl (rq))), (e8, .inl (cI, 17, .inl (f))), (e9, .inl (cI, 16, .inl (mp))), (e10, .inl (cI, 16, .inl (mo))), (e11, .inl (cI, 16, .inl (mw))), (e12, .inl (cI, 272, .inl (mx))), (e13, .inl (cI, 8, .inl (mcs)))] ∧ lv = [(0, .ref (e0)), (1, .int (p0)), (2, .int (nI k))] ∧ mf_sh f k n = mf_sh mr 0 (md - 1) ∧ k + n = md - 1) (fun n w lv H locs ls hI hP hD hS hl ih => ?_) (md - 1) _ _ _ _ _ ⟨mr, 0, rfl, rfl, rfl, by omega⟩ hP hD hS (lv_sub hl [1, 2, 0] rfl)
    obtain ⟨f, k, rfl, rfl, hinv, hk⟩ := hI
    rcases n with _ | n
    ·
      refine lv_iload_n hx hb dX5_push_23 rfl (lv_at hl 2 rfl) ?_
      refine lv_iconst (v := 1) hx hb dX5_push_24 (by decide) ?_
      refine lv_iadd hx hb dX5_push_25 ?_
      refine kt_i (y := nI (k + 1)) (nI_1 _) ?_
      refine lv_aload_n hx hb dX5_push_26 rfl (lv_at hl 0 rfl) ?_
      refine va_get (D := D) (ci := 5) (v := .int (nI (md))) (C := RX5) (T := TX5) (N := 25) hx hb hts (fun w h => List.mem_cons_of_mem _ (hiX5 w h)) hown hK hP 0 rfl rfl 14 (by decide) kf80 (fun _ h9 => h9) rfl dX5_push_27 ?_
      refine lv_icmp_ge (tgt := 53) hx hb dX5_push_30 (by decide) (fun c_30 => ?_) (fun c_30 => absurd (nI_le (by omega) (by omega)) c_30)
      have hf : f = mf_sh mr 0 (md - 1) := hinv
      subst hf
      refine lv_aload_n hx hb dX5_push_53 rfl (lv_at hl 0 rfl) ?_
      refine va_get (D := D) (ci := 5) (v := .int (nI L)) (C := RX5) (T := TX5) (N := 25) hx hb hts (fun w h => List.mem_cons_of_mem _ (hiX5 w h)) hown hK hP 0 rfl rfl 3 (by decide) kf64 (fun _ h9 => h9) rfl dX5_push_54 ?_
      refine lv_if_le (tgt := 72) hx hb dX5_push_57 (by decide) (fun c_57 => ?_) (fun c_57 => ?_)
      ·
        have hL0 : L = 0 := by
          rcases Nat.eq_zero_or_pos L with q | q
          · exact q
          · exact absurd c_57 (nI_nle q (by omega))
        exact kr_v (congrArg (wMo e0 e1 e2 e3 e4 e5 e6 e7 e8 e9 e10 e11 e12 e13 cI cZ S Wy sb L ) (show (((mhs, mg, mk, mt, mu, tm), (rg, rq, mh), (mf_sh mr 0 (md - 1), md, (mv) + (1), mz), (mp, mo, mw, mx, mn), mcs, ml, mth) : Ms) = ((mhs, mg, mk, mt, mu, tm), (rg, rq, mh), mf_push L (mr, md, mv, mz) p0, (mp, mo, mw, mx, mn), mcs, ml, mth) from by simp only [mf_push, if_pos heq, if_pos hL0])) hx hb hr hlocks hP hK hD hS trivial dX5_push_72
      ·
        have hL0 : L ≠ 0 := fun q => c_57 (by rw [q]; decide)
        refine lv_aload_n hx hb dX5_push_60 rfl (lv_at hl 0 rfl) ?_
        refine va_get (D := D) (ci := 5) (v := .ref (e8)) (C := RX5) (T := TX5) (N := 25) hx hb hts (fun w h => List.mem_cons_of_mem _ (hiX5 w h)) hown hK hP 0 rfl rfl 15 (by decide) kf32 (fun _ h9 => h9) rfl dX5_push_61 ?_
        refine lv_aload_n hx hb dX5_push_64 rfl (lv_at hl 0 rfl) ?_
        refine va_get (D := D) (ci := 5) (v := .int (nI (md))) (C := RX5) (T := TX5) (N := 25) hx hb hts (fun w h => List.mem_cons_of_mem _ (hiX5 w h)) hown hK hP 0 rfl rfl 14 (by decide) kf80 (fun _ h9 => h9) rfl dX5_push_65 ?_
        refine lv_iconst (v := 1) hx hb dX5_push_68 (by decide) ?_
        refine lv_isub hx hb dX5_push_69 ?_
        refine kt_i (y := nI (md - 1)) (pk_sub (b := 1) (by omega)) ?_
        refine lv_iload_n hx hb dX5_push_70 rfl (lv_at hl 1 rfl) ?_
        refine ka_ist hx hb hK hP hD hS 8 0 rfl rfl (k := md - 1) (rfl) (⟨by omega, by decide⟩) dX5_push_71 (fun H locs hP hD hS => ?_)
        have hP : va_P D vwCl [(e0, .inr (5, [.int (mth), .int (nI S), .int (nI Wy), .int (nI L), .int (nI sb), .ref (e1), .ref (e2), .ref (e3), .ref (e4), .ref (e5), .int (tm), .ref (e6), .ref (e7), .int (mh), .int (nI (md)), .ref (e8), .int (nI (mn)), .ref (e9), .ref (e10), .ref (e11), .ref (e12), .ref (e13), .int ((mv) + (1)), .int (mz), .int (ml)])), (e1, .inl (cZ, 64, .inl (mhs))), (e2, .inl (cI, 64, .inl (mg))), (e3, .inl (cI, 64, .inl (mk))), (e4, .inl (cI, 64, .inl (mt))), (e5, .inl (cI, 64, .inl (mu))), (e6, .inl (cI, 64, .inl (rg))), (e7, .inl (cI, 64, .inl (rq))), (e8, .inl (cI, 17, .inl (upd (mf_sh mr 0 (md - 1)) (md - 1) (p0)))), (e9, .inl (cI, 16, .inl (mp))), (e10, .inl (cI, 16, .inl (mo))), (e11, .inl (cI, 16, .inl (mw))), (e12, .inl (cI, 272, .inl (mx))), (e13, .inl (cI, 8, .inl (mcs)))] H := hP
        have hD : va_D A [(e0, .inr (5, [.int (mth), .int (nI S), .int (nI Wy), .int (nI L), .int (nI sb), .ref (e1), .ref (e2), .ref (e3), .ref (e4), .ref (e5), .int (tm), .ref (e6), .ref (e7), .int (mh), .int (nI (md)), .ref (e8), .int (nI (mn)), .ref (e9), .ref (e10), .ref (e11), .ref (e12), .ref (e13), .int ((mv) + (1)), .int (mz), .int (ml)])), (e1, .inl (cZ, 64, .inl (mhs))), (e2, .inl (cI, 64, .inl (mg))), (e3, .inl (cI, 64, .inl (mk))), (e4, .inl (cI, 64, .inl (mt))), (e5, .inl (cI, 64, .inl (mu))), (e6, .inl (cI, 64, .inl (rg))), (e7, .inl (cI, 64, .inl (rq))), (e8, .inl (cI, 17, .inl (upd (mf_sh mr 0 (md - 1)) (md - 1) (p0)))), (e9, .inl (cI, 16, .inl (mp))), (e10, .inl (cI, 16, .inl (mo))), (e11, .inl (cI, 16, .inl (mw))), (e12, .inl (cI, 272, .inl (mx))), (e13, .inl (cI, 8, .inl (mcs)))] := hD
        exact kr_v (congrArg (wMo e0 e1 e2 e3 e4 e5 e6 e7 e8 e9 e10 e11 e12 e13 cI cZ S Wy sb L ) (show (((mhs, mg, mk, mt, mu, tm), (rg, rq, mh), (upd (mf_sh mr 0 (md - 1)) (md - 1) (p0), md, (mv) + (1), mz), (mp, mo, mw, mx, mn), mcs, ml, mth) : Ms) = ((mhs, mg, mk, mt, mu, tm), (rg, rq, mh), mf_push L (mr, md, mv, mz) p0, (mp, mo, mw, mx, mn), mcs, ml, mth) from by simp only [mf_push, if_pos heq, if_neg hL0])) hx hb hr hlocks hP hK hD hS trivial dX5_push_72
    ·
      refine lv_iload_n hx hb dX5_push_23 rfl (lv_at hl 2 rfl) ?_
      refine lv_iconst (v := 1) hx hb dX5_push_24 (by decide) ?_
      refine lv_iadd hx hb dX5_push_25 ?_
      refine kt_i (y := nI (k + 1)) (nI_1 _) ?_
      refine lv_aload_n hx hb dX5_push_26 rfl (lv_at hl 0 rfl) ?_
      refine va_get (D := D) (ci := 5) (v := .int (nI (md))) (C := RX5) (T := TX5) (N := 25) hx hb hts (fun w h => List.mem_cons_of_mem _ (hiX5 w h)) hown hK hP 0 rfl rfl 14 (by decide) kf80 (fun _ h9 => h9) rfl dX5_push_27 ?_
      refine lv_icmp_ge (tgt := 53) hx hb dX5_push_30 (by decide) (fun c_30 => absurd c_30 (nI_ge (by omega) (by omega))) (fun c_30 => ?_)
      refine lv_aload_n hx hb dX5_push_33 rfl (lv_at hl 0 rfl) ?_
      refine va_get (D := D) (ci := 5) (v := .ref (e8)) (C := RX5) (T := TX5) (N := 25) hx hb hts (fun w h => List.mem_cons_of_mem _ (hiX5 w h)) hown hK hP 0 rfl rfl 15 (by decide) kf32 (fun _ h9 => h9) rfl dX5_push_34 ?_
      refine lv_iload_n hx hb dX5_push_37 rfl (lv_at hl 2 rfl) ?_
      refine lv_aload_n hx hb dX5_push_38 rfl (lv_at hl 0 rfl) ?_
      refine va_get (D := D) (ci := 5) (v := .ref (e8)) (C := RX5) (T := TX5) (N := 25) hx hb hts (fun w h => List.mem_cons_of_mem _ (hiX5 w h)) hown hK hP 0 rfl rfl 15 (by decide) kf32 (fun _ h9 => h9) rfl dX5_push_39 ?_
      refine lv_iload_n hx hb dX5_push_42 rfl (lv_at hl 2 rfl) ?_
      refine lv_iconst (v := 1) hx hb dX5_push_43 (by decide) ?_
      refine lv_iadd hx hb dX5_push_44 ?_
      refine kt_i (y := nI (k + 1)) (nI_1 _) ?_
      refine ka_ild hx hb hK hP 8 0 rfl rfl (k := k + 1) (rfl) (⟨by omega, by decide⟩) dX5_push_45 ?_
      refine ka_ist hx hb hK hP hD hS 8 0 rfl rfl (k := k) (rfl) (⟨by omega, by decide⟩) dX5_push_46 (fun H locs hP hD hS => ?_)
      have hP : va_P D vwCl [(e0, .inr (5, [.int (mth), .int (nI S), .int (nI Wy), .int (nI L), .int (nI sb), .ref (e1), .ref (e2), .ref (e3), .ref (e4), .ref (e5), .int (tm), .ref (e6), .ref (e7), .int (mh), .int (nI (md)), .ref (e8), .int (nI (mn)), .ref (e9), .ref (e10), .ref (e11), .ref (e12), .ref (e13), .int ((mv) + (1)), .int (mz), .int (ml)])), (e1, .inl (cZ, 64, .inl (mhs))), (e2, .inl (cI, 64, .inl (mg))), (e3, .inl (cI, 64, .inl (mk))), (e4, .inl (cI, 64, .inl (mt))), (e5, .inl (cI, 64, .inl (mu))), (e6, .inl (cI, 64, .inl (rg))), (e7, .inl (cI, 64, .inl (rq))), (e8, .inl (cI, 17, .inl (upd (f) (k) ((f) (k + 1))))), (e9, .inl (cI, 16, .inl (mp))), (e10, .inl (cI, 16, .inl (mo))), (e11, .inl (cI, 16, .inl (mw))), (e12, .inl (cI, 272, .inl (mx))), (e13, .inl (cI, 8, .inl (mcs)))] H := hP
      have hD : va_D A [(e0, .inr (5, [.int (mth), .int (nI S), .int (nI Wy), .int (nI L), .int (nI sb), .ref (e1), .ref (e2), .ref (e3), .ref (e4), .ref (e5), .int (tm), .ref (e6), .ref (e7), .int (mh), .int (nI (md)), .ref (e8), .int (nI (mn)), .ref (e9), .ref (e10), .ref (e11), .ref (e12), .ref (e13), .int ((mv) + (1)), .int (mz), .int (ml)])), (e1, .inl (cZ, 64, .inl (mhs))), (e2, .inl (cI, 64, .inl (mg))), (e3, .inl (cI, 64, .inl (mk))), (e4, .inl (cI, 64, .inl (mt))), (e5, .inl (cI, 64, .inl (mu))), (e6, .inl (cI, 64, .inl (rg))), (e7, .inl (cI, 64, .inl (rq))), (e8, .inl (cI, 17, .inl (upd (f) (k) ((f) (k + 1))))), (e9, .inl (cI, 16, .inl (mp))), (e10, .inl (cI, 16, .inl (mo))), (e11, .inl (cI, 16, .inl (mw))), (e12, .inl (cI, 272, .inl (mx))), (e13, .inl (cI, 8, .inl (mcs)))] := hD
      refine lv_iinc (v := nI (k + 1)) (lv' := [(2, .int (nI (k + 1))), (0, .ref (e0)), (1, .int (p0))]) hx hb dX5_push_47 hl (k := 2) rfl (nI_1 k) (by decide) rfl (fun ls hl => ?_)
      refine lv_goto (tgt := 23) hx hb dX5_push_50 (by decide) ?_
      exact ih n _ _ _ _ _ rfl ⟨_, k + 1, rfl, rfl, by rw [← hinv]; rfl, by omega⟩ hP hD hS (lv_sub hl [1, 2, 0] rfl)

set_option maxHeartbeats 4000000 in
set_option maxRecDepth 100000 in
/-- ringAsBefore(0) -/
theorem c_X5_ringAsBefore (l : Launch) (D : va_G) (cI cJ cZ : ClassId) (sz : Nat) (e0 e1 e2 e3 e4 e5 e6 e7 e8 e9 e10 e11 e12 e13 : Nat) (S Wy sb L : Nat) (mhs mg mk mt mu : Fn) (tm : Int32) (rg rq : Fn) (mh : Int32) (mr : Fn) (md : Nat) (mv mz : Int32) (mp mo mw mx : Fn) (mn : Nat) (mcs : Fn) (ml mth : Int32) (d0 : Nat) (hd0 : mw 0 = nI d0) : KV l yX5_ringAsBefore wsX5_ringAsBefore ({ frames := 0, cells := 0, slots := 0, locals := 0 } : Room) D (kTy cI cJ cZ) [.ref (e0), .int (nI 0)] [(e0, .inr (5, [.int (mth), .int (nI S), .int (nI Wy), .int (nI L), .int (nI sb), .ref (e1), .ref (e2), .ref (e3), .ref (e4), .ref (e5), .int (tm), .ref (e6), .ref (e7), .int (mh), .int (nI (md)), .ref (e8), .int (nI (mn)), .ref (e9), .ref (e10), .ref (e11), .ref (e12), .ref (e13), .int (mv), .int (mz), .int (ml)])), (e1, .inl (cZ, 64, .inl (mhs))), (e2, .inl (cI, 64, .inl (mg))), (e3, .inl (cI, 64, .inl (mk))), (e4, .inl (cI, 64, .inl (mt))), (e5, .inl (cI, 64, .inl (mu))), (e6, .inl (cI, 64, .inl (rg))), (e7, .inl (cI, 64, .inl (rq))), (e8, .inl (cI, 17, .inl (mr))), (e9, .inl (cI, 16, .inl (mp))), (e10, .inl (cI, 16, .inl (mo))), (e11, .inl (cI, 16, .inl (mw))), (e12, .inl (cI, 272, .inl (mx))), (e13, .inl (cI, 8, .inl (mcs)))] sz (wMo e0 e1 e2 e3 e4 e5 e6 e7 e8 e9 e10 e11 e12 e13 cI cZ S Wy sb L ((mhs, mg, mk, mt, mu, tm), (rg, rq, mh), mf_back (mp, mo, mw, mx, mn) (mr, md, mv, mz) d0, (mp, mo, mw, mx, mn), mcs, ml, mth)) 0 0 := by
  refine Met.ofW (cc := cX5_ringAsBefore) (maxL := 3) (ret := none) (by decide) rfl ?_
  intro p e s m args below meth c s₁ B hml hv
  obtain ⟨rfl, hsz, hP, hK, hD0⟩ := hv
  have hx := B.exec
  have hb := B.bytes
  have hr := B.returns
  have hts := atoms_spec (ws := wsX5_ringAsBefore) B.pre
  have hown : s.vm.findClass RX5 = some m.cls := findClass_of_methodNamed B.named
  have hlocks := B.notSynchronized
  have kf32 := hts (.fieldLink RX5 32 "TargetRowsModel" "ring" "[I") (List.mem_cons_of_mem _ kw_528)
  have kf41 := hts (.fieldLink RX5 41 "TargetRowsModel" "wasDeep" "[I") (List.mem_cons_of_mem _ kw_532)
  have kf44 := hts (.fieldLink RX5 44 "TargetRowsModel" "wasRing" "[I") (List.mem_cons_of_mem _ kw_533)
  have kf80 := hts (.fieldLink RX5 80 "TargetRowsModel" "deep" "I") (List.mem_cons_of_mem _ kw_527)
  subst hsz
  have hD := hD0.self (sz := s.heap.size)
  generalize hAe : va_A [(e0, .inr (5, [.int (mth), .int (nI S), .int (nI Wy), .int (nI L), .int (nI sb), .ref (e1), .ref (e2), .ref (e3), .ref (e4), .ref (e5), .int (tm), .ref (e6), .ref (e7), .int (mh), .int (nI (md)), .ref (e8), .int (nI (mn)), .ref (e9), .ref (e10), .ref (e11), .ref (e12), .ref (e13), .int (mv), .int (mz), .int (ml)])), (e1, .inl (cZ, 64, .inl (mhs))), (e2, .inl (cI, 64, .inl (mg))), (e3, .inl (cI, 64, .inl (mk))), (e4, .inl (cI, 64, .inl (mt))), (e5, .inl (cI, 64, .inl (mu))), (e6, .inl (cI, 64, .inl (rg))), (e7, .inl (cI, 64, .inl (rq))), (e8, .inl (cI, 17, .inl (mr))), (e9, .inl (cI, 16, .inl (mp))), (e10, .inl (cI, 16, .inl (mo))), (e11, .inl (cI, 16, .inl (mw))), (e12, .inl (cI, 272, .inl (mx))), (e13, .inl (cI, 8, .inl (mcs)))] s.heap.size = A at hD ⊢
  have hA : ∀ q : Nat, s.heap.size ≤ q → A q := fun q h => by rw [← hAe]; exact Or.inr h
  have hS : va_S A s.heap s.heap [] := va_S.rf
  have hP : va_P D vwCl [(e0, .inr (5, [.int (mth), .int (nI S), .int (nI Wy), .int (nI L), .int (nI sb), .ref (e1), .ref (e2), .ref (e3), .ref (e4), .ref (e5), .int (tm), .ref (e6), .ref (e7), .int (mh), .int (nI (md)), .ref (e8), .int (nI (mn)), .ref (e9), .ref (e10), .ref (e11), .ref (e12), .ref (e13), .int (mv), .int (mz), .int (ml)])), (e1, .inl (cZ, 64, .inl (mhs))), (e2, .inl (cI, 64, .inl (mg))), (e3, .inl (cI, 64, .inl (mk))), (e4, .inl (cI, 64, .inl (mt))), (e5, .inl (cI, 64, .inl (mu))), (e6, .inl (cI, 64, .inl (rg))), (e7, .inl (cI, 64, .inl (rq))), (e8, .inl (cI, 17, .inl (mr))), (e9, .inl (cI, 16, .inl (mp))), (e10, .inl (cI, 16, .inl (mo))), (e11, .inl (cI, 16, .inl (mw))), (e12, .inl (cI, 272, .inl (mx))), (e13, .inl (cI, 8, .inl (mcs)))] s.heap := hP
  have hD : va_D A [(e0, .inr (5, [.int (mth), .int (nI S), .int (nI Wy), .int (nI L), .int (nI sb), .ref (e1), .ref (e2), .ref (e3), .ref (e4), .ref (e5), .int (tm), .ref (e6), .ref (e7), .int (mh), .int (nI (md)), .ref (e8), .int (nI (mn)), .ref (e9), .ref (e10), .ref (e11), .ref (e12), .ref (e13), .int (mv), .int (mz), .int (ml)])), (e1, .inl (cZ, 64, .inl (mhs))), (e2, .inl (cI, 64, .inl (mg))), (e3, .inl (cI, 64, .inl (mk))), (e4, .inl (cI, 64, .inl (mt))), (e5, .inl (cI, 64, .inl (mu))), (e6, .inl (cI, 64, .inl (rg))), (e7, .inl (cI, 64, .inl (rq))), (e8, .inl (cI, 17, .inl (mr))), (e9, .inl (cI, 16, .inl (mp))), (e10, .inl (cI, 16, .inl (mo))), (e11, .inl (cI, 16, .inl (mw))), (e12, .inl (cI, 272, .inl (mx))), (e13, .inl (cI, 8, .inl (mcs)))] := hD
  have hl := lv_entry ([.ref (e0), .int (nI 0)]) (n := 3) (Nat.le_of_ble_eq_true rfl)
  rw [lg_entry_eq]
  generalize (lg_sl ([.ref (e0), .int (nI 0)]) ++ List.replicate (3 - (lg_sl ([.ref (e0), .int (nI 0)])).length) Slot.unset).toArray = ls at hl ⊢
  have hl : lv_has ls 3 [(0, .ref (e0)), (1, .int (nI 0))] := hl
  refine lv_aload_n hx hb dX5_ringAsBefore_0 rfl (lv_at hl 0 rfl) ?_
  refine lv_aload_n hx hb dX5_ringAsBefore_1 rfl (lv_at hl 0 rfl) ?_
  refine va_get (D := D) (ci := 5) (v := .ref (e11)) (C := RX5) (T := TX5) (N := 25) hx hb hts (fun w h => List.mem_cons_of_mem _ (hiX5 w h)) hown hK hP 0 rfl rfl 19 (by decide) kf41 (fun _ h9 => h9) rfl dX5_ringAsBefore_2 ?_
  refine lv_iload_n hx hb dX5_ringAsBefore_5 rfl (lv_at hl 1 rfl) ?_
  refine ka_ild hx hb hK hP 11 0 rfl rfl (k := 0) (rfl) (⟨by decide, by decide⟩) dX5_ringAsBefore_6 ?_
  refine kt_i (y := nI (d0)) (hd0) ?_
  refine va_put (D := D) (ci := 5) (v := .int (nI (d0))) (ty := .int) (C := RX5) (T := TX5) (N := 25) hx hb hts (fun w h => List.mem_cons_of_mem _ (hiX5 w h)) tyX5 tyX5_ok nmX5 hown hK hP hD hS 0 rfl rfl 14 (by decide) kf80 (fun _ h9 => h9) rfl (by decide +kernel) rfl rfl (Nat.le_of_ble_eq_true rfl) dX5_ringAsBefore_7 (fun H locs hP hD hS => ?_)
  have hP : va_P D vwCl [(e0, .inr (5, [.int (mth), .int (nI S), .int (nI Wy), .int (nI L), .int (nI sb), .ref (e1), .ref (e2), .ref (e3), .ref (e4), .ref (e5), .int (tm), .ref (e6), .ref (e7), .int (mh), .int (nI (d0)), .ref (e8), .int (nI (mn)), .ref (e9), .ref (e10), .ref (e11), .ref (e12), .ref (e13), .int (mv), .int (mz), .int (ml)])), (e1, .inl (cZ, 64, .inl (mhs))), (e2, .inl (cI, 64, .inl (mg))), (e3, .inl (cI, 64, .inl (mk))), (e4, .inl (cI, 64, .inl (mt))), (e5, .inl (cI, 64, .inl (mu))), (e6, .inl (cI, 64, .inl (rg))), (e7, .inl (cI, 64, .inl (rq))), (e8, .inl (cI, 17, .inl (mr))), (e9, .inl (cI, 16, .inl (mp))), (e10, .inl (cI, 16, .inl (mo))), (e11, .inl (cI, 16, .inl (mw))), (e12, .inl (cI, 272, .inl (mx))), (e13, .inl (cI, 8, .inl (mcs)))] H := hP
  have hD : va_D A [(e0, .inr (5, [.int (mth), .int (nI S), .int (nI Wy), .int (nI L), .int (nI sb), .ref (e1), .ref (e2), .ref (e3), .ref (e4), .ref (e5), .int (tm), .ref (e6), .ref (e7), .int (mh), .int (nI (d0)), .ref (e8), .int (nI (mn)), .ref (e9), .ref (e10), .ref (e11), .ref (e12), .ref (e13), .int (mv), .int (mz), .int (ml)])), (e1, .inl (cZ, 64, .inl (mhs))), (e2, .inl (cI, 64, .inl (mg))), (e3, .inl (cI, 64, .inl (mk))), (e4, .inl (cI, 64, .inl (mt))), (e5, .inl (cI, 64, .inl (mu))), (e6, .inl (cI, 64, .inl (rg))), (e7, .inl (cI, 64, .inl (rq))), (e8, .inl (cI, 17, .inl (mr))), (e9, .inl (cI, 16, .inl (mp))), (e10, .inl (cI, 16, .inl (mo))), (e11, .inl (cI, 16, .inl (mw))), (e12, .inl (cI, 272, .inl (mx))), (e13, .inl (cI, 8, .inl (mcs)))] := hD
  refine lv_iconst (v := 0) hx hb dX5_ringAsBefore_10 (by decide) ?_
  refine kt_i (y := nI 0) (rfl) ?_
  refine lv_istore_n (lv' := [(2, .int (nI 0)), (0, .ref (e0)), (1, .int (nI 0))]) hx hb dX5_ringAsBefore_11 rfl hl (by decide) rfl (fun ls hl => ?_)
  refine kloop (nL := 3) (I := fun n w lv => ∃ (f : Fn) (k : Nat), w = [(e0, .inr (5, [.int (mth), .int (nI S), .int (nI Wy), .int (nI L), .int (nI sb), .ref (e1), .ref (e2), .ref (e3), .ref (e4), .ref (e5), .int (tm), .ref (e6), .ref (e7), .int (mh), .int (nI (d0)), .ref (e8), .int (nI (mn)), .ref (e9), .ref (e10), .ref (e11), .ref (e12), .ref (e13), .int (mv), .int (mz), .int (ml)])), (e1, .inl (cZ, 64, .inl (mhs))), (e2, .inl (cI, 64, .inl (mg))), (e3, .inl (cI, 64, .inl (mk))), (e4, .inl (cI, 64, .inl (mt))), (e5, .inl (cI, 64, .inl (mu))), (e6, .inl (cI, 64, .inl (rg))), (e7, .inl (cI, 64, .inl (rq))), (e8, .inl (cI, 17, .inl (f))), (e9, .inl (cI, 16, .inl (mp))), (e10, .inl (cI, 16, .inl (mo))), (e11, .inl (cI, 16, .inl (mw))), (e12, .inl (cI, 272, .inl (mx))), (e13, .inl (cI, 8, .inl (mcs)))] ∧ lv = [(0, .ref (e0)), (1, .int (nI 0)), (2, .int (nI k))] ∧ mf_cp mx 0 f k n = mf_cp mx 0 mr 0 17 ∧ k + n = 17) (fun n w lv H locs ls hI hP hD hS hl ih => ?_) (17) _ _ _ _ _ ⟨mr, 0, rfl, rfl, rfl, rfl⟩ hP hD hS (lv_sub hl [1, 2, 0] rfl)
  obtain ⟨f, k, rfl, rfl, hinv, hk⟩ := hI
  rcases n with _ | n
  ·
    refine lv_iload_n hx hb dX5_ringAsBefore_12 rfl (lv_at hl 2 rfl) ?_
    refine lv_bipush (v := 17) hx hb dX5_ringAsBefore_13 (by decide) ?_
    refine lv_icmp_ge (tgt := 41) hx hb dX5_ringAsBefore_15 (by decide) (fun c_15 => ?_) (fun c_15 => absurd (nI_le (a := 17) (b := k) (by omega) (by omega)) c_15)
    have hf : f = mf_cp mx 0 mr 0 17 := hinv
    subst hf
    exact kr_v (rfl) hx hb hr hlocks hP hK hD hS trivial dX5_ringAsBefore_41
  ·
    refine lv_iload_n hx hb dX5_ringAsBefore_12 rfl (lv_at hl 2 rfl) ?_
    refine lv_bipush (v := 17) hx hb dX5_ringAsBefore_13 (by decide) ?_
    refine lv_icmp_ge (tgt := 41) hx hb dX5_ringAsBefore_15 (by decide) (fun c_15 => absurd c_15 (nI_ge (a := k) (b := 17) (by omega) (by omega))) (fun c_15 => ?_)
    refine lv_aload_n hx hb dX5_ringAsBefore_18 rfl (lv_at hl 0 rfl) ?_
    refine va_get (D := D) (ci := 5) (v := .ref (e8)) (C := RX5) (T := TX5) (N := 25) hx hb hts (fun w h => List.mem_cons_of_mem _ (hiX5 w h)) hown hK hP 0 rfl rfl 15 (by decide) kf32 (fun _ h9 => h9) rfl dX5_ringAsBefore_19 ?_
    refine lv_iload_n hx hb dX5_ringAsBefore_22 rfl (lv_at hl 2 rfl) ?_
    refine lv_aload_n hx hb dX5_ringAsBefore_23 rfl (lv_at hl 0 rfl) ?_
    refine va_get (D := D) (ci := 5) (v := .ref (e12)) (C := RX5) (T := TX5) (N := 25) hx hb hts (fun w h => List.mem_cons_of_mem _ (hiX5 w h)) hown hK hP 0 rfl rfl 20 (by decide) kf44 (fun _ h9 => h9) rfl dX5_ringAsBefore_24 ?_
    refine lv_bipush (v := 17) hx hb dX5_ringAsBefore_27 (by decide) ?_
    refine lv_iload_n hx hb dX5_ringAsBefore_29 rfl (lv_at hl 1 rfl) ?_
    refine lv_imul hx hb dX5_ringAsBefore_30 ?_
    refine kt_i (y := nI (17 * 0)) (pk_mul 17 0) ?_
    refine lv_iload_n hx hb dX5_ringAsBefore_31 rfl (lv_at hl 2 rfl) ?_
    refine lv_iadd hx hb dX5_ringAsBefore_32 ?_
    refine kt_i (y := nI (0 + k)) (nI_add _ _) ?_
    refine ka_ild hx hb hK hP 12 0 rfl rfl (k := 0 + k) (rfl) (⟨by omega, by decide⟩) dX5_ringAsBefore_33 ?_
    refine ka_ist hx hb hK hP hD hS 8 0 rfl rfl (k := k) (rfl) (⟨by omega, by decide⟩) dX5_ringAsBefore_34 (fun H locs hP hD hS => ?_)
    have hP : va_P D vwCl [(e0, .inr (5, [.int (mth), .int (nI S), .int (nI Wy), .int (nI L), .int (nI sb), .ref (e1), .ref (e2), .ref (e3), .ref (e4), .ref (e5), .int (tm), .ref (e6), .ref (e7), .int (mh), .int (nI (d0)), .ref (e8), .int (nI (mn)), .ref (e9), .ref (e10), .ref (e11), .ref (e12), .ref (e13), .int (mv), .int (mz), .int (ml)])), (e1, .inl (cZ, 64, .inl (mhs))), (e2, .inl (cI, 64, .inl (mg))), (e3, .inl (cI, 64, .inl (mk))), (e4, .inl (cI, 64, .inl (mt))), (e5, .inl (cI, 64, .inl (mu))), (e6, .inl (cI, 64, .inl (rg))), (e7, .inl (cI, 64, .inl (rq))), (e8, .inl (cI, 17, .inl (upd (f) (k) ((mx) (0 + k))))), (e9, .inl (cI, 16, .inl (mp))), (e10, .inl (cI, 16, .inl (mo))), (e11, .inl (cI, 16, .inl (mw))), (e12, .inl (cI, 272, .inl (mx))), (e13, .inl (cI, 8, .inl (mcs)))] H := hP
    have hD : va_D A [(e0, .inr (5, [.int (mth), .int (nI S), .int (nI Wy), .int (nI L), .int (nI sb), .ref (e1), .ref (e2), .ref (e3), .ref (e4), .ref (e5), .int (tm), .ref (e6), .ref (e7), .int (mh), .int (nI (d0)), .ref (e8), .int (nI (mn)), .ref (e9), .ref (e10), .ref (e11), .ref (e12), .ref (e13), .int (mv), .int (mz), .int (ml)])), (e1, .inl (cZ, 64, .inl (mhs))), (e2, .inl (cI, 64, .inl (mg))), (e3, .inl (cI, 64, .inl (mk))), (e4, .inl (cI, 64, .inl (mt))), (e5, .inl (cI, 64, .inl (mu))), (e6, .inl (cI, 64, .inl (rg))), (e7, .inl (cI, 64, .inl (rq))), (e8, .inl (cI, 17, .inl (upd (f) (k) ((mx) (0 + k))))), (e9, .inl (cI, 16, .inl (mp))), (e10, .inl (cI, 16, .inl (mo))), (e11, .inl (cI, 16, .inl (mw))), (e12, .inl (cI, 272, .inl (mx))), (e13, .inl (cI, 8, .inl (mcs)))] := hD
    refine lv_iinc (v := nI (k + 1)) (lv' := [(2, .int (nI (k + 1))), (0, .ref (e0)), (1, .int (nI 0))]) hx hb dX5_ringAsBefore_35 hl (k := 2) rfl (nI_1 k) (by decide) rfl (fun ls hl => ?_)
    refine lv_goto (tgt := 12) hx hb dX5_ringAsBefore_38 (by decide) ?_
    exact ih n _ _ _ _ _ rfl ⟨_, k + 1, rfl, rfl, by rw [← hinv]; rfl, by omega⟩ hP hD hS (lv_sub hl [1, 2, 0] rfl)
