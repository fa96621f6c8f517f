set_option maxHeartbeats 4000000 in
set_option maxRecDepth 100000 in
/-- Arrays.fill -/
theorem c_J7_fill (l : Launch) (D : va_G) (cI cJ cZ : ClassId) (sz : Nat) (ax n : Nat) (f : Fn) (p1 : Int32) (hn : n < 2 ^ 16) : KV l yJ7_fill wsJ7_fill ({ frames := 0, cells := 0, slots := 0, locals := 0 } : Room) D (kTy cI cJ cZ) [.ref (ax), .int (p1)] [(ax, .inl (cI, n, .inl (f)))] sz ([(ax, .inl (cI, n, .inl (kf_fill f p1 n)))]) 0 0 := by
  refine Met.ofW (cc := cJ7_fill) (maxL := 4) (ret := none) (by decide) rfl ?_
  intro p e s m args below meth c s₁ B hml hv
  obtain ⟨rfl, hsz, hP, hK, hD0⟩ := hv
  have hx := B.exec
  have hb := B.bytes
  have hr := B.returns
  have hts := atoms_spec (ws := wsJ7_fill) B.pre
  have hown : s.vm.findClass RJ7 = some m.cls := findClass_of_methodNamed B.named
  have hlocks := B.notSynchronized
  subst hsz
  have hD := hD0.self (sz := s.heap.size)
  generalize hAe : va_A [(ax, .inl (cI, n, .inl (f)))] s.heap.size = A at hD ⊢
  have hA : ∀ q : Nat, s.heap.size ≤ q → A q := fun q h => by rw [← hAe]; exact Or.inr h
  have hS : va_S A s.heap s.heap [] := va_S.rf
  have hP : va_P D vwCl [(ax, .inl (cI, n, .inl (f)))] s.heap := hP
  have hD : va_D A [(ax, .inl (cI, n, .inl (f)))] := hD
  have hl := lv_entry ([.ref (ax), .int (p1)]) (n := 4) (Nat.le_of_ble_eq_true rfl)
  rw [lg_entry_eq]
  generalize (lg_sl ([.ref (ax), .int (p1)]) ++ List.replicate (4 - (lg_sl ([.ref (ax), .int (p1)])).length) Slot.unset).toArray = ls at hl ⊢
  have hl : lv_has ls 4 [(0, .ref (ax)), (1, .int (p1))] := hl
  refine lv_iconst (v := 0) hx hb dJ7_fill_0 (by decide) ?_
  refine kt_i (y := nI 0) (rfl) ?_
  refine lv_istore_n (lv' := [(2, .int (nI 0)), (0, .ref (ax)), (1, .int (p1))]) hx hb dJ7_fill_1 rfl hl (by decide) rfl (fun ls hl => ?_)
  refine lv_aload_n hx hb dJ7_fill_2 rfl (lv_at hl 1 rfl) ?_
  refine va_alen (v := nI (n)) hx hb hK hP 0 0 rfl rfl rfl dJ7_fill_3 ?_
  refine lv_istore_n (lv' := [(3, .int (nI (n))), (2, .int (nI 0)), (0, .ref (ax)), (1, .int (p1))]) hx hb dJ7_fill_4 rfl hl (by decide) rfl (fun ls hl => ?_)
  refine kloop (nL := 4) (I := fun n9 w lv => ∃ (g : Fn) (i : Nat), w = [(ax, .inl (cI, n, .inl (g)))] ∧ lv = [(0, .ref (ax)), (1, .int (p1)), (2, .int (nI i)), (3, .int (nI (n)))] ∧ g = kf_fill f p1 i ∧ i + n9 = n) (fun n9 w lv H locs ls hI hP hD hS hl ih9 => ?_) (n) _ _ _ _ _ ⟨f, 0, rfl, rfl, kf_0 f p1, by omega⟩ hP hD hS (lv_sub hl [2, 3, 1, 0] rfl)
  obtain ⟨g, i, rfl, rfl, hg, hi⟩ := hI
  rcases n9 with _ | n9
  ·
    have hin : i = n := by omega
    refine lv_iload_n hx hb dJ7_fill_5 rfl (lv_at hl 2 rfl) ?_
    refine lv_iload_n hx hb dJ7_fill_6 rfl (lv_at hl 3 rfl) ?_
    refine lv_icmp_ge (tgt := 20) hx hb dJ7_fill_7 (by decide) (fun c_7 => ?_) (fun c_7 => absurd (nI_le (by omega) (by omega)) c_7)
    exact kr_v (by rw [hg, hin]) hx hb hr hlocks hP hK hD hS trivial dJ7_fill_20
  ·
    refine lv_iload_n hx hb dJ7_fill_5 rfl (lv_at hl 2 rfl) ?_
    refine lv_iload_n hx hb dJ7_fill_6 rfl (lv_at hl 3 rfl) ?_
    refine lv_icmp_ge (tgt := 20) hx hb dJ7_fill_7 (by decide) (fun c_7 => absurd c_7 (nI_ge (by omega) (by omega))) (fun c_7 => ?_)
    refine lv_aload_n hx hb dJ7_fill_10 rfl (lv_at hl 0 rfl) ?_
    refine lv_iload_n hx hb dJ7_fill_11 rfl (lv_at hl 2 rfl) ?_
    refine lv_iload_n hx hb dJ7_fill_12 rfl (lv_at hl 1 rfl) ?_
    refine ka_ist hx hb hK hP hD hS 0 0 rfl rfl (k := i) (rfl) (⟨by omega, by omega⟩) dJ7_fill_13 (fun H locs hP hD hS => ?_)
    have hP : va_P D vwCl [(ax, .inl (cI, n, .inl (upd (g) (i) (p1))))] H := hP
    have hD : va_D A [(ax, .inl (cI, n, .inl (upd (g) (i) (p1))))] := hD
    refine lv_iinc (v := nI (i + 1)) (lv' := [(2, .int (nI (i + 1))), (0, .ref (ax)), (1, .int (p1)), (3, .int (nI (n)))]) hx hb dJ7_fill_14 hl (k := 2) rfl (nI_1 i) (by decide) rfl (fun ls hl => ?_)
    refine lv_goto (tgt := 5) hx hb dJ7_fill_17 (by decide) ?_
    exact ih9 n9 _ _ _ _ _ rfl ⟨_, i + 1, rfl, rfl, by rw [hg]; exact kf_step f p1 i, by omega⟩ hP hD hS (lv_sub hl [1, 2, 0, 3] rfl)

set_option maxHeartbeats 4000000 in
set_option maxRecDepth 100000 in
/-- Math.floorMod -/
theorem c_J9_floorMod (l : Launch) (D : va_G) (cI cJ cZ : ClassId) (sz : Nat) (p0 : Int32) (m0 : Nat) (hm : m0 = 4 ∨ m0 = 6 ∨ m0 = 17) : KI l yJ9_floorMod wsJ9_floorMod ({ frames := 0, cells := 0, slots := 0, locals := 0 } : Room) D (kTy cI cJ cZ) [.int (p0), .int (nI m0)] [] sz ([]) (nI (fmn p0 m0)) 0 0 := by
  refine va_MetF (cc := cJ9_floorMod) (maxL := 3) (ret := (some .int)) (by decide +kernel) rfl ?_
  intro p e s m args below meth c s₁ B hml hv
  obtain ⟨rfl, hsz, hP, hK, hD0⟩ := hv
  have hx := B.exec
  have hb := B.bytes
  have hr := B.returns
  have hts := atoms_spec (ws := wsJ9_floorMod) B.pre
  have hown : s.vm.findClass RJ9 = some m.cls := findClass_of_methodNamed B.named
  have hlocks := B.notSynchronized
  subst hsz
  have hD := hD0.self (sz := s.heap.size)
  generalize hAe : va_A [] s.heap.size = A at hD ⊢
  have hA : ∀ q : Nat, s.heap.size ≤ q → A q := fun q h => by rw [← hAe]; exact Or.inr h
  have hS : va_S A s.heap s.heap [] := va_S.rf
  have hP : va_P D vwCl [] s.heap := hP
  have hD : va_D A [] := hD
  have hl := lv_entry ([.int (p0), .int (nI m0)]) (n := 3) (Nat.le_of_ble_eq_true rfl)
  rw [lg_entry_eq]
  generalize (lg_sl ([.int (p0), .int (nI m0)]) ++ List.replicate (3 - (lg_sl ([.int (p0), .int (nI m0)])).length) Slot.unset).toArray = ls at hl ⊢
  have hl : lv_has ls 3 [(0, .int (p0)), (1, .int (nI m0))] := hl
  refine lv_iload_n hx hb dJ9_floorMod_0 rfl (lv_at hl 0 rfl) ?_
  refine lv_iload_n hx hb dJ9_floorMod_1 rfl (lv_at hl 1 rfl) ?_
  refine lv_irem hx hb dJ9_floorMod_2 (nI_ne0 (by omega) (by omega)) ?_
  refine lv_istore_n (lv' := [(2, .int ((p0) - (p0) / (nI m0) * (nI m0))), (0, .int (p0)), (1, .int (nI m0))]) hx hb dJ9_floorMod_3 rfl hl (by decide) rfl (fun ls hl => ?_)
  refine lv_iload_n hx hb dJ9_floorMod_4 rfl (lv_at hl 1 rfl) ?_
  refine lv_iload_n hx hb dJ9_floorMod_5 rfl (lv_at hl 2 rfl) ?_
  refine lv_ixor hx hb dJ9_floorMod_6 ?_
  refine lv_if_ge (tgt := 18) hx hb dJ9_floorMod_7 (by decide) (fun c_7 => ?_) (fun c_7 => ?_)
  ·
    refine lv_iload_n hx hb dJ9_floorMod_18 rfl (lv_at hl 0 rfl) ?_
    exact kr_i (rfl) hx hb hr hlocks hP hK hD hS (fm_a (by omega) (by omega) c_7) dJ9_floorMod_19
  ·
    refine lv_iload_n hx hb dJ9_floorMod_10 rfl (lv_at hl 0 rfl) ?_
    refine lv_if_eq (tgt := 18) hx hb dJ9_floorMod_11 (by decide) (fun c_11 => ?_) (fun c_11 => ?_)
    ·
      refine lv_iload_n hx hb dJ9_floorMod_18 rfl (lv_at hl 0 rfl) ?_
      exact kr_i (rfl) hx hb hr hlocks hP hK hD hS (fm_b hm c_7 c_11) dJ9_floorMod_19
    ·
      refine lv_iload_n hx hb dJ9_floorMod_14 rfl (lv_at hl 0 rfl) ?_
      refine lv_iload_n hx hb dJ9_floorMod_15 rfl (lv_at hl 2 rfl) ?_
      refine lv_iadd hx hb dJ9_floorMod_16 ?_
      exact kr_i (rfl) hx hb hr hlocks hP hK hD hS (fm_c hm c_7 c_11) dJ9_floorMod_17

set_option maxHeartbeats 4000000 in
set_option maxRecDepth 100000 in
/-- modulo -/
theorem c_X5_modulo (l : Launch) (D : va_G) (cI cJ cZ : ClassId) (sz : Nat) (p0 : Int32) (m0 : Nat) (hm : m0 = 6 ∨ m0 = 17) : KI l yX5_modulo wsX5_modulo ({ frames := 0, cells := 0, slots := 0, locals := 0 } : Room) D (kTy cI cJ cZ) [.int (p0), .int (nI m0)] [] sz ([]) (nI (fmn p0 m0)) 0 0 := by
  refine Met.ofW (cc := cX5_modulo) (maxL := 2) (ret := (some .int)) (by decide) rfl ?_
  intro p e s m args below meth c s₁ B hml hv
  obtain ⟨rfl, hsz, hP, hK, hD0⟩ := hv
  have hx := B.exec
  have hb := B.bytes
  have hr := B.returns
  have hts := atoms_spec (ws := wsX5_modulo) B.pre
  have hown : s.vm.findClass RX5 = some m.cls := findClass_of_methodNamed B.named
  have hlocks := B.notSynchronized
  subst hsz
  have hD := hD0.self (sz := s.heap.size)
  generalize hAe : va_A [] s.heap.size = A at hD ⊢
  have hA : ∀ q : Nat, s.heap.size ≤ q → A q := fun q h => by rw [← hAe]; exact Or.inr h
  have hS : va_S A s.heap s.heap [] := va_S.rf
  have hP : va_P D vwCl [] s.heap := hP
  have hD : va_D A [] := hD
  have hl := lv_entry ([.int (p0), .int (nI m0)]) (n := 2) (Nat.le_of_ble_eq_true rfl)
  rw [lg_entry_eq]
  generalize (lg_sl ([.int (p0), .int (nI m0)]) ++ List.replicate (2 - (lg_sl ([.int (p0), .int (nI m0)])).length) Slot.unset).toArray = ls at hl ⊢
  have hl : lv_has ls 2 [(0, .int (p0)), (1, .int (nI m0))] := hl
  refine lv_iload_n hx hb dX5_modulo_0 rfl (lv_at hl 0 rfl) ?_
  refine lv_iload_n hx hb dX5_modulo_1 rfl (lv_at hl 1 rfl) ?_
  refine lv_irem hx hb dX5_modulo_2 (nI_ne0 (by omega) (by omega)) ?_
  refine lv_iload_n hx hb dX5_modulo_3 rfl (lv_at hl 1 rfl) ?_
  refine lv_iadd hx hb dX5_modulo_4 ?_
  refine lv_iload_n hx hb dX5_modulo_5 rfl (lv_at hl 1 rfl) ?_
  refine lv_irem hx hb dX5_modulo_6 (nI_ne0 (by omega) (by omega)) ?_
  exact kr_i (rfl) hx hb hr hlocks hP hK hD hS (md_a hm) dX5_modulo_7

set_option maxHeartbeats 4000000 in
set_option maxRecDepth 100000 in
/-- a new ring -/
theorem c_X2_init (l : Launch) (D : va_G) (cI cJ cZ : ClassId) (sz : Nat) (h0 L : Nat) (hL : L ≤ 16) : KN l yX2_init wsX2_init ({ frames := 1, cells := 1, slots := 16, locals := 12 } : Room) D (kTy cI cJ cZ) [.ref (h0), .int (nI L)] [(h0, .inr (2, [.int (0), .int (0), .int (0), .int (0), .null]))] sz (fun u => wRet h0 (u 0) cI L (fun _ => 0, 0, 0, 0)) 1 16 := by
  refine Met.ofW (cc := cX2_init) (maxL := 2) (ret := none) (by decide) rfl ?_
  intro p e s m args below meth c s₁ B hml hv
  obtain ⟨rfl, hsz, hP, hK, hD0⟩ := hv
  have hx := B.exec
  have hb := B.bytes
  have hr := B.returns
  have hts := atoms_spec (ws := wsX2_init) B.pre
  have hown : s.vm.findClass RX2 = some m.cls := findClass_of_methodNamed B.named
  have hlocks := B.notSynchronized
  have hin : meth.name = "<init>" := (name_of_methodNamed B.named B.method).1
  have ac_int := hts (.arrayClass .int) (List.mem_cons_of_mem _ kw_96)
  have kf13 := hts (.fieldLink RX2 13 "TargetRows$Returns" "places" "[I") (List.mem_cons_of_mem _ kw_132)
  have kf7 := hts (.fieldLink RX2 7 "TargetRows$Returns" "limit" "I") (List.mem_cons_of_mem _ kw_123)
  have oc := hts (.code objectInit ⟨#[0xb1]⟩ 1 none) (List.mem_cons_of_mem _ kw_49)
  have oi := hts (.instanceMethod objectInit) (List.mem_cons_of_mem _ kw_48)
  have ol := hts (.methodLink RX2 1 objectInit) (List.mem_cons_of_mem _ kw_122)
  subst hsz
  have hD := hD0.self (sz := s.heap.size)
  generalize hAe : va_A [(h0, .inr (2, [.int (0), .int (0), .int (0), .int (0), .null]))] s.heap.size = A at hD ⊢
  have hA : ∀ q : Nat, s.heap.size ≤ q → A q := fun q h => by rw [← hAe]; exact Or.inr h
  have hS : va_S A s.heap s.heap [] := va_S.rf
  have hP : va_P D vwCl [(h0, .inr (2, [.int (0), .int (0), .int (0), .int (0), .null]))] s.heap := hP
  have hD : va_D A [(h0, .inr (2, [.int (0), .int (0), .int (0), .int (0), .null]))] := hD
  have hl := lv_entry ([.ref (h0), .int (nI L)]) (n := 2) (Nat.le_of_ble_eq_true rfl)
  rw [lg_entry_eq]
  generalize (lg_sl ([.ref (h0), .int (nI L)]) ++ List.replicate (2 - (lg_sl ([.ref (h0), .int (nI L)])).length) Slot.unset).toArray = ls at hl ⊢
  have hl : lv_has ls 2 [(0, .ref (h0)), (1, .int (nI L))] := hl
  refine lv_aload_n hx hb dX2_init_0 rfl (lv_at hl 0 rfl) ?_
  refine W.objInit hx hb hown ol oi oc rfl (by rw [hml]; exact hl.1) rfl dX2_init_1 (Nat.le_of_ble_eq_true rfl) (Nat.le_of_ble_eq_true rfl) ?_
  refine W.eq (g2 := F0 m 4 ls []) rfl ?_
  refine lv_aload_n hx hb dX2_init_4 rfl (lv_at hl 0 rfl) ?_
  refine lv_iload_n hx hb dX2_init_5 rfl (lv_at hl 1 rfl) ?_
  refine va_putF (D := D) (ci := 2) (v := .int (nI L)) (ty := .int) (C := RX2) (T := TX2) (N := 5) hx hb hts (fun w h => List.mem_cons_of_mem _ (hiX2 w h)) tyX2 tyX2_ok nmX2 hown hK hP hD hS 0 rfl rfl 0 (by decide) kf7 (fun _ h9 => h9) rfl hin rfl (by decide +kernel) rfl rfl (Nat.le_of_ble_eq_true rfl) dX2_init_6 (fun H locs hP hD hS => ?_)
  have hP : va_P D vwCl [(h0, .inr (2, [.int (nI L), .int (0), .int (0), .int (0), .null]))] H := hP
  have hD : va_D A [(h0, .inr (2, [.int (nI L), .int (0), .int (0), .int (0), .null]))] := hD
  refine lv_aload_n hx hb dX2_init_9 rfl (lv_at hl 0 rfl) ?_
  refine lv_iload_n hx hb dX2_init_10 rfl (lv_at hl 1 rfl) ?_
  refine ka_newi (n := L) hx hb ac_int hK hP hD hS hA (rfl) (by omega) (⟨by decide, by show 0 + L ≤ 16; omega⟩) dX2_init_11 (fun q1 H hP hD hS => ?_)
  have hP : va_P D vwCl [(h0, .inr (2, [.int (nI L), .int (0), .int (0), .int (0), .null])), (q1, .inl (cI, L, .inl (fun _ => 0)))] H := hP
  have hD : va_D A [(h0, .inr (2, [.int (nI L), .int (0), .int (0), .int (0), .null])), (q1, .inl (cI, L, .inl (fun _ => 0)))] := hD
  refine W.widen (k := 1) (n := 16) (by omega) (by omega) ?_
  refine va_putF (D := D) (ci := 2) (v := .ref (q1)) (ty := .array .int) (C := RX2) (T := TX2) (N := 5) hx hb hts (fun w h => List.mem_cons_of_mem _ (hiX2 w h)) tyX2 tyX2_ok nmX2 hown hK hP hD hS 0 rfl rfl 4 (by decide) kf13 (fun _ h9 => h9) rfl hin rfl (by decide +kernel) rfl rfl (Nat.le_of_ble_eq_true rfl) dX2_init_13 (fun H locs hP hD hS => ?_)
  have hP : va_P D vwCl [(h0, .inr (2, [.int (nI L), .int (0), .int (0), .int (0), .ref (q1)])), (q1, .inl (cI, L, .inl (fun _ => 0)))] H := hP
  have hD : va_D A [(h0, .inr (2, [.int (nI L), .int (0), .int (0), .int (0), .ref (q1)])), (q1, .inl (cI, L, .inl (fun _ => 0)))] := hD
  refine W.widen (k := 1) (n := 16) (by omega) (by omega) ?_
  exact kr_n (fun _ => q1) (rfl) hx hb hr hlocks hP hK hD hS dX2_init_16

set_option maxHeartbeats 4000000 in
set_option maxRecDepth 100000 in
/-- a new queue -/
theorem c_X1_init (l : Launch) (D : va_G) (cI cJ cZ : ClassId) (sz : Nat) (h0 L : Nat) (hL : L ≤ 16) : KN l yX1_init wsX1_init ({ frames := 1, cells := 4, slots := 304, locals := 12 } : Room) D (kTy cI cJ cZ) [.ref (h0), .int (nI L)] [(h0, .inr (1, [.int (0), .int (0), .int (0), .null, .null, .null, .null]))] sz (fun u => wQue h0 (u 0) (u 1) (u 2) (u 3) cI L (fun _ => 0, fun _ => 0, fun _ => 0, fun _ => 0, 0, 0)) 4 304 := by
  refine Met.ofW (cc := cX1_init) (maxL := 2) (ret := none) (by decide) rfl ?_
  intro p e s m args below meth c s₁ B hml hv
  obtain ⟨rfl, hsz, hP, hK, hD0⟩ := hv
  have hx := B.exec
  have hb := B.bytes
  have hr := B.returns
  have hts := atoms_spec (ws := wsX1_init) B.pre
  have hown : s.vm.findClass RX1 = some m.cls := findClass_of_methodNamed B.named
  have hlocks := B.notSynchronized
  have hin : meth.name = "<init>" := (name_of_methodNamed B.named B.method).1
  have ac_int := hts (.arrayClass .int) (List.mem_cons_of_mem _ kw_96)
  have kf15 := hts (.fieldLink RX1 15 "TargetRows$Queue" "places" "[I") (List.mem_cons_of_mem _ kw_154)
  have kf19 := hts (.fieldLink RX1 19 "TargetRows$Queue" "told" "[I") (List.mem_cons_of_mem _ kw_155)
  have kf22 := hts (.fieldLink RX1 22 "TargetRows$Queue" "depths" "[I") (List.mem_cons_of_mem _ kw_156)
  have kf25 := hts (.fieldLink RX1 25 "TargetRows$Queue" "rings" "[I") (List.mem_cons_of_mem _ kw_157)
  have kf9 := hts (.fieldLink RX1 9 "TargetRows$Queue" "ringLength" "I") (List.mem_cons_of_mem _ kw_153)
  have oc := hts (.code objectInit ⟨#[0xb1]⟩ 1 none) (List.mem_cons_of_mem _ kw_49)
  have oi := hts (.instanceMethod objectInit) (List.mem_cons_of_mem _ kw_48)
  have ol := hts (.methodLink RX1 3 objectInit) (List.mem_cons_of_mem _ kw_149)
  subst hsz
  have hD := hD0.self (sz := s.heap.size)
  generalize hAe : va_A [(h0, .inr (1, [.int (0), .int (0), .int (0), .null, .null, .null, .null]))] s.heap.size = A at hD ⊢
  have hA : ∀ q : Nat, s.heap.size ≤ q → A q := fun q h => by rw [← hAe]; exact Or.inr h
  have hS : va_S A s.heap s.heap [] := va_S.rf
  have hP : va_P D vwCl [(h0, .inr (1, [.int (0), .int (0), .int (0), .null, .null, .null, .null]))] s.heap := hP
  have hD : va_D A [(h0, .inr (1, [.int (0), .int (0), .int (0), .null, .null, .null, .null]))] := hD
  have hl := lv_entry ([.ref (h0), .int (nI L)]) (n := 2) (Nat.le_of_ble_eq_true rfl)
  rw [lg_entry_eq]
  generalize (lg_sl ([.ref (h0), .int (nI L)]) ++ List.replicate (2 - (lg_sl ([.ref (h0), .int (nI L)])).length) Slot.unset).toArray = ls at hl ⊢
  have hl : lv_has ls 2 [(0, .ref (h0)), (1, .int (nI L))] := hl
  refine lv_aload_n hx hb dX1_init_0 rfl (lv_at hl 0 rfl) ?_
  refine W.objInit hx hb hown ol oi oc rfl (by rw [hml]; exact hl.1) rfl dX1_init_1 (Nat.le_of_ble_eq_true rfl) (Nat.le_of_ble_eq_true rfl) ?_
  refine W.eq (g2 := F0 m 4 ls []) rfl ?_
  refine lv_aload_n hx hb dX1_init_4 rfl (lv_at hl 0 rfl) ?_
  refine lv_iload_n hx hb dX1_init_5 rfl (lv_at hl 1 rfl) ?_
  refine va_putF (D := D) (ci := 1) (v := .int (nI L)) (ty := .int) (C := RX1) (T := TX1) (N := 7) hx hb hts (fun w h => List.mem_cons_of_mem _ (hiX1 w h)) tyX1 tyX1_ok nmX1 hown hK hP hD hS 0 rfl rfl 2 (by decide) kf9 (fun _ h9 => h9) rfl hin rfl (by decide +kernel) rfl rfl (Nat.le_of_ble_eq_true rfl) dX1_init_6 (fun H locs hP hD hS => ?_)
  have hP : va_P D vwCl [(h0, .inr (1, [.int (0), .int (0), .int (nI L), .null, .null, .null, .null]))] H := hP
  have hD : va_D A [(h0, .inr (1, [.int (0), .int (0), .int (nI L), .null, .null, .null, .null]))] := hD
  refine lv_aload_n hx hb dX1_init_9 rfl (lv_at hl 0 rfl) ?_
  refine lv_bipush (v := 16) hx hb dX1_init_10 (by decide) ?_
  refine kt_i (y := nI 16) (rfl) ?_
  refine ka_newi (n := 16) hx hb ac_int hK hP hD hS hA (rfl) (by omega) (⟨by decide, by show 0 + 16 ≤ 304; omega⟩) dX1_init_12 (fun q1 H hP hD hS => ?_)
  have hP : va_P D vwCl [(h0, .inr (1, [.int (0), .int (0), .int (nI L), .null, .null, .null, .null])), (q1, .inl (cI, 16, .inl (fun _ => 0)))] H := hP
  have hD : va_D A [(h0, .inr (1, [.int (0), .int (0), .int (nI L), .null, .null, .null, .null])), (q1, .inl (cI, 16, .inl (fun _ => 0)))] := hD
  refine W.widen (k := 1) (n := 16) (by omega) (by omega) ?_
  refine va_putF (D := D) (ci := 1) (v := .ref (q1)) (ty := .array .int) (C := RX1) (T := TX1) (N := 7) hx hb hts (fun w h => List.mem_cons_of_mem _ (hiX1 w h)) tyX1 tyX1_ok nmX1 hown hK hP hD hS 0 rfl rfl 3 (by decide) kf15 (fun _ h9 => h9) rfl hin rfl (by decide +kernel) rfl rfl (Nat.le_of_ble_eq_true rfl) dX1_init_14 (fun H locs hP hD hS => ?_)
  have hP : va_P D vwCl [(h0, .inr (1, [.int (0), .int (0), .int (nI L), .ref (q1), .null, .null, .null])), (q1, .inl (cI, 16, .inl (fun _ => 0)))] H := hP
  have hD : va_D A [(h0, .inr (1, [.int (0), .int (0), .int (nI L), .ref (q1), .null, .null, .null])), (q1, .inl (cI, 16, .inl (fun _ => 0)))] := hD
  refine lv_aload_n hx hb dX1_init_17 rfl (lv_at hl 0 rfl) ?_
  refine lv_bipush (v := 16) hx hb dX1_init_18 (by decide) ?_
  refine kt_i (y := nI 16) (rfl) ?_
  refine ka_newi (n := 16) hx hb ac_int hK hP hD hS hA (rfl) (by omega) (⟨by decide, by show 16 + 16 ≤ 304; omega⟩) dX1_init_20 (fun q2 H hP hD hS => ?_)
  have hP : va_P D vwCl [(h0, .inr (1, [.int (0), .int (0), .int (nI L), .ref (q1), .null, .null, .null])), (q1, .inl (cI, 16, .inl (fun _ => 0))), (q2, .inl (cI, 16, .inl (fun _ => 0)))] H := hP
  have hD : va_D A [(h0, .inr (1, [.int (0), .int (0), .int (nI L), .ref (q1), .null, .null, .null])), (q1, .inl (cI, 16, .inl (fun _ => 0))), (q2, .inl (cI, 16, .inl (fun _ => 0)))] := hD
  refine W.widen (k := 2) (n := 32) (by omega) (by omega) ?_
  refine va_putF (D := D) (ci := 1) (v := .ref (q2)) (ty := .array .int) (C := RX1) (T := TX1) (N := 7) hx hb hts (fun w h => List.mem_cons_of_mem _ (hiX1 w h)) tyX1 tyX1_ok nmX1 hown hK hP hD hS 0 rfl rfl 4 (by decide) kf19 (fun _ h9 => h9) rfl hin rfl (by decide +kernel) rfl rfl (Nat.le_of_ble_eq_true rfl) dX1_init_22 (fun H locs hP hD hS => ?_)
  have hP : va_P D vwCl [(h0, .inr (1, [.int (0), .int (0), .int (nI L), .ref (q1), .ref (q2), .null, .null])), (q1, .inl (cI, 16, .inl (fun _ => 0))), (q2, .inl (cI, 16, .inl (fun _ => 0)))] H := hP
  have hD : va_D A [(h0, .inr (1, [.int (0), .int (0), .int (nI L), .ref (q1), .ref (q2), .null, .null])), (q1, .inl (cI, 16, .inl (fun _ => 0))), (q2, .inl (cI, 16, .inl (fun _ => 0)))] := hD
  refine lv_aload_n hx hb dX1_init_25 rfl (lv_at hl 0 rfl) ?_
  refine lv_bipush (v := 16) hx hb dX1_init_26 (by decide) ?_
  refine kt_i (y := nI 16) (rfl) ?_
  refine ka_newi (n := 16) hx hb ac_int hK hP hD hS hA (rfl) (by omega) (⟨by decide, by show 32 + 16 ≤ 304; omega⟩) dX1_init_28 (fun q3 H hP hD hS => ?_)
  have hP : va_P D vwCl [(h0, .inr (1, [.int (0), .int (0), .int (nI L), .ref (q1), .ref (q2), .null, .null])), (q1, .inl (cI, 16, .inl (fun _ => 0))), (q2, .inl (cI, 16, .inl (fun _ => 0))), (q3, .inl (cI, 16, .inl (fun _ => 0)))] H := hP
  have hD : va_D A [(h0, .inr (1, [.int (0), .int (0), .int (nI L), .ref (q1), .ref (q2), .null, .null])), (q1, .inl (cI, 16, .inl (fun _ => 0))), (q2, .inl (cI, 16, .inl (fun _ => 0))), (q3, .inl (cI, 16, .inl (fun _ => 0)))] := hD
  refine W.widen (k := 3) (n := 48) (by omega) (by omega) ?_
  refine va_putF (D := D) (ci := 1) (v := .ref (q3)) (ty := .array .int) (C := RX1) (T := TX1) (N := 7) hx hb hts (fun w h => List.mem_cons_of_mem _ (hiX1 w h)) tyX1 tyX1_ok nmX1 hown hK hP hD hS 0 rfl rfl 5 (by decide) kf22 (fun _ h9 => h9) rfl hin rfl (by decide +kernel) rfl rfl (Nat.le_of_ble_eq_true rfl) dX1_init_30 (fun H locs hP hD hS => ?_)
  have hP : va_P D vwCl [(h0, .inr (1, [.int (0), .int (0), .int (nI L), .ref (q1), .ref (q2), .ref (q3), .null])), (q1, .inl (cI, 16, .inl (fun _ => 0))), (q2, .inl (cI, 16, .inl (fun _ => 0))), (q3, .inl (cI, 16, .inl (fun _ => 0)))] H := hP
  have hD : va_D A [(h0, .inr (1, [.int (0), .int (0), .int (nI L), .ref (q1), .ref (q2), .ref (q3), .null])), (q1, .inl (cI, 16, .inl (fun _ => 0))), (q2, .inl (cI, 16, .inl (fun _ => 0))), (q3, .inl (cI, 16, .inl (fun _ => 0)))] := hD
  refine lv_aload_n hx hb dX1_init_33 rfl (lv_at hl 0 rfl) ?_
  refine lv_bipush (v := 16) hx hb dX1_init_34 (by decide) ?_
  refine lv_iload_n hx hb dX1_init_36 rfl (lv_at hl 1 rfl) ?_
  refine lv_imul hx hb dX1_init_37 ?_
  refine kt_i (y := nI (16 * L)) (pk_mul 16 _) ?_
  refine ka_newi (n := 16 * L) hx hb ac_int hK hP hD hS hA (rfl) (by omega) (⟨by decide, by show 48 + 16 * L ≤ 304; omega⟩) dX1_init_38 (fun q4 H hP hD hS => ?_)
  have hP : va_P D vwCl [(h0, .inr (1, [.int (0), .int (0), .int (nI L), .ref (q1), .ref (q2), .ref (q3), .null])), (q1, .inl (cI, 16, .inl (fun _ => 0))), (q2, .inl (cI, 16, .inl (fun _ => 0))), (q3, .inl (cI, 16, .inl (fun _ => 0))), (q4, .inl (cI, 16 * L, .inl (fun _ => 0)))] H := hP
  have hD : va_D A [(h0, .inr (1, [.int (0), .int (0), .int (nI L), .ref (q1), .ref (q2), .ref (q3), .null])), (q1, .inl (cI, 16, .inl (fun _ => 0))), (q2, .inl (cI, 16, .inl (fun _ => 0))), (q3, .inl (cI, 16, .inl (fun _ => 0))), (q4, .inl (cI, 16 * L, .inl (fun _ => 0)))] := hD
  refine W.widen (k := 4) (n := 304) (by omega) (by omega) ?_
  refine va_putF (D := D) (ci := 1) (v := .ref (q4)) (ty := .array .int) (C := RX1) (T := TX1) (N := 7) hx hb hts (fun w h => List.mem_cons_of_mem _ (hiX1 w h)) tyX1 tyX1_ok nmX1 hown hK hP hD hS 0 rfl rfl 6 (by decide) kf25 (fun _ h9 => h9) rfl hin rfl (by decide +kernel) rfl rfl (Nat.le_of_ble_eq_true rfl) dX1_init_40 (fun H locs hP hD hS => ?_)
  have hP : va_P D vwCl [(h0, .inr (1, [.int (0), .int (0), .int (nI L), .ref (q1), .ref (q2), .ref (q3), .ref (q4)])), (q1, .inl (cI, 16, .inl (fun _ => 0))), (q2, .inl (cI, 16, .inl (fun _ => 0))), (q3, .inl (cI, 16, .inl (fun _ => 0))), (q4, .inl (cI, 16 * L, .inl (fun _ => 0)))] H := hP
  have hD : va_D A [(h0, .inr (1, [.int (0), .int (0), .int (nI L), .ref (q1), .ref (q2), .ref (q3), .ref (q4)])), (q1, .inl (cI, 16, .inl (fun _ => 0))), (q2, .inl (cI, 16, .inl (fun _ => 0))), (q3, .inl (cI, 16, .inl (fun _ => 0))), (q4, .inl (cI, 16 * L, .inl (fun _ => 0)))] := hD
  refine W.widen (k := 4) (n := 304) (by omega) (by omega) ?_
  exact kr_n (fun i => match i with | 0 => q1 | 1 => q2 | 2 => q3 | _ => q4) (rfl) hx hb hr hlocks hP hK hD hS dX1_init_43

set_option maxHeartbeats 4000000 in
set_option maxRecDepth 100000 in
/-- new rows -/
theorem c_X0_init (l : Launch) (D : va_G) (cI cJ cZ : ClassId) (sz : Nat) (h0 : Nat) : KN l yX0_init wsX0_init ({ frames := 1, cells := 2, slots := 128, locals := 23 } : Room) D (kTy cI cJ cZ) [.ref (h0)] [(h0, .inr (0, [.null, .null, .int (0)]))] sz (fun u => wHis h0 (u 0) (u 1) cI (kf_fill (fun _ => 0) (-1) 64, fun _ => 0, 0)) 2 128 := by
  refine Met.ofW (cc := cX0_init) (maxL := 1) (ret := none) (by decide) rfl ?_
  intro p e s m args below meth c s₁ B hml hv
  obtain ⟨rfl, hsz, hP, hK, hD0⟩ := hv
  have hx := B.exec
  have hb := B.bytes
  have hr := B.returns
  have hts := atoms_spec (ws := wsX0_init) B.pre
  have hown : s.vm.findClass RX0 = some m.cls := findClass_of_methodNamed B.named
  have hlocks := B.notSynchronized
  have hin : meth.name = "<init>" := (name_of_methodNamed B.named B.method).1
  have ac_int := hts (.arrayClass .int) (List.mem_cons_of_mem _ kw_96)
  have kf15 := hts (.fieldLink RX0 15 "TargetRows$HistoryRows" "targets" "[I") (List.mem_cons_of_mem _ kw_106)
  have kf9 := hts (.fieldLink RX0 9 "TargetRows$HistoryRows" "tags" "[I") (List.mem_cons_of_mem _ kw_104)
  have oc := hts (.code objectInit ⟨#[0xb1]⟩ 1 none) (List.mem_cons_of_mem _ kw_49)
  have oi := hts (.instanceMethod objectInit) (List.mem_cons_of_mem _ kw_48)
  have ol := hts (.methodLink RX0 3 objectInit) (List.mem_cons_of_mem _ kw_102)
  subst hsz
  have hD := hD0.self (sz := s.heap.size)
  generalize hAe : va_A [(h0, .inr (0, [.null, .null, .int (0)]))] s.heap.size = A at hD ⊢
  have hA : ∀ q : Nat, s.heap.size ≤ q → A q := fun q h => by rw [← hAe]; exact Or.inr h
  have hS : va_S A s.heap s.heap [] := va_S.rf
  have hP : va_P D vwCl [(h0, .inr (0, [.null, .null, .int (0)]))] s.heap := hP
  have hD : va_D A [(h0, .inr (0, [.null, .null, .int (0)]))] := hD
  have hl := lv_entry ([.ref (h0)]) (n := 1) (Nat.le_of_ble_eq_true rfl)
  rw [lg_entry_eq]
  generalize (lg_sl ([.ref (h0)]) ++ List.replicate (1 - (lg_sl ([.ref (h0)])).length) Slot.unset).toArray = ls at hl ⊢
  have hl : lv_has ls 1 [(0, .ref (h0))] := hl
  refine lv_aload_n hx hb dX0_init_0 rfl (lv_at hl 0 rfl) ?_
  refine W.objInit hx hb hown ol oi oc rfl (by rw [hml]; exact hl.1) rfl dX0_init_1 (Nat.le_of_ble_eq_true rfl) (Nat.le_of_ble_eq_true rfl) ?_
  refine W.eq (g2 := F0 m 4 ls []) rfl ?_
  refine lv_aload_n hx hb dX0_init_4 rfl (lv_at hl 0 rfl) ?_
  refine lv_bipush (v := 64) hx hb dX0_init_5 (by decide) ?_
  refine kt_i (y := nI 64) (rfl) ?_
  refine ka_newi (n := 64) hx hb ac_int hK hP hD hS hA (rfl) (by omega) (⟨by decide, by show 0 + 64 ≤ 128; omega⟩) dX0_init_7 (fun q1 H hP hD hS => ?_)
  have hP : va_P D vwCl [(h0, .inr (0, [.null, .null, .int (0)])), (q1, .inl (cI, 64, .inl (fun _ => 0)))] H := hP
  have hD : va_D A [(h0, .inr (0, [.null, .null, .int (0)])), (q1, .inl (cI, 64, .inl (fun _ => 0)))] := hD
  refine W.widen (k := 1) (n := 64) (by omega) (by omega) ?_
  refine va_putF (D := D) (ci := 0) (v := .ref (q1)) (ty := .array .int) (C := RX0) (T := TX0) (N := 3) hx hb hts (fun w h => List.mem_cons_of_mem _ (hiX0 w h)) tyX0 tyX0_ok nmX0 hown hK hP hD hS 0 rfl rfl 0 (by decide) kf9 (fun _ h9 => h9) rfl hin rfl (by decide +kernel) rfl rfl (Nat.le_of_ble_eq_true rfl) dX0_init_9 (fun H locs hP hD hS => ?_)
  have hP : va_P D vwCl [(h0, .inr (0, [.ref (q1), .null, .int (0)])), (q1, .inl (cI, 64, .inl (fun _ => 0)))] H := hP
  have hD : va_D A [(h0, .inr (0, [.ref (q1), .null, .int (0)])), (q1, .inl (cI, 64, .inl (fun _ => 0)))] := hD
  refine lv_aload_n hx hb dX0_init_12 rfl (lv_at hl 0 rfl) ?_
  refine lv_bipush (v := 64) hx hb dX0_init_13 (by decide) ?_
  refine kt_i (y := nI 64) (rfl) ?_
  refine ka_newi (n := 64) hx hb ac_int hK hP hD hS hA (rfl) (by omega) (⟨by decide, by show 64 + 64 ≤ 128; omega⟩) dX0_init_15 (fun q2 H hP hD hS => ?_)
  have hP : va_P D vwCl [(h0, .inr (0, [.ref (q1), .null, .int (0)])), (q1, .inl (cI, 64, .inl (fun _ => 0))), (q2, .inl (cI, 64, .inl (fun _ => 0)))] H := hP
  have hD : va_D A [(h0, .inr (0, [.ref (q1), .null, .int (0)])), (q1, .inl (cI, 64, .inl (fun _ => 0))), (q2, .inl (cI, 64, .inl (fun _ => 0)))] := hD
  refine W.widen (k := 2) (n := 128) (by omega) (by omega) ?_
  refine va_putF (D := D) (ci := 0) (v := .ref (q2)) (ty := .array .int) (C := RX0) (T := TX0) (N := 3) hx hb hts (fun w h => List.mem_cons_of_mem _ (hiX0 w h)) tyX0 tyX0_ok nmX0 hown hK hP hD hS 0 rfl rfl 1 (by decide) kf15 (fun _ h9 => h9) rfl hin rfl (by decide +kernel) rfl rfl (Nat.le_of_ble_eq_true rfl) dX0_init_17 (fun H locs hP hD hS => ?_)
  have hP : va_P D vwCl [(h0, .inr (0, [.ref (q1), .ref (q2), .int (0)])), (q1, .inl (cI, 64, .inl (fun _ => 0))), (q2, .inl (cI, 64, .inl (fun _ => 0)))] H := hP
  have hD : va_D A [(h0, .inr (0, [.ref (q1), .ref (q2), .int (0)])), (q1, .inl (cI, 64, .inl (fun _ => 0))), (q2, .inl (cI, 64, .inl (fun _ => 0)))] := hD
  refine lv_aload_n hx hb dX0_init_20 rfl (lv_at hl 0 rfl) ?_
  refine va_get (D := D) (ci := 0) (v := .ref (q1)) (C := RX0) (T := TX0) (N := 3) hx hb hts (fun w h => List.mem_cons_of_mem _ (hiX0 w h)) hown hK hP 0 rfl rfl 0 (by decide) kf9 (fun _ h9 => h9) rfl dX0_init_21 ?_
  refine lv_iconst (v := (-1)) hx hb dX0_init_24 (by decide) ?_
  refine kc_v (wc := [(q1, .inl (cI, 64, .inl (fun _ => 0)))]) (wr := [(h0, .inr (0, [.ref (q1), .ref (q2), .int (0)])), (q2, .inl (cI, 64, .inl (fun _ => 0)))]) [1] [0, 2] rfl rfl (by decide) (by decide) hP hD hS hA (va_runS (As := [.ref (q1), .int ((-1))]) (rest := []) ⟨hx, hb, hml, hown, hts⟩ (c_J7_fill l D cI cJ cZ _ _ _ _ _ (by decide)) (va_cwS 2 hts (kw_S kw_103 kw_60 kw_29 kw_61) rfl rfl rfl (by decide +kernel) ⟨Nat.le_of_ble_eq_true rfl, Nat.le_of_ble_eq_true rfl⟩) ⟨kP_blind, kP_at (hP.sub [1] rfl) hK (hD.sub [1] (by decide) rfl)⟩ rfl rfl hl.1 rfl (lv_room (Nat.le_of_ble_eq_true rfl)) dX0_init_25 ⟨Nat.le_of_ble_eq_true rfl, Nat.le_of_ble_eq_true rfl⟩) (fun H locs hP hD hS => ?_)
  have hP := hP.sub (ws' := [(h0, .inr (0, [.ref (q1), .ref (q2), .int (0)])), (q1, .inl (cI, 64, .inl (kf_fill (fun _ => 0) ((-1)) (64)))), (q2, .inl (cI, 64, .inl (fun _ => 0)))]) [0, 2, 1] rfl
  have hD := hD.sub (ws' := [(h0, .inr (0, [.ref (q1), .ref (q2), .int (0)])), (q1, .inl (cI, 64, .inl (kf_fill (fun _ => 0) ((-1)) (64)))), (q2, .inl (cI, 64, .inl (fun _ => 0)))]) [0, 2, 1] (by decide) rfl
  refine W.widen (k := 2) (n := 128) (by omega) (by omega) ?_
  exact kr_n (fun i => match i with | 0 => q1 | _ => q2) (rfl) hx hb hr hlocks hP hK hD hS dX0_init_28

set_option maxHeartbeats 4000000 in
set_option maxRecDepth 100000 in
/-- a new table -/
theorem c_X3_init (l : Launch) (D : va_G) (cI cJ cZ : ClassId) (sz : Nat) (h0 s0 Wy : Nat) (hs : s0 < 6) (hW4 : Wy ≤ 4) : KN l yX3_init wsX3_init ({ frames := 1, cells := 4, slots := 256, locals := 23 } : Room) D (kTy cI cJ cZ) [.ref (h0), .int (nI s0), .int (nI Wy)] [(h0, .inr (3, [.int (0), .int (0), .null, .null, .null, .int (0), .int (0), .null, .int (0)]))] sz (fun u => wTab h0 (u 0) (u 1) (u 2) (u 3) cI (tS s0) Wy (s0 - 1) (kf_fill (fun _ => 0) (-1) (tS s0 * Wy), fun _ => 0, fun _ => 0, fun _ => 0, 0, 0)) 4 256 := by
  refine Met.ofW (cc := cX3_init) (maxL := 4) (ret := none) (by decide) rfl ?_
  intro p e s m args below meth c s₁ B hml hv
  obtain ⟨rfl, hsz, hP, hK, hD0⟩ := hv
  have hx := B.exec
  have hb := B.bytes
  have hr := B.returns
  have hts := atoms_spec (ws := wsX3_init) B.pre
  have hown : s.vm.findClass RX3 = some m.cls := findClass_of_methodNamed B.named
  have hlocks := B.notSynchronized
  have hin : meth.name = "<init>" := (name_of_methodNamed B.named B.method).1
  have ac_int := hts (.arrayClass .int) (List.mem_cons_of_mem _ kw_96)
  have kf15 := hts (.fieldLink RX3 15 "TargetRows$Table" "sets" "I") (List.mem_cons_of_mem _ kw_62)
  have kf18 := hts (.fieldLink RX3 18 "TargetRows$Table" "ways" "I") (List.mem_cons_of_mem _ kw_64)
  have kf21 := hts (.fieldLink RX3 21 "TargetRows$Table" "tags" "[I") (List.mem_cons_of_mem _ kw_66)
  have kf25 := hts (.fieldLink RX3 25 "TargetRows$Table" "kinds" "[I") (List.mem_cons_of_mem _ kw_68)
  have kf28 := hts (.fieldLink RX3 28 "TargetRows$Table" "targets" "[I") (List.mem_cons_of_mem _ kw_70)
  have kf31 := hts (.fieldLink RX3 31 "TargetRows$Table" "lastUses" "[I") (List.mem_cons_of_mem _ kw_75)
  have kf9 := hts (.fieldLink RX3 9 "TargetRows$Table" "setBits" "I") (List.mem_cons_of_mem _ kw_74)
  have oc := hts (.code objectInit ⟨#[0xb1]⟩ 1 none) (List.mem_cons_of_mem _ kw_49)
  have oi := hts (.instanceMethod objectInit) (List.mem_cons_of_mem _ kw_48)
  have ol := hts (.methodLink RX3 3 objectInit) (List.mem_cons_of_mem _ kw_58)
  subst hsz
  have hD := hD0.self (sz := s.heap.size)
  generalize hAe : va_A [(h0, .inr (3, [.int (0), .int (0), .null, .null, .null, .int (0), .int (0), .null, .int (0)]))] s.heap.size = A at hD ⊢
  have hA : ∀ q : Nat, s.heap.size ≤ q → A q := fun q h => by rw [← hAe]; exact Or.inr h
  have hS : va_S A s.heap s.heap [] := va_S.rf
  have hP : va_P D vwCl [(h0, .inr (3, [.int (0), .int (0), .null, .null, .null, .int (0), .int (0), .null, .int (0)]))] s.heap := hP
  have hD : va_D A [(h0, .inr (3, [.int (0), .int (0), .null, .null, .null, .int (0), .int (0), .null, .int (0)]))] := hD
  have hl := lv_entry ([.ref (h0), .int (nI s0), .int (nI Wy)]) (n := 4) (Nat.le_of_ble_eq_true rfl)
  rw [lg_entry_eq]
  generalize (lg_sl ([.ref (h0), .int (nI s0), .int (nI Wy)]) ++ List.replicate (4 - (lg_sl ([.ref (h0), .int (nI s0), .int (nI Wy)])).length) Slot.unset).toArray = ls at hl ⊢
  have hl : lv_has ls 4 [(0, .ref (h0)), (1, .int (nI s0)), (2, .int (nI Wy))] := hl
  have hSW : tS s0 * Wy ≤ 64 := Nat.mul_le_mul (tS_le hs) hW4
  refine lv_aload_n hx hb dX3_init_0 rfl (lv_at hl 0 rfl) ?_
  refine W.objInit hx hb hown ol oi oc rfl (by rw [hml]; exact hl.1) rfl dX3_init_1 (Nat.le_of_ble_eq_true rfl) (Nat.le_of_ble_eq_true rfl) ?_
  refine W.eq (g2 := F0 m 4 ls []) rfl ?_
  refine lv_aload_n hx hb dX3_init_4 rfl (lv_at hl 0 rfl) ?_
  refine lv_iload_n hx hb dX3_init_5 rfl (lv_at hl 1 rfl) ?_
  refine lv_if_le (tgt := 15) hx hb dX3_init_6 (by decide) (fun c_6 => ?_) (fun c_6 => ?_)
  ·
    have hs0 : s0 = 0 := by
      rcases Nat.eq_zero_or_pos s0 with q | q
      · exact q
      · exact absurd c_6 (nI_nle q (by omega))
    refine lv_iconst (v := 0) hx hb dX3_init_15 (by decide) ?_
    refine kt_i (y := nI (s0 - 1)) (by rw [hs0]; rfl) ?_
    refine va_putF (D := D) (ci := 3) (v := .int (nI (s0 - 1))) (ty := .int) (C := RX3) (T := TX3) (N := 9) hx hb hts (fun w h => List.mem_cons_of_mem _ (hiX3 w h)) tyX3 tyX3_ok nmX3 hown hK hP hD hS 0 rfl rfl 6 (by decide) kf9 (fun _ h9 => h9) rfl hin rfl (by decide +kernel) rfl rfl (Nat.le_of_ble_eq_true rfl) dX3_init_16 (fun H locs hP hD hS => ?_)
    have hP : va_P D vwCl [(h0, .inr (3, [.int (0), .int (0), .null, .null, .null, .int (0), .int (nI (s0 - 1)), .null, .int (0)]))] H := hP
    have hD : va_D A [(h0, .inr (3, [.int (0), .int (0), .null, .null, .null, .int (0), .int (nI (s0 - 1)), .null, .int (0)]))] := hD
    refine lv_aload_n hx hb dX3_init_19 rfl (lv_at hl 0 rfl) ?_
    refine lv_iload_n hx hb dX3_init_20 rfl (lv_at hl 1 rfl) ?_
    refine lv_if_le (tgt := 33) hx hb dX3_init_21 (by decide) (fun c_21 => ?_) (fun c_21 => absurd (by rw [hs0]; decide) c_21)
    refine lv_iconst (v := 0) hx hb dX3_init_33 (by decide) ?_
    refine kt_i (y := nI (tS s0)) (by rw [hs0]; rfl) ?_
    refine va_putF (D := D) (ci := 3) (v := .int (nI (tS s0))) (ty := .int) (C := RX3) (T := TX3) (N := 9) hx hb hts (fun w h => List.mem_cons_of_mem _ (hiX3 w h)) tyX3 tyX3_ok nmX3 hown hK hP hD hS 0 rfl rfl 0 (by decide) kf15 (fun _ h9 => h9) rfl hin rfl (by decide +kernel) rfl rfl (Nat.le_of_ble_eq_true rfl) dX3_init_34 (fun H locs hP hD hS => ?_)
    have hP : va_P D vwCl [(h0, .inr (3, [.int (nI (tS s0)), .int (0), .null, .null, .null, .int (0), .int (nI (s0 - 1)), .null, .int (0)]))] H := hP
    have hD : va_D A [(h0, .inr (3, [.int (nI (tS s0)), .int (0), .null, .null, .null, .int (0), .int (nI (s0 - 1)), .null, .int (0)]))] := hD
    refine lv_aload_n hx hb dX3_init_37 rfl (lv_at hl 0 rfl) ?_
    refine lv_iload_n hx hb dX3_init_38 rfl (lv_at hl 2 rfl) ?_
    refine va_putF (D := D) (ci := 3) (v := .int (nI Wy)) (ty := .int) (C := RX3) (T := TX3) (N := 9) hx hb hts (fun w h => List.mem_cons_of_mem _ (hiX3 w h)) tyX3 tyX3_ok nmX3 hown hK hP hD hS 0 rfl rfl 1 (by decide) kf18 (fun _ h9 => h9) rfl hin rfl (by decide +kernel) rfl rfl (Nat.le_of_ble_eq_true rfl) dX3_init_39 (fun H locs hP hD hS => ?_)
    have hP : va_P D vwCl [(h0, .inr (3, [.int (nI (tS s0)), .int (nI Wy), .null, .null, .null, .int (0), .int (nI (s0 - 1)), .null, .int (0)]))] H := hP
    have hD : va_D A [(h0, .inr (3, [.int (nI (tS s0)), .int (nI Wy), .null, .null, .null, .int (0), .int (nI (s0 - 1)), .null, .int (0)]))] := hD
    refine lv_aload_n hx hb dX3_init_42 rfl (lv_at hl 0 rfl) ?_
    refine va_get (D := D) (ci := 3) (v := .int (nI (tS s0))) (C := RX3) (T := TX3) (N := 9) hx hb hts (fun w h => List.mem_cons_of_mem _ (hiX3 w h)) hown hK hP 0 rfl rfl 0 (by decide) kf15 (fun _ h9 => h9) rfl dX3_init_43 ?_
    refine lv_iload_n hx hb dX3_init_46 rfl (lv_at hl 2 rfl) ?_
    refine lv_imul hx hb dX3_init_47 ?_
    refine kt_i (y := nI (tS s0 * Wy)) (pk_mul _ _) ?_
    refine lv_istore_n (lv' := [(3, .int (nI (tS s0 * Wy))), (0, .ref (h0)), (1, .int (nI s0)), (2, .int (nI Wy))]) hx hb dX3_init_48 rfl hl (by decide) rfl (fun ls hl => ?_)
    refine lv_aload_n hx hb dX3_init_49 rfl (lv_at hl 1 rfl) ?_
    refine lv_iload_n hx hb dX3_init_50 rfl (lv_at hl 0 rfl) ?_
    refine ka_newi (n := tS s0 * Wy) hx hb ac_int hK hP hD hS hA (rfl) (by omega) (⟨by decide, by show 0 + _ ≤ 256; omega⟩) dX3_init_51 (fun q1 H hP hD hS => ?_)
    have hP : va_P D vwCl [(h0, .inr (3, [.int (nI (tS s0)), .int (nI Wy), .null, .null, .null, .int (0), .int (nI (s0 - 1)), .null, .int (0)])), (q1, .inl (cI, tS s0 * Wy, .inl (fun _ => 0)))] H := hP
    have hD : va_D A [(h0, .inr (3, [.int (nI (tS s0)), .int (nI Wy), .null, .null, .null, .int (0), .int (nI (s0 - 1)), .null, .int (0)])), (q1, .inl (cI, tS s0 * Wy, .inl (fun _ => 0)))] := hD
    refine W.widen (k := 1) (n := 64) (by omega) (by omega) ?_
    refine va_putF (D := D) (ci := 3) (v := .ref (q1)) (ty := .array .int) (C := RX3) (T := TX3) (N := 9) hx hb hts (fun w h => List.mem_cons_of_mem _ (hiX3 w h)) tyX3 tyX3_ok nmX3 hown hK hP hD hS 0 rfl rfl 2 (by decide) kf21 (fun _ h9 => h9) rfl hin rfl (by decide +kernel) rfl rfl (Nat.le_of_ble_eq_true rfl) dX3_init_53 (fun H locs hP hD hS => ?_)
    have hP : va_P D vwCl [(h0, .inr (3, [.int (nI (tS s0)), .int (nI Wy), .ref (q1), .null, .null, .int (0), .int (nI (s0 - 1)), .null, .int (0)])), (q1, .inl (cI, tS s0 * Wy, .inl (fun _ => 0)))] H := hP
    have hD : va_D A [(h0, .inr (3, [.int (nI (tS s0)), .int (nI Wy), .ref (q1), .null, .null, .int (0), .int (nI (s0 - 1)), .null, .int (0)])), (q1, .inl (cI, tS s0 * Wy, .inl (fun _ => 0)))] := hD
    refine lv_aload_n hx hb dX3_init_56 rfl (lv_at hl 1 rfl) ?_
    refine lv_iload_n hx hb dX3_init_57 rfl (lv_at hl 0 rfl) ?_
    refine ka_newi (n := tS s0 * Wy) hx hb ac_int hK hP hD hS hA (rfl) (by omega) (⟨by decide, by show 64 + _ ≤ 256; omega⟩) dX3_init_58 (fun q2 H hP hD hS => ?_)
    have hP : va_P D vwCl [(h0, .inr (3, [.int (nI (tS s0)), .int (nI Wy), .ref (q1), .null, .null, .int (0), .int (nI (s0 - 1)), .null, .int (0)])), (q1, .inl (cI, tS s0 * Wy, .inl (fun _ => 0))), (q2, .inl (cI, tS s0 * Wy, .inl (fun _ => 0)))] H := hP
    have hD : va_D A [(h0, .inr (3, [.int (nI (tS s0)), .int (nI Wy), .ref (q1), .null, .null, .int (0), .int (nI (s0 - 1)), .null, .int (0)])), (q1, .inl (cI, tS s0 * Wy, .inl (fun _ => 0))), (q2, .inl (cI, tS s0 * Wy, .inl (fun _ => 0)))] := hD
    refine W.widen (k := 2) (n := 128) (by omega) (by omega) ?_
    refine va_putF (D := D) (ci := 3) (v := .ref (q2)) (ty := .array .int) (C := RX3) (T := TX3) (N := 9) hx hb hts (fun w h => List.mem_cons_of_mem _ (hiX3 w h)) tyX3 tyX3_ok nmX3 hown hK hP hD hS 0 rfl rfl 3 (by decide) kf25 (fun _ h9 => h9) rfl hin rfl (by decide +kernel) rfl rfl (Nat.le_of_ble_eq_true rfl) dX3_init_60 (fun H locs hP hD hS => ?_)
    have hP : va_P D vwCl [(h0, .inr (3, [.int (nI (tS s0)), .int (nI Wy), .ref (q1), .ref (q2), .null, .int (0), .int (nI (s0 - 1)), .null, .int (0)])), (q1, .inl (cI, tS s0 * Wy, .inl (fun _ => 0))), (q2, .inl (cI, tS s0 * Wy, .inl (fun _ => 0)))] H := hP
    have hD : va_D A [(h0, .inr (3, [.int (nI (tS s0)), .int (nI Wy), .ref (q1), .ref (q2), .null, .int (0), .int (nI (s0 - 1)), .null, .int (0)])), (q1, .inl (cI, tS s0 * Wy, .inl (fun _ => 0))), (q2, .inl (cI, tS s0 * Wy, .inl (fun _ => 0)))] := hD
    refine lv_aload_n hx hb dX3_init_63 rfl (lv_at hl 1 rfl) ?_
    refine lv_iload_n hx hb dX3_init_64 rfl (lv_at hl 0 rfl) ?_
    refine ka_newi (n := tS s0 * Wy) hx hb ac_int hK hP hD hS hA (rfl) (by omega) (⟨by decide, by show 128 + _ ≤ 256; omega⟩) dX3_init_65 (fun q3 H hP hD hS => ?_)
    have hP : va_P D vwCl [(h0, .inr (3, [.int (nI (tS s0)), .int (nI Wy), .ref (q1), .ref (q2), .null, .int (0), .int (nI (s0 - 1)), .null, .int (0)])), (q1, .inl (cI, tS s0 * Wy, .inl (fun _ => 0))), (q2, .inl (cI, tS s0 * Wy, .inl (fun _ => 0))), (q3, .inl (cI, tS s0 * Wy, .inl (fun _ => 0)))] H := hP
    have hD : va_D A [(h0, .inr (3, [.int (nI (tS s0)), .int (nI Wy), .ref (q1), .ref (q2), .null, .int (0), .int (nI (s0 - 1)), .null, .int (0)])), (q1, .inl (cI, tS s0 * Wy, .inl (fun _ => 0))), (q2, .inl (cI, tS s0 * Wy, .inl (fun _ => 0))), (q3, .inl (cI, tS s0 * Wy, .inl (fun _ => 0)))] := hD
    refine W.widen (k := 3) (n := 192) (by omega) (by omega) ?_
    refine va_putF (D := D) (ci := 3) (v := .ref (q3)) (ty := .array .int) (C := RX3) (T := TX3) (N := 9) hx hb hts (fun w h => List.mem_cons_of_mem _ (hiX3 w h)) tyX3 tyX3_ok nmX3 hown hK hP hD hS 0 rfl rfl 4 (by decide) kf28 (fun _ h9 => h9) rfl hin rfl (by decide +kernel) rfl rfl (Nat.le_of_ble_eq_true rfl) dX3_init_67 (fun H locs hP hD hS => ?_)
    have hP : va_P D vwCl [(h0, .inr (3, [.int (nI (tS s0)), .int (nI Wy), .ref (q1), .ref (q2), .ref (q3), .int (0), .int (nI (s0 - 1)), .null, .int (0)])), (q1, .inl (cI, tS s0 * Wy, .inl (fun _ => 0))), (q2, .inl (cI, tS s0 * Wy, .inl (fun _ => 0))), (q3, .inl (cI, tS s0 * Wy, .inl (fun _ => 0)))] H := hP
    have hD : va_D A [(h0, .inr (3, [.int (nI (tS s0)), .int (nI Wy), .ref (q1), .ref (q2), .ref (q3), .int (0), .int (nI (s0 - 1)), .null, .int (0)])), (q1, .inl (cI, tS s0 * Wy, .inl (fun _ => 0))), (q2, .inl (cI, tS s0 * Wy, .inl (fun _ => 0))), (q3, .inl (cI, tS s0 * Wy, .inl (fun _ => 0)))] := hD
    refine lv_aload_n hx hb dX3_init_70 rfl (lv_at hl 1 rfl) ?_
    refine lv_iload_n hx hb dX3_init_71 rfl (lv_at hl 0 rfl) ?_
    refine ka_newi (n := tS s0 * Wy) hx hb ac_int hK hP hD hS hA (rfl) (by omega) (⟨by decide, by show 192 + _ ≤ 256; omega⟩) dX3_init_72 (fun q4 H hP hD hS => ?_)
    have hP : va_P D vwCl [(h0, .inr (3, [.int (nI (tS s0)), .int (nI Wy), .ref (q1), .ref (q2), .ref (q3), .int (0), .int (nI (s0 - 1)), .null, .int (0)])), (q1, .inl (cI, tS s0 * Wy, .inl (fun _ => 0))), (q2, .inl (cI, tS s0 * Wy, .inl (fun _ => 0))), (q3, .inl (cI, tS s0 * Wy, .inl (fun _ => 0))), (q4, .inl (cI, tS s0 * Wy, .inl (fun _ => 0)))] H := hP
    have hD : va_D A [(h0, .inr (3, [.int (nI (tS s0)), .int (nI Wy), .ref (q1), .ref (q2), .ref (q3), .int (0), .int (nI (s0 - 1)), .null, .int (0)])), (q1, .inl (cI, tS s0 * Wy, .inl (fun _ => 0))), (q2, .inl (cI, tS s0 * Wy, .inl (fun _ => 0))), (q3, .inl (cI, tS s0 * Wy, .inl (fun _ => 0))), (q4, .inl (cI, tS s0 * Wy, .inl (fun _ => 0)))] := hD
    refine W.widen (k := 4) (n := 256) (by omega) (by omega) ?_
    refine va_putF (D := D) (ci := 3) (v := .ref (q4)) (ty := .array .int) (C := RX3) (T := TX3) (N := 9) hx hb hts (fun w h => List.mem_cons_of_mem _ (hiX3 w h)) tyX3 tyX3_ok nmX3 hown hK hP hD hS 0 rfl rfl 7 (by decide) kf31 (fun _ h9 => h9) rfl hin rfl (by decide +kernel) rfl rfl (Nat.le_of_ble_eq_true rfl) dX3_init_74 (fun H locs hP hD hS => ?_)
    have hP : va_P D vwCl [(h0, .inr (3, [.int (nI (tS s0)), .int (nI Wy), .ref (q1), .ref (q2), .ref (q3), .int (0), .int (nI (s0 - 1)), .ref (q4), .int (0)])), (q1, .inl (cI, tS s0 * Wy, .inl (fun _ => 0))), (q2, .inl (cI, tS s0 * Wy, .inl (fun _ => 0))), (q3, .inl (cI, tS s0 * Wy, .inl (fun _ => 0))), (q4, .inl (cI, tS s0 * Wy, .inl (fun _ => 0)))] H := hP
    have hD : va_D A [(h0, .inr (3, [.int (nI (tS s0)), .int (nI Wy), .ref (q1), .ref (q2), .ref (q3), .int (0), .int (nI (s0 - 1)), .ref (q4), .int (0)])), (q1, .inl (cI, tS s0 * Wy, .inl (fun _ => 0))), (q2, .inl (cI, tS s0 * Wy, .inl (fun _ => 0))), (q3, .inl (cI, tS s0 * Wy, .inl (fun _ => 0))), (q4, .inl (cI, tS s0 * Wy, .inl (fun _ => 0)))] := hD
    refine lv_aload_n hx hb dX3_init_77 rfl (lv_at hl 1 rfl) ?_
    refine va_get (D := D) (ci := 3) (v := .ref (q1)) (C := RX3) (T := TX3) (N := 9) hx hb hts (fun w h => List.mem_cons_of_mem _ (hiX3 w h)) hown hK hP 0 rfl rfl 2 (by decide) kf21 (fun _ h9 => h9) rfl dX3_init_78 ?_
    refine lv_iconst (v := (-1)) hx hb dX3_init_81 (by decide) ?_
    refine kc_v (wc := [(q1, .inl (cI, tS s0 * Wy, .inl (fun _ => 0)))]) (wr := [(h0, .inr (3, [.int (nI (tS s0)), .int (nI Wy), .ref (q1), .ref (q2), .ref (q3), .int (0), .int (nI (s0 - 1)), .ref (q4), .int (0)])), (q2, .inl (cI, tS s0 * Wy, .inl (fun _ => 0))), (q3, .inl (cI, tS s0 * Wy, .inl (fun _ => 0))), (q4, .inl (cI, tS s0 * Wy, .inl (fun _ => 0)))]) [1] [0, 2, 3, 4] rfl rfl (by decide) (by decide) hP hD hS hA (va_runS (As := [.ref (q1), .int ((-1))]) (rest := []) ⟨hx, hb, hml, hown, hts⟩ (c_J7_fill l D cI cJ cZ _ _ _ _ _ (by omega)) (va_cwS 2 hts (kw_S kw_59 kw_60 kw_29 kw_61) rfl rfl rfl (by decide +kernel) ⟨Nat.le_of_ble_eq_true rfl, Nat.le_of_ble_eq_true rfl⟩) ⟨kP_blind, kP_at (hP.sub [1] rfl) hK (hD.sub [1] (by decide) rfl)⟩ rfl rfl hl.1 rfl (lv_room (Nat.le_of_ble_eq_true rfl)) dX3_init_82 ⟨Nat.le_of_ble_eq_true rfl, Nat.le_of_ble_eq_true rfl⟩) (fun H locs hP hD hS => ?_)
    have hP := hP.sub (ws' := [(h0, .inr (3, [.int (nI (tS s0)), .int (nI Wy), .ref (q1), .ref (q2), .ref (q3), .int (0), .int (nI (s0 - 1)), .ref (q4), .int (0)])), (q1, .inl (cI, tS s0 * Wy, .inl (kf_fill (fun _ => 0) ((-1)) (tS s0 * Wy)))), (q2, .inl (cI, tS s0 * Wy, .inl (fun _ => 0))), (q3, .inl (cI, tS s0 * Wy, .inl (fun _ => 0))), (q4, .inl (cI, tS s0 * Wy, .inl (fun _ => 0)))]) [0, 4, 1, 2, 3] rfl
    have hD := hD.sub (ws' := [(h0, .inr (3, [.int (nI (tS s0)), .int (nI Wy), .ref (q1), .ref (q2), .ref (q3), .int (0), .int (nI (s0 - 1)), .ref (q4), .int (0)])), (q1, .inl (cI, tS s0 * Wy, .inl (kf_fill (fun _ => 0) ((-1)) (tS s0 * Wy)))), (q2, .inl (cI, tS s0 * Wy, .inl (fun _ => 0))), (q3, .inl (cI, tS s0 * Wy, .inl (fun _ => 0))), (q4, .inl (cI, tS s0 * Wy, .inl (fun _ => 0)))]) [0, 4, 1, 2, 3] (by decide) rfl
    refine W.widen (k := 4) (n := 256) (by omega) (by omega) ?_
    exact kr_n (fun i => match i with | 0 => q1 | 1 => q2 | 2 => q3 | _ => q4) (rfl) hx hb hr hlocks hP hK hD hS dX3_init_85
  ·
    have hs0 : s0 ≠ 0 := fun q => c_6 (by rw [q]; decide)
    refine lv_iload_n hx hb dX3_init_9 rfl (lv_at hl 1 rfl) ?_
    refine lv_iconst (v := 1) hx hb dX3_init_10 (by decide) ?_
    refine lv_isub hx hb dX3_init_11 ?_
    refine kt_i (y := nI (s0 - 1)) (pk_sub (b := 1) (by omega)) ?_
    refine lv_goto (tgt := 16) hx hb dX3_init_12 (by decide) ?_
    refine va_putF (D := D) (ci := 3) (v := .int (nI (s0 - 1))) (ty := .int) (C := RX3) (T := TX3) (N := 9) hx hb hts (fun w h => List.mem_cons_of_mem _ (hiX3 w h)) tyX3 tyX3_ok nmX3 hown hK hP hD hS 0 rfl rfl 6 (by decide) kf9 (fun _ h9 => h9) rfl hin rfl (by decide +kernel) rfl rfl (Nat.le_of_ble_eq_true rfl) dX3_init_16 (fun H locs hP hD hS => ?_)
    have hP : va_P D vwCl [(h0, .inr (3, [.int (0), .int (0), .null, .null, .null, .int (0), .int (nI (s0 - 1)), .null, .int (0)]))] H := hP
    have hD : va_D A [(h0, .inr (3, [.int (0), .int (0), .null, .null, .null, .int (0), .int (nI (s0 - 1)), .null, .int (0)]))] := hD
    refine lv_aload_n hx hb dX3_init_19 rfl (lv_at hl 0 rfl) ?_
    refine lv_iload_n hx hb dX3_init_20 rfl (lv_at hl 1 rfl) ?_
    refine lv_if_le (tgt := 33) hx hb dX3_init_21 (by decide) (fun c_21 => absurd c_21 (nI_nle (by omega) (by omega))) (fun c_21 => ?_)
    refine lv_iconst (v := 1) hx hb dX3_init_24 (by decide) ?_
    refine lv_aload_n hx hb dX3_init_25 rfl (lv_at hl 0 rfl) ?_
    refine va_get (D := D) (ci := 3) (v := .int (nI (s0 - 1))) (C := RX3) (T := TX3) (N := 9) hx hb hts (fun w h => List.mem_cons_of_mem _ (hiX3 w h)) hown hK hP 0 rfl rfl 6 (by decide) kf9 (fun _ h9 => h9) rfl dX3_init_26 ?_
    refine lv_ishl hx hb dX3_init_29 ?_
    refine kt_i (y := nI (tS s0)) (by rw [tS_p hs0]; exact shl1 (by omega)) ?_
    refine lv_goto (tgt := 34) hx hb dX3_init_30 (by decide) ?_
    refine va_putF (D := D) (ci := 3) (v := .int (nI (tS s0))) (ty := .int) (C := RX3) (T := TX3) (N := 9) hx hb hts (fun w h => List.mem_cons_of_mem _ (hiX3 w h)) tyX3 tyX3_ok nmX3 hown hK hP hD hS 0 rfl rfl 0 (by decide) kf15 (fun _ h9 => h9) rfl hin rfl (by decide +kernel) rfl rfl (Nat.le_of_ble_eq_true rfl) dX3_init_34 (fun H locs hP hD hS => ?_)
    have hP : va_P D vwCl [(h0, .inr (3, [.int (nI (tS s0)), .int (0), .null, .null, .null, .int (0), .int (nI (s0 - 1)), .null, .int (0)]))] H := hP
    have hD : va_D A [(h0, .inr (3, [.int (nI (tS s0)), .int (0), .null, .null, .null, .int (0), .int (nI (s0 - 1)), .null, .int (0)]))] := hD
    refine lv_aload_n hx hb dX3_init_37 rfl (lv_at hl 0 rfl) ?_
    refine lv_iload_n hx hb dX3_init_38 rfl (lv_at hl 2 rfl) ?_
    refine va_putF (D := D) (ci := 3) (v := .int (nI Wy)) (ty := .int) (C := RX3) (T := TX3) (N := 9) hx hb hts (fun w h => List.mem_cons_of_mem _ (hiX3 w h)) tyX3 tyX3_ok nmX3 hown hK hP hD hS 0 rfl rfl 1 (by decide) kf18 (fun _ h9 => h9) rfl hin rfl (by decide +kernel) rfl rfl (Nat.le_of_ble_eq_true rfl) dX3_init_39 (fun H locs hP hD hS => ?_)
    have hP : va_P D vwCl [(h0, .inr (3, [.int (nI (tS s0)), .int (nI Wy), .null, .null, .null, .int (0), .int (nI (s0 - 1)), .null, .int (0)]))] H := hP
    have hD : va_D A [(h0, .inr (3, [.int (nI (tS s0)), .int (nI Wy), .null, .null, .null, .int (0), .int (nI (s0 - 1)), .null, .int (0)]))] := hD
    refine lv_aload_n hx hb dX3_init_42 rfl (lv_at hl 0 rfl) ?_
    refine va_get (D := D) (ci := 3) (v := .int (nI (tS s0))) (C := RX3) (T := TX3) (N := 9) hx hb hts (fun w h => List.mem_cons_of_mem _ (hiX3 w h)) hown hK hP 0 rfl rfl 0 (by decide) kf15 (fun _ h9 => h9) rfl dX3_init_43 ?_
    refine lv_iload_n hx hb dX3_init_46 rfl (lv_at hl 2 rfl) ?_
    refine lv_imul hx hb dX3_init_47 ?_
    refine kt_i (y := nI (tS s0 * Wy)) (pk_mul _ _) ?_
    refine lv_istore_n (lv' := [(3, .int (nI (tS s0 * Wy))), (0, .ref (h0)), (1, .int (nI s0)), (2, .int (nI Wy))]) hx hb dX3_init_48 rfl hl (by decide) rfl (fun ls hl => ?_)
    refine lv_aload_n hx hb dX3_init_49 rfl (lv_at hl 1 rfl) ?_
    refine lv_iload_n hx hb dX3_init_50 rfl (lv_at hl 0 rfl) ?_
    refine ka_newi (n := tS s0 * Wy) hx hb ac_int hK hP hD hS hA (rfl) (by omega) (⟨by decide, by show 0 + _ ≤ 256; omega⟩) dX3_init_51 (fun q1 H hP hD hS => ?_)
    have hP : va_P D vwCl [(h0, .inr (3, [.int (nI (tS s0)), .int (nI Wy), .null, .null, .null, .int (0), .int (nI (s0 - 1)), .null, .int (0)])), (q1, .inl (cI, tS s0 * Wy, .inl (fun _ => 0)))] H := hP
    have hD : va_D A [(h0, .inr (3, [.int (nI (tS s0)), .int (nI Wy), .null, .null, .null, .int (0), .int (nI (s0 - 1)), .null, .int (0)])), (q1, .inl (cI, tS s0 * Wy, .inl (fun _ => 0)))] := hD
    refine W.widen (k := 1) (n := 64) (by omega) (by omega) ?_
    refine va_putF (D := D) (ci := 3) (v := .ref (q1)) (ty := .array .int) (C := RX3) (T := TX3) (N := 9) hx hb hts (fun w h => List.mem_cons_of_mem _ (hiX3 w h)) tyX3 tyX3_ok nmX3 hown hK hP hD hS 0 rfl rfl 2 (by decide) kf21 (fun _ h9 => h9) rfl hin rfl (by decide +kernel) rfl rfl (Nat.le_of_ble_eq_true rfl) dX3_init_53 (fun H locs hP hD hS => ?_)
    have hP : va_P D vwCl [(h0, .inr (3, [.int (nI (tS s0)), .int (nI Wy), .ref (q1), .null, .null, .int (0), .int (nI (s0 - 1)), .null, .int (0)])), (q1, .inl (cI, tS s0 * Wy, .inl (fun _ => 0)))] H := hP
    have hD : va_D A [(h0, .inr (3, [.int (nI (tS s0)), .int (nI Wy), .ref (q1), .null, .null, .int (0), .int (nI (s0 - 1)), .null, .int (0)])), (q1, .inl (cI, tS s0 * Wy, .inl (fun _ => 0)))] := hD
    refine lv_aload_n hx hb dX3_init_56 rfl (lv_at hl 1 rfl) ?_
    refine lv_iload_n hx hb dX3_init_57 rfl (lv_at hl 0 rfl) ?_
    refine ka_newi (n := tS s0 * Wy) hx hb ac_int hK hP hD hS hA (rfl) (by omega) (⟨by decide, by show 64 + _ ≤ 256; omega⟩) dX3_init_58 (fun q2 H hP hD hS => ?_)
    have hP : va_P D vwCl [(h0, .inr (3, [.int (nI (tS s0)), .int (nI Wy), .ref (q1), .null, .null, .int (0), .int (nI (s0 - 1)), .null, .int (0)])), (q1, .inl (cI, tS s0 * Wy, .inl (fun _ => 0))), (q2, .inl (cI, tS s0 * Wy, .inl (fun _ => 0)))] H := hP
    have hD : va_D A [(h0, .inr (3, [.int (nI (tS s0)), .int (nI Wy), .ref (q1), .null, .null, .int (0), .int (nI (s0 - 1)), .null, .int (0)])), (q1, .inl (cI, tS s0 * Wy, .inl (fun _ => 0))), (q2, .inl (cI, tS s0 * Wy, .inl (fun _ => 0)))] := hD
    refine W.widen (k := 2) (n := 128) (by omega) (by omega) ?_
    refine va_putF (D := D) (ci := 3) (v := .ref (q2)) (ty := .array .int) (C := RX3) (T := TX3) (N := 9) hx hb hts (fun w h => List.mem_cons_of_mem _ (hiX3 w h)) tyX3 tyX3_ok nmX3 hown hK hP hD hS 0 rfl rfl 3 (by decide) kf25 (fun _ h9 => h9) rfl hin rfl (by decide +kernel) rfl rfl (Nat.le_of_ble_eq_true rfl) dX3_init_60 (fun H locs hP hD hS => ?_)
    have hP : va_P D vwCl [(h0, .inr (3, [.int (nI (tS s0)), .int (nI Wy), .ref (q1), .ref (q2), .null, .int (0), .int (nI (s0 - 1)), .null, .int (0)])), (q1, .inl (cI, tS s0 * Wy, .inl (fun _ => 0))), (q2, .inl (cI, tS s0 * Wy, .inl (fun _ => 0)))] H := hP
    have hD : va_D A [(h0, .inr (3, [.int (nI (tS s0)), .int (nI Wy), .ref (q1), .ref (q2), .null, .int (0), .int (nI (s0 - 1)), .null, .int (0)])), (q1, .inl (cI, tS s0 * Wy, .inl (fun _ => 0))), (q2, .inl (cI, tS s0 * Wy, .inl (fun _ => 0)))] := hD
    refine lv_aload_n hx hb dX3_init_63 rfl (lv_at hl 1 rfl) ?_
    refine lv_iload_n hx hb dX3_init_64 rfl (lv_at hl 0 rfl) ?_
    refine ka_newi (n := tS s0 * Wy) hx hb ac_int hK hP hD hS hA (rfl) (by omega) (⟨by decide, by show 128 + _ ≤ 256; omega⟩) dX3_init_65 (fun q3 H hP hD hS => ?_)
    have hP : va_P D vwCl [(h0, .inr (3, [.int (nI (tS s0)), .int (nI Wy), .ref (q1), .ref (q2), .null, .int (0), .int (nI (s0 - 1)), .null, .int (0)])), (q1, .inl (cI, tS s0 * Wy, .inl (fun _ => 0))), (q2, .inl (cI, tS s0 * Wy, .inl (fun _ => 0))), (q3, .inl (cI, tS s0 * Wy, .inl (fun _ => 0)))] H := hP
    have hD : va_D A [(h0, .inr (3, [.int (nI (tS s0)), .int (nI Wy), .ref (q1), .ref (q2), .null, .int (0), .int (nI (s0 - 1)), .null, .int (0)])), (q1, .inl (cI, tS s0 * Wy, .inl (fun _ => 0))), (q2, .inl (cI, tS s0 * Wy, .inl (fun _ => 0))), (q3, .inl (cI, tS s0 * Wy, .inl (fun _ => 0)))] := hD
    refine W.widen (k := 3) (n := 192) (by omega) (by omega) ?_
    refine va_putF (D := D) (ci := 3) (v := .ref (q3)) (ty := .array .int) (C := RX3) (T := TX3) (N := 9) hx hb hts (fun w h => List.mem_cons_of_mem _ (hiX3 w h)) tyX3 tyX3_ok nmX3 hown hK hP hD hS 0 rfl rfl 4 (by decide) kf28 (fun _ h9 => h9) rfl hin rfl (by decide +kernel) rfl rfl (Nat.le_of_ble_eq_true rfl) dX3_init_67 (fun H locs hP hD hS => ?_)
    have hP : va_P D vwCl [(h0, .inr (3, [.int (nI (tS s0)), .int (nI Wy), .ref (q1), .ref (q2), .ref (q3), .int (0), .int (nI (s0 - 1)), .null, .int (0)])), (q1, .inl (cI, tS s0 * Wy, .inl (fun _ => 0))), (q2, .inl (cI, tS s0 * Wy, .inl (fun _ => 0))), (q3, .inl (cI, tS s0 * Wy, .inl (fun _ => 0)))] H := hP
    have hD : va_D A [(h0, .inr (3, [.int (nI (tS s0)), .int (nI Wy), .ref (q1), .ref (q2), .ref (q3), .int (0), .int (nI (s0 - 1)), .null, .int (0)])), (q1, .inl (cI, tS s0 * Wy, .inl (fun _ => 0))), (q2, .inl (cI, tS s0 * Wy, .inl (fun _ => 0))), (q3, .inl (cI, tS s0 * Wy, .inl (fun _ => 0)))] := hD
    refine lv_aload_n hx hb dX3_init_70 rfl (lv_at hl 1 rfl) ?_
    refine lv_iload_n hx hb dX3_init_71 rfl (lv_at hl 0 rfl) ?_
    refine ka_newi (n := tS s0 * Wy) hx hb ac_int hK hP hD hS hA (rfl) (by omega) (⟨by decide, by show 192 + _ ≤ 256; omega⟩) dX3_init_72 (fun q4 H hP hD hS => ?_)
    have hP : va_P D vwCl [(h0, .inr (3, [.int (nI (tS s0)), .int (nI Wy), .ref (q1), .ref (q2), .ref (q3), .int (0), .int (nI (s0 - 1)), .null, .int (0)])), (q1, .inl (cI, tS s0 * Wy, .inl (fun _ => 0))), (q2, .inl (cI, tS s0 * Wy, .inl (fun _ => 0))), (q3, .inl (cI, tS s0 * Wy, .inl (fun _ => 0))), (q4, .inl (cI, tS s0 * Wy, .inl (fun _ => 0)))] H := hP
    have hD : va_D A [(h0, .inr (3, [.int (nI (tS s0)), .int (nI Wy), .ref (q1), .ref (q2), .ref (q3), .int (0), .int (nI (s0 - 1)), .null, .int (0)])), (q1, .inl (cI, tS s0 * Wy, .inl (fun _ => 0))), (q2, .inl (cI, tS s0 * Wy, .inl (fun _ => 0))), (q3, .inl (cI, tS s0 * Wy, .inl (fun _ => 0))), (q4, .inl (cI, tS s0 * Wy, .inl (fun _ => 0)))] := hD
    refine W.widen (k := 4) (n := 256) (by omega) (by omega) ?_
    refine va_putF (D := D) (ci := 3) (v := .ref (q4)) (ty := .array .int) (C := RX3) (T := TX3) (N := 9) hx hb hts (fun w h => List.mem_cons_of_mem _ (hiX3 w h)) tyX3 tyX3_ok nmX3 hown hK hP hD hS 0 rfl rfl 7 (by decide) kf31 (fun _ h9 => h9) rfl hin rfl (by decide +kernel) rfl rfl (Nat.le_of_ble_eq_true rfl) dX3_init_74 (fun H locs hP hD hS => ?_)
    have hP : va_P D vwCl [(h0, .inr (3, [.int (nI (tS s0)), .int (nI Wy), .ref (q1), .ref (q2), .ref (q3), .int (0), .int (nI (s0 - 1)), .ref (q4), .int (0)])), (q1, .inl (cI, tS s0 * Wy, .inl (fun _ => 0))), (q2, .inl (cI, tS s0 * Wy, .inl (fun _ => 0))), (q3, .inl (cI, tS s0 * Wy, .inl (fun _ => 0))), (q4, .inl (cI, tS s0 * Wy, .inl (fun _ => 0)))] H := hP
    have hD : va_D A [(h0, .inr (3, [.int (nI (tS s0)), .int (nI Wy), .ref (q1), .ref (q2), .ref (q3), .int (0), .int (nI (s0 - 1)), .ref (q4), .int (0)])), (q1, .inl (cI, tS s0 * Wy, .inl (fun _ => 0))), (q2, .inl (cI, tS s0 * Wy, .inl (fun _ => 0))), (q3, .inl (cI, tS s0 * Wy, .inl (fun _ => 0))), (q4, .inl (cI, tS s0 * Wy, .inl (fun _ => 0)))] := hD
    refine lv_aload_n hx hb dX3_init_77 rfl (lv_at hl 1 rfl) ?_
    refine va_get (D := D) (ci := 3) (v := .ref (q1)) (C := RX3) (T := TX3) (N := 9) hx hb hts (fun w h => List.mem_cons_of_mem _ (hiX3 w h)) hown hK hP 0 rfl rfl 2 (by decide) kf21 (fun _ h9 => h9) rfl dX3_init_78 ?_
    refine lv_iconst (v := (-1)) hx hb dX3_init_81 (by decide) ?_
    refine kc_v (wc := [(q1, .inl (cI, tS s0 * Wy, .inl (fun _ => 0)))]) (wr := [(h0, .inr (3, [.int (nI (tS s0)), .int (nI Wy), .ref (q1), .ref (q2), .ref (q3), .int (0), .int (nI (s0 - 1)), .ref (q4), .int (0)])), (q2, .inl (cI, tS s0 * Wy, .inl (fun _ => 0))), (q3, .inl (cI, tS s0 * Wy, .inl (fun _ => 0))), (q4, .inl (cI, tS s0 * Wy, .inl (fun _ => 0)))]) [1] [0, 2, 3, 4] rfl rfl (by decide) (by decide) hP hD hS hA (va_runS (As := [.ref (q1), .int ((-1))]) (rest := []) ⟨hx, hb, hml, hown, hts⟩ (c_J7_fill l D cI cJ cZ _ _ _ _ _ (by omega)) (va_cwS 2 hts (kw_S kw_59 kw_60 kw_29 kw_61) rfl rfl rfl (by decide +kernel) ⟨Nat.le_of_ble_eq_true rfl, Nat.le_of_ble_eq_true rfl⟩) ⟨kP_blind, kP_at (hP.sub [1] rfl) hK (hD.sub [1] (by decide) rfl)⟩ rfl rfl hl.1 rfl (lv_room (Nat.le_of_ble_eq_true rfl)) dX3_init_82 ⟨Nat.le_of_ble_eq_true rfl, Nat.le_of_ble_eq_true rfl⟩) (fun H locs hP hD hS => ?_)
    have hP := hP.sub (ws' := [(h0, .inr (3, [.int (nI (tS s0)), .int (nI Wy), .ref (q1), .ref (q2), .ref (q3), .int (0), .int (nI (s0 - 1)), .ref (q4), .int (0)])), (q1, .inl (cI, tS s0 * Wy, .inl (kf_fill (fun _ => 0) ((-1)) (tS s0 * Wy)))), (q2, .inl (cI, tS s0 * Wy, .inl (fun _ => 0))), (q3, .inl (cI, tS s0 * Wy, .inl (fun _ => 0))), (q4, .inl (cI, tS s0 * Wy, .inl (fun _ => 0)))]) [0, 4, 1, 2, 3] rfl
    have hD := hD.sub (ws' := [(h0, .inr (3, [.int (nI (tS s0)), .int (nI Wy), .ref (q1), .ref (q2), .ref (q3), .int (0), .int (nI (s0 - 1)), .ref (q4), .int (0)])), (q1, .inl (cI, tS s0 * Wy, .inl (kf_fill (fun _ => 0) ((-1)) (tS s0 * Wy)))), (q2, .inl (cI, tS s0 * Wy, .inl (fun _ => 0))), (q3, .inl (cI, tS s0 * Wy, .inl (fun _ => 0))), (q4, .inl (cI, tS s0 * Wy, .inl (fun _ => 0)))]) [0, 4, 1, 2, 3] (by decide) rfl
    refine W.widen (k := 4) (n := 256) (by omega) (by omega) ?_
    exact kr_n (fun i => match i with | 0 => q1 | 1 => q2 | 2 => q3 | _ => q4) (rfl) hx hb hr hlocks hP hK hD hS dX3_init_85
