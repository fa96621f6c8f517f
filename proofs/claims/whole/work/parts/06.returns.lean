set_option maxHeartbeats 4000000 in
set_option maxRecDepth 100000 in
/-- a place of the ring -/
theorem c_X2_fromTop (l : Launch) (D : va_G) (cI cJ cZ : ClassId) (sz : Nat) (h0 h1 : Nat) (L : Nat) (rp : Fn) (rd : Nat) (ro ru : Int32) (k0 : Nat) (hk : k0 < rd) (hd : rd ≤ L) (hL : L < 2 ^ 16) : KI l yX2_fromTop wsX2_fromTop ({ frames := 0, cells := 0, slots := 0, locals := 0 } : Room) D (kTy cI cJ cZ) [.ref (h0), .int (nI k0)] [(h0, .inr (2, [.int (nI L), .int (nI (rd)), .int (ro), .int (ru), .ref (h1)])), (h1, .inl (cI, L, .inl (rp)))] sz (wRet h0 h1 cI L (rp, rd, ro, ru)) (rf_top (rp, rd, ro, ru) k0) 0 0 := by
  refine Met.ofW (cc := cX2_fromTop) (maxL := 2) (ret := (some .int)) (by decide) rfl ?_
  intro p e s m args below meth c s₁ B hml hv
  obtain ⟨rfl, hsz, hP, hK, hD0⟩ := hv
  have hx := B.exec
  have hb := B.bytes
  have hr := B.returns
  have hts := atoms_spec (ws := wsX2_fromTop) B.pre
  have hown : s.vm.findClass RX2 = some m.cls := findClass_of_methodNamed B.named
  have hlocks := B.notSynchronized
  have kf13 := hts (.fieldLink RX2 13 "TargetRows$Returns" "places" "[I") (List.mem_cons_of_mem _ kw_132)
  have kf17 := hts (.fieldLink RX2 17 "TargetRows$Returns" "depth" "I") (List.mem_cons_of_mem _ kw_125)
  subst hsz
  have hD := hD0.self (sz := s.heap.size)
  generalize hAe : va_A [(h0, .inr (2, [.int (nI L), .int (nI (rd)), .int (ro), .int (ru), .ref (h1)])), (h1, .inl (cI, L, .inl (rp)))] s.heap.size = A at hD ⊢
  have hA : ∀ q : Nat, s.heap.size ≤ q → A q := fun q h => by rw [← hAe]; exact Or.inr h
  have hS : va_S A s.heap s.heap [] := va_S.rf
  have hP : va_P D vwCl [(h0, .inr (2, [.int (nI L), .int (nI (rd)), .int (ro), .int (ru), .ref (h1)])), (h1, .inl (cI, L, .inl (rp)))] s.heap := hP
  have hD : va_D A [(h0, .inr (2, [.int (nI L), .int (nI (rd)), .int (ro), .int (ru), .ref (h1)])), (h1, .inl (cI, L, .inl (rp)))] := hD
  have hl := lv_entry ([.ref (h0), .int (nI k0)]) (n := 2) (Nat.le_of_ble_eq_true rfl)
  rw [lg_entry_eq]
  generalize (lg_sl ([.ref (h0), .int (nI k0)]) ++ List.replicate (2 - (lg_sl ([.ref (h0), .int (nI k0)])).length) Slot.unset).toArray = ls at hl ⊢
  have hl : lv_has ls 2 [(0, .ref (h0)), (1, .int (nI k0))] := hl
  refine lv_aload_n hx hb dX2_fromTop_0 rfl (lv_at hl 0 rfl) ?_
  refine va_get (D := D) (ci := 2) (v := .ref (h1)) (C := RX2) (T := TX2) (N := 5) hx hb hts (fun w h => List.mem_cons_of_mem _ (hiX2 w h)) hown hK hP 0 rfl rfl 4 (by decide) kf13 (fun _ h9 => h9) rfl dX2_fromTop_1 ?_
  refine lv_aload_n hx hb dX2_fromTop_4 rfl (lv_at hl 0 rfl) ?_
  refine va_get (D := D) (ci := 2) (v := .int (nI (rd))) (C := RX2) (T := TX2) (N := 5) hx hb hts (fun w h => List.mem_cons_of_mem _ (hiX2 w h)) hown hK hP 0 rfl rfl 1 (by decide) kf17 (fun _ h9 => h9) rfl dX2_fromTop_5 ?_
  refine lv_iconst (v := 1) hx hb dX2_fromTop_8 (by decide) ?_
  refine lv_isub hx hb dX2_fromTop_9 ?_
  refine kt_i (y := nI (rd - 1)) (pk_sub (b := 1) (by omega)) ?_
  refine lv_iload_n hx hb dX2_fromTop_10 rfl (lv_at hl 1 rfl) ?_
  refine lv_isub hx hb dX2_fromTop_11 ?_
  refine kt_i (y := nI (rd - 1 - k0)) (pk_sub (by omega)) ?_
  refine ka_ild hx hb hK hP 1 0 rfl rfl (k := rd - 1 - k0) (rfl) (⟨by omega, by omega⟩) dX2_fromTop_12 ?_
  exact kr_i (rfl) hx hb hr hlocks hP hK hD hS (rfl) dX2_fromTop_13

set_option maxHeartbeats 4000000 in
set_option maxRecDepth 100000 in
/-- the lowest place is lost -/
theorem c_X2_loseLowest (l : Launch) (D : va_G) (cI cJ cZ : ClassId) (sz : Nat) (h0 h1 : Nat) (L : Nat) (rp : Fn) (rd : Nat) (ro ru : Int32) (hd : rd ≤ L) (hL : L < 2 ^ 16) : KV l yX2_loseLowest wsX2_loseLowest ({ frames := 1, cells := 0, slots := 0, locals := 18 } : Room) D (kTy cI cJ cZ) [.ref (h0)] [(h0, .inr (2, [.int (nI L), .int (nI (rd)), .int (ro), .int (ru), .ref (h1)])), (h1, .inl (cI, L, .inl (rp)))] sz (wRet h0 h1 cI L (rf_lose (rp, rd, ro, ru))) 0 0 := by
  refine Met.ofW (cc := cX2_loseLowest) (maxL := 1) (ret := none) (by decide) rfl ?_
  intro p e s m args below meth c s₁ B hml hv
  obtain ⟨rfl, hsz, hP, hK, hD0⟩ := hv
  have hx := B.exec
  have hb := B.bytes
  have hr := B.returns
  have hts := atoms_spec (ws := wsX2_loseLowest) B.pre
  have hown : s.vm.findClass RX2 = some m.cls := findClass_of_methodNamed B.named
  have hlocks := B.notSynchronized
  have ai := hts (.initialized "java/lang/System") (List.mem_cons_of_mem _ kw_38)
  have al := hts (.methodLink RX2 29 arraycopyName) (List.mem_cons_of_mem _ kw_249)
  have an := hts (.native arraycopyName) (List.mem_cons_of_mem _ kw_251)
  have as_ := hts (.static arraycopyName) (List.mem_cons_of_mem _ kw_250)
  have kf13 := hts (.fieldLink RX2 13 "TargetRows$Returns" "places" "[I") (List.mem_cons_of_mem _ kw_132)
  have kf17 := hts (.fieldLink RX2 17 "TargetRows$Returns" "depth" "I") (List.mem_cons_of_mem _ kw_125)
  subst hsz
  have hD := hD0.self (sz := s.heap.size)
  generalize hAe : va_A [(h0, .inr (2, [.int (nI L), .int (nI (rd)), .int (ro), .int (ru), .ref (h1)])), (h1, .inl (cI, L, .inl (rp)))] s.heap.size = A at hD ⊢
  have hA : ∀ q : Nat, s.heap.size ≤ q → A q := fun q h => by rw [← hAe]; exact Or.inr h
  have hS : va_S A s.heap s.heap [] := va_S.rf
  have hP : va_P D vwCl [(h0, .inr (2, [.int (nI L), .int (nI (rd)), .int (ro), .int (ru), .ref (h1)])), (h1, .inl (cI, L, .inl (rp)))] s.heap := hP
  have hD : va_D A [(h0, .inr (2, [.int (nI L), .int (nI (rd)), .int (ro), .int (ru), .ref (h1)])), (h1, .inl (cI, L, .inl (rp)))] := hD
  have hl := lv_entry ([.ref (h0)]) (n := 1) (Nat.le_of_ble_eq_true rfl)
  rw [lg_entry_eq]
  generalize (lg_sl ([.ref (h0)]) ++ List.replicate (1 - (lg_sl ([.ref (h0)])).length) Slot.unset).toArray = ls at hl ⊢
  have hl : lv_has ls 1 [(0, .ref (h0))] := hl
  refine lv_aload_n hx hb dX2_loseLowest_0 rfl (lv_at hl 0 rfl) ?_
  refine va_get (D := D) (ci := 2) (v := .int (nI (rd))) (C := RX2) (T := TX2) (N := 5) hx hb hts (fun w h => List.mem_cons_of_mem _ (hiX2 w h)) hown hK hP 0 rfl rfl 1 (by decide) kf17 (fun _ h9 => h9) rfl dX2_loseLowest_1 ?_
  refine lv_if_le (tgt := 34) hx hb dX2_loseLowest_4 (by decide) (fun c_4 => ?_) (fun c_4 => ?_)
  ·
    have hd0 : rd = 0 := by
      rcases Nat.eq_zero_or_pos rd with q | q
      · exact q
      · exact absurd c_4 (nI_nle q (by omega))
    exact kr_v (congrArg (wRet h0 h1 cI L ) (show ((rp, rd, ro, ru) : Rs) = rf_lose (rp, rd, ro, ru) from by simp only [rf_lose, if_pos hd0])) hx hb hr hlocks hP hK hD hS trivial dX2_loseLowest_34
  ·
    have hd0 : rd ≠ 0 := fun q => c_4 (by rw [q]; decide)
    refine lv_aload_n hx hb dX2_loseLowest_7 rfl (lv_at hl 0 rfl) ?_
    refine lv_dup hx hb dX2_loseLowest_8 rfl ?_
    refine va_get (D := D) (ci := 2) (v := .int (nI (rd))) (C := RX2) (T := TX2) (N := 5) hx hb hts (fun w h => List.mem_cons_of_mem _ (hiX2 w h)) hown hK hP 0 rfl rfl 1 (by decide) kf17 (fun _ h9 => h9) rfl dX2_loseLowest_9 ?_
    refine lv_iconst (v := 1) hx hb dX2_loseLowest_12 (by decide) ?_
    refine lv_isub hx hb dX2_loseLowest_13 ?_
    refine kt_i (y := nI (rd - 1)) (pk_sub (b := 1) (by omega)) ?_
    refine va_put (D := D) (ci := 2) (v := .int (nI (rd - 1))) (ty := .int) (C := RX2) (T := TX2) (N := 5) hx hb hts (fun w h => List.mem_cons_of_mem _ (hiX2 w h)) tyX2 tyX2_ok nmX2 hown hK hP hD hS 0 rfl rfl 1 (by decide) kf17 (fun _ h9 => h9) rfl (by decide +kernel) rfl rfl (Nat.le_of_ble_eq_true rfl) dX2_loseLowest_14 (fun H locs hP hD hS => ?_)
    have hP : va_P D vwCl [(h0, .inr (2, [.int (nI L), .int (nI (rd - 1)), .int (ro), .int (ru), .ref (h1)])), (h1, .inl (cI, L, .inl (rp)))] H := hP
    have hD : va_D A [(h0, .inr (2, [.int (nI L), .int (nI (rd - 1)), .int (ro), .int (ru), .ref (h1)])), (h1, .inl (cI, L, .inl (rp)))] := hD
    refine lv_aload_n hx hb dX2_loseLowest_17 rfl (lv_at hl 0 rfl) ?_
    refine va_get (D := D) (ci := 2) (v := .ref (h1)) (C := RX2) (T := TX2) (N := 5) hx hb hts (fun w h => List.mem_cons_of_mem _ (hiX2 w h)) hown hK hP 0 rfl rfl 4 (by decide) kf13 (fun _ h9 => h9) rfl dX2_loseLowest_18 ?_
    refine lv_iconst (v := 1) hx hb dX2_loseLowest_21 (by decide) ?_
    refine lv_aload_n hx hb dX2_loseLowest_22 rfl (lv_at hl 0 rfl) ?_
    refine va_get (D := D) (ci := 2) (v := .ref (h1)) (C := RX2) (T := TX2) (N := 5) hx hb hts (fun w h => List.mem_cons_of_mem _ (hiX2 w h)) hown hK hP 0 rfl rfl 4 (by decide) kf13 (fun _ h9 => h9) rfl dX2_loseLowest_23 ?_
    refine lv_iconst (v := 0) hx hb dX2_loseLowest_26 (by decide) ?_
    refine lv_aload_n hx hb dX2_loseLowest_27 rfl (lv_at hl 0 rfl) ?_
    refine va_get (D := D) (ci := 2) (v := .int (nI (rd - 1))) (C := RX2) (T := TX2) (N := 5) hx hb hts (fun w h => List.mem_cons_of_mem _ (hiX2 w h)) hown hK hP 0 rfl rfl 1 (by decide) kf17 (fun _ h9 => h9) rfl dX2_loseLowest_28 ?_
    refine ka_cpy hx hb (by rw [hml]; exact hl.1.symm) hown al an as_ ai hK hP hD hS 1 1 0 0 rfl rfl rfl rfl (ks := 1) (kd := 0) (kn := rd - 1) (rfl) (rfl) (rfl) (⟨by omega, by omega⟩) (⟨by omega, by omega⟩) (Nat.le_of_ble_eq_true rfl) (Nat.le_of_ble_eq_true rfl) dX2_loseLowest_31 (fun H locs hP hD hS => ?_)
    have hP : va_P D vwCl [(h0, .inr (2, [.int (nI L), .int (nI (rd - 1)), .int (ro), .int (ru), .ref (h1)])), (h1, .inl (cI, L, .inl (va_cpy (rp) (rp) (1) (0) (rd - 1))))] H := hP
    have hD : va_D A [(h0, .inr (2, [.int (nI L), .int (nI (rd - 1)), .int (ro), .int (ru), .ref (h1)])), (h1, .inl (cI, L, .inl (va_cpy (rp) (rp) (1) (0) (rd - 1))))] := hD
    exact kr_v (congrArg (wRet h0 h1 cI L ) (show ((va_cpy (rp) (rp) (1) (0) (rd - 1), rd - 1, ro, ru) : Rs) = rf_lose (rp, rd, ro, ru) from by simp only [rf_lose, if_neg hd0])) hx hb hr hlocks hP hK hD hS trivial dX2_loseLowest_34

set_option maxHeartbeats 4000000 in
set_option maxRecDepth 100000 in
/-- pushed -/
theorem c_X2_push (l : Launch) (D : va_G) (cI cJ cZ : ClassId) (sz : Nat) (h0 h1 : Nat) (L : Nat) (rp : Fn) (rd : Nat) (ro ru : Int32) (p0 : Int32) (hd : rd ≤ L) (hL : L < 2 ^ 16) : KV l yX2_push wsX2_push ({ frames := 2, cells := 0, slots := 0, locals := 38 } : Room) D (kTy cI cJ cZ) [.ref (h0), .int (p0)] [(h0, .inr (2, [.int (nI L), .int (nI (rd)), .int (ro), .int (ru), .ref (h1)])), (h1, .inl (cI, L, .inl (rp)))] sz (wRet h0 h1 cI L (rf_push L (rp, rd, ro, ru) p0)) 0 0 := by
  refine Met.ofW (cc := cX2_push) (maxL := 2) (ret := none) (by decide) rfl ?_
  intro p e s m args below meth c s₁ B hml hv
  obtain ⟨rfl, hsz, hP, hK, hD0⟩ := hv
  have hx := B.exec
  have hb := B.bytes
  have hr := B.returns
  have hts := atoms_spec (ws := wsX2_push) B.pre
  have hown : s.vm.findClass RX2 = some m.cls := findClass_of_methodNamed B.named
  have hlocks := B.notSynchronized
  have kf13 := hts (.fieldLink RX2 13 "TargetRows$Returns" "places" "[I") (List.mem_cons_of_mem _ kw_132)
  have kf17 := hts (.fieldLink RX2 17 "TargetRows$Returns" "depth" "I") (List.mem_cons_of_mem _ kw_125)
  have kf20 := hts (.fieldLink RX2 20 "TargetRows$Returns" "overflows" "I") (List.mem_cons_of_mem _ kw_128)
  have kf7 := hts (.fieldLink RX2 7 "TargetRows$Returns" "limit" "I") (List.mem_cons_of_mem _ kw_123)
  subst hsz
  have hD := hD0.self (sz := s.heap.size)
  generalize hAe : va_A [(h0, .inr (2, [.int (nI L), .int (nI (rd)), .int (ro), .int (ru), .ref (h1)])), (h1, .inl (cI, L, .inl (rp)))] s.heap.size = A at hD ⊢
  have hA : ∀ q : Nat, s.heap.size ≤ q → A q := fun q h => by rw [← hAe]; exact Or.inr h
  have hS : va_S A s.heap s.heap [] := va_S.rf
  have hP : va_P D vwCl [(h0, .inr (2, [.int (nI L), .int (nI (rd)), .int (ro), .int (ru), .ref (h1)])), (h1, .inl (cI, L, .inl (rp)))] s.heap := hP
  have hD : va_D A [(h0, .inr (2, [.int (nI L), .int (nI (rd)), .int (ro), .int (ru), .ref (h1)])), (h1, .inl (cI, L, .inl (rp)))] := hD
  have hl := lv_entry ([.ref (h0), .int (p0)]) (n := 2) (Nat.le_of_ble_eq_true rfl)
  rw [lg_entry_eq]
  generalize (lg_sl ([.ref (h0), .int (p0)]) ++ List.replicate (2 - (lg_sl ([.ref (h0), .int (p0)])).length) Slot.unset).toArray = ls at hl ⊢
  have hl : lv_has ls 2 [(0, .ref (h0)), (1, .int (p0))] := hl
  refine lv_aload_n hx hb dX2_push_0 rfl (lv_at hl 0 rfl) ?_
  refine va_get (D := D) (ci := 2) (v := .int (nI (rd))) (C := RX2) (T := TX2) (N := 5) hx hb hts (fun w h => List.mem_cons_of_mem _ (hiX2 w h)) hown hK hP 0 rfl rfl 1 (by decide) kf17 (fun _ h9 => h9) rfl dX2_push_1 ?_
  refine lv_aload_n hx hb dX2_push_4 rfl (lv_at hl 0 rfl) ?_
  refine va_get (D := D) (ci := 2) (v := .int (nI L)) (C := RX2) (T := TX2) (N := 5) hx hb hts (fun w h => List.mem_cons_of_mem _ (hiX2 w h)) hown hK hP 0 rfl rfl 0 (by decide) kf7 (fun _ h9 => h9) rfl dX2_push_5 ?_
  refine lv_icmp_ne (tgt := 25) hx hb dX2_push_8 (by decide) (fun c_8 => ?_) (fun c_8 => ?_)
  ·
    have hne : rd ≠ L := fun q => c_8 (by rw [q])
    have hlt : rd < L := by omega
    refine lv_aload_n hx hb dX2_push_25 rfl (lv_at hl 0 rfl) ?_
    refine va_get (D := D) (ci := 2) (v := .int (nI (rd))) (C := RX2) (T := TX2) (N := 5) hx hb hts (fun w h => List.mem_cons_of_mem _ (hiX2 w h)) hown hK hP 0 rfl rfl 1 (by decide) kf17 (fun _ h9 => h9) rfl dX2_push_26 ?_
    refine lv_aload_n hx hb dX2_push_29 rfl (lv_at hl 0 rfl) ?_
    refine va_get (D := D) (ci := 2) (v := .int (nI L)) (C := RX2) (T := TX2) (N := 5) hx hb hts (fun w h => List.mem_cons_of_mem _ (hiX2 w h)) hown hK hP 0 rfl rfl 0 (by decide) kf7 (fun _ h9 => h9) rfl dX2_push_30 ?_
    refine lv_icmp_ge (tgt := 56) hx hb dX2_push_33 (by decide) (fun c_33 => absurd c_33 (nI_ge hlt (by omega))) (fun c_33 => ?_)
    refine lv_aload_n hx hb dX2_push_36 rfl (lv_at hl 0 rfl) ?_
    refine va_get (D := D) (ci := 2) (v := .ref (h1)) (C := RX2) (T := TX2) (N := 5) hx hb hts (fun w h => List.mem_cons_of_mem _ (hiX2 w h)) hown hK hP 0 rfl rfl 4 (by decide) kf13 (fun _ h9 => h9) rfl dX2_push_37 ?_
    refine lv_aload_n hx hb dX2_push_40 rfl (lv_at hl 0 rfl) ?_
    refine va_get (D := D) (ci := 2) (v := .int (nI (rd))) (C := RX2) (T := TX2) (N := 5) hx hb hts (fun w h => List.mem_cons_of_mem _ (hiX2 w h)) hown hK hP 0 rfl rfl 1 (by decide) kf17 (fun _ h9 => h9) rfl dX2_push_41 ?_
    refine lv_iload_n hx hb dX2_push_44 rfl (lv_at hl 1 rfl) ?_
    refine ka_ist hx hb hK hP hD hS 1 0 rfl rfl (k := rd) (rfl) (⟨hlt, by omega⟩) dX2_push_45 (fun H locs hP hD hS => ?_)
    have hP : va_P D vwCl [(h0, .inr (2, [.int (nI L), .int (nI (rd)), .int (ro), .int (ru), .ref (h1)])), (h1, .inl (cI, L, .inl (upd (rp) (rd) (p0))))] H := hP
    have hD : va_D A [(h0, .inr (2, [.int (nI L), .int (nI (rd)), .int (ro), .int (ru), .ref (h1)])), (h1, .inl (cI, L, .inl (upd (rp) (rd) (p0))))] := hD
    refine lv_aload_n hx hb dX2_push_46 rfl (lv_at hl 0 rfl) ?_
    refine lv_dup hx hb dX2_push_47 rfl ?_
    refine va_get (D := D) (ci := 2) (v := .int (nI (rd))) (C := RX2) (T := TX2) (N := 5) hx hb hts (fun w h => List.mem_cons_of_mem _ (hiX2 w h)) hown hK hP 0 rfl rfl 1 (by decide) kf17 (fun _ h9 => h9) rfl dX2_push_48 ?_
    refine lv_iconst (v := 1) hx hb dX2_push_51 (by decide) ?_
    refine lv_iadd hx hb dX2_push_52 ?_
    refine kt_i (y := nI (rd + 1)) (nI_1 _) ?_
    refine va_put (D := D) (ci := 2) (v := .int (nI (rd + 1))) (ty := .int) (C := RX2) (T := TX2) (N := 5) hx hb hts (fun w h => List.mem_cons_of_mem _ (hiX2 w h)) tyX2 tyX2_ok nmX2 hown hK hP hD hS 0 rfl rfl 1 (by decide) kf17 (fun _ h9 => h9) rfl (by decide +kernel) rfl rfl (Nat.le_of_ble_eq_true rfl) dX2_push_53 (fun H locs hP hD hS => ?_)
    have hP : va_P D vwCl [(h0, .inr (2, [.int (nI L), .int (nI (rd + 1)), .int (ro), .int (ru), .ref (h1)])), (h1, .inl (cI, L, .inl (upd (rp) (rd) (p0))))] H := hP
    have hD : va_D A [(h0, .inr (2, [.int (nI L), .int (nI (rd + 1)), .int (ro), .int (ru), .ref (h1)])), (h1, .inl (cI, L, .inl (upd (rp) (rd) (p0))))] := hD
    exact kr_v (congrArg (wRet h0 h1 cI L ) (show ((upd (rp) (rd) (p0), rd + 1, ro, ru) : Rs) = rf_push L (rp, rd, ro, ru) p0 from by simp only [rf_push, rf_pre, rf_add, if_neg hne, if_pos hlt])) hx hb hr hlocks hP hK hD hS trivial dX2_push_56
  ·
    have heq : rd = L := (nI_eq (by omega) (by omega)).mp c_8
    have hd1 : (rf_lose (rp, rd, (ro) + (1), ru)).2.1 ≤ L := Nat.le_trans (rf_lose_le _) hd
    refine lv_aload_n hx hb dX2_push_11 rfl (lv_at hl 0 rfl) ?_
    refine lv_dup hx hb dX2_push_12 rfl ?_
    refine va_get (D := D) (ci := 2) (v := .int (ro)) (C := RX2) (T := TX2) (N := 5) hx hb hts (fun w h => List.mem_cons_of_mem _ (hiX2 w h)) hown hK hP 0 rfl rfl 2 (by decide) kf20 (fun _ h9 => h9) rfl dX2_push_13 ?_
    refine lv_iconst (v := 1) hx hb dX2_push_16 (by decide) ?_
    refine lv_iadd hx hb dX2_push_17 ?_
    refine va_put (D := D) (ci := 2) (v := .int ((ro) + (1))) (ty := .int) (C := RX2) (T := TX2) (N := 5) hx hb hts (fun w h => List.mem_cons_of_mem _ (hiX2 w h)) tyX2 tyX2_ok nmX2 hown hK hP hD hS 0 rfl rfl 2 (by decide) kf20 (fun _ h9 => h9) rfl (by decide +kernel) rfl rfl (Nat.le_of_ble_eq_true rfl) dX2_push_18 (fun H locs hP hD hS => ?_)
    have hP : va_P D vwCl [(h0, .inr (2, [.int (nI L), .int (nI (rd)), .int ((ro) + (1)), .int (ru), .ref (h1)])), (h1, .inl (cI, L, .inl (rp)))] H := hP
    have hD : va_D A [(h0, .inr (2, [.int (nI L), .int (nI (rd)), .int ((ro) + (1)), .int (ru), .ref (h1)])), (h1, .inl (cI, L, .inl (rp)))] := hD
    refine lv_aload_n hx hb dX2_push_21 rfl (lv_at hl 0 rfl) ?_
    refine kc_v (wc := [(h0, .inr (2, [.int (nI L), .int (nI (rd)), .int ((ro) + (1)), .int (ru), .ref (h1)])), (h1, .inl (cI, L, .inl (rp)))]) (wr := []) [0, 1] [] rfl rfl (by decide) (by decide) hP hD hS hA (va_runV (As := []) (rest := []) ⟨hx, hb, hml, hown, hts⟩ (c_X2_loseLowest l D cI cJ cZ _ _ _ _ _ _ _ _ hd hL) (cwV 0 hts (kw_V kw_364 kw_366 kw_7 kw_31 kw_367) rfl rfl rfl (by decide +kernel) ⟨Nat.le_of_ble_eq_true rfl, Nat.le_of_ble_eq_true rfl⟩) ⟨kP_blind, va_recv hK (hP.sub (ws' := [(h0, .inr (2, [.int (nI L), .int (nI (rd)), .int ((ro) + (1)), .int (ru), .ref (h1)])), (h1, .inl (cI, L, .inl (rp)))]) [0, 1] rfl) (ci := 2) (q0 := 0) rfl rfl, kP_at (hP.sub [0, 1] rfl) hK (hD.sub [0, 1] (by decide) rfl)⟩ rfl rfl hl.1 rfl (lv_room (Nat.le_of_ble_eq_true rfl)) dX2_push_22 ⟨Nat.zero_le _, Nat.zero_le _⟩) (fun H locs hP hD hS => ?_)
    have hP := hP.sub (ws' := [(h0, .inr (2, [.int (nI L), .int (nI ((rf_lose (rp, rd, (ro) + (1), ru)).2.1)), .int ((rf_lose (rp, rd, (ro) + (1), ru)).2.2.1), .int ((rf_lose (rp, rd, (ro) + (1), ru)).2.2.2), .ref (h1)])), (h1, .inl (cI, L, .inl ((rf_lose (rp, rd, (ro) + (1), ru)).1)))]) [0, 1] rfl
    have hD := hD.sub (ws' := [(h0, .inr (2, [.int (nI L), .int (nI ((rf_lose (rp, rd, (ro) + (1), ru)).2.1)), .int ((rf_lose (rp, rd, (ro) + (1), ru)).2.2.1), .int ((rf_lose (rp, rd, (ro) + (1), ru)).2.2.2), .ref (h1)])), (h1, .inl (cI, L, .inl ((rf_lose (rp, rd, (ro) + (1), ru)).1)))]) [0, 1] (by decide) rfl
    refine lv_aload_n hx hb dX2_push_25 rfl (lv_at hl 0 rfl) ?_
    refine va_get (D := D) (ci := 2) (v := .int (nI ((rf_lose (rp, rd, (ro) + (1), ru)).2.1))) (C := RX2) (T := TX2) (N := 5) hx hb hts (fun w h => List.mem_cons_of_mem _ (hiX2 w h)) hown hK hP 0 rfl rfl 1 (by decide) kf17 (fun _ h9 => h9) rfl dX2_push_26 ?_
    refine lv_aload_n hx hb dX2_push_29 rfl (lv_at hl 0 rfl) ?_
    refine va_get (D := D) (ci := 2) (v := .int (nI L)) (C := RX2) (T := TX2) (N := 5) hx hb hts (fun w h => List.mem_cons_of_mem _ (hiX2 w h)) hown hK hP 0 rfl rfl 0 (by decide) kf7 (fun _ h9 => h9) rfl dX2_push_30 ?_
    refine lv_icmp_ge (tgt := 56) hx hb dX2_push_33 (by decide) (fun c_33 => ?_) (fun c_33 => ?_)
    ·
      have hge : ¬ ((rf_lose (rp, rd, (ro) + (1), ru)).2.1) < L := fun q => absurd c_33 (nI_ge q (by omega))
      exact kr_v (congrArg (wRet h0 h1 cI L ) (show (((rf_lose (rp, rd, (ro) + (1), ru)).1, (rf_lose (rp, rd, (ro) + (1), ru)).2.1, (rf_lose (rp, rd, (ro) + (1), ru)).2.2.1, (rf_lose (rp, rd, (ro) + (1), ru)).2.2.2) : Rs) = rf_push L (rp, rd, ro, ru) p0 from by simp only [rf_push, rf_pre, rf_add, if_pos heq, if_neg hge])) hx hb hr hlocks hP hK hD hS trivial dX2_push_56
    ·
      have hlt : ((rf_lose (rp, rd, (ro) + (1), ru)).2.1) < L := Nat.lt_of_not_le (fun q => c_33 (nI_le q (by omega)))
      refine lv_aload_n hx hb dX2_push_36 rfl (lv_at hl 0 rfl) ?_
      refine va_get (D := D) (ci := 2) (v := .ref (h1)) (C := RX2) (T := TX2) (N := 5) hx hb hts (fun w h => List.mem_cons_of_mem _ (hiX2 w h)) hown hK hP 0 rfl rfl 4 (by decide) kf13 (fun _ h9 => h9) rfl dX2_push_37 ?_
      refine lv_aload_n hx hb dX2_push_40 rfl (lv_at hl 0 rfl) ?_
      refine va_get (D := D) (ci := 2) (v := .int (nI ((rf_lose (rp, rd, (ro) + (1), ru)).2.1))) (C := RX2) (T := TX2) (N := 5) hx hb hts (fun w h => List.mem_cons_of_mem _ (hiX2 w h)) hown hK hP 0 rfl rfl 1 (by decide) kf17 (fun _ h9 => h9) rfl dX2_push_41 ?_
      refine lv_iload_n hx hb dX2_push_44 rfl (lv_at hl 1 rfl) ?_
      refine ka_ist hx hb hK hP hD hS 1 0 rfl rfl (k := (rf_lose (rp, rd, (ro) + (1), ru)).2.1) (rfl) (⟨hlt, by omega⟩) dX2_push_45 (fun H locs hP hD hS => ?_)
      have hP : va_P D vwCl [(h0, .inr (2, [.int (nI L), .int (nI ((rf_lose (rp, rd, (ro) + (1), ru)).2.1)), .int ((rf_lose (rp, rd, (ro) + (1), ru)).2.2.1), .int ((rf_lose (rp, rd, (ro) + (1), ru)).2.2.2), .ref (h1)])), (h1, .inl (cI, L, .inl (upd ((rf_lose (rp, rd, (ro) + (1), ru)).1) ((rf_lose (rp, rd, (ro) + (1), ru)).2.1) (p0))))] H := hP
      have hD : va_D A [(h0, .inr (2, [.int (nI L), .int (nI ((rf_lose (rp, rd, (ro) + (1), ru)).2.1)), .int ((rf_lose (rp, rd, (ro) + (1), ru)).2.2.1), .int ((rf_lose (rp, rd, (ro) + (1), ru)).2.2.2), .ref (h1)])), (h1, .inl (cI, L, .inl (upd ((rf_lose (rp, rd, (ro) + (1), ru)).1) ((rf_lose (rp, rd, (ro) + (1), ru)).2.1) (p0))))] := hD
      refine lv_aload_n hx hb dX2_push_46 rfl (lv_at hl 0 rfl) ?_
      refine lv_dup hx hb dX2_push_47 rfl ?_
      refine va_get (D := D) (ci := 2) (v := .int (nI ((rf_lose (rp, rd, (ro) + (1), ru)).2.1))) (C := RX2) (T := TX2) (N := 5) hx hb hts (fun w h => List.mem_cons_of_mem _ (hiX2 w h)) hown hK hP 0 rfl rfl 1 (by decide) kf17 (fun _ h9 => h9) rfl dX2_push_48 ?_
      refine lv_iconst (v := 1) hx hb dX2_push_51 (by decide) ?_
      refine lv_iadd hx hb dX2_push_52 ?_
      refine kt_i (y := nI ((rf_lose (rp, rd, (ro) + (1), ru)).2.1 + 1)) (nI_1 _) ?_
      refine va_put (D := D) (ci := 2) (v := .int (nI ((rf_lose (rp, rd, (ro) + (1), ru)).2.1 + 1))) (ty := .int) (C := RX2) (T := TX2) (N := 5) hx hb hts (fun w h => List.mem_cons_of_mem _ (hiX2 w h)) tyX2 tyX2_ok nmX2 hown hK hP hD hS 0 rfl rfl 1 (by decide) kf17 (fun _ h9 => h9) rfl (by decide +kernel) rfl rfl (Nat.le_of_ble_eq_true rfl) dX2_push_53 (fun H locs hP hD hS => ?_)
      have hP : va_P D vwCl [(h0, .inr (2, [.int (nI L), .int (nI ((rf_lose (rp, rd, (ro) + (1), ru)).2.1 + 1)), .int ((rf_lose (rp, rd, (ro) + (1), ru)).2.2.1), .int ((rf_lose (rp, rd, (ro) + (1), ru)).2.2.2), .ref (h1)])), (h1, .inl (cI, L, .inl (upd ((rf_lose (rp, rd, (ro) + (1), ru)).1) ((rf_lose (rp, rd, (ro) + (1), ru)).2.1) (p0))))] H := hP
      have hD : va_D A [(h0, .inr (2, [.int (nI L), .int (nI ((rf_lose (rp, rd, (ro) + (1), ru)).2.1 + 1)), .int ((rf_lose (rp, rd, (ro) + (1), ru)).2.2.1), .int ((rf_lose (rp, rd, (ro) + (1), ru)).2.2.2), .ref (h1)])), (h1, .inl (cI, L, .inl (upd ((rf_lose (rp, rd, (ro) + (1), ru)).1) ((rf_lose (rp, rd, (ro) + (1), ru)).2.1) (p0))))] := hD
      exact kr_v (congrArg (wRet h0 h1 cI L ) (show ((upd ((rf_lose (rp, rd, (ro) + (1), ru)).1) ((rf_lose (rp, rd, (ro) + (1), ru)).2.1) (p0), (rf_lose (rp, rd, (ro) + (1), ru)).2.1 + 1, (rf_lose (rp, rd, (ro) + (1), ru)).2.2.1, (rf_lose (rp, rd, (ro) + (1), ru)).2.2.2) : Rs) = rf_push L (rp, rd, ro, ru) p0 from by simp only [rf_push, rf_pre, rf_add, if_pos heq, if_pos hlt])) hx hb hr hlocks hP hK hD hS trivial dX2_push_56

set_option maxHeartbeats 4000000 in
set_option maxRecDepth 100000 in
/-- popped -/
theorem c_X2_pop (l : Launch) (D : va_G) (cI cJ cZ : ClassId) (sz : Nat) (h0 h1 : Nat) (L : Nat) (rp : Fn) (rd : Nat) (ro ru : Int32) (hd : rd ≤ L) (hL : L < 2 ^ 16) : KV l yX2_pop wsX2_pop ({ frames := 0, cells := 0, slots := 0, locals := 0 } : Room) D (kTy cI cJ cZ) [.ref (h0)] [(h0, .inr (2, [.int (nI L), .int (nI (rd)), .int (ro), .int (ru), .ref (h1)])), (h1, .inl (cI, L, .inl (rp)))] sz (wRet h0 h1 cI L (rf_pop (rp, rd, ro, ru))) 0 0 := by
  refine Met.ofW (cc := cX2_pop) (maxL := 1) (ret := none) (by decide) rfl ?_
  intro p e s m args below meth c s₁ B hml hv
  obtain ⟨rfl, hsz, hP, hK, hD0⟩ := hv
  have hx := B.exec
  have hb := B.bytes
  have hr := B.returns
  have hts := atoms_spec (ws := wsX2_pop) B.pre
  have hown : s.vm.findClass RX2 = some m.cls := findClass_of_methodNamed B.named
  have hlocks := B.notSynchronized
  have kf17 := hts (.fieldLink RX2 17 "TargetRows$Returns" "depth" "I") (List.mem_cons_of_mem _ kw_125)
  have kf26 := hts (.fieldLink RX2 26 "TargetRows$Returns" "underflows" "I") (List.mem_cons_of_mem _ kw_130)
  subst hsz
  have hD := hD0.self (sz := s.heap.size)
  generalize hAe : va_A [(h0, .inr (2, [.int (nI L), .int (nI (rd)), .int (ro), .int (ru), .ref (h1)])), (h1, .inl (cI, L, .inl (rp)))] s.heap.size = A at hD ⊢
  have hA : ∀ q : Nat, s.heap.size ≤ q → A q := fun q h => by rw [← hAe]; exact Or.inr h
  have hS : va_S A s.heap s.heap [] := va_S.rf
  have hP : va_P D vwCl [(h0, .inr (2, [.int (nI L), .int (nI (rd)), .int (ro), .int (ru), .ref (h1)])), (h1, .inl (cI, L, .inl (rp)))] s.heap := hP
  have hD : va_D A [(h0, .inr (2, [.int (nI L), .int (nI (rd)), .int (ro), .int (ru), .ref (h1)])), (h1, .inl (cI, L, .inl (rp)))] := hD
  have hl := lv_entry ([.ref (h0)]) (n := 1) (Nat.le_of_ble_eq_true rfl)
  rw [lg_entry_eq]
  generalize (lg_sl ([.ref (h0)]) ++ List.replicate (1 - (lg_sl ([.ref (h0)])).length) Slot.unset).toArray = ls at hl ⊢
  have hl : lv_has ls 1 [(0, .ref (h0))] := hl
  refine lv_aload_n hx hb dX2_pop_0 rfl (lv_at hl 0 rfl) ?_
  refine va_get (D := D) (ci := 2) (v := .int (nI (rd))) (C := RX2) (T := TX2) (N := 5) hx hb hts (fun w h => List.mem_cons_of_mem _ (hiX2 w h)) hown hK hP 0 rfl rfl 1 (by decide) kf17 (fun _ h9 => h9) rfl dX2_pop_1 ?_
  refine lv_if_ne (tgt := 20) hx hb dX2_pop_4 (by decide) (fun c_4 => ?_) (fun c_4 => ?_)
  ·
    have hd0 : rd ≠ 0 := fun q => c_4 (by rw [q]; exact nI_0)
    refine lv_aload_n hx hb dX2_pop_20 rfl (lv_at hl 0 rfl) ?_
    refine lv_dup hx hb dX2_pop_21 rfl ?_
    refine va_get (D := D) (ci := 2) (v := .int (nI (rd))) (C := RX2) (T := TX2) (N := 5) hx hb hts (fun w h => List.mem_cons_of_mem _ (hiX2 w h)) hown hK hP 0 rfl rfl 1 (by decide) kf17 (fun _ h9 => h9) rfl dX2_pop_22 ?_
    refine lv_iconst (v := 1) hx hb dX2_pop_25 (by decide) ?_
    refine lv_isub hx hb dX2_pop_26 ?_
    refine kt_i (y := nI (rd - 1)) (pk_sub (b := 1) (by omega)) ?_
    refine va_put (D := D) (ci := 2) (v := .int (nI (rd - 1))) (ty := .int) (C := RX2) (T := TX2) (N := 5) hx hb hts (fun w h => List.mem_cons_of_mem _ (hiX2 w h)) tyX2 tyX2_ok nmX2 hown hK hP hD hS 0 rfl rfl 1 (by decide) kf17 (fun _ h9 => h9) rfl (by decide +kernel) rfl rfl (Nat.le_of_ble_eq_true rfl) dX2_pop_27 (fun H locs hP hD hS => ?_)
    have hP : va_P D vwCl [(h0, .inr (2, [.int (nI L), .int (nI (rd - 1)), .int (ro), .int (ru), .ref (h1)])), (h1, .inl (cI, L, .inl (rp)))] H := hP
    have hD : va_D A [(h0, .inr (2, [.int (nI L), .int (nI (rd - 1)), .int (ro), .int (ru), .ref (h1)])), (h1, .inl (cI, L, .inl (rp)))] := hD
    exact kr_v (congrArg (wRet h0 h1 cI L ) (show ((rp, rd - 1, ro, ru) : Rs) = rf_pop (rp, rd, ro, ru) from by simp only [rf_pop, if_neg hd0])) hx hb hr hlocks hP hK hD hS trivial dX2_pop_30
  ·
    have hd0 : rd = 0 := by
      rcases Nat.eq_zero_or_pos rd with q | q
      · exact q
      · exact absurd c_4 (nI_ne0 q (by omega))
    refine lv_aload_n hx hb dX2_pop_7 rfl (lv_at hl 0 rfl) ?_
    refine lv_dup hx hb dX2_pop_8 rfl ?_
    refine va_get (D := D) (ci := 2) (v := .int (ru)) (C := RX2) (T := TX2) (N := 5) hx hb hts (fun w h => List.mem_cons_of_mem _ (hiX2 w h)) hown hK hP 0 rfl rfl 3 (by decide) kf26 (fun _ h9 => h9) rfl dX2_pop_9 ?_
    refine lv_iconst (v := 1) hx hb dX2_pop_12 (by decide) ?_
    refine lv_iadd hx hb dX2_pop_13 ?_
    refine va_put (D := D) (ci := 2) (v := .int ((ru) + (1))) (ty := .int) (C := RX2) (T := TX2) (N := 5) hx hb hts (fun w h => List.mem_cons_of_mem _ (hiX2 w h)) tyX2 tyX2_ok nmX2 hown hK hP hD hS 0 rfl rfl 3 (by decide) kf26 (fun _ h9 => h9) rfl (by decide +kernel) rfl rfl (Nat.le_of_ble_eq_true rfl) dX2_pop_14 (fun H locs hP hD hS => ?_)
    have hP : va_P D vwCl [(h0, .inr (2, [.int (nI L), .int (nI (rd)), .int (ro), .int ((ru) + (1)), .ref (h1)])), (h1, .inl (cI, L, .inl (rp)))] H := hP
    have hD : va_D A [(h0, .inr (2, [.int (nI L), .int (nI (rd)), .int (ro), .int ((ru) + (1)), .ref (h1)])), (h1, .inl (cI, L, .inl (rp)))] := hD
    refine lv_goto (tgt := 30) hx hb dX2_pop_17 (by decide) ?_
    exact kr_v (congrArg (wRet h0 h1 cI L ) (show ((rp, rd, ro, (ru) + (1)) : Rs) = rf_pop (rp, rd, ro, ru) from by simp only [rf_pop, if_pos hd0])) hx hb hr hlocks hP hK hD hS trivial dX2_pop_30

set_option maxHeartbeats 4000000 in
set_option maxRecDepth 100000 in
/-- the ring into a store -/
theorem c_X2_copyTo (l : Launch) (D : va_G) (cI cJ cZ : ClassId) (sz : Nat) (h0 h1 : Nat) (L : Nat) (rp : Fn) (rd : Nat) (ro ru : Int32) (ax sn : Nat) (sg : Fn) (k0 : Nat) (hd : rd ≤ L) (hL : L < 2 ^ 16) (hk : k0 + rd ≤ sn) (hn : sn < 2 ^ 20) : KV l yX2_copyTo wsX2_copyTo ({ frames := 1, cells := 0, slots := 0, locals := 18 } : Room) D (kTy cI cJ cZ) [.ref (h0), .ref (ax), .int (nI k0)] [(h0, .inr (2, [.int (nI L), .int (nI (rd)), .int (ro), .int (ru), .ref (h1)])), (h1, .inl (cI, L, .inl (rp))), (ax, .inl (cI, sn, .inl (sg)))] sz (wRet h0 h1 cI L (rp, rd, ro, ru) ++ [(ax, .inl (cI, sn, .inl (va_cpy rp sg 0 k0 rd)))]) 0 0 := by
  refine Met.ofW (cc := cX2_copyTo) (maxL := 3) (ret := none) (by decide) rfl ?_
  intro p e s m args below meth c s₁ B hml hv
  obtain ⟨rfl, hsz, hP, hK, hD0⟩ := hv
  have hx := B.exec
  have hb := B.bytes
  have hr := B.returns
  have hts := atoms_spec (ws := wsX2_copyTo) B.pre
  have hown : s.vm.findClass RX2 = some m.cls := findClass_of_methodNamed B.named
  have hlocks := B.notSynchronized
  have ai := hts (.initialized "java/lang/System") (List.mem_cons_of_mem _ kw_38)
  have al := hts (.methodLink RX2 29 arraycopyName) (List.mem_cons_of_mem _ kw_249)
  have an := hts (.native arraycopyName) (List.mem_cons_of_mem _ kw_251)
  have as_ := hts (.static arraycopyName) (List.mem_cons_of_mem _ kw_250)
  have kf13 := hts (.fieldLink RX2 13 "TargetRows$Returns" "places" "[I") (List.mem_cons_of_mem _ kw_132)
  have kf17 := hts (.fieldLink RX2 17 "TargetRows$Returns" "depth" "I") (List.mem_cons_of_mem _ kw_125)
  subst hsz
  have hD := hD0.self (sz := s.heap.size)
  generalize hAe : va_A [(h0, .inr (2, [.int (nI L), .int (nI (rd)), .int (ro), .int (ru), .ref (h1)])), (h1, .inl (cI, L, .inl (rp))), (ax, .inl (cI, sn, .inl (sg)))] s.heap.size = A at hD ⊢
  have hA : ∀ q : Nat, s.heap.size ≤ q → A q := fun q h => by rw [← hAe]; exact Or.inr h
  have hS : va_S A s.heap s.heap [] := va_S.rf
  have hP : va_P D vwCl [(h0, .inr (2, [.int (nI L), .int (nI (rd)), .int (ro), .int (ru), .ref (h1)])), (h1, .inl (cI, L, .inl (rp))), (ax, .inl (cI, sn, .inl (sg)))] s.heap := hP
  have hD : va_D A [(h0, .inr (2, [.int (nI L), .int (nI (rd)), .int (ro), .int (ru), .ref (h1)])), (h1, .inl (cI, L, .inl (rp))), (ax, .inl (cI, sn, .inl (sg)))] := hD
  have hl := lv_entry ([.ref (h0), .ref (ax), .int (nI k0)]) (n := 3) (Nat.le_of_ble_eq_true rfl)
  rw [lg_entry_eq]
  generalize (lg_sl ([.ref (h0), .ref (ax), .int (nI k0)]) ++ List.replicate (3 - (lg_sl ([.ref (h0), .ref (ax), .int (nI k0)])).length) Slot.unset).toArray = ls at hl ⊢
  have hl : lv_has ls 3 [(0, .ref (h0)), (1, .ref (ax)), (2, .int (nI k0))] := hl
  refine lv_aload_n hx hb dX2_copyTo_0 rfl (lv_at hl 0 rfl) ?_
  refine va_get (D := D) (ci := 2) (v := .ref (h1)) (C := RX2) (T := TX2) (N := 5) hx hb hts (fun w h => List.mem_cons_of_mem _ (hiX2 w h)) hown hK hP 0 rfl rfl 4 (by decide) kf13 (fun _ h9 => h9) rfl dX2_copyTo_1 ?_
  refine lv_iconst (v := 0) hx hb dX2_copyTo_4 (by decide) ?_
  refine lv_aload_n hx hb dX2_copyTo_5 rfl (lv_at hl 1 rfl) ?_
  refine lv_iload_n hx hb dX2_copyTo_6 rfl (lv_at hl 2 rfl) ?_
  refine lv_aload_n hx hb dX2_copyTo_7 rfl (lv_at hl 0 rfl) ?_
  refine va_get (D := D) (ci := 2) (v := .int (nI (rd))) (C := RX2) (T := TX2) (N := 5) hx hb hts (fun w h => List.mem_cons_of_mem _ (hiX2 w h)) hown hK hP 0 rfl rfl 1 (by decide) kf17 (fun _ h9 => h9) rfl dX2_copyTo_8 ?_
  refine ka_cpy hx hb (by rw [hml]; exact hl.1.symm) hown al an as_ ai hK hP hD hS 1 2 0 0 rfl rfl rfl rfl (ks := 0) (kd := k0) (kn := rd) (rfl) (rfl) (rfl) (⟨by omega, by omega⟩) (⟨hk, by omega⟩) (Nat.le_of_ble_eq_true rfl) (Nat.le_of_ble_eq_true rfl) dX2_copyTo_11 (fun H locs hP hD hS => ?_)
  have hP : va_P D vwCl [(h0, .inr (2, [.int (nI L), .int (nI (rd)), .int (ro), .int (ru), .ref (h1)])), (h1, .inl (cI, L, .inl (rp))), (ax, .inl (cI, sn, .inl (va_cpy (rp) (sg) (0) (k0) (rd))))] H := hP
  have hD : va_D A [(h0, .inr (2, [.int (nI L), .int (nI (rd)), .int (ro), .int (ru), .ref (h1)])), (h1, .inl (cI, L, .inl (rp))), (ax, .inl (cI, sn, .inl (va_cpy (rp) (sg) (0) (k0) (rd))))] := hD
  exact kr_v (rfl) hx hb hr hlocks hP hK hD hS trivial dX2_copyTo_14

set_option maxHeartbeats 4000000 in
set_option maxRecDepth 100000 in
/-- the ring out of a store -/
theorem c_X2_copyFrom (l : Launch) (D : va_G) (cI cJ cZ : ClassId) (sz : Nat) (h0 h1 : Nat) (L : Nat) (rp : Fn) (rd : Nat) (ro ru : Int32) (ax sn : Nat) (sg : Fn) (k0 d0 : Nat) (hd0 : d0 ≤ L) (hL : L < 2 ^ 16) (hk : k0 + d0 ≤ sn) (hn : sn < 2 ^ 20) : KV l yX2_copyFrom wsX2_copyFrom ({ frames := 1, cells := 0, slots := 0, locals := 18 } : Room) D (kTy cI cJ cZ) [.ref (h0), .ref (ax), .int (nI k0), .int (nI d0)] [(h0, .inr (2, [.int (nI L), .int (nI (rd)), .int (ro), .int (ru), .ref (h1)])), (h1, .inl (cI, L, .inl (rp))), (ax, .inl (cI, sn, .inl (sg)))] sz (wRet h0 h1 cI L (va_cpy sg rp k0 0 d0, d0, ro, ru) ++ [(ax, .inl (cI, sn, .inl sg))]) 0 0 := by
  refine Met.ofW (cc := cX2_copyFrom) (maxL := 4) (ret := none) (by decide) rfl ?_
  intro p e s m args below meth c s₁ B hml hv
  obtain ⟨rfl, hsz, hP, hK, hD0⟩ := hv
  have hx := B.exec
  have hb := B.bytes
  have hr := B.returns
  have hts := atoms_spec (ws := wsX2_copyFrom) B.pre
  have hown : s.vm.findClass RX2 = some m.cls := findClass_of_methodNamed B.named
  have hlocks := B.notSynchronized
  have ai := hts (.initialized "java/lang/System") (List.mem_cons_of_mem _ kw_38)
  have al := hts (.methodLink RX2 29 arraycopyName) (List.mem_cons_of_mem _ kw_249)
  have an := hts (.native arraycopyName) (List.mem_cons_of_mem _ kw_251)
  have as_ := hts (.static arraycopyName) (List.mem_cons_of_mem _ kw_250)
  have kf13 := hts (.fieldLink RX2 13 "TargetRows$Returns" "places" "[I") (List.mem_cons_of_mem _ kw_132)
  have kf17 := hts (.fieldLink RX2 17 "TargetRows$Returns" "depth" "I") (List.mem_cons_of_mem _ kw_125)
  subst hsz
  have hD := hD0.self (sz := s.heap.size)
  generalize hAe : va_A [(h0, .inr (2, [.int (nI L), .int (nI (rd)), .int (ro), .int (ru), .ref (h1)])), (h1, .inl (cI, L, .inl (rp))), (ax, .inl (cI, sn, .inl (sg)))] s.heap.size = A at hD ⊢
  have hA : ∀ q : Nat, s.heap.size ≤ q → A q := fun q h => by rw [← hAe]; exact Or.inr h
  have hS : va_S A s.heap s.heap [] := va_S.rf
  have hP : va_P D vwCl [(h0, .inr (2, [.int (nI L), .int (nI (rd)), .int (ro), .int (ru), .ref (h1)])), (h1, .inl (cI, L, .inl (rp))), (ax, .inl (cI, sn, .inl (sg)))] s.heap := hP
  have hD : va_D A [(h0, .inr (2, [.int (nI L), .int (nI (rd)), .int (ro), .int (ru), .ref (h1)])), (h1, .inl (cI, L, .inl (rp))), (ax, .inl (cI, sn, .inl (sg)))] := hD
  have hl := lv_entry ([.ref (h0), .ref (ax), .int (nI k0), .int (nI d0)]) (n := 4) (Nat.le_of_ble_eq_true rfl)
  rw [lg_entry_eq]
  generalize (lg_sl ([.ref (h0), .ref (ax), .int (nI k0), .int (nI d0)]) ++ List.replicate (4 - (lg_sl ([.ref (h0), .ref (ax), .int (nI k0), .int (nI d0)])).length) Slot.unset).toArray = ls at hl ⊢
  have hl : lv_has ls 4 [(0, .ref (h0)), (1, .ref (ax)), (2, .int (nI k0)), (3, .int (nI d0))] := hl
  refine lv_aload_n hx hb dX2_copyFrom_0 rfl (lv_at hl 1 rfl) ?_
  refine lv_iload_n hx hb dX2_copyFrom_1 rfl (lv_at hl 2 rfl) ?_
  refine lv_aload_n hx hb dX2_copyFrom_2 rfl (lv_at hl 0 rfl) ?_
  refine va_get (D := D) (ci := 2) (v := .ref (h1)) (C := RX2) (T := TX2) (N := 5) hx hb hts (fun w h => List.mem_cons_of_mem _ (hiX2 w h)) hown hK hP 0 rfl rfl 4 (by decide) kf13 (fun _ h9 => h9) rfl dX2_copyFrom_3 ?_
  refine lv_iconst (v := 0) hx hb dX2_copyFrom_6 (by decide) ?_
  refine lv_iload_n hx hb dX2_copyFrom_7 rfl (lv_at hl 3 rfl) ?_
  refine ka_cpy hx hb (by rw [hml]; exact hl.1.symm) hown al an as_ ai hK hP hD hS 2 1 0 0 rfl rfl rfl rfl (ks := k0) (kd := 0) (kn := d0) (rfl) (rfl) (rfl) (⟨hk, by omega⟩) (⟨by omega, by omega⟩) (Nat.le_of_ble_eq_true rfl) (Nat.le_of_ble_eq_true rfl) dX2_copyFrom_8 (fun H locs hP hD hS => ?_)
  have hP : va_P D vwCl [(h0, .inr (2, [.int (nI L), .int (nI (rd)), .int (ro), .int (ru), .ref (h1)])), (h1, .inl (cI, L, .inl (va_cpy (sg) (rp) (k0) (0) (d0)))), (ax, .inl (cI, sn, .inl (sg)))] H := hP
  have hD : va_D A [(h0, .inr (2, [.int (nI L), .int (nI (rd)), .int (ro), .int (ru), .ref (h1)])), (h1, .inl (cI, L, .inl (va_cpy (sg) (rp) (k0) (0) (d0)))), (ax, .inl (cI, sn, .inl (sg)))] := hD
  refine lv_aload_n hx hb dX2_copyFrom_11 rfl (lv_at hl 0 rfl) ?_
  refine lv_iload_n hx hb dX2_copyFrom_12 rfl (lv_at hl 3 rfl) ?_
  refine va_put (D := D) (ci := 2) (v := .int (nI d0)) (ty := .int) (C := RX2) (T := TX2) (N := 5) hx hb hts (fun w h => List.mem_cons_of_mem _ (hiX2 w h)) tyX2 tyX2_ok nmX2 hown hK hP hD hS 0 rfl rfl 1 (by decide) kf17 (fun _ h9 => h9) rfl (by decide +kernel) rfl rfl (Nat.le_of_ble_eq_true rfl) dX2_copyFrom_13 (fun H locs hP hD hS => ?_)
  have hP : va_P D vwCl [(h0, .inr (2, [.int (nI L), .int (nI d0), .int (ro), .int (ru), .ref (h1)])), (h1, .inl (cI, L, .inl (va_cpy (sg) (rp) (k0) (0) (d0)))), (ax, .inl (cI, sn, .inl (sg)))] H := hP
  have hD : va_D A [(h0, .inr (2, [.int (nI L), .int (nI d0), .int (ro), .int (ru), .ref (h1)])), (h1, .inl (cI, L, .inl (va_cpy (sg) (rp) (k0) (0) (d0)))), (ax, .inl (cI, sn, .inl (sg)))] := hD
  exact kr_v (rfl) hx hb hr hlocks hP hK hD hS trivial dX2_copyFrom_16
