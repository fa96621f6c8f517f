set_option maxHeartbeats 4000000 in
set_option maxRecDepth 100000 in
/-- X4_next throws -/
theorem c_X4_next_x (l : Launch) (hlt : l.stackTraces = false) (D : va_G) (cI cJ cZ : ClassId) (sz : Nat) (root : State) (hz : kzP root) (b0 b1 t0 t1 t2 t3 t4 u0 u1 u2 r0 r1 q0 q1 q2 q3 q4 : Nat) (S Wy sb L : Nat) (tg kd tt lu : Fn) (fl us : Int32) (hg hq : Fn) (hh : Int32) (rp : Fn) (rd : Nat) (ro ru : Int32) (qp qt qd qr : Fn) (qs qf : Nat) (an : Fn) (ck ls_ : Int32) (p0 : Int32) (hfull : qs = 16) : KXm l yX4_next wsX4_next ({ frames := 6, cells := 1, slots := 6, locals := 82 } : Room) (va_Pc [.ref (b0), .int (p0)] (fun U => kP D (kTy cI cJ cZ) [(b0, .inr (4, [.ref (t0), .ref (u0), .ref (r0), .ref (q0), .ref (b1), .int (ck), .int (ls_)])), (b1, .inl (cI, 7, .inl (an))), (t0, .inr (3, [.int (nI S), .int (nI Wy), .ref (t1), .ref (t2), .ref (t3), .int (fl), .int (nI sb), .ref (t4), .int (us)])), (t1, .inl (cI, S * Wy, .inl (tg))), (t2, .inl (cI, S * Wy, .inl (kd))), (t3, .inl (cI, S * Wy, .inl (tt))), (t4, .inl (cI, S * Wy, .inl (lu))), (u0, .inr (0, [.ref (u1), .ref (u2), .int (hh)])), (u1, .inl (cI, 64, .inl (hg))), (u2, .inl (cI, 64, .inl (hq))), (r0, .inr (2, [.int (nI L), .int (nI (rd)), .int (ro), .int (ru), .ref (r1)])), (r1, .inl (cI, L, .inl (rp))), (q0, .inr (1, [.int (nI (qs)), .int (nI (qf)), .int (nI L), .ref (q1), .ref (q2), .ref (q3), .ref (q4)])), (q1, .inl (cI, 16, .inl (qp))), (q2, .inl (cI, 16, .inl (qt))), (q3, .inl (cI, 16, .inl (qd))), (q4, .inl (cI, 16 * L, .inl (qr)))] sz U ∧ kzR root U)) (kxE 0) 1 6 := by
  refine kx_of (cc := cX4_next) (maxL := 4) (ret := (some .int)) (by decide) rfl ?_
  intro p e s m args below meth c s₁ B hml hex hv
  obtain ⟨rfl, ⟨hsz, hP, hK, hD0⟩, hR⟩ := hv
  have hx := B.exec
  have hb := B.bytes
  have hr := B.returns
  have hts := atoms_spec (ws := wsX4_next) B.pre
  have hown : s.vm.findClass RX4 = some m.cls := findClass_of_methodNamed B.named
  have hlocks := B.notSynchronized
  have ke0 := hts (.initialized "java/lang/UnsupportedOperationException") (List.mem_cons_of_mem _ kw_37)
  have kf43 := hts (.fieldLink RX4 43 "TargetRows" "queue" "LTargetRows$Queue;") (List.mem_cons_of_mem _ kw_176)
  have kf58 := hts (.fieldLink RX4 58 "TargetRows$Queue" "size" "I") (List.mem_cons_of_mem _ kw_151)
  have kl62 := hts (.classLink RX4 62 "java/lang/UnsupportedOperationException") (List.mem_cons_of_mem _ kw_275)
  subst hsz
  have hD := hD0.self (sz := s.heap.size)
  obtain ⟨A, hAe⟩ : ∃ A, va_A [(b0, .inr (4, [.ref (t0), .ref (u0), .ref (r0), .ref (q0), .ref (b1), .int (ck), .int (ls_)])), (b1, .inl (cI, 7, .inl (an))), (t0, .inr (3, [.int (nI S), .int (nI Wy), .ref (t1), .ref (t2), .ref (t3), .int (fl), .int (nI sb), .ref (t4), .int (us)])), (t1, .inl (cI, S * Wy, .inl (tg))), (t2, .inl (cI, S * Wy, .inl (kd))), (t3, .inl (cI, S * Wy, .inl (tt))), (t4, .inl (cI, S * Wy, .inl (lu))), (u0, .inr (0, [.ref (u1), .ref (u2), .int (hh)])), (u1, .inl (cI, 64, .inl (hg))), (u2, .inl (cI, 64, .inl (hq))), (r0, .inr (2, [.int (nI L), .int (nI (rd)), .int (ro), .int (ru), .ref (r1)])), (r1, .inl (cI, L, .inl (rp))), (q0, .inr (1, [.int (nI (qs)), .int (nI (qf)), .int (nI L), .ref (q1), .ref (q2), .ref (q3), .ref (q4)])), (q1, .inl (cI, 16, .inl (qp))), (q2, .inl (cI, 16, .inl (qt))), (q3, .inl (cI, 16, .inl (qd))), (q4, .inl (cI, 16 * L, .inl (qr)))] s.heap.size = A := ⟨_, rfl⟩
  rw [hAe] at hD
  have hA : ∀ q : Nat, s.heap.size ≤ q → A q := fun q h => by rw [← hAe]; exact Or.inr h
  have hS : va_S A s.heap s.heap [] := va_S.rf
  have hP : va_P D vwCl [(b0, .inr (4, [.ref (t0), .ref (u0), .ref (r0), .ref (q0), .ref (b1), .int (ck), .int (ls_)])), (b1, .inl (cI, 7, .inl (an))), (t0, .inr (3, [.int (nI S), .int (nI Wy), .ref (t1), .ref (t2), .ref (t3), .int (fl), .int (nI sb), .ref (t4), .int (us)])), (t1, .inl (cI, S * Wy, .inl (tg))), (t2, .inl (cI, S * Wy, .inl (kd))), (t3, .inl (cI, S * Wy, .inl (tt))), (t4, .inl (cI, S * Wy, .inl (lu))), (u0, .inr (0, [.ref (u1), .ref (u2), .int (hh)])), (u1, .inl (cI, 64, .inl (hg))), (u2, .inl (cI, 64, .inl (hq))), (r0, .inr (2, [.int (nI L), .int (nI (rd)), .int (ro), .int (ru), .ref (r1)])), (r1, .inl (cI, L, .inl (rp))), (q0, .inr (1, [.int (nI (qs)), .int (nI (qf)), .int (nI L), .ref (q1), .ref (q2), .ref (q3), .ref (q4)])), (q1, .inl (cI, 16, .inl (qp))), (q2, .inl (cI, 16, .inl (qt))), (q3, .inl (cI, 16, .inl (qd))), (q4, .inl (cI, 16 * L, .inl (qr)))] s.heap := hP
  have hD : va_D A [(b0, .inr (4, [.ref (t0), .ref (u0), .ref (r0), .ref (q0), .ref (b1), .int (ck), .int (ls_)])), (b1, .inl (cI, 7, .inl (an))), (t0, .inr (3, [.int (nI S), .int (nI Wy), .ref (t1), .ref (t2), .ref (t3), .int (fl), .int (nI sb), .ref (t4), .int (us)])), (t1, .inl (cI, S * Wy, .inl (tg))), (t2, .inl (cI, S * Wy, .inl (kd))), (t3, .inl (cI, S * Wy, .inl (tt))), (t4, .inl (cI, S * Wy, .inl (lu))), (u0, .inr (0, [.ref (u1), .ref (u2), .int (hh)])), (u1, .inl (cI, 64, .inl (hg))), (u2, .inl (cI, 64, .inl (hq))), (r0, .inr (2, [.int (nI L), .int (nI (rd)), .int (ro), .int (ru), .ref (r1)])), (r1, .inl (cI, L, .inl (rp))), (q0, .inr (1, [.int (nI (qs)), .int (nI (qf)), .int (nI L), .ref (q1), .ref (q2), .ref (q3), .ref (q4)])), (q1, .inl (cI, 16, .inl (qp))), (q2, .inl (cI, 16, .inl (qt))), (q3, .inl (cI, 16, .inl (qd))), (q4, .inl (cI, 16 * L, .inl (qr)))] := hD
  have hl := lv_entry ([.ref (b0), .int (p0)]) (n := 4) (Nat.le_of_ble_eq_true rfl)
  rw [lg_entry_eq]
  generalize (lg_sl ([.ref (b0), .int (p0)]) ++ List.replicate (4 - (lg_sl ([.ref (b0), .int (p0)])).length) Slot.unset).toArray = ls at hl ⊢
  have hl : lv_has ls 4 [(0, .ref (b0)), (1, .int (p0))] := hl
  refine lv_aload_n hx hb dX4_next_0 rfl (lv_at hl 0 rfl) ?_
  refine va_get (D := D) (ci := 4) (v := .ref (q0)) (C := RX4) (T := TX4) (N := 7) hx hb hts (fun w h => List.mem_cons_of_mem _ (hiX4 w h)) hown hK hP 0 rfl rfl 3 (by decide) kf43 (fun _ h9 => h9) rfl dX4_next_1 ?_
  refine va_get (D := D) (ci := 1) (v := .int (nI (qs))) (C := RX1) (T := TX1) (N := 7) hx hb hts (fun w h => List.mem_cons_of_mem _ (hiX1 w h)) hown hK hP 12 rfl rfl 0 (by decide) kf58 (fun _ h9 => h9) rfl dX4_next_4 ?_
  refine lv_bipush (v := 16) hx hb dX4_next_7 (by decide) ?_
  refine lv_icmp_ne (tgt := 22) hx hb dX4_next_9 (by decide) (fun c_9 => absurd (by rw [hfull]; rfl) c_9) (fun c_9 => ?_)
  exact kx_throw (own := RX4) (cls := kxE 0) (text := (kzT 0).2) (names := kxN) hx hb hlt hown (by decide +kernel) (by decide +kernel) kl62 ke0 ((hz s _ hR).2.1 0 (by decide)) (fun w hw => (kx_at0 w hw).elim (fun q => (hz s _ hR).1 w q) (fun q => hts w (List.mem_cons_of_mem _ q))) (hl.1.trans hml.symm) dX4_next_12 dX4_next_15 dX4_next_16 dX4_next_18 dX4_next_21 hex (by decide) (Nat.le_of_ble_eq_true rfl) (Nat.le_of_ble_eq_true rfl) (Nat.le_of_ble_eq_true rfl) hlocks

set_option maxHeartbeats 4000000 in
set_option maxRecDepth 100000 in
/-- X4_check throws -/
theorem c_X4_check_x (l : Launch) (hlt : l.stackTraces = false) (D : va_G) (cI cJ cZ : ClassId) (sz : Nat) (root : State) (hz : kzP root) (b0 b1 t0 t1 t2 t3 t4 u0 u1 u2 r0 r1 q0 q1 q2 q3 q4 : Nat) (S Wy sb L : Nat) (tg kd tt lu : Fn) (fl us : Int32) (hg hq : Fn) (hh : Int32) (rp : Fn) (rd : Nat) (ro ru : Int32) (qp qt qd qr : Fn) (qs qf : Nat) (an : Fn) (ck ls_ : Int32) (p0 p1 p2 : Int32) (hbad : ¬ (0 ≤ p0 ∧ p0 ≤ 3)) : KXm l yX4_check wsX4_check ({ frames := 6, cells := 1, slots := 6, locals := 82 } : Room) (va_Pc [.ref (b0), .int (p0), .int (p1), .int (p2)] (fun U => kP D (kTy cI cJ cZ) [(b0, .inr (4, [.ref (t0), .ref (u0), .ref (r0), .ref (q0), .ref (b1), .int (ck), .int (ls_)])), (b1, .inl (cI, 7, .inl (an))), (t0, .inr (3, [.int (nI S), .int (nI Wy), .ref (t1), .ref (t2), .ref (t3), .int (fl), .int (nI sb), .ref (t4), .int (us)])), (t1, .inl (cI, S * Wy, .inl (tg))), (t2, .inl (cI, S * Wy, .inl (kd))), (t3, .inl (cI, S * Wy, .inl (tt))), (t4, .inl (cI, S * Wy, .inl (lu))), (u0, .inr (0, [.ref (u1), .ref (u2), .int (hh)])), (u1, .inl (cI, 64, .inl (hg))), (u2, .inl (cI, 64, .inl (hq))), (r0, .inr (2, [.int (nI L), .int (nI (rd)), .int (ro), .int (ru), .ref (r1)])), (r1, .inl (cI, L, .inl (rp))), (q0, .inr (1, [.int (nI (qs)), .int (nI (qf)), .int (nI L), .ref (q1), .ref (q2), .ref (q3), .ref (q4)])), (q1, .inl (cI, 16, .inl (qp))), (q2, .inl (cI, 16, .inl (qt))), (q3, .inl (cI, 16, .inl (qd))), (q4, .inl (cI, 16 * L, .inl (qr)))] sz U ∧ kzR root U)) (kxE 1) 1 6 := by
  refine kx_of (cc := cX4_check) (maxL := 7) (ret := (some .int)) (by decide) rfl ?_
  intro p e s m args below meth c s₁ B hml hex hv
  obtain ⟨rfl, ⟨hsz, hP, hK, hD0⟩, hR⟩ := hv
  have hx := B.exec
  have hb := B.bytes
  have hr := B.returns
  have hts := atoms_spec (ws := wsX4_check) B.pre
  have hown : s.vm.findClass RX4 = some m.cls := findClass_of_methodNamed B.named
  have hlocks := B.notSynchronized
  have ke1 := hts (.initialized "java/lang/IllegalArgumentException") (List.mem_cons_of_mem _ kw_39)
  have kl79 := hts (.classLink RX4 79 "java/lang/IllegalArgumentException") (List.mem_cons_of_mem _ kw_381)
  subst hsz
  have hD := hD0.self (sz := s.heap.size)
  obtain ⟨A, hAe⟩ : ∃ A, va_A [(b0, .inr (4, [.ref (t0), .ref (u0), .ref (r0), .ref (q0), .ref (b1), .int (ck), .int (ls_)])), (b1, .inl (cI, 7, .inl (an))), (t0, .inr (3, [.int (nI S), .int (nI Wy), .ref (t1), .ref (t2), .ref (t3), .int (fl), .int (nI sb), .ref (t4), .int (us)])), (t1, .inl (cI, S * Wy, .inl (tg))), (t2, .inl (cI, S * Wy, .inl (kd))), (t3, .inl (cI, S * Wy, .inl (tt))), (t4, .inl (cI, S * Wy, .inl (lu))), (u0, .inr (0, [.ref (u1), .ref (u2), .int (hh)])), (u1, .inl (cI, 64, .inl (hg))), (u2, .inl (cI, 64, .inl (hq))), (r0, .inr (2, [.int (nI L), .int (nI (rd)), .int (ro), .int (ru), .ref (r1)])), (r1, .inl (cI, L, .inl (rp))), (q0, .inr (1, [.int (nI (qs)), .int (nI (qf)), .int (nI L), .ref (q1), .ref (q2), .ref (q3), .ref (q4)])), (q1, .inl (cI, 16, .inl (qp))), (q2, .inl (cI, 16, .inl (qt))), (q3, .inl (cI, 16, .inl (qd))), (q4, .inl (cI, 16 * L, .inl (qr)))] s.heap.size = A := ⟨_, rfl⟩
  rw [hAe] at hD
  have hA : ∀ q : Nat, s.heap.size ≤ q → A q := fun q h => by rw [← hAe]; exact Or.inr h
  have hS : va_S A s.heap s.heap [] := va_S.rf
  have hP : va_P D vwCl [(b0, .inr (4, [.ref (t0), .ref (u0), .ref (r0), .ref (q0), .ref (b1), .int (ck), .int (ls_)])), (b1, .inl (cI, 7, .inl (an))), (t0, .inr (3, [.int (nI S), .int (nI Wy), .ref (t1), .ref (t2), .ref (t3), .int (fl), .int (nI sb), .ref (t4), .int (us)])), (t1, .inl (cI, S * Wy, .inl (tg))), (t2, .inl (cI, S * Wy, .inl (kd))), (t3, .inl (cI, S * Wy, .inl (tt))), (t4, .inl (cI, S * Wy, .inl (lu))), (u0, .inr (0, [.ref (u1), .ref (u2), .int (hh)])), (u1, .inl (cI, 64, .inl (hg))), (u2, .inl (cI, 64, .inl (hq))), (r0, .inr (2, [.int (nI L), .int (nI (rd)), .int (ro), .int (ru), .ref (r1)])), (r1, .inl (cI, L, .inl (rp))), (q0, .inr (1, [.int (nI (qs)), .int (nI (qf)), .int (nI L), .ref (q1), .ref (q2), .ref (q3), .ref (q4)])), (q1, .inl (cI, 16, .inl (qp))), (q2, .inl (cI, 16, .inl (qt))), (q3, .inl (cI, 16, .inl (qd))), (q4, .inl (cI, 16 * L, .inl (qr)))] s.heap := hP
  have hD : va_D A [(b0, .inr (4, [.ref (t0), .ref (u0), .ref (r0), .ref (q0), .ref (b1), .int (ck), .int (ls_)])), (b1, .inl (cI, 7, .inl (an))), (t0, .inr (3, [.int (nI S), .int (nI Wy), .ref (t1), .ref (t2), .ref (t3), .int (fl), .int (nI sb), .ref (t4), .int (us)])), (t1, .inl (cI, S * Wy, .inl (tg))), (t2, .inl (cI, S * Wy, .inl (kd))), (t3, .inl (cI, S * Wy, .inl (tt))), (t4, .inl (cI, S * Wy, .inl (lu))), (u0, .inr (0, [.ref (u1), .ref (u2), .int (hh)])), (u1, .inl (cI, 64, .inl (hg))), (u2, .inl (cI, 64, .inl (hq))), (r0, .inr (2, [.int (nI L), .int (nI (rd)), .int (ro), .int (ru), .ref (r1)])), (r1, .inl (cI, L, .inl (rp))), (q0, .inr (1, [.int (nI (qs)), .int (nI (qf)), .int (nI L), .ref (q1), .ref (q2), .ref (q3), .ref (q4)])), (q1, .inl (cI, 16, .inl (qp))), (q2, .inl (cI, 16, .inl (qt))), (q3, .inl (cI, 16, .inl (qd))), (q4, .inl (cI, 16 * L, .inl (qr)))] := hD
  have hl := lv_entry ([.ref (b0), .int (p0), .int (p1), .int (p2)]) (n := 7) (Nat.le_of_ble_eq_true rfl)
  rw [lg_entry_eq]
  generalize (lg_sl ([.ref (b0), .int (p0), .int (p1), .int (p2)]) ++ List.replicate (7 - (lg_sl ([.ref (b0), .int (p0), .int (p1), .int (p2)])).length) Slot.unset).toArray = ls at hl ⊢
  have hl : lv_has ls 7 [(0, .ref (b0)), (1, .int (p0)), (2, .int (p1)), (3, .int (p2))] := hl
  refine lv_iload_n hx hb dX4_check_0 rfl (lv_at hl 1 rfl) ?_
  refine lv_if_lt (tgt := 9) hx hb dX4_check_1 (by decide) (fun c_1 => ?_) (fun c_1 => ?_)
  ·
    exact kx_throw (own := RX4) (cls := kxE 1) (text := (kzT 1).2) (names := kxN) hx hb hlt hown (by decide +kernel) (by decide +kernel) kl79 ke1 ((hz s _ hR).2.1 1 (by decide)) (fun w hw => (kx_at1 w hw).elim (fun q => (hz s _ hR).1 w q) (fun q => hts w (List.mem_cons_of_mem _ q))) (hl.1.trans hml.symm) dX4_check_9 dX4_check_12 dX4_check_13 dX4_check_15 dX4_check_18 hex (by decide) (Nat.le_of_ble_eq_true rfl) (Nat.le_of_ble_eq_true rfl) (Nat.le_of_ble_eq_true rfl) hlocks
  ·
    refine lv_iload_n hx hb dX4_check_4 rfl (lv_at hl 1 rfl) ?_
    refine lv_iconst (v := 3) hx hb dX4_check_5 (by decide) ?_
    refine lv_icmp_le (tgt := 19) hx hb dX4_check_6 (by decide) (fun c_6 => absurd ⟨Int32.not_lt.mp c_1, c_6⟩ hbad) (fun c_6 => ?_)
    exact kx_throw (own := RX4) (cls := kxE 1) (text := (kzT 1).2) (names := kxN) hx hb hlt hown (by decide +kernel) (by decide +kernel) kl79 ke1 ((hz s _ hR).2.1 1 (by decide)) (fun w hw => (kx_at1 w hw).elim (fun q => (hz s _ hR).1 w q) (fun q => hts w (List.mem_cons_of_mem _ q))) (hl.1.trans hml.symm) dX4_check_9 dX4_check_12 dX4_check_13 dX4_check_15 dX4_check_18 hex (by decide) (Nat.le_of_ble_eq_true rfl) (Nat.le_of_ble_eq_true rfl) (Nat.le_of_ble_eq_true rfl) hlocks

set_option maxHeartbeats 4000000 in
set_option maxRecDepth 100000 in
/-- X4_check throws -/
theorem c_X4_check_y (l : Launch) (hlt : l.stackTraces = false) (D : va_G) (cI cJ cZ : ClassId) (sz : Nat) (root : State) (hz : kzP root) (b0 b1 t0 t1 t2 t3 t4 u0 u1 u2 r0 r1 q0 q1 q2 q3 q4 : Nat) (S Wy sb L : Nat) (tg kd tt lu : Fn) (fl us : Int32) (hg hq : Fn) (hh : Int32) (rp : Fn) (rd : Nat) (ro ru : Int32) (qp qt qd qr : Fn) (qs qf : Nat) (an : Fn) (ck ls_ : Int32) (p0 p1 p2 : Int32) (hk0 : 0 ≤ p0) (hk3 : p0 ≤ 3) (hq0 : qs = 0) : KXm l yX4_check wsX4_check ({ frames := 6, cells := 1, slots := 6, locals := 82 } : Room) (va_Pc [.ref (b0), .int (p0), .int (p1), .int (p2)] (fun U => kP D (kTy cI cJ cZ) [(b0, .inr (4, [.ref (t0), .ref (u0), .ref (r0), .ref (q0), .ref (b1), .int (ck), .int (ls_)])), (b1, .inl (cI, 7, .inl (an))), (t0, .inr (3, [.int (nI S), .int (nI Wy), .ref (t1), .ref (t2), .ref (t3), .int (fl), .int (nI sb), .ref (t4), .int (us)])), (t1, .inl (cI, S * Wy, .inl (tg))), (t2, .inl (cI, S * Wy, .inl (kd))), (t3, .inl (cI, S * Wy, .inl (tt))), (t4, .inl (cI, S * Wy, .inl (lu))), (u0, .inr (0, [.ref (u1), .ref (u2), .int (hh)])), (u1, .inl (cI, 64, .inl (hg))), (u2, .inl (cI, 64, .inl (hq))), (r0, .inr (2, [.int (nI L), .int (nI (rd)), .int (ro), .int (ru), .ref (r1)])), (r1, .inl (cI, L, .inl (rp))), (q0, .inr (1, [.int (nI (qs)), .int (nI (qf)), .int (nI L), .ref (q1), .ref (q2), .ref (q3), .ref (q4)])), (q1, .inl (cI, 16, .inl (qp))), (q2, .inl (cI, 16, .inl (qt))), (q3, .inl (cI, 16, .inl (qd))), (q4, .inl (cI, 16 * L, .inl (qr)))] sz U ∧ kzR root U)) (kxE 2) 1 6 := by
  refine kx_of (cc := cX4_check) (maxL := 7) (ret := (some .int)) (by decide) rfl ?_
  intro p e s m args below meth c s₁ B hml hex hv
  obtain ⟨rfl, ⟨hsz, hP, hK, hD0⟩, hR⟩ := hv
  have hx := B.exec
  have hb := B.bytes
  have hr := B.returns
  have hts := atoms_spec (ws := wsX4_check) B.pre
  have hown : s.vm.findClass RX4 = some m.cls := findClass_of_methodNamed B.named
  have hlocks := B.notSynchronized
  have ke2 := hts (.initialized "java/lang/IllegalStateException") (List.mem_cons_of_mem _ kw_40)
  have kf43 := hts (.fieldLink RX4 43 "TargetRows" "queue" "LTargetRows$Queue;") (List.mem_cons_of_mem _ kw_176)
  have kf58 := hts (.fieldLink RX4 58 "TargetRows$Queue" "size" "I") (List.mem_cons_of_mem _ kw_151)
  have kl84 := hts (.classLink RX4 84 "java/lang/IllegalStateException") (List.mem_cons_of_mem _ kw_397)
  subst hsz
  have hD := hD0.self (sz := s.heap.size)
  obtain ⟨A, hAe⟩ : ∃ A, va_A [(b0, .inr (4, [.ref (t0), .ref (u0), .ref (r0), .ref (q0), .ref (b1), .int (ck), .int (ls_)])), (b1, .inl (cI, 7, .inl (an))), (t0, .inr (3, [.int (nI S), .int (nI Wy), .ref (t1), .ref (t2), .ref (t3), .int (fl), .int (nI sb), .ref (t4), .int (us)])), (t1, .inl (cI, S * Wy, .inl (tg))), (t2, .inl (cI, S * Wy, .inl (kd))), (t3, .inl (cI, S * Wy, .inl (tt))), (t4, .inl (cI, S * Wy, .inl (lu))), (u0, .inr (0, [.ref (u1), .ref (u2), .int (hh)])), (u1, .inl (cI, 64, .inl (hg))), (u2, .inl (cI, 64, .inl (hq))), (r0, .inr (2, [.int (nI L), .int (nI (rd)), .int (ro), .int (ru), .ref (r1)])), (r1, .inl (cI, L, .inl (rp))), (q0, .inr (1, [.int (nI (qs)), .int (nI (qf)), .int (nI L), .ref (q1), .ref (q2), .ref (q3), .ref (q4)])), (q1, .inl (cI, 16, .inl (qp))), (q2, .inl (cI, 16, .inl (qt))), (q3, .inl (cI, 16, .inl (qd))), (q4, .inl (cI, 16 * L, .inl (qr)))] s.heap.size = A := ⟨_, rfl⟩
  rw [hAe] at hD
  have hA : ∀ q : Nat, s.heap.size ≤ q → A q := fun q h => by rw [← hAe]; exact Or.inr h
  have hS : va_S A s.heap s.heap [] := va_S.rf
  have hP : va_P D vwCl [(b0, .inr (4, [.ref (t0), .ref (u0), .ref (r0), .ref (q0), .ref (b1), .int (ck), .int (ls_)])), (b1, .inl (cI, 7, .inl (an))), (t0, .inr (3, [.int (nI S), .int (nI Wy), .ref (t1), .ref (t2), .ref (t3), .int (fl), .int (nI sb), .ref (t4), .int (us)])), (t1, .inl (cI, S * Wy, .inl (tg))), (t2, .inl (cI, S * Wy, .inl (kd))), (t3, .inl (cI, S * Wy, .inl (tt))), (t4, .inl (cI, S * Wy, .inl (lu))), (u0, .inr (0, [.ref (u1), .ref (u2), .int (hh)])), (u1, .inl (cI, 64, .inl (hg))), (u2, .inl (cI, 64, .inl (hq))), (r0, .inr (2, [.int (nI L), .int (nI (rd)), .int (ro), .int (ru), .ref (r1)])), (r1, .inl (cI, L, .inl (rp))), (q0, .inr (1, [.int (nI (qs)), .int (nI (qf)), .int (nI L), .ref (q1), .ref (q2), .ref (q3), .ref (q4)])), (q1, .inl (cI, 16, .inl (qp))), (q2, .inl (cI, 16, .inl (qt))), (q3, .inl (cI, 16, .inl (qd))), (q4, .inl (cI, 16 * L, .inl (qr)))] s.heap := hP
  have hD : va_D A [(b0, .inr (4, [.ref (t0), .ref (u0), .ref (r0), .ref (q0), .ref (b1), .int (ck), .int (ls_)])), (b1, .inl (cI, 7, .inl (an))), (t0, .inr (3, [.int (nI S), .int (nI Wy), .ref (t1), .ref (t2), .ref (t3), .int (fl), .int (nI sb), .ref (t4), .int (us)])), (t1, .inl (cI, S * Wy, .inl (tg))), (t2, .inl (cI, S * Wy, .inl (kd))), (t3, .inl (cI, S * Wy, .inl (tt))), (t4, .inl (cI, S * Wy, .inl (lu))), (u0, .inr (0, [.ref (u1), .ref (u2), .int (hh)])), (u1, .inl (cI, 64, .inl (hg))), (u2, .inl (cI, 64, .inl (hq))), (r0, .inr (2, [.int (nI L), .int (nI (rd)), .int (ro), .int (ru), .ref (r1)])), (r1, .inl (cI, L, .inl (rp))), (q0, .inr (1, [.int (nI (qs)), .int (nI (qf)), .int (nI L), .ref (q1), .ref (q2), .ref (q3), .ref (q4)])), (q1, .inl (cI, 16, .inl (qp))), (q2, .inl (cI, 16, .inl (qt))), (q3, .inl (cI, 16, .inl (qd))), (q4, .inl (cI, 16 * L, .inl (qr)))] := hD
  have hl := lv_entry ([.ref (b0), .int (p0), .int (p1), .int (p2)]) (n := 7) (Nat.le_of_ble_eq_true rfl)
  rw [lg_entry_eq]
  generalize (lg_sl ([.ref (b0), .int (p0), .int (p1), .int (p2)]) ++ List.replicate (7 - (lg_sl ([.ref (b0), .int (p0), .int (p1), .int (p2)])).length) Slot.unset).toArray = ls at hl ⊢
  have hl : lv_has ls 7 [(0, .ref (b0)), (1, .int (p0)), (2, .int (p1)), (3, .int (p2))] := hl
  refine lv_iload_n hx hb dX4_check_0 rfl (lv_at hl 1 rfl) ?_
  refine lv_if_lt (tgt := 9) hx hb dX4_check_1 (by decide) (fun c_1 => absurd c_1 (Int32.not_lt.mpr hk0)) (fun c_1 => ?_)
  refine lv_iload_n hx hb dX4_check_4 rfl (lv_at hl 1 rfl) ?_
  refine lv_iconst (v := 3) hx hb dX4_check_5 (by decide) ?_
  refine lv_icmp_le (tgt := 19) hx hb dX4_check_6 (by decide) (fun c_6 => ?_) (fun c_6 => absurd hk3 c_6)
  refine lv_aload_n hx hb dX4_check_19 rfl (lv_at hl 0 rfl) ?_
  refine va_get (D := D) (ci := 4) (v := .ref (q0)) (C := RX4) (T := TX4) (N := 7) hx hb hts (fun w h => List.mem_cons_of_mem _ (hiX4 w h)) hown hK hP 0 rfl rfl 3 (by decide) kf43 (fun _ h9 => h9) rfl dX4_check_20 ?_
  refine va_get (D := D) (ci := 1) (v := .int (nI (qs))) (C := RX1) (T := TX1) (N := 7) hx hb hts (fun w h => List.mem_cons_of_mem _ (hiX1 w h)) hown hK hP 12 rfl rfl 0 (by decide) kf58 (fun _ h9 => h9) rfl dX4_check_23 ?_
  refine lv_if_ne (tgt := 39) hx hb dX4_check_26 (by decide) (fun c_26 => absurd (by rw [hq0]; exact nI_0) c_26) (fun c_26 => ?_)
  exact kx_throw (own := RX4) (cls := kxE 2) (text := (kzT 2).2) (names := kxN) hx hb hlt hown (by decide +kernel) (by decide +kernel) kl84 ke2 ((hz s _ hR).2.1 2 (by decide)) (fun w hw => (kx_at2 w hw).elim (fun q => (hz s _ hR).1 w q) (fun q => hts w (List.mem_cons_of_mem _ q))) (hl.1.trans hml.symm) dX4_check_29 dX4_check_32 dX4_check_33 dX4_check_35 dX4_check_38 hex (by decide) (Nat.le_of_ble_eq_true rfl) (Nat.le_of_ble_eq_true rfl) (Nat.le_of_ble_eq_true rfl) hlocks

set_option maxHeartbeats 4000000 in
set_option maxRecDepth 100000 in
/-- X4_entry throws -/
theorem c_X4_entry_x (l : Launch) (hlt : l.stackTraces = false) (D : va_G) (cI cJ cZ : ClassId) (sz : Nat) (root : State) (hz : kzP root) (b0 b1 t0 t1 t2 t3 t4 u0 u1 u2 r0 r1 q0 q1 q2 q3 q4 : Nat) (S Wy sb L : Nat) (tg kd tt lu : Fn) (fl us : Int32) (hg hq : Fn) (hh : Int32) (rp : Fn) (rd : Nat) (ro ru : Int32) (qp qt qd qr : Fn) (qs qf : Nat) (an : Fn) (ck ls_ : Int32) (p0 p1 p2 : Int32) (hbad : ¬ ((0 ≤ p0 ∧ p0 ≤ nI S - 1) ∧ (0 ≤ p1 ∧ p1 ≤ nI Wy - 1) ∧ (0 ≤ p2 ∧ p2 ≤ 2))) (hS16 : S ≤ 16) (hW4 : Wy ≤ 4) : KXm l yX4_entry wsX4_entry ({ frames := 6, cells := 1, slots := 6, locals := 82 } : Room) (va_Pc [.ref (b0), .int (p0), .int (p1), .int (p2)] (fun U => kP D (kTy cI cJ cZ) [(b0, .inr (4, [.ref (t0), .ref (u0), .ref (r0), .ref (q0), .ref (b1), .int (ck), .int (ls_)])), (b1, .inl (cI, 7, .inl (an))), (t0, .inr (3, [.int (nI S), .int (nI Wy), .ref (t1), .ref (t2), .ref (t3), .int (fl), .int (nI sb), .ref (t4), .int (us)])), (t1, .inl (cI, S * Wy, .inl (tg))), (t2, .inl (cI, S * Wy, .inl (kd))), (t3, .inl (cI, S * Wy, .inl (tt))), (t4, .inl (cI, S * Wy, .inl (lu))), (u0, .inr (0, [.ref (u1), .ref (u2), .int (hh)])), (u1, .inl (cI, 64, .inl (hg))), (u2, .inl (cI, 64, .inl (hq))), (r0, .inr (2, [.int (nI L), .int (nI (rd)), .int (ro), .int (ru), .ref (r1)])), (r1, .inl (cI, L, .inl (rp))), (q0, .inr (1, [.int (nI (qs)), .int (nI (qf)), .int (nI L), .ref (q1), .ref (q2), .ref (q3), .ref (q4)])), (q1, .inl (cI, 16, .inl (qp))), (q2, .inl (cI, 16, .inl (qt))), (q3, .inl (cI, 16, .inl (qd))), (q4, .inl (cI, 16 * L, .inl (qr)))] sz U ∧ kzR root U)) (kxE 3) 1 6 := by
  refine kx_of (cc := cX4_entry) (maxL := 5) (ret := (some .int)) (by decide) rfl ?_
  intro p e s m args below meth c s₁ B hml hex hv
  obtain ⟨rfl, ⟨hsz, hP, hK, hD0⟩, hR⟩ := hv
  have hx := B.exec
  have hb := B.bytes
  have hr := B.returns
  have hts := atoms_spec (ws := wsX4_entry) B.pre
  have hown : s.vm.findClass RX4 = some m.cls := findClass_of_methodNamed B.named
  have hlocks := B.notSynchronized
  have ke3 := hts (.initialized "java/lang/IndexOutOfBoundsException") (List.mem_cons_of_mem _ kw_41)
  have kf126 := hts (.fieldLink RX4 126 "TargetRows$Table" "sets" "I") (List.mem_cons_of_mem _ kw_63)
  have kf129 := hts (.fieldLink RX4 129 "TargetRows$Table" "ways" "I") (List.mem_cons_of_mem _ kw_65)
  have kf18 := hts (.fieldLink RX4 18 "TargetRows" "table" "LTargetRows$Table;") (List.mem_cons_of_mem _ kw_173)
  have kl132 := hts (.classLink RX4 132 "java/lang/IndexOutOfBoundsException") (List.mem_cons_of_mem _ kw_463)
  subst hsz
  have hD := hD0.self (sz := s.heap.size)
  obtain ⟨A, hAe⟩ : ∃ A, va_A [(b0, .inr (4, [.ref (t0), .ref (u0), .ref (r0), .ref (q0), .ref (b1), .int (ck), .int (ls_)])), (b1, .inl (cI, 7, .inl (an))), (t0, .inr (3, [.int (nI S), .int (nI Wy), .ref (t1), .ref (t2), .ref (t3), .int (fl), .int (nI sb), .ref (t4), .int (us)])), (t1, .inl (cI, S * Wy, .inl (tg))), (t2, .inl (cI, S * Wy, .inl (kd))), (t3, .inl (cI, S * Wy, .inl (tt))), (t4, .inl (cI, S * Wy, .inl (lu))), (u0, .inr (0, [.ref (u1), .ref (u2), .int (hh)])), (u1, .inl (cI, 64, .inl (hg))), (u2, .inl (cI, 64, .inl (hq))), (r0, .inr (2, [.int (nI L), .int (nI (rd)), .int (ro), .int (ru), .ref (r1)])), (r1, .inl (cI, L, .inl (rp))), (q0, .inr (1, [.int (nI (qs)), .int (nI (qf)), .int (nI L), .ref (q1), .ref (q2), .ref (q3), .ref (q4)])), (q1, .inl (cI, 16, .inl (qp))), (q2, .inl (cI, 16, .inl (qt))), (q3, .inl (cI, 16, .inl (qd))), (q4, .inl (cI, 16 * L, .inl (qr)))] s.heap.size = A := ⟨_, rfl⟩
  rw [hAe] at hD
  have hA : ∀ q : Nat, s.heap.size ≤ q → A q := fun q h => by rw [← hAe]; exact Or.inr h
  have hS : va_S A s.heap s.heap [] := va_S.rf
  have hP : va_P D vwCl [(b0, .inr (4, [.ref (t0), .ref (u0), .ref (r0), .ref (q0), .ref (b1), .int (ck), .int (ls_)])), (b1, .inl (cI, 7, .inl (an))), (t0, .inr (3, [.int (nI S), .int (nI Wy), .ref (t1), .ref (t2), .ref (t3), .int (fl), .int (nI sb), .ref (t4), .int (us)])), (t1, .inl (cI, S * Wy, .inl (tg))), (t2, .inl (cI, S * Wy, .inl (kd))), (t3, .inl (cI, S * Wy, .inl (tt))), (t4, .inl (cI, S * Wy, .inl (lu))), (u0, .inr (0, [.ref (u1), .ref (u2), .int (hh)])), (u1, .inl (cI, 64, .inl (hg))), (u2, .inl (cI, 64, .inl (hq))), (r0, .inr (2, [.int (nI L), .int (nI (rd)), .int (ro), .int (ru), .ref (r1)])), (r1, .inl (cI, L, .inl (rp))), (q0, .inr (1, [.int (nI (qs)), .int (nI (qf)), .int (nI L), .ref (q1), .ref (q2), .ref (q3), .ref (q4)])), (q1, .inl (cI, 16, .inl (qp))), (q2, .inl (cI, 16, .inl (qt))), (q3, .inl (cI, 16, .inl (qd))), (q4, .inl (cI, 16 * L, .inl (qr)))] s.heap := hP
  have hD : va_D A [(b0, .inr (4, [.ref (t0), .ref (u0), .ref (r0), .ref (q0), .ref (b1), .int (ck), .int (ls_)])), (b1, .inl (cI, 7, .inl (an))), (t0, .inr (3, [.int (nI S), .int (nI Wy), .ref (t1), .ref (t2), .ref (t3), .int (fl), .int (nI sb), .ref (t4), .int (us)])), (t1, .inl (cI, S * Wy, .inl (tg))), (t2, .inl (cI, S * Wy, .inl (kd))), (t3, .inl (cI, S * Wy, .inl (tt))), (t4, .inl (cI, S * Wy, .inl (lu))), (u0, .inr (0, [.ref (u1), .ref (u2), .int (hh)])), (u1, .inl (cI, 64, .inl (hg))), (u2, .inl (cI, 64, .inl (hq))), (r0, .inr (2, [.int (nI L), .int (nI (rd)), .int (ro), .int (ru), .ref (r1)])), (r1, .inl (cI, L, .inl (rp))), (q0, .inr (1, [.int (nI (qs)), .int (nI (qf)), .int (nI L), .ref (q1), .ref (q2), .ref (q3), .ref (q4)])), (q1, .inl (cI, 16, .inl (qp))), (q2, .inl (cI, 16, .inl (qt))), (q3, .inl (cI, 16, .inl (qd))), (q4, .inl (cI, 16 * L, .inl (qr)))] := hD
  have hl := lv_entry ([.ref (b0), .int (p0), .int (p1), .int (p2)]) (n := 5) (Nat.le_of_ble_eq_true rfl)
  rw [lg_entry_eq]
  generalize (lg_sl ([.ref (b0), .int (p0), .int (p1), .int (p2)]) ++ List.replicate (5 - (lg_sl ([.ref (b0), .int (p0), .int (p1), .int (p2)])).length) Slot.unset).toArray = ls at hl ⊢
  have hl : lv_has ls 5 [(0, .ref (b0)), (1, .int (p0)), (2, .int (p1)), (3, .int (p2))] := hl
  refine lv_iload_n hx hb dX4_entry_0 rfl (lv_at hl 1 rfl) ?_
  refine lv_if_lt (tgt := 30) hx hb dX4_entry_1 (by decide) (fun c_1 => ?_) (fun c_1 => ?_)
  ·
    exact kx_throw (own := RX4) (cls := kxE 3) (text := (kzT 3).2) (names := kxN) hx hb hlt hown (by decide +kernel) (by decide +kernel) kl132 ke3 ((hz s _ hR).2.1 3 (by decide)) (fun w hw => (kx_at3 w hw).elim (fun q => (hz s _ hR).1 w q) (fun q => hts w (List.mem_cons_of_mem _ q))) (hl.1.trans hml.symm) dX4_entry_30 dX4_entry_33 dX4_entry_34 dX4_entry_36 dX4_entry_39 hex (by decide) (Nat.le_of_ble_eq_true rfl) (Nat.le_of_ble_eq_true rfl) (Nat.le_of_ble_eq_true rfl) hlocks
  ·
    refine lv_iload_n hx hb dX4_entry_4 rfl (lv_at hl 1 rfl) ?_
    refine lv_aload_n hx hb dX4_entry_5 rfl (lv_at hl 0 rfl) ?_
    refine va_get (D := D) (ci := 4) (v := .ref (t0)) (C := RX4) (T := TX4) (N := 7) hx hb hts (fun w h => List.mem_cons_of_mem _ (hiX4 w h)) hown hK hP 0 rfl rfl 0 (by decide) kf18 (fun _ h9 => h9) rfl dX4_entry_6 ?_
    refine va_get (D := D) (ci := 3) (v := .int (nI S)) (C := RX3) (T := TX3) (N := 9) hx hb hts (fun w h => List.mem_cons_of_mem _ (hiX3 w h)) hown hK hP 2 rfl rfl 0 (by decide) kf126 (fun _ h9 => h9) rfl dX4_entry_9 ?_
    refine lv_icmp_ge (tgt := 30) hx hb dX4_entry_12 (by decide) (fun c_12 => ?_) (fun c_12 => ?_)
    ·
      exact kx_throw (own := RX4) (cls := kxE 3) (text := (kzT 3).2) (names := kxN) hx hb hlt hown (by decide +kernel) (by decide +kernel) kl132 ke3 ((hz s _ hR).2.1 3 (by decide)) (fun w hw => (kx_at3 w hw).elim (fun q => (hz s _ hR).1 w q) (fun q => hts w (List.mem_cons_of_mem _ q))) (hl.1.trans hml.symm) dX4_entry_30 dX4_entry_33 dX4_entry_34 dX4_entry_36 dX4_entry_39 hex (by decide) (Nat.le_of_ble_eq_true rfl) (Nat.le_of_ble_eq_true rfl) (Nat.le_of_ble_eq_true rfl) hlocks
    ·
      refine lv_iload_n hx hb dX4_entry_15 rfl (lv_at hl 2 rfl) ?_
      refine lv_if_lt (tgt := 30) hx hb dX4_entry_16 (by decide) (fun c_16 => ?_) (fun c_16 => ?_)
      ·
        exact kx_throw (own := RX4) (cls := kxE 3) (text := (kzT 3).2) (names := kxN) hx hb hlt hown (by decide +kernel) (by decide +kernel) kl132 ke3 ((hz s _ hR).2.1 3 (by decide)) (fun w hw => (kx_at3 w hw).elim (fun q => (hz s _ hR).1 w q) (fun q => hts w (List.mem_cons_of_mem _ q))) (hl.1.trans hml.symm) dX4_entry_30 dX4_entry_33 dX4_entry_34 dX4_entry_36 dX4_entry_39 hex (by decide) (Nat.le_of_ble_eq_true rfl) (Nat.le_of_ble_eq_true rfl) (Nat.le_of_ble_eq_true rfl) hlocks
      ·
        refine lv_iload_n hx hb dX4_entry_19 rfl (lv_at hl 2 rfl) ?_
        refine lv_aload_n hx hb dX4_entry_20 rfl (lv_at hl 0 rfl) ?_
        refine va_get (D := D) (ci := 4) (v := .ref (t0)) (C := RX4) (T := TX4) (N := 7) hx hb hts (fun w h => List.mem_cons_of_mem _ (hiX4 w h)) hown hK hP 0 rfl rfl 0 (by decide) kf18 (fun _ h9 => h9) rfl dX4_entry_21 ?_
        refine va_get (D := D) (ci := 3) (v := .int (nI Wy)) (C := RX3) (T := TX3) (N := 9) hx hb hts (fun w h => List.mem_cons_of_mem _ (hiX3 w h)) hown hK hP 2 rfl rfl 1 (by decide) kf129 (fun _ h9 => h9) rfl dX4_entry_24 ?_
        refine lv_icmp_lt (tgt := 40) hx hb dX4_entry_27 (by decide) (fun c_27 => ?_) (fun c_27 => ?_)
        ·
          refine lv_iload_n hx hb dX4_entry_40 rfl (lv_at hl 3 rfl) ?_
          refine lv_if_lt (tgt := 49) hx hb dX4_entry_41 (by decide) (fun c_41 => ?_) (fun c_41 => ?_)
          ·
            exact kx_throw (own := RX4) (cls := kxE 3) (text := (kzT 4).2) (names := kxN) hx hb hlt hown (by decide +kernel) (by decide +kernel) kl132 ke3 ((hz s _ hR).2.1 4 (by decide)) (fun w hw => (kx_at3 w hw).elim (fun q => (hz s _ hR).1 w q) (fun q => hts w (List.mem_cons_of_mem _ q))) (hl.1.trans hml.symm) dX4_entry_49 dX4_entry_52 dX4_entry_53 dX4_entry_55 dX4_entry_58 hex (by decide) (Nat.le_of_ble_eq_true rfl) (Nat.le_of_ble_eq_true rfl) (Nat.le_of_ble_eq_true rfl) hlocks
          ·
            refine lv_iload_n hx hb dX4_entry_44 rfl (lv_at hl 3 rfl) ?_
            refine lv_iconst (v := 2) hx hb dX4_entry_45 (by decide) ?_
            refine lv_icmp_le (tgt := 59) hx hb dX4_entry_46 (by decide) (fun c_46 => ?_) (fun c_46 => ?_)
            ·
              exact absurd ⟨⟨Int32.not_lt.mp c_1, kz_pred (Int32.not_le.mp c_12) (by omega)⟩, ⟨Int32.not_lt.mp c_16, kz_pred c_27 (by omega)⟩, ⟨Int32.not_lt.mp c_41, c_46⟩⟩ hbad
            ·
              exact kx_throw (own := RX4) (cls := kxE 3) (text := (kzT 4).2) (names := kxN) hx hb hlt hown (by decide +kernel) (by decide +kernel) kl132 ke3 ((hz s _ hR).2.1 4 (by decide)) (fun w hw => (kx_at3 w hw).elim (fun q => (hz s _ hR).1 w q) (fun q => hts w (List.mem_cons_of_mem _ q))) (hl.1.trans hml.symm) dX4_entry_49 dX4_entry_52 dX4_entry_53 dX4_entry_55 dX4_entry_58 hex (by decide) (Nat.le_of_ble_eq_true rfl) (Nat.le_of_ble_eq_true rfl) (Nat.le_of_ble_eq_true rfl) hlocks
        ·
          exact kx_throw (own := RX4) (cls := kxE 3) (text := (kzT 3).2) (names := kxN) hx hb hlt hown (by decide +kernel) (by decide +kernel) kl132 ke3 ((hz s _ hR).2.1 3 (by decide)) (fun w hw => (kx_at3 w hw).elim (fun q => (hz s _ hR).1 w q) (fun q => hts w (List.mem_cons_of_mem _ q))) (hl.1.trans hml.symm) dX4_entry_30 dX4_entry_33 dX4_entry_34 dX4_entry_36 dX4_entry_39 hex (by decide) (Nat.le_of_ble_eq_true rfl) (Nat.le_of_ble_eq_true rfl) (Nat.le_of_ble_eq_true rfl) hlocks

set_option maxHeartbeats 4000000 in
set_option maxRecDepth 100000 in
/-- X4_row throws -/
theorem c_X4_row_x (l : Launch) (hlt : l.stackTraces = false) (D : va_G) (cI cJ cZ : ClassId) (sz : Nat) (root : State) (hz : kzP root) (b0 b1 t0 t1 t2 t3 t4 u0 u1 u2 r0 r1 q0 q1 q2 q3 q4 : Nat) (S Wy sb L : Nat) (tg kd tt lu : Fn) (fl us : Int32) (hg hq : Fn) (hh : Int32) (rp : Fn) (rd : Nat) (ro ru : Int32) (qp qt qd qr : Fn) (qs qf : Nat) (an : Fn) (ck ls_ : Int32) (p0 p1 : Int32) (hbad : ¬ ((0 ≤ p0 ∧ p0 ≤ 63) ∧ (0 ≤ p1 ∧ p1 ≤ 1))) : KXm l yX4_row wsX4_row ({ frames := 6, cells := 1, slots := 6, locals := 82 } : Room) (va_Pc [.ref (b0), .int (p0), .int (p1)] (fun U => kP D (kTy cI cJ cZ) [(b0, .inr (4, [.ref (t0), .ref (u0), .ref (r0), .ref (q0), .ref (b1), .int (ck), .int (ls_)])), (b1, .inl (cI, 7, .inl (an))), (t0, .inr (3, [.int (nI S), .int (nI Wy), .ref (t1), .ref (t2), .ref (t3), .int (fl), .int (nI sb), .ref (t4), .int (us)])), (t1, .inl (cI, S * Wy, .inl (tg))), (t2, .inl (cI, S * Wy, .inl (kd))), (t3, .inl (cI, S * Wy, .inl (tt))), (t4, .inl (cI, S * Wy, .inl (lu))), (u0, .inr (0, [.ref (u1), .ref (u2), .int (hh)])), (u1, .inl (cI, 64, .inl (hg))), (u2, .inl (cI, 64, .inl (hq))), (r0, .inr (2, [.int (nI L), .int (nI (rd)), .int (ro), .int (ru), .ref (r1)])), (r1, .inl (cI, L, .inl (rp))), (q0, .inr (1, [.int (nI (qs)), .int (nI (qf)), .int (nI L), .ref (q1), .ref (q2), .ref (q3), .ref (q4)])), (q1, .inl (cI, 16, .inl (qp))), (q2, .inl (cI, 16, .inl (qt))), (q3, .inl (cI, 16, .inl (qd))), (q4, .inl (cI, 16 * L, .inl (qr)))] sz U ∧ kzR root U)) (kxE 3) 1 6 := by
  refine kx_of (cc := cX4_row) (maxL := 3) (ret := (some .int)) (by decide) rfl ?_
  intro p e s m args below meth c s₁ B hml hex hv
  obtain ⟨rfl, ⟨hsz, hP, hK, hD0⟩, hR⟩ := hv
  have hx := B.exec
  have hb := B.bytes
  have hr := B.returns
  have hts := atoms_spec (ws := wsX4_row) B.pre
  have hown : s.vm.findClass RX4 = some m.cls := findClass_of_methodNamed B.named
  have hlocks := B.notSynchronized
  have ke3 := hts (.initialized "java/lang/IndexOutOfBoundsException") (List.mem_cons_of_mem _ kw_41)
  have kl132 := hts (.classLink RX4 132 "java/lang/IndexOutOfBoundsException") (List.mem_cons_of_mem _ kw_463)
  subst hsz
  have hD := hD0.self (sz := s.heap.size)
  obtain ⟨A, hAe⟩ : ∃ A, va_A [(b0, .inr (4, [.ref (t0), .ref (u0), .ref (r0), .ref (q0), .ref (b1), .int (ck), .int (ls_)])), (b1, .inl (cI, 7, .inl (an))), (t0, .inr (3, [.int (nI S), .int (nI Wy), .ref (t1), .ref (t2), .ref (t3), .int (fl), .int (nI sb), .ref (t4), .int (us)])), (t1, .inl (cI, S * Wy, .inl (tg))), (t2, .inl (cI, S * Wy, .inl (kd))), (t3, .inl (cI, S * Wy, .inl (tt))), (t4, .inl (cI, S * Wy, .inl (lu))), (u0, .inr (0, [.ref (u1), .ref (u2), .int (hh)])), (u1, .inl (cI, 64, .inl (hg))), (u2, .inl (cI, 64, .inl (hq))), (r0, .inr (2, [.int (nI L), .int (nI (rd)), .int (ro), .int (ru), .ref (r1)])), (r1, .inl (cI, L, .inl (rp))), (q0, .inr (1, [.int (nI (qs)), .int (nI (qf)), .int (nI L), .ref (q1), .ref (q2), .ref (q3), .ref (q4)])), (q1, .inl (cI, 16, .inl (qp))), (q2, .inl (cI, 16, .inl (qt))), (q3, .inl (cI, 16, .inl (qd))), (q4, .inl (cI, 16 * L, .inl (qr)))] s.heap.size = A := ⟨_, rfl⟩
  rw [hAe] at hD
  have hA : ∀ q : Nat, s.heap.size ≤ q → A q := fun q h => by rw [← hAe]; exact Or.inr h
  have hS : va_S A s.heap s.heap [] := va_S.rf
  have hP : va_P D vwCl [(b0, .inr (4, [.ref (t0), .ref (u0), .ref (r0), .ref (q0), .ref (b1), .int (ck), .int (ls_)])), (b1, .inl (cI, 7, .inl (an))), (t0, .inr (3, [.int (nI S), .int (nI Wy), .ref (t1), .ref (t2), .ref (t3), .int (fl), .int (nI sb), .ref (t4), .int (us)])), (t1, .inl (cI, S * Wy, .inl (tg))), (t2, .inl (cI, S * Wy, .inl (kd))), (t3, .inl (cI, S * Wy, .inl (tt))), (t4, .inl (cI, S * Wy, .inl (lu))), (u0, .inr (0, [.ref (u1), .ref (u2), .int (hh)])), (u1, .inl (cI, 64, .inl (hg))), (u2, .inl (cI, 64, .inl (hq))), (r0, .inr (2, [.int (nI L), .int (nI (rd)), .int (ro), .int (ru), .ref (r1)])), (r1, .inl (cI, L, .inl (rp))), (q0, .inr (1, [.int (nI (qs)), .int (nI (qf)), .int (nI L), .ref (q1), .ref (q2), .ref (q3), .ref (q4)])), (q1, .inl (cI, 16, .inl (qp))), (q2, .inl (cI, 16, .inl (qt))), (q3, .inl (cI, 16, .inl (qd))), (q4, .inl (cI, 16 * L, .inl (qr)))] s.heap := hP
  have hD : va_D A [(b0, .inr (4, [.ref (t0), .ref (u0), .ref (r0), .ref (q0), .ref (b1), .int (ck), .int (ls_)])), (b1, .inl (cI, 7, .inl (an))), (t0, .inr (3, [.int (nI S), .int (nI Wy), .ref (t1), .ref (t2), .ref (t3), .int (fl), .int (nI sb), .ref (t4), .int (us)])), (t1, .inl (cI, S * Wy, .inl (tg))), (t2, .inl (cI, S * Wy, .inl (kd))), (t3, .inl (cI, S * Wy, .inl (tt))), (t4, .inl (cI, S * Wy, .inl (lu))), (u0, .inr (0, [.ref (u1), .ref (u2), .int (hh)])), (u1, .inl (cI, 64, .inl (hg))), (u2, .inl (cI, 64, .inl (hq))), (r0, .inr (2, [.int (nI L), .int (nI (rd)), .int (ro), .int (ru), .ref (r1)])), (r1, .inl (cI, L, .inl (rp))), (q0, .inr (1, [.int (nI (qs)), .int (nI (qf)), .int (nI L), .ref (q1), .ref (q2), .ref (q3), .ref (q4)])), (q1, .inl (cI, 16, .inl (qp))), (q2, .inl (cI, 16, .inl (qt))), (q3, .inl (cI, 16, .inl (qd))), (q4, .inl (cI, 16 * L, .inl (qr)))] := hD
  have hl := lv_entry ([.ref (b0), .int (p0), .int (p1)]) (n := 3) (Nat.le_of_ble_eq_true rfl)
  rw [lg_entry_eq]
  generalize (lg_sl ([.ref (b0), .int (p0), .int (p1)]) ++ List.replicate (3 - (lg_sl ([.ref (b0), .int (p0), .int (p1)])).length) Slot.unset).toArray = ls at hl ⊢
  have hl : lv_has ls 3 [(0, .ref (b0)), (1, .int (p0)), (2, .int (p1))] := hl
  refine lv_iload_n hx hb dX4_row_0 rfl (lv_at hl 1 rfl) ?_
  refine lv_if_lt (tgt := 10) hx hb dX4_row_1 (by decide) (fun c_1 => ?_) (fun c_1 => ?_)
  ·
    exact kx_throw (own := RX4) (cls := kxE 3) (text := (kzT 5).2) (names := kxN) hx hb hlt hown (by decide +kernel) (by decide +kernel) kl132 ke3 ((hz s _ hR).2.1 5 (by decide)) (fun w hw => (kx_at3 w hw).elim (fun q => (hz s _ hR).1 w q) (fun q => hts w (List.mem_cons_of_mem _ q))) (hl.1.trans hml.symm) dX4_row_10 dX4_row_13 dX4_row_14 dX4_row_16 dX4_row_19 hex (by decide) (Nat.le_of_ble_eq_true rfl) (Nat.le_of_ble_eq_true rfl) (Nat.le_of_ble_eq_true rfl) hlocks
  ·
    refine lv_iload_n hx hb dX4_row_4 rfl (lv_at hl 1 rfl) ?_
    refine lv_bipush (v := 64) hx hb dX4_row_5 (by decide) ?_
    refine lv_icmp_lt (tgt := 20) hx hb dX4_row_7 (by decide) (fun c_7 => ?_) (fun c_7 => ?_)
    ·
      refine lv_iload_n hx hb dX4_row_20 rfl (lv_at hl 2 rfl) ?_
      refine lv_if_lt (tgt := 29) hx hb dX4_row_21 (by decide) (fun c_21 => ?_) (fun c_21 => ?_)
      ·
        exact kx_throw (own := RX4) (cls := kxE 3) (text := (kzT 4).2) (names := kxN) hx hb hlt hown (by decide +kernel) (by decide +kernel) kl132 ke3 ((hz s _ hR).2.1 4 (by decide)) (fun w hw => (kx_at3 w hw).elim (fun q => (hz s _ hR).1 w q) (fun q => hts w (List.mem_cons_of_mem _ q))) (hl.1.trans hml.symm) dX4_row_29 dX4_row_32 dX4_row_33 dX4_row_35 dX4_row_38 hex (by decide) (Nat.le_of_ble_eq_true rfl) (Nat.le_of_ble_eq_true rfl) (Nat.le_of_ble_eq_true rfl) hlocks
      ·
        refine lv_iload_n hx hb dX4_row_24 rfl (lv_at hl 2 rfl) ?_
        refine lv_iconst (v := 1) hx hb dX4_row_25 (by decide) ?_
        refine lv_icmp_le (tgt := 39) hx hb dX4_row_26 (by decide) (fun c_26 => ?_) (fun c_26 => ?_)
        ·
          exact absurd ⟨⟨Int32.not_lt.mp c_1, kz_pred (n := 64) c_7 (by decide)⟩, ⟨Int32.not_lt.mp c_21, c_26⟩⟩ hbad
        ·
          exact kx_throw (own := RX4) (cls := kxE 3) (text := (kzT 4).2) (names := kxN) hx hb hlt hown (by decide +kernel) (by decide +kernel) kl132 ke3 ((hz s _ hR).2.1 4 (by decide)) (fun w hw => (kx_at3 w hw).elim (fun q => (hz s _ hR).1 w q) (fun q => hts w (List.mem_cons_of_mem _ q))) (hl.1.trans hml.symm) dX4_row_29 dX4_row_32 dX4_row_33 dX4_row_35 dX4_row_38 hex (by decide) (Nat.le_of_ble_eq_true rfl) (Nat.le_of_ble_eq_true rfl) (Nat.le_of_ble_eq_true rfl) hlocks
    ·
      exact kx_throw (own := RX4) (cls := kxE 3) (text := (kzT 5).2) (names := kxN) hx hb hlt hown (by decide +kernel) (by decide +kernel) kl132 ke3 ((hz s _ hR).2.1 5 (by decide)) (fun w hw => (kx_at3 w hw).elim (fun q => (hz s _ hR).1 w q) (fun q => hts w (List.mem_cons_of_mem _ q))) (hl.1.trans hml.symm) dX4_row_10 dX4_row_13 dX4_row_14 dX4_row_16 dX4_row_19 hex (by decide) (Nat.le_of_ble_eq_true rfl) (Nat.le_of_ble_eq_true rfl) (Nat.le_of_ble_eq_true rfl) hlocks

set_option maxHeartbeats 4000000 in
set_option maxRecDepth 100000 in
/-- X4_ring throws -/
theorem c_X4_ring_x (l : Launch) (hlt : l.stackTraces = false) (D : va_G) (cI cJ cZ : ClassId) (sz : Nat) (root : State) (hz : kzP root) (b0 b1 t0 t1 t2 t3 t4 u0 u1 u2 r0 r1 q0 q1 q2 q3 q4 : Nat) (S Wy sb L : Nat) (tg kd tt lu : Fn) (fl us : Int32) (hg hq : Fn) (hh : Int32) (rp : Fn) (rd : Nat) (ro ru : Int32) (qp qt qd qr : Fn) (qs qf : Nat) (an : Fn) (ck ls_ : Int32) (p0 : Int32) (hbad : ¬ (0 ≤ p0 ∧ p0 ≤ nI rd - 1)) (hd : rd ≤ L) (hL : L < 2 ^ 10) : KXm l yX4_ring wsX4_ring ({ frames := 6, cells := 1, slots := 6, locals := 82 } : Room) (va_Pc [.ref (b0), .int (p0)] (fun U => kP D (kTy cI cJ cZ) [(b0, .inr (4, [.ref (t0), .ref (u0), .ref (r0), .ref (q0), .ref (b1), .int (ck), .int (ls_)])), (b1, .inl (cI, 7, .inl (an))), (t0, .inr (3, [.int (nI S), .int (nI Wy), .ref (t1), .ref (t2), .ref (t3), .int (fl), .int (nI sb), .ref (t4), .int (us)])), (t1, .inl (cI, S * Wy, .inl (tg))), (t2, .inl (cI, S * Wy, .inl (kd))), (t3, .inl (cI, S * Wy, .inl (tt))), (t4, .inl (cI, S * Wy, .inl (lu))), (u0, .inr (0, [.ref (u1), .ref (u2), .int (hh)])), (u1, .inl (cI, 64, .inl (hg))), (u2, .inl (cI, 64, .inl (hq))), (r0, .inr (2, [.int (nI L), .int (nI (rd)), .int (ro), .int (ru), .ref (r1)])), (r1, .inl (cI, L, .inl (rp))), (q0, .inr (1, [.int (nI (qs)), .int (nI (qf)), .int (nI L), .ref (q1), .ref (q2), .ref (q3), .ref (q4)])), (q1, .inl (cI, 16, .inl (qp))), (q2, .inl (cI, 16, .inl (qt))), (q3, .inl (cI, 16, .inl (qd))), (q4, .inl (cI, 16 * L, .inl (qr)))] sz U ∧ kzR root U)) (kxE 3) 1 6 := by
  refine kx_of (cc := cX4_ring) (maxL := 2) (ret := (some .int)) (by decide) rfl ?_
  intro p e s m args below meth c s₁ B hml hex hv
  obtain ⟨rfl, ⟨hsz, hP, hK, hD0⟩, hR⟩ := hv
  have hx := B.exec
  have hb := B.bytes
  have hr := B.returns
  have hts := atoms_spec (ws := wsX4_ring) B.pre
  have hown : s.vm.findClass RX4 = some m.cls := findClass_of_methodNamed B.named
  have hlocks := B.notSynchronized
  have ke3 := hts (.initialized "java/lang/IndexOutOfBoundsException") (List.mem_cons_of_mem _ kw_41)
  have kf149 := hts (.fieldLink RX4 149 "TargetRows$Returns" "depth" "I") (List.mem_cons_of_mem _ kw_127)
  have kf36 := hts (.fieldLink RX4 36 "TargetRows" "stack" "LTargetRows$Returns;") (List.mem_cons_of_mem _ kw_175)
  have kl132 := hts (.classLink RX4 132 "java/lang/IndexOutOfBoundsException") (List.mem_cons_of_mem _ kw_463)
  subst hsz
  have hD := hD0.self (sz := s.heap.size)
  obtain ⟨A, hAe⟩ : ∃ A, va_A [(b0, .inr (4, [.ref (t0), .ref (u0), .ref (r0), .ref (q0), .ref (b1), .int (ck), .int (ls_)])), (b1, .inl (cI, 7, .inl (an))), (t0, .inr (3, [.int (nI S), .int (nI Wy), .ref (t1), .ref (t2), .ref (t3), .int (fl), .int (nI sb), .ref (t4), .int (us)])), (t1, .inl (cI, S * Wy, .inl (tg))), (t2, .inl (cI, S * Wy, .inl (kd))), (t3, .inl (cI, S * Wy, .inl (tt))), (t4, .inl (cI, S * Wy, .inl (lu))), (u0, .inr (0, [.ref (u1), .ref (u2), .int (hh)])), (u1, .inl (cI, 64, .inl (hg))), (u2, .inl (cI, 64, .inl (hq))), (r0, .inr (2, [.int (nI L), .int (nI (rd)), .int (ro), .int (ru), .ref (r1)])), (r1, .inl (cI, L, .inl (rp))), (q0, .inr (1, [.int (nI (qs)), .int (nI (qf)), .int (nI L), .ref (q1), .ref (q2), .ref (q3), .ref (q4)])), (q1, .inl (cI, 16, .inl (qp))), (q2, .inl (cI, 16, .inl (qt))), (q3, .inl (cI, 16, .inl (qd))), (q4, .inl (cI, 16 * L, .inl (qr)))] s.heap.size = A := ⟨_, rfl⟩
  rw [hAe] at hD
  have hA : ∀ q : Nat, s.heap.size ≤ q → A q := fun q h => by rw [← hAe]; exact Or.inr h
  have hS : va_S A s.heap s.heap [] := va_S.rf
  have hP : va_P D vwCl [(b0, .inr (4, [.ref (t0), .ref (u0), .ref (r0), .ref (q0), .ref (b1), .int (ck), .int (ls_)])), (b1, .inl (cI, 7, .inl (an))), (t0, .inr (3, [.int (nI S), .int (nI Wy), .ref (t1), .ref (t2), .ref (t3), .int (fl), .int (nI sb), .ref (t4), .int (us)])), (t1, .inl (cI, S * Wy, .inl (tg))), (t2, .inl (cI, S * Wy, .inl (kd))), (t3, .inl (cI, S * Wy, .inl (tt))), (t4, .inl (cI, S * Wy, .inl (lu))), (u0, .inr (0, [.ref (u1), .ref (u2), .int (hh)])), (u1, .inl (cI, 64, .inl (hg))), (u2, .inl (cI, 64, .inl (hq))), (r0, .inr (2, [.int (nI L), .int (nI (rd)), .int (ro), .int (ru), .ref (r1)])), (r1, .inl (cI, L, .inl (rp))), (q0, .inr (1, [.int (nI (qs)), .int (nI (qf)), .int (nI L), .ref (q1), .ref (q2), .ref (q3), .ref (q4)])), (q1, .inl (cI, 16, .inl (qp))), (q2, .inl (cI, 16, .inl (qt))), (q3, .inl (cI, 16, .inl (qd))), (q4, .inl (cI, 16 * L, .inl (qr)))] s.heap := hP
  have hD : va_D A [(b0, .inr (4, [.ref (t0), .ref (u0), .ref (r0), .ref (q0), .ref (b1), .int (ck), .int (ls_)])), (b1, .inl (cI, 7, .inl (an))), (t0, .inr (3, [.int (nI S), .int (nI Wy), .ref (t1), .ref (t2), .ref (t3), .int (fl), .int (nI sb), .ref (t4), .int (us)])), (t1, .inl (cI, S * Wy, .inl (tg))), (t2, .inl (cI, S * Wy, .inl (kd))), (t3, .inl (cI, S * Wy, .inl (tt))), (t4, .inl (cI, S * Wy, .inl (lu))), (u0, .inr (0, [.ref (u1), .ref (u2), .int (hh)])), (u1, .inl (cI, 64, .inl (hg))), (u2, .inl (cI, 64, .inl (hq))), (r0, .inr (2, [.int (nI L), .int (nI (rd)), .int (ro), .int (ru), .ref (r1)])), (r1, .inl (cI, L, .inl (rp))), (q0, .inr (1, [.int (nI (qs)), .int (nI (qf)), .int (nI L), .ref (q1), .ref (q2), .ref (q3), .ref (q4)])), (q1, .inl (cI, 16, .inl (qp))), (q2, .inl (cI, 16, .inl (qt))), (q3, .inl (cI, 16, .inl (qd))), (q4, .inl (cI, 16 * L, .inl (qr)))] := hD
  have hl := lv_entry ([.ref (b0), .int (p0)]) (n := 2) (Nat.le_of_ble_eq_true rfl)
  rw [lg_entry_eq]
  generalize (lg_sl ([.ref (b0), .int (p0)]) ++ List.replicate (2 - (lg_sl ([.ref (b0), .int (p0)])).length) Slot.unset).toArray = ls at hl ⊢
  have hl : lv_has ls 2 [(0, .ref (b0)), (1, .int (p0))] := hl
  refine lv_iload_n hx hb dX4_ring_0 rfl (lv_at hl 1 rfl) ?_
  refine lv_if_lt (tgt := 15) hx hb dX4_ring_1 (by decide) (fun c_1 => ?_) (fun c_1 => ?_)
  ·
    exact kx_throw (own := RX4) (cls := kxE 3) (text := (kzT 6).2) (names := kxN) hx hb hlt hown (by decide +kernel) (by decide +kernel) kl132 ke3 ((hz s _ hR).2.1 6 (by decide)) (fun w hw => (kx_at3 w hw).elim (fun q => (hz s _ hR).1 w q) (fun q => hts w (List.mem_cons_of_mem _ q))) (hl.1.trans hml.symm) dX4_ring_15 dX4_ring_18 dX4_ring_19 dX4_ring_21 dX4_ring_24 hex (by decide) (Nat.le_of_ble_eq_true rfl) (Nat.le_of_ble_eq_true rfl) (Nat.le_of_ble_eq_true rfl) hlocks
  ·
    refine lv_iload_n hx hb dX4_ring_4 rfl (lv_at hl 1 rfl) ?_
    refine lv_aload_n hx hb dX4_ring_5 rfl (lv_at hl 0 rfl) ?_
    refine va_get (D := D) (ci := 4) (v := .ref (r0)) (C := RX4) (T := TX4) (N := 7) hx hb hts (fun w h => List.mem_cons_of_mem _ (hiX4 w h)) hown hK hP 0 rfl rfl 2 (by decide) kf36 (fun _ h9 => h9) rfl dX4_ring_6 ?_
    refine va_get (D := D) (ci := 2) (v := .int (nI (rd))) (C := RX2) (T := TX2) (N := 5) hx hb hts (fun w h => List.mem_cons_of_mem _ (hiX2 w h)) hown hK hP 10 rfl rfl 1 (by decide) kf149 (fun _ h9 => h9) rfl dX4_ring_9 ?_
    refine lv_icmp_lt (tgt := 25) hx hb dX4_ring_12 (by decide) (fun c_12 => ?_) (fun c_12 => ?_)
    ·
      exact absurd ⟨Int32.not_lt.mp c_1, kz_pred c_12 (by omega)⟩ hbad
    ·
      exact kx_throw (own := RX4) (cls := kxE 3) (text := (kzT 6).2) (names := kxN) hx hb hlt hown (by decide +kernel) (by decide +kernel) kl132 ke3 ((hz s _ hR).2.1 6 (by decide)) (fun w hw => (kx_at3 w hw).elim (fun q => (hz s _ hR).1 w q) (fun q => hts w (List.mem_cons_of_mem _ q))) (hl.1.trans hml.symm) dX4_ring_15 dX4_ring_18 dX4_ring_19 dX4_ring_21 dX4_ring_24 hex (by decide) (Nat.le_of_ble_eq_true rfl) (Nat.le_of_ble_eq_true rfl) (Nat.le_of_ble_eq_true rfl) hlocks

set_option maxHeartbeats 4000000 in
set_option maxRecDepth 100000 in
/-- X4_queued throws -/
theorem c_X4_queued_x (l : Launch) (hlt : l.stackTraces = false) (D : va_G) (cI cJ cZ : ClassId) (sz : Nat) (root : State) (hz : kzP root) (b0 b1 t0 t1 t2 t3 t4 u0 u1 u2 r0 r1 q0 q1 q2 q3 q4 : Nat) (S Wy sb L : Nat) (tg kd tt lu : Fn) (fl us : Int32) (hg hq : Fn) (hh : Int32) (rp : Fn) (rd : Nat) (ro ru : Int32) (qp qt qd qr : Fn) (qs qf : Nat) (an : Fn) (ck ls_ : Int32) (p0 p1 : Int32) (hbad : ¬ ((0 ≤ p0 ∧ p0 ≤ nI qs - 1) ∧ (0 ≤ p1 ∧ p1 ≤ 1))) (hs : qs ≤ 16) : KXm l yX4_queued wsX4_queued ({ frames := 6, cells := 1, slots := 6, locals := 82 } : Room) (va_Pc [.ref (b0), .int (p0), .int (p1)] (fun U => kP D (kTy cI cJ cZ) [(b0, .inr (4, [.ref (t0), .ref (u0), .ref (r0), .ref (q0), .ref (b1), .int (ck), .int (ls_)])), (b1, .inl (cI, 7, .inl (an))), (t0, .inr (3, [.int (nI S), .int (nI Wy), .ref (t1), .ref (t2), .ref (t3), .int (fl), .int (nI sb), .ref (t4), .int (us)])), (t1, .inl (cI, S * Wy, .inl (tg))), (t2, .inl (cI, S * Wy, .inl (kd))), (t3, .inl (cI, S * Wy, .inl (tt))), (t4, .inl (cI, S * Wy, .inl (lu))), (u0, .inr (0, [.ref (u1), .ref (u2), .int (hh)])), (u1, .inl (cI, 64, .inl (hg))), (u2, .inl (cI, 64, .inl (hq))), (r0, .inr (2, [.int (nI L), .int (nI (rd)), .int (ro), .int (ru), .ref (r1)])), (r1, .inl (cI, L, .inl (rp))), (q0, .inr (1, [.int (nI (qs)), .int (nI (qf)), .int (nI L), .ref (q1), .ref (q2), .ref (q3), .ref (q4)])), (q1, .inl (cI, 16, .inl (qp))), (q2, .inl (cI, 16, .inl (qt))), (q3, .inl (cI, 16, .inl (qd))), (q4, .inl (cI, 16 * L, .inl (qr)))] sz U ∧ kzR root U)) (kxE 3) 1 6 := by
  refine kx_of (cc := cX4_queued) (maxL := 3) (ret := (some .int)) (by decide) rfl ?_
  intro p e s m args below meth c s₁ B hml hex hv
  obtain ⟨rfl, ⟨hsz, hP, hK, hD0⟩, hR⟩ := hv
  have hx := B.exec
  have hb := B.bytes
  have hr := B.returns
  have hts := atoms_spec (ws := wsX4_queued) B.pre
  have hown : s.vm.findClass RX4 = some m.cls := findClass_of_methodNamed B.named
  have hlocks := B.notSynchronized
  have ke3 := hts (.initialized "java/lang/IndexOutOfBoundsException") (List.mem_cons_of_mem _ kw_41)
  have kf43 := hts (.fieldLink RX4 43 "TargetRows" "queue" "LTargetRows$Queue;") (List.mem_cons_of_mem _ kw_176)
  have kf58 := hts (.fieldLink RX4 58 "TargetRows$Queue" "size" "I") (List.mem_cons_of_mem _ kw_151)
  have kl132 := hts (.classLink RX4 132 "java/lang/IndexOutOfBoundsException") (List.mem_cons_of_mem _ kw_463)
  subst hsz
  have hD := hD0.self (sz := s.heap.size)
  obtain ⟨A, hAe⟩ : ∃ A, va_A [(b0, .inr (4, [.ref (t0), .ref (u0), .ref (r0), .ref (q0), .ref (b1), .int (ck), .int (ls_)])), (b1, .inl (cI, 7, .inl (an))), (t0, .inr (3, [.int (nI S), .int (nI Wy), .ref (t1), .ref (t2), .ref (t3), .int (fl), .int (nI sb), .ref (t4), .int (us)])), (t1, .inl (cI, S * Wy, .inl (tg))), (t2, .inl (cI, S * Wy, .inl (kd))), (t3, .inl (cI, S * Wy, .inl (tt))), (t4, .inl (cI, S * Wy, .inl (lu))), (u0, .inr (0, [.ref (u1), .ref (u2), .int (hh)])), (u1, .inl (cI, 64, .inl (hg))), (u2, .inl (cI, 64, .inl (hq))), (r0, .inr (2, [.int (nI L), .int (nI (rd)), .int (ro), .int (ru), .ref (r1)])), (r1, .inl (cI, L, .inl (rp))), (q0, .inr (1, [.int (nI (qs)), .int (nI (qf)), .int (nI L), .ref (q1), .ref (q2), .ref (q3), .ref (q4)])), (q1, .inl (cI, 16, .inl (qp))), (q2, .inl (cI, 16, .inl (qt))), (q3, .inl (cI, 16, .inl (qd))), (q4, .inl (cI, 16 * L, .inl (qr)))] s.heap.size = A := ⟨_, rfl⟩
  rw [hAe] at hD
  have hA : ∀ q : Nat, s.heap.size ≤ q → A q := fun q h => by rw [← hAe]; exact Or.inr h
  have hS : va_S A s.heap s.heap [] := va_S.rf
  have hP : va_P D vwCl [(b0, .inr (4, [.ref (t0), .ref (u0), .ref (r0), .ref (q0), .ref (b1), .int (ck), .int (ls_)])), (b1, .inl (cI, 7, .inl (an))), (t0, .inr (3, [.int (nI S), .int (nI Wy), .ref (t1), .ref (t2), .ref (t3), .int (fl), .int (nI sb), .ref (t4), .int (us)])), (t1, .inl (cI, S * Wy, .inl (tg))), (t2, .inl (cI, S * Wy, .inl (kd))), (t3, .inl (cI, S * Wy, .inl (tt))), (t4, .inl (cI, S * Wy, .inl (lu))), (u0, .inr (0, [.ref (u1), .ref (u2), .int (hh)])), (u1, .inl (cI, 64, .inl (hg))), (u2, .inl (cI, 64, .inl (hq))), (r0, .inr (2, [.int (nI L), .int (nI (rd)), .int (ro), .int (ru), .ref (r1)])), (r1, .inl (cI, L, .inl (rp))), (q0, .inr (1, [.int (nI (qs)), .int (nI (qf)), .int (nI L), .ref (q1), .ref (q2), .ref (q3), .ref (q4)])), (q1, .inl (cI, 16, .inl (qp))), (q2, .inl (cI, 16, .inl (qt))), (q3, .inl (cI, 16, .inl (qd))), (q4, .inl (cI, 16 * L, .inl (qr)))] s.heap := hP
  have hD : va_D A [(b0, .inr (4, [.ref (t0), .ref (u0), .ref (r0), .ref (q0), .ref (b1), .int (ck), .int (ls_)])), (b1, .inl (cI, 7, .inl (an))), (t0, .inr (3, [.int (nI S), .int (nI Wy), .ref (t1), .ref (t2), .ref (t3), .int (fl), .int (nI sb), .ref (t4), .int (us)])), (t1, .inl (cI, S * Wy, .inl (tg))), (t2, .inl (cI, S * Wy, .inl (kd))), (t3, .inl (cI, S * Wy, .inl (tt))), (t4, .inl (cI, S * Wy, .inl (lu))), (u0, .inr (0, [.ref (u1), .ref (u2), .int (hh)])), (u1, .inl (cI, 64, .inl (hg))), (u2, .inl (cI, 64, .inl (hq))), (r0, .inr (2, [.int (nI L), .int (nI (rd)), .int (ro), .int (ru), .ref (r1)])), (r1, .inl (cI, L, .inl (rp))), (q0, .inr (1, [.int (nI (qs)), .int (nI (qf)), .int (nI L), .ref (q1), .ref (q2), .ref (q3), .ref (q4)])), (q1, .inl (cI, 16, .inl (qp))), (q2, .inl (cI, 16, .inl (qt))), (q3, .inl (cI, 16, .inl (qd))), (q4, .inl (cI, 16 * L, .inl (qr)))] := hD
  have hl := lv_entry ([.ref (b0), .int (p0), .int (p1)]) (n := 3) (Nat.le_of_ble_eq_true rfl)
  rw [lg_entry_eq]
  generalize (lg_sl ([.ref (b0), .int (p0), .int (p1)]) ++ List.replicate (3 - (lg_sl ([.ref (b0), .int (p0), .int (p1)])).length) Slot.unset).toArray = ls at hl ⊢
  have hl : lv_has ls 3 [(0, .ref (b0)), (1, .int (p0)), (2, .int (p1))] := hl
  refine lv_iload_n hx hb dX4_queued_0 rfl (lv_at hl 1 rfl) ?_
  refine lv_if_lt (tgt := 15) hx hb dX4_queued_1 (by decide) (fun c_1 => ?_) (fun c_1 => ?_)
  ·
    exact kx_throw (own := RX4) (cls := kxE 3) (text := (kzT 7).2) (names := kxN) hx hb hlt hown (by decide +kernel) (by decide +kernel) kl132 ke3 ((hz s _ hR).2.1 7 (by decide)) (fun w hw => (kx_at3 w hw).elim (fun q => (hz s _ hR).1 w q) (fun q => hts w (List.mem_cons_of_mem _ q))) (hl.1.trans hml.symm) dX4_queued_15 dX4_queued_18 dX4_queued_19 dX4_queued_21 dX4_queued_24 hex (by decide) (Nat.le_of_ble_eq_true rfl) (Nat.le_of_ble_eq_true rfl) (Nat.le_of_ble_eq_true rfl) hlocks
  ·
    refine lv_iload_n hx hb dX4_queued_4 rfl (lv_at hl 1 rfl) ?_
    refine lv_aload_n hx hb dX4_queued_5 rfl (lv_at hl 0 rfl) ?_
    refine va_get (D := D) (ci := 4) (v := .ref (q0)) (C := RX4) (T := TX4) (N := 7) hx hb hts (fun w h => List.mem_cons_of_mem _ (hiX4 w h)) hown hK hP 0 rfl rfl 3 (by decide) kf43 (fun _ h9 => h9) rfl dX4_queued_6 ?_
    refine va_get (D := D) (ci := 1) (v := .int (nI (qs))) (C := RX1) (T := TX1) (N := 7) hx hb hts (fun w h => List.mem_cons_of_mem _ (hiX1 w h)) hown hK hP 12 rfl rfl 0 (by decide) kf58 (fun _ h9 => h9) rfl dX4_queued_9 ?_
    refine lv_icmp_lt (tgt := 25) hx hb dX4_queued_12 (by decide) (fun c_12 => ?_) (fun c_12 => ?_)
    ·
      refine lv_iload_n hx hb dX4_queued_25 rfl (lv_at hl 2 rfl) ?_
      refine lv_if_lt (tgt := 34) hx hb dX4_queued_26 (by decide) (fun c_26 => ?_) (fun c_26 => ?_)
      ·
        exact kx_throw (own := RX4) (cls := kxE 3) (text := (kzT 4).2) (names := kxN) hx hb hlt hown (by decide +kernel) (by decide +kernel) kl132 ke3 ((hz s _ hR).2.1 4 (by decide)) (fun w hw => (kx_at3 w hw).elim (fun q => (hz s _ hR).1 w q) (fun q => hts w (List.mem_cons_of_mem _ q))) (hl.1.trans hml.symm) dX4_queued_34 dX4_queued_37 dX4_queued_38 dX4_queued_40 dX4_queued_43 hex (by decide) (Nat.le_of_ble_eq_true rfl) (Nat.le_of_ble_eq_true rfl) (Nat.le_of_ble_eq_true rfl) hlocks
      ·
        refine lv_iload_n hx hb dX4_queued_29 rfl (lv_at hl 2 rfl) ?_
        refine lv_iconst (v := 1) hx hb dX4_queued_30 (by decide) ?_
        refine lv_icmp_le (tgt := 44) hx hb dX4_queued_31 (by decide) (fun c_31 => ?_) (fun c_31 => ?_)
        ·
          exact absurd ⟨⟨Int32.not_lt.mp c_1, kz_pred c_12 (by omega)⟩, ⟨Int32.not_lt.mp c_26, c_31⟩⟩ hbad
        ·
          exact kx_throw (own := RX4) (cls := kxE 3) (text := (kzT 4).2) (names := kxN) hx hb hlt hown (by decide +kernel) (by decide +kernel) kl132 ke3 ((hz s _ hR).2.1 4 (by decide)) (fun w hw => (kx_at3 w hw).elim (fun q => (hz s _ hR).1 w q) (fun q => hts w (List.mem_cons_of_mem _ q))) (hl.1.trans hml.symm) dX4_queued_34 dX4_queued_37 dX4_queued_38 dX4_queued_40 dX4_queued_43 hex (by decide) (Nat.le_of_ble_eq_true rfl) (Nat.le_of_ble_eq_true rfl) (Nat.le_of_ble_eq_true rfl) hlocks
    ·
      exact kx_throw (own := RX4) (cls := kxE 3) (text := (kzT 7).2) (names := kxN) hx hb hlt hown (by decide +kernel) (by decide +kernel) kl132 ke3 ((hz s _ hR).2.1 7 (by decide)) (fun w hw => (kx_at3 w hw).elim (fun q => (hz s _ hR).1 w q) (fun q => hts w (List.mem_cons_of_mem _ q))) (hl.1.trans hml.symm) dX4_queued_15 dX4_queued_18 dX4_queued_19 dX4_queued_21 dX4_queued_24 hex (by decide) (Nat.le_of_ble_eq_true rfl) (Nat.le_of_ble_eq_true rfl) (Nat.le_of_ble_eq_true rfl) hlocks
