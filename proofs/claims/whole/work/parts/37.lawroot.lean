/-! ===== what the law's start gives: the classes, the root of the exceptions ===== -/
theorem hiLX4 : ∀ w ∈ u_ws RX4 TX4 7, w ∈ lw_tbl := fun w h => (List.mem_filter.mp (hiX4 w h)).1
theorem hiLX5 : ∀ w ∈ u_ws RX5 TX5 25, w ∈ lw_tbl := fun w h => (List.mem_filter.mp (hiX5 w h)).1
theorem lw_arr {s : State} {a : Array Value} {ty : FieldType} (hr : ∀ cA, va_RA s cA ty = (s.vm.findClass ("[" ++ ty.toString) = some cA)) (h : (Cond.arrayClass ty).before a s = true) : ∃ cA : ClassId, ArrOfT s cA ty ∧ va_RA s cA ty := by
  obtain ⟨cA, kA, comp, h1, h2, h3⟩ := Cond.arrayClass_spec h
  exact ⟨cA, fun n z => ⟨fun k h => (by cases h), kA, h2, comp, h3⟩, by rw [hr]; exact h1⟩
theorem lw_known {s : State} {a : Array Value} (hts : ∀ w ∈ lw_tbl, w.before a s = true) : ∃ (D : va_G) (cI cJ cZ : ClassId), va_K D vwCl (kTy cI cJ cZ) s := by
  have hin : ∀ {C : String} {T : u_T} {n : Nat}, (∀ w ∈ u_ws C T n, w ∈ kw_big) → ∀ w ∈ u_ws C T n, w ∈ lw_tbl := fun h w hw => (List.mem_filter.mp (h w hw)).1
  obtain ⟨c0, i0, k0⟩ := u_known (C := RX0) (T := TX0) (N := 3) (n := 3) hts (hin hiX0) (hts (.instantiable RX0 3) (by decide +kernel))
  obtain ⟨c1, i1, k1⟩ := u_known (C := RX1) (T := TX1) (N := 7) (n := 7) hts (hin hiX1) (hts (.instantiable RX1 7) (by decide +kernel))
  obtain ⟨c2, i2, k2⟩ := u_known (C := RX2) (T := TX2) (N := 5) (n := 5) hts (hin hiX2) (hts (.instantiable RX2 5) (by decide +kernel))
  obtain ⟨c3, i3, k3⟩ := u_known (C := RX3) (T := TX3) (N := 9) (n := 9) hts (hin hiX3) (hts (.instantiable RX3 9) (by decide +kernel))
  obtain ⟨c4, i4, k4⟩ := u_known (C := RX4) (T := TX4) (N := 7) (n := 7) hts (hin hiX4) (hts (.instantiable RX4 7) (by decide +kernel))
  obtain ⟨c5, i5, k5⟩ := u_known (C := RX5) (T := TX5) (N := 25) (n := 25) hts (hin hiX5) (hts (.instantiable RX5 25) (by decide +kernel))
  obtain ⟨cI, aI, rI⟩ := lw_arr (fun _ => rfl) (hts (.arrayClass .int) (by decide +kernel))
  obtain ⟨cJ, aJ, rJ⟩ := lw_arr (fun _ => rfl) (hts (.arrayClass .long) (by decide +kernel))
  obtain ⟨cZ, aZ, rZ⟩ := lw_arr (fun _ => rfl) (hts (.arrayClass .boolean) (by decide +kernel))
  refine ⟨(fun k => if k = 0 then c0 else if k = 1 then c1 else if k = 2 then c2 else if k = 3 then c3 else if k = 4 then c4 else c5, fun k => if k = 0 then i0 else if k = 1 then i1 else if k = 2 then i2 else if k = 3 then i3 else if k = 4 then i4 else i5), cI, cJ, cZ, ?_, ?_⟩
  · intro k q hq
    match k, hq with
    | 0, hq => cases hq; exact k0
    | 1, hq => cases hq; exact k1
    | 2, hq => cases hq; exact k2
    | 3, hq => cases hq; exact k3
    | 4, hq => cases hq; exact k4
    | 5, hq => cases hq; exact k5
    | k + 6, hq => simp [vwCl] at hq
  · intro k q hq
    match k, hq with
    | 0, hq => cases hq; exact ⟨aI, rI⟩
    | 1, hq => cases hq; exact ⟨aJ, rJ⟩
    | 2, hq => cases hq; exact ⟨aZ, rZ⟩
    | k + 3, hq => simp [kTy] at hq
theorem lw_root {s : State} {a : Array Value} (hts : ∀ w ∈ lw_tbl, w.before a s = true) (hgv : (Jvm.Cond.and given_1 narrow_1).before a s = true) : kzP s := by
  have hs := flat_of_before _ hgv
  refine kz_root (a := a) ?_ (hts (.initialized Bundle.tN) (by decide +kernel)) ?_ ?_ ?_
  · intro w hw
    simp only [kzW, List.mem_cons, List.not_mem_nil, or_false] at hw
    rcases hw with rfl | rfl | rfl | rfl | rfl | rfl | rfl | rfl | rfl | rfl | rfl
    · exact hts _ (by decide +kernel)
    · exact hts _ (by decide +kernel)
    · exact hts _ (by decide +kernel)
    · exact hts _ (by decide +kernel)
    · exact hts _ (by decide +kernel)
    · exact hts _ (by decide +kernel)
    · exact hts _ (by decide +kernel)
    · exact hs _ (by decide +kernel)
    · exact hs _ (by decide +kernel)
    · exact hts _ (by decide +kernel)
    · exact hts _ (by decide +kernel)
  · intro k hk
    rcases (show k = 0 ∨ k = 1 ∨ k = 2 ∨ k = 3 ∨ k = 4 ∨ k = 5 ∨ k = 6 ∨ k = 7 by omega) with rfl | rfl | rfl | rfl | rfl | rfl | rfl | rfl
    · exact hts _ (by decide +kernel)
    · exact hts _ (by decide +kernel)
    · exact hts _ (by decide +kernel)
    · exact hts _ (by decide +kernel)
    · exact hts _ (by decide +kernel)
    · exact hts _ (by decide +kernel)
    · exact hts _ (by decide +kernel)
    · exact hts _ (by decide +kernel)
  · obtain ⟨c4, i4, k4⟩ := u_known (C := RX4) (T := TX4) (N := 7) (n := 7) hts hiLX4 (hts (.instantiable RX4 7) (by decide +kernel))
    exact ⟨c4, k4.2.1⟩
  · exact va_Nc.of (hs (.not (.castable (kxE 2) (kxE 1))) (by decide +kernel))
abbrev cs0 (S W : Nat) : Cs := ((kf_fill (fun _ => 0) (-1) (S * W), fun _ => 0, fun _ => 0, fun _ => 0, 0, 0), (kf_fill (fun _ => 0) (-1) 64, fun _ => 0, 0), (fun _ => 0, 0, 0, 0), (fun _ => 0, fun _ => 0, fun _ => 0, fun _ => 0, 0, 0), fun _ => 0, 0, 0)
abbrev mm0 : Ms := ((fun _ => 0, fun _ => 0, fun _ => 0, fun _ => 0, fun _ => 0, 0), (kf_fill (fun _ => 0) (-1) 64, fun _ => 0, 0), (fun _ => 0, 0, 0, 0), (fun _ => 0, fun _ => 0, fun _ => 0, fun _ => 0, 0), fun _ => 0, 0, 0)
