/-! ===== rests not below 0, fillings ===== -/
def fmn (x : Int32) (m : Nat) : Nat := (x.toInt % (m : Int)).toNat
theorem fmn_lt (x : Int32) {m : Nat} (h : 0 < m) : fmn x m < m := by
  have h1 := Int.emod_nonneg x.toInt (show (m : Int) ≠ 0 by omega)
  have h2 := Int.emod_lt_of_pos x.toInt (show (0 : Int) < m by omega)
  unfold fmn
  omega
theorem fm_core (a m : Int) : a.tmod m = if 0 ≤ a then a % m else -((-a) % m) := by
  split
  · exact Int.tmod_eq_emod_of_nonneg (by assumption)
  · have h := Int.neg_tmod (-a) m
    rw [Int.neg_neg] at h
    rw [h, Int.tmod_eq_emod_of_nonneg (by omega)]
theorem fm_sgn {x : Int32} {m : Nat} (hm : m < 2 ^ 15) : 0 ≤ x ^^^ nI m ↔ 0 ≤ x.toInt := by
  have e1 : (0 : Int32) ≤ x ^^^ nI m ↔ (0 : Int) ≤ (x ^^^ nI m).toInt := Int32.le_iff_toInt_le
  have e2 : (x ^^^ nI m).toBitVec.msb = (x.toBitVec.msb ^^ (nI m).toBitVec.msb) := by
    rw [Int32.toBitVec_xor]; exact BitVec.msb_xor
  have e3 : (nI m).toBitVec.msb = false := by
    rw [BitVec.msb_eq_toInt]
    have h : (nI m).toBitVec.toInt = (m : Int) := nI_toInt (by omega)
    rw [h]
    simp
  have e4 : (x ^^^ nI m).toBitVec.msb = decide ((x ^^^ nI m).toInt < 0) := BitVec.msb_eq_toInt
  have e5 : x.toBitVec.msb = decide (x.toInt < 0) := BitVec.msb_eq_toInt
  rw [e3, e4, e5, Bool.xor_false] at e2
  have e6 : (x ^^^ nI m).toInt < 0 ↔ x.toInt < 0 := by simpa using e2
  rw [e1]
  omega
theorem fm_of {r : Int32} {x : Int32} {m : Nat} (hm : 0 < m) (hm2 : m < 2 ^ 15) (h : r.toInt = x.toInt % (m : Int)) : r = nI (fmn x m) := by
  apply Int32.toInt_inj.mp
  have h1 := fmn_lt x hm
  rw [nI_toInt (by omega), h]
  have h2 := Int.emod_nonneg x.toInt (show (m : Int) ≠ 0 by omega)
  unfold fmn
  omega
theorem fm_rem {x : Int32} {m : Nat} (hm2 : m < 2 ^ 15) : (x - x / nI m * nI m).toInt = if 0 ≤ x.toInt then x.toInt % (m : Int) else -((-x.toInt) % (m : Int)) := by
  rw [rem_toInt, nI_toInt (by omega)]
  exact fm_core _ _
theorem fm_a {x : Int32} {m : Nat} (hm : 0 < m) (hm2 : m < 2 ^ 15) (h : 0 ≤ x ^^^ nI m) : x - x / nI m * nI m = nI (fmn x m) := by
  refine fm_of hm hm2 ?_
  rw [fm_rem hm2, if_pos ((fm_sgn hm2).mp h)]
theorem fm_b {x : Int32} {m : Nat} (hm : m = 4 ∨ m = 6 ∨ m = 17) (h : ¬ 0 ≤ x ^^^ nI m) (h0 : x - x / nI m * nI m = 0) : x - x / nI m * nI m = nI (fmn x m) := by
  have hx : ¬ 0 ≤ x.toInt := fun q => h ((fm_sgn (by omega)).mpr q)
  have hr := fm_rem (x := x) (m := m) (by omega)
  rw [if_neg hx, h0] at hr
  have hr : (0 : Int) = -((-x.toInt) % (m : Int)) := hr
  rw [h0]
  refine fm_of (by omega) (by omega) ?_
  show (0 : Int) = _
  rcases hm with rfl | rfl | rfl <;> omega
theorem fm_c {x : Int32} {m : Nat} (hm : m = 4 ∨ m = 6 ∨ m = 17) (h : ¬ 0 ≤ x ^^^ nI m) (h0 : ¬ x - x / nI m * nI m = 0) : x - x / nI m * nI m + nI m = nI (fmn x m) := by
  have hx : ¬ 0 ≤ x.toInt := fun q => h ((fm_sgn (by omega)).mpr q)
  have hr := fm_rem (x := x) (m := m) (by omega)
  rw [if_neg hx] at hr
  have hne : (x - x / nI m * nI m).toInt ≠ 0 := fun q => h0 (Int32.toInt_inj.mp q)
  generalize x - x / nI m * nI m = r at hr hne ⊢
  refine fm_of (by omega) (by omega) ?_
  rw [Int32.toInt_add, nI_toInt (by omega)]
  rcases hm with rfl | rfl | rfl
  · rw [Int.bmod_eq_of_le (by omega) (by omega)]; omega
  · rw [Int.bmod_eq_of_le (by omega) (by omega)]; omega
  · rw [Int.bmod_eq_of_le (by omega) (by omega)]; omega
theorem md_a {x : Int32} {m : Nat} (hm : m = 6 ∨ m = 17) : (x - x / nI m * nI m + nI m) - (x - x / nI m * nI m + nI m) / nI m * nI m = nI (fmn x m) := by
  have hr := fm_rem (x := x) (m := m) (by omega)
  generalize x - x / nI m * nI m = r at hr ⊢
  have h2 : (r + nI m).toInt = r.toInt + m := by
    rw [Int32.toInt_add, nI_toInt (by omega)]
    rcases hm with rfl | rfl
    · rw [Int.bmod_eq_of_le (by split at hr <;> omega) (by split at hr <;> omega)]
    · rw [Int.bmod_eq_of_le (by split at hr <;> omega) (by split at hr <;> omega)]
  refine fm_of (by omega) (by omega) ?_
  rw [fm_rem (by omega), h2]
  rcases hm with rfl | rfl
  · split at hr <;> (rw [if_pos (by omega)]; omega)
  · split at hr <;> (rw [if_pos (by omega)]; omega)
theorem and3 (x : Int32) : x &&& 3 = nI (fmn x 4) := by
  rw [pk_and x 2 (by decide)]
  congr 1
  unfold fmn
  have h : x.toInt = if 2 * x.toBitVec.toNat < 2 ^ 32 then (x.toBitVec.toNat : Int) else (x.toBitVec.toNat : Int) - ((2 ^ 32 : Nat) : Int) := BitVec.toInt_eq_toNat_cond x.toBitVec
  rw [h]
  split <;> omega
def tS (s : Nat) : Nat := if s = 0 then 0 else 2 ^ (s - 1)
theorem tS_0 : tS 0 = 0 := rfl
theorem tS_p {s : Nat} (h : s ≠ 0) : tS s = 2 ^ (s - 1) := if_neg h
theorem tS_le {s : Nat} (h : s < 6) : tS s ≤ 16 := by
  have : ∀ s, s < 6 → tS s ≤ 16 := by decide
  exact this s h
theorem tS_ok {s : Nat} : tS s = 0 ∨ tS s = 2 ^ (s - 1) := by
  unfold tS
  split
  · exact Or.inl rfl
  · exact Or.inr rfl
theorem shl1 {k : Nat} (h : k ≤ 4) : (1 : Int32) <<< (nI k &&& 31) = nI (2 ^ k) := by
  have : ∀ k, k ≤ 4 → (1 : Int32) <<< (nI k &&& 31) = nI (2 ^ k) := by decide
  exact this k h
def kf_fill (f : Fn) (v : Int32) (n : Nat) : Fn := fun j => if j < n then v else f j
theorem kf_step (f : Fn) (v : Int32) (i : Nat) : upd (kf_fill f v i) i v = kf_fill f v (i + 1) := by
  funext j
  unfold upd kf_fill
  by_cases h : j = i
  · subst h; simp
  · by_cases h2 : j < i
    · rw [if_neg h, if_pos h2, if_pos (by omega)]
    · rw [if_neg h, if_neg h2, if_neg (by omega)]
theorem kf_0 (f : Fn) (v : Int32) : f = kf_fill f v 0 := by
  funext j
  simp [kf_fill]
