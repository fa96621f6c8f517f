/-! ===== class and reference side by side: pure ===== -/
def RT (S W u : Nat) (t : Tb) (n : Mt) : Prop :=
  t.2.2.2.2.2 = nI u ∧ n.2.2.2.2.2 = nI u ∧ t.2.2.2.2.1 = mf_cnt n.1 0 64 0 ∧
  (∀ s w, s < S → w < W → (n.1 (4 * s + w) = 0 ∧ t.1 (s * W + w) = -1 ∧ t.2.1 (s * W + w) = 0 ∧ t.2.2.1 (s * W + w) = 0 ∧ t.2.2.2.1 (s * W + w) = nI 0) ∨
    (n.1 (4 * s + w) ≠ 0 ∧ t.1 (s * W + w) = n.2.1 (4 * s + w) ∧ n.2.1 (4 * s + w) ≠ -1 ∧ t.2.1 (s * W + w) = n.2.2.1 (4 * s + w) ∧ t.2.2.1 (s * W + w) = n.2.2.2.1 (4 * s + w) ∧ ∃ k, 1 ≤ k ∧ k ≤ u ∧ t.2.2.2.1 (s * W + w) = nI k ∧ n.2.2.2.2.1 (4 * s + w) = nI k)) ∧
  (∀ s w w', s < S → w < W → w' < W → n.1 (4 * s + w) ≠ 0 → n.1 (4 * s + w') ≠ 0 → n.2.1 (4 * s + w) = n.2.1 (4 * s + w') → w = w')
def RH (h k : Hs) : Prop := (∀ j, j < 64 → h.1 j = k.1 j) ∧ (∀ j, j < 64 → h.2.1 j = k.2.1 j) ∧ h.2.2 = k.2.2 ∧ ∃ g, g < 2 ^ 24 ∧ k.2.2 = nI g
def RR (L : Nat) (r q : Rs) : Prop := r.2.1 = q.2.1 ∧ r.2.1 ≤ L ∧ (∀ k, k < r.2.1 → r.1 k = q.1 k) ∧ r.2.2.1 = q.2.2.1 ∧ r.2.2.2 = q.2.2.2
def RQ (L : Nat) (q : Qs) (n : Mq) : Prop :=
  q.2.2.2.2.1 = n.2.2.2.2 ∧ q.2.2.2.2.1 ≤ 16 ∧ q.2.2.2.2.2 < 16 ∧ (∀ j, j < 16 → ∃ k, k ≤ L ∧ q.2.2.1 j = nI k) ∧ (∀ j, j < 16 → ∃ k, k ≤ L ∧ n.2.2.1 j = nI k) ∧
  ∀ i, i < q.2.2.2.2.1 → q.1 (qf_ix q i) = n.1 i ∧ q.2.1 (qf_ix q i) = n.2.1 i ∧ ∃ d, d ≤ L ∧ q.2.2.1 (qf_ix q i) = nI d ∧ n.2.2.1 i = nI d ∧ ∀ k, k < d → q.2.2.2.1 (qf_ix q i * L + k) = n.2.2.2.1 (17 * i + k)
def RC (a c : Fn) (ck : Int32) : Prop := c 0 = ck ∧ ∀ j, j < 7 → c (1 + j) = a j
def Rel (S W L u : Nat) (c : Cs) (m : Ms) : Prop := RT S W u c.1 m.1 ∧ RH c.2.1 m.2.1 ∧ RR L c.2.2.1 m.2.2.1 ∧ RQ L c.2.2.2.1 m.2.2.2.1 ∧ RC c.2.2.2.2.1 m.2.2.2.2.1 c.2.2.2.2.2.1 ∧ m.2.2.2.2.2.1 = c.2.2.2.2.2.2
/-! tags -/
theorem ts_tag_ne (sb : Nat) (p : Int32) : ts_tag sb p ≠ -1 := by
  unfold ts_tag
  rw [pk_and _ 8 (by decide)]
  exact nI_nm1 (by omega)
theorem ix_inj {s w s' w' W : Nat} (hw : w < W) (hw' : w' < W) (h : s * W + w = s' * W + w') : s = s' ∧ w = w' := by
  rcases Nat.lt_trichotomy s s' with q | q | q
  · have := Nat.mul_le_mul_right W (show s + 1 ≤ s' from q)
    rw [Nat.add_mul, Nat.one_mul] at this
    omega
  · subst q; omega
  · have := Nat.mul_le_mul_right W (show s' + 1 ≤ s from q)
    rw [Nat.add_mul, Nat.one_mul] at this
    omega
theorem tf_fo_none {g : Fn} {t : Int32} : ∀ {n b : Nat}, tf_fo g t b n = none → ∀ j, j < n → g (b + j) ≠ t
  | 0, b, h, j, hj => absurd hj (Nat.not_lt_zero j)
  | n + 1, b, h, j, hj => by
    unfold tf_fo at h
    by_cases hg : g b = t
    · rw [if_pos hg] at h; cases h
    · rw [if_neg hg] at h
      rcases Nat.eq_zero_or_pos j with q | q
      · subst q; exact hg
      · have := tf_fo_none h (j - 1) (by omega)
        rw [show b + j = b + 1 + (j - 1) by omega]
        exact this
theorem mf_fo_spec {hs g : Fn} {t : Int32} : ∀ (n b : Nat) (a : Option Nat), (mf_fo hs g t b n a = a ∧ ∀ j, j < n → ¬ (hs (b + j) ≠ 0 ∧ g (b + j) = t)) ∨ ∃ j, j < n ∧ mf_fo hs g t b n a = some (b + j) ∧ hs (b + j) ≠ 0 ∧ g (b + j) = t
  | 0, b, a => Or.inl ⟨rfl, fun j hj => absurd hj (Nat.not_lt_zero j)⟩
  | n + 1, b, a => by
    by_cases hm : hs b ≠ 0 ∧ g b = t
    · rcases mf_fo_spec n (b + 1) (some b) with ⟨h1, h2⟩ | ⟨j, h1, h2, h3⟩
      · exact Or.inr ⟨0, by omega, by unfold mf_fo; rw [if_pos hm]; exact h1, hm⟩
      · exact Or.inr ⟨j + 1, by omega, by unfold mf_fo; rw [if_pos hm, h2]; congr 1; omega, by rw [show b + (j + 1) = b + 1 + j by omega]; exact h3⟩
    · rcases mf_fo_spec n (b + 1) a with ⟨h1, h2⟩ | ⟨j, h1, h2, h3⟩
      · refine Or.inl ⟨by unfold mf_fo; rw [if_neg hm]; exact h1, fun j hj => ?_⟩
        rcases Nat.eq_zero_or_pos j with q | q
        · subst q; exact hm
        · have := h2 (j - 1) (by omega)
          rw [show b + j = b + 1 + (j - 1) by omega]
          exact this
      · exact Or.inr ⟨j + 1, by omega, by unfold mf_fo; rw [if_neg hm, h2]; congr 1; omega, by rw [show b + (j + 1) = b + 1 + j by omega]; exact h3⟩
/-- finding: none on both sides, or the same way of the set -/
theorem fi_rel {S W sb u : Nat} {t : Tb} {n : Mt} (h : RT S W u t n) (p : Int32) :
    (tf_find S W sb t p = none ∧ mf_find S W sb n p = none ∧ (S ≠ 0 → ∀ w, w < W → n.1 (4 * ts_set S p + w) ≠ 0 → n.2.1 (4 * ts_set S p + w) ≠ ts_tag sb p)) ∨
    ∃ w, w < W ∧ S ≠ 0 ∧ tf_find S W sb t p = some (ts_set S p * W + w) ∧ mf_find S W sb n p = some (4 * ts_set S p + w) ∧ n.1 (4 * ts_set S p + w) ≠ 0 := by
  obtain ⟨-, -, -, hA, hU⟩ := h
  unfold tf_find mf_find
  by_cases hS : S = 0
  · rw [if_pos hS, if_pos hS]; exact Or.inl ⟨rfl, rfl, fun q => absurd hS q⟩
  · rw [if_neg hS, if_neg hS]
    have hset : ts_set S p < S := ts_set_lt (by omega) p
    have hmatch : ∀ w, w < W → ((n.1 (4 * ts_set S p + w) ≠ 0 ∧ n.2.1 (4 * ts_set S p + w) = ts_tag sb p) ↔ t.1 (ts_set S p * W + w) = ts_tag sb p) := by
      intro w hw
      rcases hA _ w hset hw with ⟨h1, h2, -⟩ | ⟨h1, h2, h3, -⟩
      · exact ⟨fun q => absurd h1 q.1, fun q => absurd (q.symm.trans h2) (ts_tag_ne sb p)⟩
      · rw [h2]; exact ⟨fun q => q.2, fun q => ⟨h1, q⟩⟩
    cases hf : tf_fo t.1 (ts_tag sb p) (ts_set S p * W) W with
    | none =>
      have hno := tf_fo_none hf
      refine Or.inl ⟨rfl, ?_, fun _ w hw q1 q2 => hno w hw ((hmatch w hw).mp ⟨q1, q2⟩)⟩
      rcases mf_fo_spec (hs := n.1) (g := n.2.1) (t := ts_tag sb p) W (4 * ts_set S p) none with ⟨h1, -⟩ | ⟨j, hj, -, h3⟩
      · exact h1
      · exact absurd ((hmatch j hj).mp h3) (hno j hj)
    | some x =>
      obtain ⟨x1, x2, x3⟩ := tf_fo_some hf
      obtain ⟨w, rfl⟩ : ∃ w, x = ts_set S p * W + w := ⟨x - ts_set S p * W, by omega⟩
      have hw : w < W := by omega
      have hm := (hmatch w hw).mpr x3
      refine Or.inr ⟨w, hw, hS, rfl, ?_, hm.1⟩
      rcases mf_fo_spec (hs := n.1) (g := n.2.1) (t := ts_tag sb p) W (4 * ts_set S p) none with ⟨-, h2⟩ | ⟨j, hj, h2, h3⟩
      · exact absurd hm (h2 w hw)
      · rw [h2, hU _ j w hset hj hw h3.1 hm.1 (h3.2.trans hm.2.symm)]
/-- where a new entry goes -/
theorem old_stay {u : Fn} : ∀ (n s o : Nat), (∀ j, s ≤ j → j < s + n → ¬ u j < u o) → tf_old u s n o = o
  | 0, s, o, h => rfl
  | n + 1, s, o, h => by
    unfold tf_old
    rw [if_neg (h s (Nat.le_refl _) (by omega))]
    exact old_stay n (s + 1) o (fun j h1 h2 => h j (by omega) (by omega))
theorem old_rel {hs mu u : Fn} {x y W U : Nat} (hU : U < 2 ^ 31) (hR : ∀ w, w < W → (hs (y + w) = 0 ∧ u (x + w) = nI 0) ∨ (hs (y + w) ≠ 0 ∧ ∃ k, 1 ≤ k ∧ k ≤ U ∧ u (x + w) = nI k ∧ mu (y + w) = nI k)) :
    ∀ (n k b : Nat), k + n = W → b < k → hs (y + b) ≠ 0 → ∃ r, r < W ∧ tf_old u (x + k) n (x + b) = x + r ∧ mf_way hs mu (y + k) n (y + b) = y + r
  | 0, k, b, h1, h2, h3 => ⟨b, by omega, rfl, rfl⟩
  | n + 1, k, b, h1, h2, h3 => by
    unfold tf_old mf_way
    have hb : ∃ kb, 1 ≤ kb ∧ kb ≤ U ∧ u (x + b) = nI kb ∧ mu (y + b) = nI kb := by
      rcases hR b (by omega) with ⟨q, -⟩ | ⟨-, q⟩
      · exact absurd q h3
      · exact q
    obtain ⟨kb, b1, b2, b3, b4⟩ := hb
    rcases hR k (by omega) with ⟨q1, q2⟩ | ⟨q1, kk, c1, c2, c3, c4⟩
    · rw [if_pos q1, if_pos (by rw [q2, b3]; exact nI_lt (by omega) (by omega))]
      refine ⟨k, by omega, ?_, rfl⟩
      refine old_stay n _ _ (fun j j1 j2 => ?_)
      obtain ⟨w, rfl⟩ : ∃ w, j = x + w := ⟨j - x, by omega⟩
      rw [q2]
      rcases hR w (by omega) with ⟨-, e⟩ | ⟨-, kw, e1, e2, e3, -⟩
      · rw [e]; exact nI_nlt (Nat.le_refl _) (by decide)
      · rw [e3]; exact nI_nlt (Nat.zero_le _) (by omega)
    · rw [if_neg q1, c3, b3, c4, b4]
      by_cases hlt : nI kk < nI kb
      · rw [if_pos hlt, if_pos hlt]
        exact old_rel hU hR n (k + 1) k (by omega) (by omega) q1
      · rw [if_neg hlt, if_neg hlt]
        exact old_rel hU hR n (k + 1) b (by omega) (by omega) h3
theorem slot_rel {S W u : Nat} {t : Tb} {n : Mt} (h : RT S W u t n) (hu : u < 2 ^ 31) (p : Int32) (hS : S ≠ 0) (hW : 0 < W) : ∃ w, w < W ∧ tf_slot S W t p = ts_set S p * W + w ∧ mf_slot S W n p = 4 * ts_set S p + w := by
  obtain ⟨-, -, -, hA, -⟩ := h
  have hset : ts_set S p < S := ts_set_lt (by omega) p
  have hR : ∀ w, w < W → (n.1 (4 * ts_set S p + w) = 0 ∧ t.2.2.2.1 (ts_set S p * W + w) = nI 0) ∨ (n.1 (4 * ts_set S p + w) ≠ 0 ∧ ∃ k, 1 ≤ k ∧ k ≤ u ∧ t.2.2.2.1 (ts_set S p * W + w) = nI k ∧ n.2.2.2.2.1 (4 * ts_set S p + w) = nI k) := by
    intro w hw
    rcases hA _ w hset hw with ⟨h1, -, -, -, h2⟩ | ⟨h1, -, -, -, -, h2⟩
    · exact Or.inl ⟨h1, h2⟩
    · exact Or.inr ⟨h1, h2⟩
  unfold tf_slot mf_slot
  obtain ⟨v, rfl⟩ : ∃ v, W = v + 1 := ⟨W - 1, by omega⟩
  rw [show v + 1 - 1 = v from rfl]
  unfold mf_way
  rcases hR 0 hW with ⟨q1, q2⟩ | ⟨q1, -⟩
  · rw [Nat.add_zero] at q1 q2
    rw [if_pos q1]
    refine ⟨0, hW, ?_, rfl⟩
    refine old_stay v _ _ (fun j j1 j2 => ?_)
    obtain ⟨w, rfl⟩ : ∃ w, j = ts_set S p * (v + 1) + w := ⟨j - ts_set S p * (v + 1), by omega⟩
    rw [q2]
    rcases hR w (by omega) with ⟨-, e⟩ | ⟨-, kw, e1, e2, e3, -⟩
    · rw [e]; exact nI_nlt (Nat.le_refl _) (by decide)
    · rw [e3]; exact nI_nlt (Nat.zero_le _) (by omega)
  · rw [Nat.add_zero] at q1
    rw [if_neg q1, ite_self]
    exact old_rel hu hR v 1 0 (by omega) (by omega) q1
