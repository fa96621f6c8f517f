/-! ===== class and reference stay side by side: pure ===== -/
theorem cnt_acc (hs : Fn) : ∀ (n e : Nat) (a d : Int32), mf_cnt hs e n (a + d) = mf_cnt hs e n a + d
  | 0, _, _, _ => rfl
  | n + 1, e, a, d => by
    unfold mf_cnt
    rw [show a + d + (if hs e = 0 then 0 else 1) = a + (if hs e = 0 then 0 else 1) + d by rw [Int32.add_assoc, Int32.add_comm d, ← Int32.add_assoc]]
    exact cnt_acc hs n (e + 1) _ d
theorem cnt_out (hs : Fn) (x : Nat) : ∀ (n e : Nat) (a : Int32), x < e ∨ e + n ≤ x → mf_cnt (upd hs x 1) e n a = mf_cnt hs e n a
  | 0, _, _, _ => rfl
  | n + 1, e, a, h => by
    unfold mf_cnt
    rw [pk_un (show e ≠ x by omega)]
    exact cnt_out hs x n (e + 1) _ (by omega)
theorem cnt_same (hs : Fn) (x : Nat) (hx : hs x ≠ 0) : ∀ (n e : Nat) (a : Int32), mf_cnt (upd hs x 1) e n a = mf_cnt hs e n a
  | 0, _, _ => rfl
  | n + 1, e, a => by
    unfold mf_cnt
    by_cases q : e = x
    · subst q
      rw [pk_us, if_neg (by decide), if_neg hx]
      exact cnt_same hs e hx n (e + 1) _
    · rw [pk_un q]
      exact cnt_same hs x hx n (e + 1) _
theorem cnt_new (hs : Fn) (x : Nat) (hx : hs x = 0) : ∀ (n e : Nat) (a : Int32), e ≤ x → x < e + n → mf_cnt (upd hs x 1) e n a = mf_cnt hs e n a + 1
  | 0, e, a, h1, h2 => absurd h2 (by omega)
  | n + 1, e, a, h1, h2 => by
    unfold mf_cnt
    by_cases q : e = x
    · subst q
      rw [pk_us, if_neg (by decide), if_pos hx, cnt_out hs e n (e + 1) _ (by omega), cnt_acc, Int32.add_zero]
    · rw [pk_un q]
      exact cnt_new hs x hx n (e + 1) _ (by omega) (by omega)
theorem RT_put {S W sb u : Nat} {t : Tb} {n : Mt} (h : RT S W u t n) (hu : u + 1 < 2 ^ 31) (hS : S ≤ 16) (hW0 : 0 < W) (hW : W ≤ 4) (p k x : Int32) : ∃ u', u' ≤ u + 1 ∧ RT S W u' (tf_put S W sb t p k x) (mf_putT S W sb n p k x) := by
  by_cases hS0 : S = 0
  · refine ⟨u, by omega, ?_⟩
    have e1 : tf_put S W sb t p k x = t := by unfold tf_put; rw [if_pos hS0]
    have e0 : mf_find S W sb n p = none := by unfold mf_find; rw [if_pos hS0]
    have e2 : mf_putT S W sb n p k x = n := by unfold mf_putT; simp only [e0, if_pos hS0]
    rw [e1, e2]
    exact h
  · have hset : ts_set S p < S := ts_set_lt (by omega) p
    refine ⟨u + 1, Nat.le_refl _, ?_⟩
    rcases fi_rel (sb := sb) h p with ⟨f1, f2, f3⟩ | ⟨w, hw, -, f1, f2, f3⟩
    · obtain ⟨w, hw, g1, g2⟩ := slot_rel h (by omega) p hS0 hW0
      obtain ⟨a1, a2, a3, hA, hU⟩ := h
      have e1 : tf_put S W sb t p k x = (upd t.1 (ts_set S p * W + w) (ts_tag sb p), upd t.2.1 (ts_set S p * W + w) k, upd t.2.2.1 (ts_set S p * W + w) x, upd t.2.2.2.1 (ts_set S p * W + w) (t.2.2.2.2.2 + 1), (if t.1 (ts_set S p * W + w) = -1 then t.2.2.2.2.1 + 1 else t.2.2.2.2.1), t.2.2.2.2.2 + 1) := by
        unfold tf_put; simp only [f1, g1, if_neg hS0]
      have e2 : mf_putT S W sb n p k x = (upd n.1 (4 * ts_set S p + w) 1, upd n.2.1 (4 * ts_set S p + w) (ts_tag sb p), upd n.2.2.1 (4 * ts_set S p + w) k, upd n.2.2.2.1 (4 * ts_set S p + w) x, upd n.2.2.2.2.1 (4 * ts_set S p + w) (n.2.2.2.2.2 + 1), n.2.2.2.2.2 + 1) := by
        unfold mf_putT; simp only [f2, g2, if_neg hS0]
      rw [e1, e2]
      have hne : ∀ s' w', w' < W → ¬ (s' = ts_set S p ∧ w' = w) → s' * W + w' ≠ ts_set S p * W + w ∧ 4 * s' + w' ≠ 4 * ts_set S p + w := fun s' w' hw' q => ⟨fun q' => q (ix_inj hw' hw q'), fun q' => q ⟨by omega, by omega⟩⟩
      refine ⟨?_, ?_, ?_, ?_, ?_⟩
      · show t.2.2.2.2.2 + 1 = nI (u + 1)
        rw [a1, nI_1]
      · show n.2.2.2.2.2 + 1 = nI (u + 1)
        rw [a2, nI_1]
      · show (if t.1 (ts_set S p * W + w) = -1 then t.2.2.2.2.1 + 1 else t.2.2.2.2.1) = mf_cnt (upd n.1 (4 * ts_set S p + w) 1) 0 64 0
        rcases hA _ w hset hw with ⟨h1, h2, -⟩ | ⟨h1, h2, h3, -⟩
        · rw [if_pos h2, a3, cnt_new n.1 _ h1 64 0 0 (by omega) (by omega)]
        · rw [if_neg (by rw [h2]; exact h3), a3, cnt_same n.1 _ h1]
      · intro s' w' hs' hw'
        dsimp only
        by_cases q : s' = ts_set S p ∧ w' = w
        · obtain ⟨rfl, rfl⟩ := q
          simp only [pk_us]
          exact Or.inr ⟨by decide, trivial, ts_tag_ne sb p, trivial, trivial, u + 1, by omega, Nat.le_refl _, by rw [a1, nI_1], by rw [a2, nI_1]⟩
        · obtain ⟨n1, n2⟩ := hne s' w' hw' q
          simp only [pk_un n1, pk_un n2]
          rcases hA s' w' hs' hw' with h1 | ⟨h1, h2, h3, h4, h5, kk, h6, h7, h8⟩
          · exact Or.inl h1
          · exact Or.inr ⟨h1, h2, h3, h4, h5, kk, h6, by omega, h8⟩
      · intro s' w1 w2 hs' hw1 hw2
        dsimp only
        by_cases q1 : s' = ts_set S p ∧ w1 = w
        · by_cases q2 : s' = ts_set S p ∧ w2 = w
          · intro _ _ _; rw [q1.2, q2.2]
          · obtain ⟨-, n2⟩ := hne s' w2 hw2 q2
            obtain ⟨rfl, rfl⟩ := q1
            simp only [pk_us, pk_un n2]
            exact fun _ z1 z2 => absurd z2.symm (f3 hS0 w2 hw2 z1)
        · obtain ⟨-, n1⟩ := hne s' w1 hw1 q1
          by_cases q2 : s' = ts_set S p ∧ w2 = w
          · obtain ⟨rfl, rfl⟩ := q2
            simp only [pk_us, pk_un n1]
            exact fun z1 _ z2 => absurd z2 (f3 hS0 w1 hw1 z1)
          · obtain ⟨-, n2⟩ := hne s' w2 hw2 q2
            simp only [pk_un n1, pk_un n2]
            exact hU s' w1 w2 hs' hw1 hw2
    · obtain ⟨a1, a2, a3, hA, hU⟩ := h
      have e1 : tf_put S W sb t p k x = (t.1, upd t.2.1 (ts_set S p * W + w) k, upd t.2.2.1 (ts_set S p * W + w) x, upd t.2.2.2.1 (ts_set S p * W + w) (t.2.2.2.2.2 + 1), t.2.2.2.2.1, t.2.2.2.2.2 + 1) := by
        unfold tf_put; simp only [f1, if_neg hS0]
      have e2 : mf_putT S W sb n p k x = (n.1, n.2.1, upd n.2.2.1 (4 * ts_set S p + w) k, upd n.2.2.2.1 (4 * ts_set S p + w) x, upd n.2.2.2.2.1 (4 * ts_set S p + w) (n.2.2.2.2.2 + 1), n.2.2.2.2.2 + 1) := by
        unfold mf_putT; simp only [f2]
      rw [e1, e2]
      refine ⟨?_, ?_, a3, ?_, hU⟩
      · show t.2.2.2.2.2 + 1 = nI (u + 1)
        rw [a1, nI_1]
      · show n.2.2.2.2.2 + 1 = nI (u + 1)
        rw [a2, nI_1]
      · intro s' w' hs' hw'
        dsimp only
        by_cases q : s' = ts_set S p ∧ w' = w
        · obtain ⟨rfl, rfl⟩ := q
          simp only [pk_us]
          rcases hA _ w' hset hw with ⟨h1, -⟩ | ⟨h1, h2, h3, -⟩
          · exact absurd h1 f3
          · exact Or.inr ⟨h1, h2, h3, trivial, trivial, u + 1, by omega, Nat.le_refl _, by rw [a1, nI_1], by rw [a2, nI_1]⟩
        · have n1 : s' * W + w' ≠ ts_set S p * W + w := fun q' => q (ix_inj hw' hw q')
          have n2 : 4 * s' + w' ≠ 4 * ts_set S p + w := fun q' => q ⟨by omega, by omega⟩
          simp only [pk_un n1, pk_un n2]
          rcases hA s' w' hs' hw' with h1 | ⟨h1, h2, h3, h4, h5, kk, h6, h7, h8⟩
          · exact Or.inl h1
          · exact Or.inr ⟨h1, h2, h3, h4, h5, kk, h6, by omega, h8⟩
/-! by history -/
theorem ix_rel {g : Nat} (hg : g < 2 ^ 24) (p : Int32) : mf_ix (nI g) p = hf_ix (nI g) p := by
  unfold mf_ix hf_ix hf_fold
  have e : ∀ (s : Int32) (k : Nat), (s.toBitVec.smod 32).toNat = k → ((s.toUInt32 &&& Int32.toUInt32 31).toBitVec % 32).toNat = k → nI g >>> s = k_ush (nI g) s := fun s k h1 h2 => by
    rw [pk_shrN (by omega) s k h1]
    exact (pk_ushrN (by omega) s k h2).symm
  rw [show ((6 : Int32) &&& 31) = 6 from rfl, show ((12 : Int32) &&& 31) = 12 from rfl, show ((18 : Int32) &&& 31) = 18 from rfl, e 6 6 (by decide) (by decide), e 12 12 (by decide) (by decide), e 18 18 (by decide) (by decide)]
  rw [← Int32.xor_assoc, ← Int32.xor_assoc, ← Int32.xor_assoc]
theorem upd_rel {f g : Fn} {i : Nat} {v : Int32} {M : Nat} (h : ∀ j, j < M → f j = g j) : ∀ j, j < M → upd f i v j = upd g i v j := by
  intro j hj
  by_cases q : j = i
  · subst q; rw [pk_us, pk_us]
  · rw [pk_un q, pk_un q]; exact h j hj
theorem RH_upd {h k : Hs} (hr : RH h k) (p kk x : Int32) : RH (cf_updH h p kk x) (mf_updH k p kk x) := by
  obtain ⟨h1, h2, h3, g, hg, h4⟩ := hr
  have hrem : ∀ y : Int32, ∃ g, g < 2 ^ 24 ∧ y &&& 16777215 = nI g := fun y => ⟨y.toBitVec.toNat % 2 ^ 24, Nat.mod_lt _ (by decide), pk_and y 24 (by decide)⟩
  have hix : hf_ix h.2.2 p = mf_ix k.2.2 p := by rw [h3, h4]; exact (ix_rel hg p).symm
  unfold cf_updH mf_updH
  by_cases hk : kk = 3
  · rw [if_pos hk, if_pos hk]
    refine ⟨?_, ?_, ?_, ?_⟩
    · show ∀ j, j < 64 → upd h.1 (hf_ix h.2.2 p) (hf_tag p) j = upd k.1 (mf_ix k.2.2 p) (hf_tag p) j
      rw [hix]; exact upd_rel h1
    · show ∀ j, j < 64 → upd h.2.1 (hf_ix h.2.2 p) x j = upd k.2.1 (mf_ix k.2.2 p) x j
      rw [hix]; exact upd_rel h2
    · show _ &&& _ = _ &&& _
      dsimp only [hf_put, mf_putH]
      rw [h3]
    · exact hrem _
  · rw [if_neg hk, if_neg hk]
    refine ⟨h1, h2, ?_, hrem _⟩
    show _ &&& _ = _ &&& _
    rw [h3]
/-! the ring -/
theorem sh_val : ∀ (n k : Nat) (f : Fn) (j : Nat), mf_sh f k n j = if k ≤ j ∧ j < k + n then f (j + 1) else f j
  | 0, k, f, j => by rw [if_neg (by omega)]; rfl
  | n + 1, k, f, j => by
    unfold mf_sh
    rw [sh_val n (k + 1)]
    by_cases q : j = k
    · subst q
      rw [if_neg (by omega), if_pos (by omega), pk_us]
    · rw [pk_un q]
      by_cases q2 : k + 1 ≤ j ∧ j < k + 1 + n
      · rw [if_pos q2, if_pos (by omega), pk_un (by omega)]
      · rw [if_neg q2, if_neg (by omega)]
theorem cp_val (g : Fn) (o : Nat) : ∀ (n k : Nat) (f : Fn) (j : Nat), mf_cp g o f k n j = if k ≤ j ∧ j < k + n then g (o + j) else f j
  | 0, k, f, j => by rw [if_neg (by omega)]; rfl
  | n + 1, k, f, j => by
    unfold mf_cp
    rw [cp_val g o n (k + 1)]
    by_cases q : j = k
    · subst q
      rw [if_neg (by omega), if_pos (by omega), pk_us]
    · rw [pk_un q]
      by_cases q2 : k + 1 ≤ j ∧ j < k + 1 + n
      · rw [if_pos q2, if_pos (by omega)]
      · rw [if_neg q2, if_neg (by omega)]
theorem cq_val (f : Fn) (o : Nat) : ∀ (n k : Nat) (g : Fn) (j : Nat), mf_cq f o g k n j = if o + k ≤ j ∧ j < o + k + n then f (j - o) else g j
  | 0, k, f, j => by rw [if_neg (by omega)]; rfl
  | n + 1, k, g, j => by
    unfold mf_cq
    rw [cq_val f o n (k + 1)]
    by_cases q : j = o + k
    · subst q
      rw [if_neg (by omega), if_pos (by omega), pk_us, show o + k - o = k by omega]
    · rw [pk_un q]
      by_cases q2 : o + (k + 1) ≤ j ∧ j < o + (k + 1) + n
      · rw [if_pos q2, if_pos (by omega)]
      · rw [if_neg q2, if_neg (by omega)]
theorem in_val (q : Nat) : ∀ (n k : Nat) (g : Fn) (j : Nat), mf_in q g k n j = if 17 * q + k ≤ j ∧ j < 17 * q + k + n then g (j + 17) else g j
  | 0, k, f, j => by rw [if_neg (by omega)]; rfl
  | n + 1, k, g, j => by
    unfold mf_in
    rw [in_val q n (k + 1)]
    by_cases q1 : j = 17 * q + k
    · subst q1
      rw [if_neg (by omega), if_pos (by omega), pk_us, show 17 * q + 17 + k = 17 * q + k + 17 by omega]
    · rw [pk_un q1]
      by_cases q2 : 17 * q + (k + 1) ≤ j ∧ j < 17 * q + (k + 1) + n
      · rw [if_pos q2, if_pos (by omega), pk_un (by omega)]
      · rw [if_neg q2, if_neg (by omega)]
theorem rw_val : ∀ (n q : Nat) (g : Fn) (j : Nat), mf_rw g q n j = if 17 * q ≤ j ∧ j < 17 * (q + n) then g (j + 17) else g j
  | 0, k, f, j => by rw [if_neg (by omega)]; rfl
  | n + 1, q, g, j => by
    unfold mf_rw
    rw [rw_val n (q + 1), in_val, in_val]
    by_cases q2 : 17 * (q + 1) ≤ j ∧ j < 17 * (q + 1 + n)
    · rw [if_pos q2, if_neg (by omega), if_pos (by omega)]
    · rw [if_neg q2]
      by_cases q3 : 17 * q + 0 ≤ j ∧ j < 17 * q + 0 + 17
      · rw [if_pos q3, if_pos (by omega)]
      · rw [if_neg q3, if_neg (by omega)]
theorem RR_push {L : Nat} {r q : Rs} (h : RR L r q) (x : Int32) : RR L (rf_push L r x) (mf_push L q x) := by
  obtain ⟨h1, h2, h3, h4, h5⟩ := h
  by_cases hL : r.2.1 = L
  · have e0 : rf_pre L r = rf_lose (r.1, r.2.1, r.2.2.1 + 1, r.2.2.2) := by unfold rf_pre; rw [if_pos hL]
    have e2 : mf_push L q x = (if L = 0 then mf_sh q.1 0 (q.2.1 - 1) else upd (mf_sh q.1 0 (q.2.1 - 1)) (q.2.1 - 1) x, q.2.1, q.2.2.1 + 1, q.2.2.2) := by unfold mf_push; rw [if_pos (h1.symm.trans hL)]
    by_cases hz : r.2.1 = 0
    · have e1 : rf_push L r x = (r.1, r.2.1, r.2.2.1 + 1, r.2.2.2) := by
        unfold rf_push
        rw [e0]
        unfold rf_lose
        rw [if_pos hz]
        unfold rf_add
        rw [if_neg (by show ¬ r.2.1 < L; omega)]
      rw [e1, e2]
      exact ⟨h1, h2, fun k hk => absurd hk (by show ¬ k < r.2.1; omega), by show r.2.2.1 + 1 = q.2.2.1 + 1; rw [h4], h5⟩
    · have e1 : rf_push L r x = (upd (va_cpy r.1 r.1 1 0 (r.2.1 - 1)) (r.2.1 - 1) x, r.2.1 - 1 + 1, r.2.2.1 + 1, r.2.2.2) := by
        unfold rf_push
        rw [e0]
        unfold rf_lose
        rw [if_neg hz]
        unfold rf_add
        rw [if_pos (by show r.2.1 - 1 < L; omega)]
      rw [e1, e2, if_neg (by omega)]
      refine ⟨?_, ?_, ?_, by show r.2.2.1 + 1 = q.2.2.1 + 1; rw [h4], h5⟩
      · show r.2.1 - 1 + 1 = q.2.1
        omega
      · show r.2.1 - 1 + 1 ≤ L
        omega
      · show ∀ k, k < r.2.1 - 1 + 1 → upd (va_cpy r.1 r.1 1 0 (r.2.1 - 1)) (r.2.1 - 1) x k = upd (mf_sh q.1 0 (q.2.1 - 1)) (q.2.1 - 1) x k
        intro k hk
        rw [← h1]
        by_cases qk : k = r.2.1 - 1
        · subst qk; rw [pk_us, pk_us]
        · rw [pk_un qk, pk_un qk, pk_cpy_in (by omega) (by omega), sh_val, if_pos (by omega), Nat.sub_zero, Nat.add_comm 1 k]
          exact h3 _ (by omega)
  · have e1 : rf_push L r x = (upd r.1 r.2.1 x, r.2.1 + 1, r.2.2.1, r.2.2.2) := by
      unfold rf_push rf_pre
      rw [if_neg hL]
      unfold rf_add
      rw [if_pos (by omega)]
    have e2 : mf_push L q x = (upd q.1 q.2.1 x, q.2.1 + 1, q.2.2.1, q.2.2.2) := by unfold mf_push; rw [if_neg (by omega)]
    rw [e1, e2]
    refine ⟨by show r.2.1 + 1 = q.2.1 + 1; omega, by show r.2.1 + 1 ≤ L; omega, ?_, h4, h5⟩
    show ∀ k, k < r.2.1 + 1 → upd r.1 r.2.1 x k = upd q.1 q.2.1 x k
    intro k hk
    rw [← h1]
    by_cases qk : k = r.2.1
    · subst qk; rw [pk_us, pk_us]
    · rw [pk_un qk, pk_un qk]; exact h3 _ (by omega)
theorem RR_pop {L : Nat} {r q : Rs} (h : RR L r q) : RR L (rf_pop r) (rf_pop q) := by
  obtain ⟨h1, h2, h3, h4, h5⟩ := h
  unfold rf_pop
  by_cases hz : r.2.1 = 0
  · rw [if_pos hz, if_pos (h1.symm.trans hz)]
    exact ⟨h1, h2, h3, h4, by show r.2.2.2 + 1 = q.2.2.2 + 1; rw [h5]⟩
  · rw [if_neg hz, if_neg (by omega)]
    exact ⟨by show r.2.1 - 1 = q.2.1 - 1; omega, by show r.2.1 - 1 ≤ L; omega, fun k hk => h3 k (by have hk : k < r.2.1 - 1 := hk; omega), h4, h5⟩
theorem RR_move {L : Nat} {r q : Rs} (h : RR L r q) (k p : Int32) : RR L (cf_move L r k p) (mf_move L q k p) := by
  unfold cf_move mf_move
  split
  · exact RR_push h _
  · split
    · exact RR_pop h
    · exact h
theorem RR_back {L d0 : Nat} {q : Qs} {n : Mq} {r r' : Rs} (hr : RR L r r') (hL : L ≤ 16) (hd : d0 ≤ L) (hc : ∀ k, k < d0 → q.2.2.2.1 (q.2.2.2.2.2 * L + k) = n.2.2.2.1 k) : RR L (cf_back L q r d0) (mf_back n r' d0) := by
  obtain ⟨h1, h2, h3, h4, h5⟩ := hr
  refine ⟨rfl, hd, ?_, h4, h5⟩
  show ∀ k, k < d0 → va_cpy q.2.2.2.1 r.1 (q.2.2.2.2.2 * L) 0 d0 k = mf_cp n.2.2.2.1 0 r'.1 0 17 k
  intro k hk
  rw [pk_cpy_in (by omega) (by omega), cp_val, if_pos (by omega), Nat.sub_zero, Nat.zero_add]
  exact hc k hk
/-! the queue -/
theorem RQ_add {L : Nat} {q : Qs} {n : Mq} {r r' : Rs} (h : RQ L q n) (hr : RR L r r') (hL : L ≤ 16) (hs : q.2.2.2.2.1 < 16) (p a : Int32) : RQ L (qf_add L q p a r) (mf_addQ n r' p a) := by
  obtain ⟨h1, h2, h3, h4, h5, h6⟩ := h
  obtain ⟨r1, r2, r3, -, -⟩ := hr
  refine ⟨?_, ?_, h3, ?_, ?_, ?_⟩
  · show q.2.2.2.2.1 + 1 = n.2.2.2.2 + 1
    omega
  · show q.2.2.2.2.1 + 1 ≤ 16
    omega
  · show ∀ j, j < 16 → ∃ k, k ≤ L ∧ upd q.2.2.1 (qf_ix q q.2.2.2.2.1) (nI r.2.1) j = nI k
    intro j hj
    by_cases e : j = qf_ix q q.2.2.2.2.1
    · subst e; exact ⟨r.2.1, r2, pk_us⟩
    · rw [pk_un e]; exact h4 j hj
  · show ∀ j, j < 16 → ∃ k, k ≤ L ∧ upd n.2.2.1 n.2.2.2.2 (nI r'.2.1) j = nI k
    intro j hj
    by_cases e : j = n.2.2.2.2
    · subst e; exact ⟨r'.2.1, by omega, pk_us⟩
    · rw [pk_un e]; exact h5 j hj
  · show ∀ i, i < q.2.2.2.2.1 + 1 → upd q.1 (qf_ix q q.2.2.2.2.1) p (qf_ix q i) = upd n.1 n.2.2.2.2 p i ∧ upd q.2.1 (qf_ix q q.2.2.2.2.1) a (qf_ix q i) = upd n.2.1 n.2.2.2.2 a i ∧ ∃ d, d ≤ L ∧ upd q.2.2.1 (qf_ix q q.2.2.2.2.1) (nI r.2.1) (qf_ix q i) = nI d ∧ upd n.2.2.1 n.2.2.2.2 (nI r'.2.1) i = nI d ∧ ∀ k, k < d → va_cpy r.1 q.2.2.2.1 0 (qf_ix q q.2.2.2.2.1 * L) r.2.1 (qf_ix q i * L + k) = mf_cq r'.1 (17 * n.2.2.2.2) n.2.2.2.1 0 17 (17 * i + k)
    rw [← h1]
    intro i hi
    by_cases e : i = q.2.2.2.2.1
    · subst e
      rw [pk_us, pk_us, pk_us, pk_us, pk_us, pk_us]
      refine ⟨rfl, rfl, r.2.1, r2, rfl, by rw [r1], fun k hk => ?_⟩
      rw [pk_cpy_in (by omega) (by omega), cq_val, if_pos (by omega), Nat.zero_add, Nat.add_sub_cancel_left, Nat.add_sub_cancel_left]
      exact r3 k hk
    · have ne : qf_ix q i ≠ qf_ix q q.2.2.2.2.1 := by
        unfold qf_ix
        omega
      rw [pk_un e, pk_un e, pk_un e, pk_un ne, pk_un ne, pk_un ne]
      obtain ⟨g1, g2, d, g3, g4, g5, g6⟩ := h6 i (by omega)
      refine ⟨g1, g2, d, g3, g4, g5, fun k hk => ?_⟩
      rw [pk_cpy_out, cq_val, if_neg (by omega)]
      · exact g6 k hk
      · rcases Nat.lt_or_gt_of_ne ne with z | z
        · have := Nat.mul_le_mul_right L (show qf_ix q i + 1 ≤ qf_ix q q.2.2.2.2.1 from z)
          rw [Nat.add_mul, Nat.one_mul] at this
          omega
        · have := Nat.mul_le_mul_right L (show qf_ix q q.2.2.2.2.1 + 1 ≤ qf_ix q i from z)
          rw [Nat.add_mul, Nat.one_mul] at this
          omega
theorem RQ_drop {L : Nat} {q : Qs} {n : Mq} (h : RQ L q n) (hL : L ≤ 16) : RQ L (qf_drop q) (mf_drop n) := by
  obtain ⟨h1, h2, h3, h4, h5, h6⟩ := h
  have hix : ∀ i, qf_ix (qf_drop q) i = qf_ix q (i + 1) := fun i => by
    show ((q.2.2.2.2.2 + 1) % 16 + i) % 16 = (q.2.2.2.2.2 + (i + 1)) % 16
    omega
  refine ⟨?_, ?_, ?_, h4, ?_, ?_⟩
  · show q.2.2.2.2.1 - 1 = n.2.2.2.2 - 1
    omega
  · show q.2.2.2.2.1 - 1 ≤ 16
    omega
  · exact qf_ix_lt q 1
  · show ∀ j, j < 16 → ∃ k, k ≤ L ∧ mf_sh n.2.2.1 0 (n.2.2.2.2 - 1) j = nI k
    intro j hj
    rw [sh_val]
    split
    · exact h5 _ (by omega)
    · exact h5 _ hj
  · intro i hi
    rw [hix i]
    have hi : i < q.2.2.2.2.1 - 1 := hi
    show q.1 (qf_ix q (i + 1)) = mf_sh n.1 0 (n.2.2.2.2 - 1) i ∧ q.2.1 (qf_ix q (i + 1)) = mf_sh n.2.1 0 (n.2.2.2.2 - 1) i ∧ ∃ d, d ≤ L ∧ q.2.2.1 (qf_ix q (i + 1)) = nI d ∧ mf_sh n.2.2.1 0 (n.2.2.2.2 - 1) i = nI d ∧ ∀ k, k < d → q.2.2.2.1 (qf_ix q (i + 1) * L + k) = mf_rw n.2.2.2.1 0 (n.2.2.2.2 - 1) (17 * i + k)
    rw [sh_val, sh_val, sh_val, if_pos (by omega), if_pos (by omega), if_pos (by omega)]
    obtain ⟨g1, g2, d, g3, g4, g5, g6⟩ := h6 (i + 1) (by omega)
    refine ⟨g1, g2, d, g3, g4, g5, fun k hk => ?_⟩
    rw [rw_val, if_pos (by omega), show 17 * i + k + 17 = 17 * (i + 1) + k by omega]
    exact g6 k hk
theorem RQ_clear {L : Nat} {q : Qs} {n : Mq} (h : RQ L q n) : RQ L (qf_clear q) (n.1, n.2.1, n.2.2.1, n.2.2.2.1, 0) := by
  obtain ⟨-, -, h3, h4, h5, -⟩ := h
  exact ⟨rfl, Nat.zero_le _, h3, h4, h5, fun i hi => absurd hi (Nat.not_lt_zero i)⟩
theorem ix0 {q : Qs} (h : q.2.2.2.2.2 < 16) : qf_ix q 0 = q.2.2.2.2.2 := by
  unfold qf_ix
  omega
/-- what check and flush want of the queue's first -/
theorem RQ_head {L : Nat} {q : Qs} {n : Mq} (h : RQ L q n) (hs : 0 < q.2.2.2.2.1) : ∃ d0, d0 ≤ L ∧ q.2.2.1 q.2.2.2.2.2 = nI d0 ∧ n.2.2.1 0 = nI d0 ∧ (∀ k, k < d0 → q.2.2.2.1 (q.2.2.2.2.2 * L + k) = n.2.2.2.1 k) ∧ q.1 (qf_ix q 0) = n.1 0 ∧ q.2.1 (qf_ix q 0) = n.2.1 0 := by
  obtain ⟨h1, h2, h3, h4, h5, h6⟩ := h
  obtain ⟨g1, g2, d, g3, g4, g5, g6⟩ := h6 0 hs
  refine ⟨d, g3, ?_, g5, fun k hk => ?_, g1, g2⟩
  · rw [ix0 h3] at g4; exact g4
  · have := g6 k hk
    rw [ix0 h3, Nat.mul_zero, Nat.zero_add] at this
    exact this
/-! the answers counted -/
theorem RC_add {a c : Fn} {ck : Int32} (h : RC a c ck) (j : Nat) : RC (upd a j (a j + 1)) (mf_cts c j) (ck + 1) := by
  obtain ⟨h1, h2⟩ := h
  unfold mf_cts
  refine ⟨?_, fun i hi => ?_⟩
  · rw [pk_un (by omega), pk_us, h1]
  · by_cases e : i = j
    · subst e
      rw [pk_us, pk_us, pk_un (by omega), h2 i hi]
    · rw [pk_un (by omega), pk_un (by omega), pk_un e, h2 i hi]
