/-! ===== each call: the same answer, and side by side again ===== -/
theorem kd_rel {S W sb u : Nat} {t : Tb} {n : Mt} (h : RT S W u t n) (k tk p : Int32) : cf_cause t.2.1 k tk (tf_find S W sb t p) = cf_cause n.2.2.1 k tk (mf_find S W sb n p) := by
  rcases fi_rel (sb := sb) h p with ⟨f1, f2, -⟩ | ⟨w, hw, hS, f1, f2, f3⟩
  · rw [f1, f2]; rfl
  · rw [f1, f2]
    obtain ⟨-, -, -, hA, -⟩ := h
    rcases hA _ w (ts_set_lt (by omega) p) hw with ⟨h1, -⟩ | ⟨-, -, -, h4, -⟩
    · exact absurd h1 f3
    · unfold cf_cause
      simp only [h4]
theorem told_rel {S W L u sb : Nat} {c : Cs} {m : Ms} (h : Rel S W L u c m) (p : Int32) : cn_told S W sb c p = mn_tell S W sb m p := by
  obtain ⟨hT, ⟨k1, k2, k3, g, hg, k4⟩, ⟨r1, r2, r3, -, -⟩, -⟩ := h
  unfold cn_told mn_tell
  rcases fi_rel (sb := sb) hT p with ⟨f1, f2, -⟩ | ⟨w, hw, hS, f1, f2, f3⟩
  · rw [f1, f2]; rfl
  · rw [f1, f2]
    obtain ⟨-, -, -, hA, -⟩ := hT
    rcases hA _ w (ts_set_lt (by omega) p) hw with ⟨h1, -⟩ | ⟨-, -, -, h4, h5, -⟩
    · exact absurd h1 f3
    · unfold cf_told mf_tell
      simp only [h4, h5]
      have hix : hf_ix c.2.1.2.2 p = mf_ix m.2.1.2.2 p := by rw [k3, k4]; exact (ix_rel hg p).symm
      by_cases q : m.1.2.2.1 (4 * ts_set S p + w) = 2 ∧ 0 < c.2.2.1.2.1
      · rw [if_pos q, if_pos ⟨q.1, by rw [← r1]; exact q.2⟩]
        show c.2.2.1.1 (c.2.2.1.2.1 - 1 - 0) = m.2.2.1.1 (m.2.2.1.2.1 - 1)
        rw [← r1, Nat.sub_zero]
        exact r3 _ (by omega)
      · have nq : ¬ (m.1.2.2.1 (4 * ts_set S p + w) = 2 ∧ 0 < m.2.2.1.2.1) := fun z => q ⟨z.1, by rw [r1]; exact z.2⟩
        rw [if_neg q, if_neg nq]
        have hk : hf_knows c.2.1 p ≠ 0 ↔ m.2.1.1 (mf_ix m.2.1.2.2 p) = hf_tag p := by
          unfold hf_knows
          rw [hix, k1 _ (mf_ix_lt _ _)]
          split
          · exact ⟨fun _ => by assumption, fun _ => by decide⟩
          · exact ⟨fun z => absurd rfl z, fun z => absurd z (by assumption)⟩
        by_cases q2 : m.1.2.2.1 (4 * ts_set S p + w) = 3 ∧ hf_knows c.2.1 p ≠ 0
        · rw [if_pos q2, if_pos ⟨q2.1, hk.mp q2.2⟩, hix]
          exact k2 _ (mf_ix_lt _ _)
        · rw [if_neg q2, if_neg (fun z => q2 ⟨z.1, hk.mpr z.2⟩)]
theorem Rel_th {S W L u : Nat} {c : Cs} {m : Ms} (h : Rel S W L u c m) (t : Int32) : Rel S W L u c (mn_th m t) := h
theorem Rel_next {S W L u sb : Nat} {c : Cs} {m : Ms} (h : Rel S W L u c m) (hL : L ≤ 16) (hs : c.2.2.2.1.2.2.2.2.1 < 16) (p : Int32) : Rel S W L u (cn_next S W sb L c p) (mn_next S W sb L m p) := by
  have ht := told_rel (sb := sb) h p
  obtain ⟨hT, hH, hR, hQ, hC, hl⟩ := h
  refine ⟨hT, hH, ?_, ?_, hC, hl⟩
  · show RR L (cf_nextR L c p (tf_find S W sb c.1 p)) (mf_nextR L m.1 m.2.2.1 p (mf_find S W sb m.1 p))
    rcases fi_rel (sb := sb) hT p with ⟨f1, f2, -⟩ | ⟨w, hw, hS, f1, f2, f3⟩
    · rw [f1, f2]; exact hR
    · rw [f1, f2]
      obtain ⟨-, -, -, hA, -⟩ := hT
      rcases hA _ w (ts_set_lt (by omega) p) hw with ⟨h1, -⟩ | ⟨-, -, -, h4, -⟩
      · exact absurd h1 f3
      · unfold cf_nextR mf_nextR
        simp only [h4]
        exact RR_move hR _ _
  · show RQ L (qf_add L c.2.2.2.1 p (cn_told S W sb c p) c.2.2.1) (mf_addQ m.2.2.2.1 m.2.2.1 p (mn_tell S W sb m p))
    rw [ht]
    exact RQ_add hQ hR hL hs p _
theorem Rel_check {S W L u sb : Nat} {c : Cs} {m : Ms} (h : Rel S W L u c m) (hu : u + 1 < 2 ^ 31) (hS : S ≤ 16) (hW0 : 0 < W) (hW : W ≤ 4) (hL : L ≤ 16) (hs : 0 < c.2.2.2.1.2.2.2.2.1) (k tk x : Int32) :
    ∃ d0, d0 ≤ L ∧ c.2.2.2.1.2.2.1 c.2.2.2.1.2.2.2.2.2 = nI d0 ∧ m.2.2.2.1.2.2.1 0 = nI d0 ∧ cf_ans S W sb c k tk x = mf_ans S W sb m k tk x ∧ ∃ u', u' ≤ u + 1 ∧ Rel S W L u' (cf_chk S W sb L c d0 k tk x) (mf_chk S W sb L m d0 k tk x) := by
  obtain ⟨hT, hH, hR, hQ, hC, hl⟩ := h
  obtain ⟨d0, d1, d2, d3, d4, d5, d6⟩ := RQ_head hQ hs
  have hpl : cf_pl c = mf_pl m := d5
  have htd : cf_td c = mf_td m := d6
  have hwn : cf_went c tk x = mf_went m tk x := by unfold cf_went mf_went; rw [hpl]
  have han : cf_ans S W sb c k tk x = mf_ans S W sb m k tk x := by
    unfold cf_ans mf_ans
    rw [htd, hwn, hpl, kd_rel hT]
  have hsz : c.2.2.2.1.2.2.2.2.1 = m.2.2.2.1.2.2.2.2 := hQ.1
  refine ⟨d0, d1, d2, d3, han, ?_⟩
  have hB := RR_back (q := c.2.2.2.1) (n := m.2.2.2.1) hR hL d1 d4
  have hTT : ∃ u', u' ≤ u + 1 ∧ RT S W u' (if tk = 0 then c.1 else tf_put S W sb c.1 (cf_pl c) k x) (if tk = 0 then m.1 else mf_putT S W sb m.1 (mf_pl m) k x) := by
    by_cases q : tk = 0
    · rw [if_pos q, if_pos q]; exact ⟨u, by omega, hT⟩
    · rw [if_neg q, if_neg q, hpl]; exact RT_put hT hu hS hW0 hW _ k x
  obtain ⟨u', hu', hTT⟩ := hTT
  refine ⟨u', hu', hTT, ?_, ?_, ?_, ?_, ?_⟩
  · show RH (if tk = 0 then c.2.1 else cf_updH c.2.1 (cf_pl c) k x) (if tk = 0 then m.2.1 else mf_updH m.2.1 (mf_pl m) k x)
    by_cases q : tk = 0
    · rw [if_pos q, if_pos q]; exact hH
    · rw [if_neg q, if_neg q, hpl]; exact RH_upd hH _ k x
  · show RR L (if cf_td c = cf_went c tk x then c.2.2.1 else if tk = 0 then cf_back L c.2.2.2.1 c.2.2.1 d0 else cf_move L (cf_back L c.2.2.2.1 c.2.2.1 d0) k (cf_pl c)) (if mf_td m = mf_went m tk x then m.2.2.1 else if tk = 0 then mf_back m.2.2.2.1 m.2.2.1 d0 else mf_move L (mf_back m.2.2.2.1 m.2.2.1 d0) k (mf_pl m))
    rw [htd, hwn, hpl]
    by_cases q : mf_td m = mf_went m tk x
    · rw [if_pos q, if_pos q]; exact hR
    · rw [if_neg q, if_neg q]
      by_cases q2 : tk = 0
      · rw [if_pos q2, if_pos q2]; exact hB
      · rw [if_neg q2, if_neg q2]; exact RR_move hB k _
  · show RQ L (if cf_td c = cf_went c tk x then qf_drop c.2.2.2.1 else qf_clear c.2.2.2.1) (if mf_td m = mf_went m tk x then mf_drop m.2.2.2.1 else (m.2.2.2.1.1, m.2.2.2.1.2.1, m.2.2.2.1.2.2.1, m.2.2.2.1.2.2.2.1, 0))
    rw [htd, hwn]
    by_cases q : mf_td m = mf_went m tk x
    · rw [if_pos q, if_pos q]; exact RQ_drop hQ hL
    · rw [if_neg q, if_neg q]; exact RQ_clear hQ
  · show RC (upd c.2.2.2.2.1 (cf_ans S W sb c k tk x).toNatClampNeg (c.2.2.2.2.1 (cf_ans S W sb c k tk x).toNatClampNeg + 1)) (mf_cts m.2.2.2.2.1 (mf_ans S W sb m k tk x).toNatClampNeg) (c.2.2.2.2.2.1 + 1)
    rw [han]
    exact RC_add hC _
  · show (if mf_td m = mf_went m tk x then m.2.2.2.2.2.1 else m.2.2.2.2.2.1 + (nI m.2.2.2.1.2.2.2.2 - 1)) = (if cf_td c = cf_went c tk x then c.2.2.2.2.2.2 else c.2.2.2.2.2.2 + (nI c.2.2.2.1.2.2.2.2.1 - 1))
    rw [htd, hwn, hl, hsz]
theorem Rel_flush {S W L u : Nat} {c : Cs} {m : Ms} (h : Rel S W L u c m) (hL : L ≤ 16) :
    ∃ d0 d1, d0 ≤ L ∧ c.2.2.2.1.2.2.1 c.2.2.2.1.2.2.2.2.2 = nI d0 ∧ m.2.2.2.1.2.2.1 0 = nI d1 ∧ Rel S W L u (cf_flush L c d0) (mf_flush m d1) := by
  obtain ⟨hT, hH, hR, hQ, hC, hl⟩ := h
  have hsz : c.2.2.2.1.2.2.2.2.1 = m.2.2.2.1.2.2.2.2 := hQ.1
  by_cases q : c.2.2.2.1.2.2.2.2.1 = 0
  · obtain ⟨d0, e1, e2⟩ := hQ.2.2.2.1 _ hQ.2.2.1
    obtain ⟨d1, -, e3⟩ := hQ.2.2.2.2.1 0 (by omega)
    refine ⟨d0, d1, e1, e2, e3, ?_⟩
    have e4 : cf_flush L c d0 = c := by unfold cf_flush; rw [if_pos q]
    rw [e4]
    refine ⟨hT, hH, ?_, ?_, hC, ?_⟩
    · show RR L c.2.2.1 (if m.2.2.2.1.2.2.2.2 = 0 then m.2.2.1 else mf_back m.2.2.2.1 m.2.2.1 d1)
      rw [if_pos (hsz.symm.trans q)]
      exact hR
    · obtain ⟨-, h2, h3, h4, h5, -⟩ := hQ
      exact ⟨q, h2, h3, h4, h5, fun i hi => absurd hi (by omega)⟩
    · show m.2.2.2.2.2.1 + nI m.2.2.2.1.2.2.2.2 = c.2.2.2.2.2.2
      rw [hl, ← hsz, q]
      exact Int32.add_zero _
  · obtain ⟨d0, d1, d2, d3, d4, d5, d6⟩ := RQ_head hQ (by omega)
    refine ⟨d0, d0, d1, d2, d3, ?_⟩
    have e4 : cf_flush L c d0 = (c.1, c.2.1, cf_back L c.2.2.2.1 c.2.2.1 d0, qf_clear c.2.2.2.1, c.2.2.2.2.1, c.2.2.2.2.2.1, c.2.2.2.2.2.2 + nI c.2.2.2.1.2.2.2.2.1) := by unfold cf_flush; rw [if_neg q]
    rw [e4]
    refine ⟨hT, hH, ?_, RQ_clear hQ, hC, ?_⟩
    · show RR L (cf_back L c.2.2.2.1 c.2.2.1 d0) (if m.2.2.2.1.2.2.2.2 = 0 then m.2.2.1 else mf_back m.2.2.2.1 m.2.2.1 d0)
      rw [if_neg (by omega)]
      exact RR_back hR hL d1 d4
    · show m.2.2.2.2.2.1 + nI m.2.2.2.1.2.2.2.2 = c.2.2.2.2.2.2 + nI c.2.2.2.1.2.2.2.2.1
      rw [hl, hsz]
theorem Rel_entry {S W L u : Nat} {c : Cs} {m : Ms} (h : Rel S W L u c m) {k0 k1 : Nat} (h0 : k0 < S) (h1 : k1 < W) {w : Int32} : cn_entry W c k0 k1 w = mn_entry m k0 k1 w := by
  obtain ⟨⟨-, -, -, hA, -⟩, -⟩ := h
  unfold cn_entry mn_entry
  rcases hA k0 k1 h0 h1 with ⟨z1, z2, z3, z4, -⟩ | ⟨z1, z2, z3, z4, z5, -⟩
  · rw [if_pos z1, z2, z3, z4]
    split
    · rfl
    · exact ite_self _
  · rw [if_neg z1, z2, z4, z5]
theorem Rel_row {S W L u : Nat} {c : Cs} {m : Ms} (h : Rel S W L u c m) {k0 : Nat} (h0 : k0 < 64) (w : Int32) : cn_row c k0 w = mn_row m k0 w := by
  obtain ⟨-, ⟨k1, k2, -⟩, -⟩ := h
  unfold cn_row mn_row
  rw [k1 k0 h0, k2 k0 h0]
theorem Rel_ring {S W L u : Nat} {c : Cs} {m : Ms} (h : Rel S W L u c m) {k0 : Nat} (h0 : k0 < c.2.2.1.2.1) : rf_top c.2.2.1 k0 = m.2.2.1.1 (m.2.2.1.2.1 - 1 - k0) := by
  obtain ⟨-, -, ⟨r1, r2, r3, -⟩, -⟩ := h
  unfold rf_top
  rw [← r1]
  exact r3 _ (by omega)
theorem Rel_queued {S W L u : Nat} {c : Cs} {m : Ms} (h : Rel S W L u c m) {k0 : Nat} (h0 : k0 < c.2.2.2.1.2.2.2.2.1) (w : Int32) : cn_queued c k0 w = mn_queued m k0 w := by
  obtain ⟨-, -, -, ⟨-, -, -, -, -, h6⟩, -⟩ := h
  obtain ⟨g1, g2, -⟩ := h6 k0 h0
  unfold cn_queued mn_queued
  rw [g1, g2]
theorem st_rel (a b c : Int32) : (((a * b) * 42 + 2560) + c * 32) + 24 = (((42 * a) * b + 2560) + 32 * c) + 24 := by
  rw [Int32.mul_comm (a * b) 42, ← Int32.mul_assoc, Int32.mul_comm c 32]
theorem Rel_count {S W L u : Nat} {c : Cs} {m : Ms} (h : Rel S W L u c m) (w : Int32) : cf_count S W L c w = mf_count S W L m w := by
  obtain ⟨⟨-, -, t3, -, -⟩, ⟨-, -, k3, -⟩, ⟨r1, -, -, r4, r5⟩, ⟨q1, -⟩, ⟨c1, c2⟩, hl⟩ := h
  by_cases hw : 0 ≤ w ∧ w ≤ 17
  · obtain ⟨n, hn, rfl⟩ := nI_of2 (x := w) (M := 17) (n := 17) rfl (Int32.not_lt.mpr hw.1) hw.2
    unfold mf_count cf_count
    rw [if_neg (show ¬ ¬ (0 ≤ nI n ∧ nI n ≤ 17) from fun z => z hw)]
    have h18 : n = 0 ∨ n = 1 ∨ n = 2 ∨ n = 3 ∨ n = 4 ∨ n = 5 ∨ n = 6 ∨ n = 7 ∨ n = 8 ∨ n = 9 ∨ n = 10 ∨ n = 11 ∨ n = 12 ∨ n = 13 ∨ n = 14 ∨ n = 15 ∨ n = 16 ∨ n = 17 := by omega
    rcases h18 with rfl | rfl | rfl | rfl | rfl | rfl | rfl | rfl | rfl | rfl | rfl | rfl | rfl | rfl | rfl | rfl | rfl | rfl
    · exact c1.symm
    · exact (c2 0 (by omega)).symm
    · exact (c2 1 (by omega)).symm
    · exact (c2 2 (by omega)).symm
    · exact (c2 3 (by omega)).symm
    · exact (c2 4 (by omega)).symm
    · exact (c2 5 (by omega)).symm
    · exact (c2 6 (by omega)).symm
    · exact r4
    · exact r5
    · exact congrArg nI q1
    · exact congrArg nI r1
    · exact t3
    · exact k3
    · exact hl.symm
    · rfl
    · rfl
    · rfl
  · have hne : ∀ a : Int32, 0 ≤ a → a ≤ 17 → ¬ w = a := fun a h1 h2 z => hw (by rw [z]; exact ⟨h1, h2⟩)
    have h17 : ¬ (1 ≤ w ∧ w ≤ 7) := fun z => hw ⟨Int32.le_trans (by decide) z.1, Int32.le_trans z.2 (by decide)⟩
    unfold mf_count cf_count
    rw [if_pos hw, if_neg h17, if_neg (hne 0 (by decide) (by decide)), if_neg (hne 8 (by decide) (by decide)), if_neg (hne 9 (by decide) (by decide)), if_neg (hne 10 (by decide) (by decide)), if_neg (hne 11 (by decide) (by decide)), if_neg (hne 12 (by decide) (by decide)), if_neg (hne 13 (by decide) (by decide)), if_neg (hne 14 (by decide) (by decide)), if_neg (hne 15 (by decide) (by decide)), if_neg (hne 16 (by decide) (by decide)), if_neg (hne 17 (by decide) (by decide))]
/-! the beginning -/
theorem Rel_init (S W L : Nat) (hS : S ≤ 16) (hW : W ≤ 4) : Rel S W L 0 ((kf_fill (fun _ => 0) (-1) (S * W), fun _ => 0, fun _ => 0, fun _ => 0, 0, 0), (kf_fill (fun _ => 0) (-1) 64, fun _ => 0, 0), (fun _ => 0, 0, 0, 0), (fun _ => 0, fun _ => 0, fun _ => 0, fun _ => 0, 0, 0), fun _ => 0, 0, 0)
    ((fun _ => 0, fun _ => 0, fun _ => 0, fun _ => 0, fun _ => 0, 0), (kf_fill (fun _ => 0) (-1) 64, fun _ => 0, 0), (fun _ => 0, 0, 0, 0), (fun _ => 0, fun _ => 0, fun _ => 0, fun _ => 0, 0), fun _ => 0, 0, 0) := by
  refine ⟨⟨rfl, rfl, ?_, ?_, ?_⟩, ⟨fun _ _ => rfl, fun _ _ => rfl, rfl, 0, by decide, rfl⟩, ⟨rfl, Nat.zero_le _, fun k hk => absurd hk (Nat.not_lt_zero k), rfl, rfl⟩, ⟨rfl, Nat.zero_le _, by show 0 < 16; decide, fun j _ => ⟨0, Nat.zero_le _, rfl⟩, fun j _ => ⟨0, Nat.zero_le _, rfl⟩, fun i hi => absurd hi (Nat.not_lt_zero i)⟩, ⟨rfl, fun _ _ => rfl⟩, rfl⟩
  · show (0 : Int32) = mf_cnt (fun _ => 0) 0 64 0
    have : ∀ n e, mf_cnt (fun _ => 0) e n 0 = 0 := by
      intro n
      induction n with
      | zero => intro e; rfl
      | succ n ih => intro e; unfold mf_cnt; exact ih (e + 1)
    exact (this 64 0).symm
  · intro s w hs hw
    refine Or.inl ⟨rfl, ?_, rfl, rfl, rfl⟩
    show kf_fill (fun _ => 0) (-1) (S * W) (s * W + w) = -1
    unfold kf_fill
    rw [if_pos (en_lt hs hw)]
  · intro s w w' _ _ _ h
    exact absurd rfl h
