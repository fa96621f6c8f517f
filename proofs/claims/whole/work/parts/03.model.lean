/-! ===== the class as functions: table, history, ring, queue ===== -/
abbrev Fn : Type := Nat → Int32
/-- the table: tags, kinds, targets, last uses, how many are filled, uses -/
abbrev Tb : Type := Fn × Fn × Fn × Fn × Int32 × Int32
def ts_set (S : Nat) (p : Int32) : Nat := p.toBitVec.toNat / 4 % S
def ts_tag (sb : Nat) (p : Int32) : Int32 := k_ush (k_ush p 2) (nI sb) &&& 255
def tf_fo (g : Fn) (t : Int32) : Nat → Nat → Option Nat
  | _, 0 => none
  | b, n + 1 => if g b = t then some b else tf_fo g t (b + 1) n
def tf_i : Option Nat → Int32
  | none => -1
  | some k => nI k
def tf_find (S W sb : Nat) (t : Tb) (p : Int32) : Option Nat := if S = 0 then none else tf_fo t.1 (ts_tag sb p) (ts_set S p * W) W
def tf_old (u : Fn) : Nat → Nat → Nat → Nat
  | _, 0, o => o
  | s, n + 1, o => tf_old u (s + 1) n (if u s < u o then s else o)
def tf_slot (S W : Nat) (t : Tb) (p : Int32) : Nat := tf_old t.2.2.2.1 (ts_set S p * W + 1) (W - 1) (ts_set S p * W)
def tf_put (S W sb : Nat) (t : Tb) (p k x : Int32) : Tb :=
  if S = 0 then t else match tf_find S W sb t p with
  | some o => (t.1, upd t.2.1 o k, upd t.2.2.1 o x, upd t.2.2.2.1 o (t.2.2.2.2.2 + 1), t.2.2.2.2.1, t.2.2.2.2.2 + 1)
  | none => (upd t.1 (tf_slot S W t p) (ts_tag sb p), upd t.2.1 (tf_slot S W t p) k, upd t.2.2.1 (tf_slot S W t p) x, upd t.2.2.2.1 (tf_slot S W t p) (t.2.2.2.2.2 + 1), (if t.1 (tf_slot S W t p) = -1 then t.2.2.2.2.1 + 1 else t.2.2.2.2.1), t.2.2.2.2.2 + 1)
/-- by history: tags, targets, the history -/
abbrev Hs : Type := Fn × Fn × Int32
def hf_fold (h : Int32) : Int32 := ((h ^^^ k_ush h 6) ^^^ k_ush h 12) ^^^ k_ush h 18
def hf_ix (h p : Int32) : Nat := (k_ush p 2 ^^^ hf_fold h).toBitVec.toNat % 64
def hf_tag (p : Int32) : Int32 := k_ush p 8 &&& 255
def hf_knows (h : Hs) (p : Int32) : Int32 := if h.1 (hf_ix h.2.2 p) = hf_tag p then 1 else 0
def hf_put (h : Hs) (p x : Int32) : Hs := (upd h.1 (hf_ix h.2.2 p) (hf_tag p), upd h.2.1 (hf_ix h.2.2 p) x, h.2.2)
def hf_rem (h : Hs) (x : Int32) : Hs := (h.1, h.2.1, ((h.2.2 <<< ((3 : Int32) &&& 31)) ^^^ k_ush x 2) &&& 16777215)
/-- the ring: places, how deep, overflows, underflows -/
abbrev Rs : Type := Fn × Nat × Int32 × Int32
def rf_top (r : Rs) (k : Nat) : Int32 := r.1 (r.2.1 - 1 - k)
def rf_lose (r : Rs) : Rs := if r.2.1 = 0 then r else (va_cpy r.1 r.1 1 0 (r.2.1 - 1), r.2.1 - 1, r.2.2.1, r.2.2.2)
def rf_pre (L : Nat) (r : Rs) : Rs := if r.2.1 = L then rf_lose (r.1, r.2.1, r.2.2.1 + 1, r.2.2.2) else r
def rf_add (L : Nat) (r : Rs) (x : Int32) : Rs := if r.2.1 < L then (upd r.1 r.2.1 x, r.2.1 + 1, r.2.2.1, r.2.2.2) else r
def rf_push (L : Nat) (r : Rs) (x : Int32) : Rs := rf_add L (rf_pre L r) x
def rf_pop (r : Rs) : Rs := if r.2.1 = 0 then (r.1, r.2.1, r.2.2.1, r.2.2.2 + 1) else (r.1, r.2.1 - 1, r.2.2.1, r.2.2.2)
/-- the queue: places, told, depths, rings, size, first -/
abbrev Qs : Type := Fn × Fn × Fn × Fn × Nat × Nat
def qf_ix (q : Qs) (k : Nat) : Nat := (q.2.2.2.2.2 + k) % 16
def qf_add (L : Nat) (q : Qs) (p a : Int32) (r : Rs) : Qs := (upd q.1 (qf_ix q q.2.2.2.2.1) p, upd q.2.1 (qf_ix q q.2.2.2.2.1) a, upd q.2.2.1 (qf_ix q q.2.2.2.2.1) (nI r.2.1), va_cpy r.1 q.2.2.2.1 0 (qf_ix q q.2.2.2.2.1 * L) r.2.1, q.2.2.2.2.1 + 1, q.2.2.2.2.2)
def qf_back (L : Nat) (q : Qs) (r : Rs) : Rs := (va_cpy q.2.2.2.1 r.1 (q.2.2.2.2.2 * L) 0 (q.2.2.1 q.2.2.2.2.2).toNatClampNeg, (q.2.2.1 q.2.2.2.2.2).toNatClampNeg, r.2.2.1, r.2.2.2)
def qf_drop (q : Qs) : Qs := (q.1, q.2.1, q.2.2.1, q.2.2.2.1, q.2.2.2.2.1 - 1, qf_ix q 1)
def qf_clear (q : Qs) : Qs := (q.1, q.2.1, q.2.2.1, q.2.2.2.1, 0, q.2.2.2.2.2)
/-! numbers -/
theorem k_ush_tn (x : Int32) {y : Int32} (k : Nat) (hk : ((y.toUInt32 &&& Int32.toUInt32 31).toBitVec % 32).toNat = k) : (k_ush x y).toBitVec.toNat = x.toBitVec.toNat / 2 ^ k := pk_ushr x y k hk
theorem ts_lem {S sb : Nat} (h : S = 2 ^ sb) (hb : sb ≤ 4) (p : Int32) : k_ush p 2 &&& (nI S - 1) = nI (ts_set S p) := by
  subst h
  have e1 : nI (2 ^ sb) - 1 = nI (2 ^ sb - 1) := pk_sub (b := 1) (Nat.one_le_two_pow)
  have e2 : (nI (2 ^ sb - 1)).toBitVec.toNat = 2 ^ sb - 1 := pk_tn (Nat.lt_of_le_of_lt (Nat.sub_le _ _) (Nat.pow_lt_pow_right (by omega) (by omega)))
  rw [e1, pk_and (k_ush p 2) sb e2, k_ush_tn p 2 (by decide)]
  rfl
theorem ts_set_lt {S : Nat} (h : 0 < S) (p : Int32) : ts_set S p < S := Nat.mod_lt _ h
theorem ts_in {S W j : Nat} (p : Int32) (h : 0 < S) (hj : j < W) : ts_set S p * W + j < S * W := by
  have h1 := ts_set_lt h p
  calc ts_set S p * W + j < ts_set S p * W + W := by omega
    _ = (ts_set S p + 1) * W := by rw [Nat.add_mul, Nat.one_mul]
    _ ≤ S * W := Nat.mul_le_mul_right W h1
theorem tf_fo_some {g : Fn} {t : Int32} : ∀ {n b j : Nat}, tf_fo g t b n = some j → b ≤ j ∧ j < b + n ∧ g j = t
  | 0, b, j, h => by simp [tf_fo] at h
  | n + 1, b, j, h => by
    unfold tf_fo at h
    by_cases hg : g b = t
    · rw [if_pos hg] at h
      cases h
      exact ⟨Nat.le_refl _, by omega, hg⟩
    · rw [if_neg hg] at h
      obtain ⟨h1, h2, h3⟩ := tf_fo_some h
      exact ⟨by omega, by omega, h3⟩
theorem tf_find_lt {S W sb : Nat} {t : Tb} {p : Int32} {j : Nat} (h : tf_find S W sb t p = some j) : S ≠ 0 ∧ j < S * W ∧ t.1 j = ts_tag sb p := by
  unfold tf_find at h
  by_cases hS : S = 0
  · rw [if_pos hS] at h; cases h
  · rw [if_neg hS] at h
    obtain ⟨h1, h2, h3⟩ := tf_fo_some h
    refine ⟨hS, ?_, h3⟩
    have := ts_in (S := S) (W := W) (j := j - ts_set S p * W) p (by omega) (by omega)
    omega
theorem tf_old_in {u : Fn} : ∀ (n s o b e : Nat), b ≤ o → o < e → b ≤ s → s + n ≤ e → b ≤ tf_old u s n o ∧ tf_old u s n o < e
  | 0, s, o, b, e, h1, h2, h3, h4 => ⟨h1, h2⟩
  | n + 1, s, o, b, e, h1, h2, h3, h4 => by
    unfold tf_old
    by_cases hc : u s < u o
    · rw [if_pos hc]; exact tf_old_in n (s + 1) s b e h3 (by omega) (by omega) (by omega)
    · rw [if_neg hc]; exact tf_old_in n (s + 1) o b e h1 h2 (by omega) (by omega)
theorem tf_slot_lt {S W : Nat} (t : Tb) (p : Int32) (hS : S ≠ 0) (hW : 0 < W) : tf_slot S W t p < S * W := by
  have h1 := ts_in (S := S) (W := W) (j := W - 1) p (by omega) (by omega)
  have h2 := tf_old_in (u := t.2.2.2.1) (W - 1) (ts_set S p * W + 1) (ts_set S p * W) (ts_set S p * W) (ts_set S p * W + W) (Nat.le_refl _) (by omega) (by omega) (by omega)
  unfold tf_slot
  omega
theorem hf_lem (h p : Int32) : (k_ush p 2 ^^^ hf_fold h) &&& 63 = nI (hf_ix h p) := pk_and _ 6 (by decide)
theorem hf_ix_lt (h p : Int32) : hf_ix h p < 64 := Nat.mod_lt _ (by decide)
theorem qf_lem (f k : Nat) (hf : f < 2 ^ 16) (hk : k < 2 ^ 16) : (nI f + nI k) &&& 15 = nI ((f + k) % 16) := by
  rw [nI_add]
  exact pk_andN (by omega) 4 (by decide)
theorem qf_ix_lt (q : Qs) (k : Nat) : qf_ix q k < 16 := Nat.mod_lt _ (by decide)
theorem q_room {i L d : Nat} (hi : i < 16) (hd : d ≤ L) : i * L + d ≤ 16 * L := by
  have h := Nat.mul_le_mul_right L (show i + 1 ≤ 16 from hi)
  rw [Nat.add_mul, Nat.one_mul] at h
  omega
theorem ts_SW {S Wy : Nat} (h1 : S ≤ 16) (h2 : Wy ≤ 4) : S * Wy < 2 ^ 16 := Nat.lt_of_le_of_lt (Nat.mul_le_mul h1 h2) (by decide)
theorem nI_nm1 {j : Nat} (h : j < 2 ^ 31) : nI j ≠ -1 := fun q => absurd (show nI j < 0 by rw [q]; decide) (nI_pos h)
theorem rf_lose_le (r : Rs) : (rf_lose r).2.1 ≤ r.2.1 := by
  unfold rf_lose
  by_cases h : r.2.1 = 0
  · rw [if_pos h]; exact Nat.le_refl _
  · rw [if_neg h]; exact Nat.sub_le _ _
/-! the whole class -/
abbrev Cs : Type := Tb × Hs × Rs × Qs × Fn × Int32 × Int32
def cf_told (c : Cs) (p : Int32) : Option Nat → Int32
  | none => p + 4
  | some o => if c.1.2.1 o = 2 ∧ 0 < c.2.2.1.2.1 then rf_top c.2.2.1 0 else if c.1.2.1 o = 3 ∧ hf_knows c.2.1 p ≠ 0 then c.2.1.2.1 (hf_ix c.2.1.2.2 p) else c.1.2.2.1 o
def cf_move (L : Nat) (r : Rs) (k p : Int32) : Rs := if k = 1 then rf_push L r (p + 4) else if k = 2 then rf_pop r else r
def cf_tail (k tk : Int32) : Int32 := if k = 2 then 3 else if k = 3 then 4 else if tk = 0 then 5 else 6
def cf_cause (kd : Fn) (k tk : Int32) : Option Nat → Int32
  | none => if tk = 0 then cf_tail k tk else 1
  | some o => if kd o = k then cf_tail k tk else 2
def cf_back (L : Nat) (q : Qs) (r : Rs) (d0 : Nat) : Rs := (va_cpy q.2.2.2.1 r.1 (q.2.2.2.2.2 * L) 0 d0, d0, r.2.2.1, r.2.2.2)
def cf_nextR (L : Nat) (c : Cs) (p : Int32) : Option Nat → Rs
  | none => c.2.2.1
  | some o => cf_move L c.2.2.1 (c.1.2.1 o) p
def cf_pl (c : Cs) : Int32 := c.2.2.2.1.1 (qf_ix c.2.2.2.1 0)
def cf_td (c : Cs) : Int32 := c.2.2.2.1.2.1 (qf_ix c.2.2.2.1 0)
def cf_went (c : Cs) (tk x : Int32) : Int32 := if tk = 0 then cf_pl c + 4 else x
def cf_ans (S W sb : Nat) (c : Cs) (k tk x : Int32) : Int32 := if cf_td c = cf_went c tk x then 0 else cf_cause c.1.2.1 k tk (tf_find S W sb c.1 (cf_pl c))
def cf_updH (h : Hs) (p k x : Int32) : Hs := hf_rem (if k = 3 then hf_put h p x else h) x
def cf_chk (S W sb L : Nat) (c : Cs) (d0 : Nat) (k tk x : Int32) : Cs :=
  (if tk = 0 then c.1 else tf_put S W sb c.1 (cf_pl c) k x, if tk = 0 then c.2.1 else cf_updH c.2.1 (cf_pl c) k x,
   if cf_td c = cf_went c tk x then c.2.2.1 else if tk = 0 then cf_back L c.2.2.2.1 c.2.2.1 d0 else cf_move L (cf_back L c.2.2.2.1 c.2.2.1 d0) k (cf_pl c),
   if cf_td c = cf_went c tk x then qf_drop c.2.2.2.1 else qf_clear c.2.2.2.1,
   upd c.2.2.2.2.1 (cf_ans S W sb c k tk x).toNatClampNeg (c.2.2.2.2.1 (cf_ans S W sb c k tk x).toNatClampNeg + 1), c.2.2.2.2.2.1 + 1,
   if cf_td c = cf_went c tk x then c.2.2.2.2.2.2 else c.2.2.2.2.2.2 + (nI c.2.2.2.1.2.2.2.2.1 - 1))
def cf_flush (L : Nat) (c : Cs) (d0 : Nat) : Cs := if c.2.2.2.1.2.2.2.2.1 = 0 then c else (c.1, c.2.1, cf_back L c.2.2.2.1 c.2.2.1 d0, qf_clear c.2.2.2.1, c.2.2.2.2.1, c.2.2.2.2.2.1, c.2.2.2.2.2.2 + nI c.2.2.2.1.2.2.2.2.1)
def cf_count (S W L : Nat) (c : Cs) (w : Int32) : Int32 :=
  if 1 ≤ w ∧ w ≤ 7 then c.2.2.2.2.1 (w - 1).toNatClampNeg else if w = 0 then c.2.2.2.2.2.1 else if w = 8 then c.2.2.1.2.2.1 else if w = 9 then c.2.2.1.2.2.2 else if w = 10 then nI c.2.2.2.1.2.2.2.2.1
  else if w = 11 then nI c.2.2.1.2.1 else if w = 12 then c.1.2.2.2.2.1 else if w = 13 then c.2.1.2.2 else if w = 14 then c.2.2.2.2.2.2 else if w = 15 then nI S else if w = 16 then nI W else if w = 17 then nI L else -1
theorem cf_tail_ne (k tk : Int32) : cf_tail k tk ≠ 0 := by
  unfold cf_tail
  split
  · decide
  · split
    · decide
    · split <;> decide
theorem cf_cause_ne (kd : Fn) (k tk : Int32) (o : Option Nat) : cf_cause kd k tk o ≠ 0 := by
  unfold cf_cause
  split
  · split
    · exact cf_tail_ne _ _
    · decide
  · split
    · exact cf_tail_ne _ _
    · decide
theorem rf_pre_le {L : Nat} {r : Rs} (h : r.2.1 ≤ L) : (rf_pre L r).2.1 ≤ L := by
  unfold rf_pre
  split
  · exact Nat.le_trans (rf_lose_le _) h
  · exact h
theorem rf_push_le {L : Nat} {r : Rs} (x : Int32) (h : r.2.1 ≤ L) : (rf_push L r x).2.1 ≤ L := by
  unfold rf_push rf_add
  split
  · assumption
  · exact rf_pre_le h
theorem rf_pop_le {L : Nat} {r : Rs} (h : r.2.1 ≤ L) : (rf_pop r).2.1 ≤ L := by
  unfold rf_pop
  split
  · exact h
  · exact Nat.le_trans (Nat.sub_le _ _) h
theorem cf_move_le {L : Nat} {r : Rs} (k p : Int32) (h : r.2.1 ≤ L) : (cf_move L r k p).2.1 ≤ L := by
  unfold cf_move
  split
  · exact rf_push_le _ h
  · split
    · exact rf_pop_le h
    · exact h
theorem cf_tail_n (k tk : Int32) : ∃ j : Nat, 1 ≤ j ∧ j < 7 ∧ cf_tail k tk = nI j := by
  unfold cf_tail
  split
  · exact ⟨3, by decide, by decide, rfl⟩
  · split
    · exact ⟨4, by decide, by decide, rfl⟩
    · split
      · exact ⟨5, by decide, by decide, rfl⟩
      · exact ⟨6, by decide, by decide, rfl⟩
theorem cf_cause_n (kd : Fn) (k tk : Int32) (o : Option Nat) : ∃ j : Nat, 1 ≤ j ∧ j < 7 ∧ cf_cause kd k tk o = nI j := by
  unfold cf_cause
  split
  · split
    · exact cf_tail_n _ _
    · exact ⟨1, by decide, by decide, rfl⟩
  · split
    · exact cf_tail_n _ _
    · exact ⟨2, by decide, by decide, rfl⟩
theorem en_lt {a b S W : Nat} (ha : a < S) (hb : b < W) : a * W + b < S * W := by
  have h := Nat.mul_le_mul_right W (show a + 1 ≤ S from ha)
  rw [Nat.add_mul, Nat.one_mul] at h
  omega
theorem chk_le {L : Nat} {q : Qs} {r : Rs} {d0 : Nat} {k p tk : Int32} (h : ¬ tk = 0) (hd : d0 ≤ L) : (if tk = 0 then cf_back L q r d0 else cf_move L (cf_back L q r d0) k p).2.1 ≤ L := by
  rw [if_neg h]
  exact cf_move_le k p hd
theorem ct_ix {w : Int32} (h1 : 1 ≤ w) (h2 : w ≤ 7) : ∃ k : Nat, k < 7 ∧ (w - 1).toNatClampNeg = k ∧ w - 1 = nI k := by
  have a1 : (1 : Int) ≤ w.toInt := Int32.le_iff_toInt_le.mp h1
  obtain ⟨n, hn, rfl⟩ := nI_of2 (x := w) (M := 7) (n := 7) rfl (fun q => by
    have a2 : w.toInt < 0 := Int32.lt_iff_toInt_lt.mp q
    omega) h2
  have h1n : 1 ≤ n := (nI_leI (a := 1) (b := n) (by decide) (by omega)).mp h1
  have e : (nI n - 1 : Int32) = nI (n - 1) := pk_sub (b := 1) h1n
  exact ⟨n - 1, by omega, by rw [e]; exact nI_clamp (by omega), e⟩
theorem ct_out {w : Int32} (h : ¬ (1 ≤ w ∧ w ≤ 7)) (e0 : ¬ w = 0) (e8 : ¬ w = 8) (e9 : ¬ w = 9) (e10 : ¬ w = 10) (e11 : ¬ w = 11) (e12 : ¬ w = 12) (e13 : ¬ w = 13) (e14 : ¬ w = 14) (e15 : ¬ w = 15) (e16 : ¬ w = 16) (e17 : ¬ w = 17) : w.toInt < 0 ∨ 17 < w.toInt := by
  have f0 := lv_neT e0 (a := 0) rfl
  have f8 := lv_neT e8 (a := 8) rfl
  have f9 := lv_neT e9 (a := 9) rfl
  have f10 := lv_neT e10 (a := 10) rfl
  have f11 := lv_neT e11 (a := 11) rfl
  have f12 := lv_neT e12 (a := 12) rfl
  have f13 := lv_neT e13 (a := 13) rfl
  have f14 := lv_neT e14 (a := 14) rfl
  have f15 := lv_neT e15 (a := 15) rfl
  have f16 := lv_neT e16 (a := 16) rfl
  have f17 := lv_neT e17 (a := 17) rfl
  have g : ¬ ((1 : Int) ≤ w.toInt ∧ w.toInt ≤ 7) := fun q => h ⟨Int32.le_iff_toInt_le.mpr q.1, Int32.le_iff_toInt_le.mpr q.2⟩
  omega
