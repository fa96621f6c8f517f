/-! ===== the reference as functions ===== -/
/-- table: has, tag, kind, target, used, time -/
abbrev Mt : Type := Fn × Fn × Fn × Fn × Fn × Int32
/-- queue: place, told, wasDeep, wasRing, queued -/
abbrev Mq : Type := Fn × Fn × Fn × Fn × Nat
/-- all: table, rows, ring, queue, counts, lost, thrown -/
abbrev Ms : Type := Mt × Hs × Rs × Mq × Fn × Int32 × Int32
def mf_fo (hs g : Fn) (t : Int32) : Nat → Nat → Option Nat → Option Nat
  | _, 0, a => a
  | b, n + 1, a => mf_fo hs g t (b + 1) n (if hs b ≠ 0 ∧ g b = t then some b else a)
def mf_find (S W sb : Nat) (t : Mt) (p : Int32) : Option Nat := if S = 0 then none else mf_fo t.1 t.2.1 (ts_tag sb p) (4 * ts_set S p) W none
def mf_ix (h p : Int32) : Nat := ((((k_ush p 2 ^^^ h) ^^^ (h >>> ((6 : Int32) &&& 31))) ^^^ (h >>> ((12 : Int32) &&& 31))) ^^^ (h >>> ((18 : Int32) &&& 31))).toBitVec.toNat % 64
def mf_sh (f : Fn) : Nat → Nat → Fn
  | _, 0 => f
  | k, n + 1 => mf_sh (upd f k (f (k + 1))) (k + 1) n
def mf_cp (g : Fn) (o : Nat) (f : Fn) : Nat → Nat → Fn
  | _, 0 => f
  | k, n + 1 => mf_cp g o (upd f k (g (o + k))) (k + 1) n
def mf_cq (f : Fn) (o : Nat) (g : Fn) : Nat → Nat → Fn
  | _, 0 => g
  | k, n + 1 => mf_cq f o (upd g (o + k) (f k)) (k + 1) n
def mf_in (q : Nat) (g : Fn) : Nat → Nat → Fn
  | _, 0 => g
  | k, n + 1 => mf_in q (upd g (17 * q + k) (g (17 * q + 17 + k))) (k + 1) n
def mf_rw (g : Fn) : Nat → Nat → Fn
  | _, 0 => g
  | q, n + 1 => mf_rw (mf_in q g 0 17) (q + 1) n
def mf_way (hs u : Fn) : Nat → Nat → Nat → Nat
  | _, 0, b => b
  | w, n + 1, b => if hs w = 0 then w else mf_way hs u (w + 1) n (if u w < u b then w else b)
def mf_slot (S W : Nat) (t : Mt) (p : Int32) : Nat := mf_way t.1 t.2.2.2.2.1 (4 * ts_set S p) W (4 * ts_set S p)
def mf_cnt (hs : Fn) : Nat → Nat → Int32 → Int32
  | _, 0, a => a
  | e, n + 1, a => mf_cnt hs (e + 1) n (a + (if hs e = 0 then 0 else 1))
def mf_push (L : Nat) (r : Rs) (x : Int32) : Rs :=
  if r.2.1 = L then (if L = 0 then mf_sh r.1 0 (r.2.1 - 1) else upd (mf_sh r.1 0 (r.2.1 - 1)) (r.2.1 - 1) x, r.2.1, r.2.2.1 + 1, r.2.2.2) else (upd r.1 r.2.1 x, r.2.1 + 1, r.2.2.1, r.2.2.2)
def mf_back (q : Mq) (r : Rs) (d0 : Nat) : Rs := (mf_cp q.2.2.2.1 0 r.1 0 17, d0, r.2.2.1, r.2.2.2)
def mf_tell (t : Mt) (h : Hs) (r : Rs) (p : Int32) : Option Nat → Int32
  | none => p + 4
  | some o => if t.2.2.1 o = 2 ∧ 0 < r.2.1 then r.1 (r.2.1 - 1) else if t.2.2.1 o = 3 ∧ h.1 (mf_ix h.2.2 p) = hf_tag p then h.2.1 (mf_ix h.2.2 p) else t.2.2.2.1 o
def mf_move (L : Nat) (r : Rs) (k p : Int32) : Rs := if k = 1 then mf_push L r (p + 4) else if k = 2 then rf_pop r else r
def mf_nextR (L : Nat) (t : Mt) (r : Rs) (p : Int32) : Option Nat → Rs
  | none => r
  | some o => mf_move L r (t.2.2.1 o) p
def mf_addQ (q : Mq) (r : Rs) (p x : Int32) : Mq := (upd q.1 q.2.2.2.2 p, upd q.2.1 q.2.2.2.2 x, upd q.2.2.1 q.2.2.2.2 (nI r.2.1), mf_cq r.1 (17 * q.2.2.2.2) q.2.2.2.1 0 17, q.2.2.2.2 + 1)
def mf_drop (q : Mq) : Mq := (mf_sh q.1 0 (q.2.2.2.2 - 1), mf_sh q.2.1 0 (q.2.2.2.2 - 1), mf_sh q.2.2.1 0 (q.2.2.2.2 - 1), mf_rw q.2.2.2.1 0 (q.2.2.2.2 - 1), q.2.2.2.2 - 1)
def mf_putT (S W sb : Nat) (t : Mt) (p k x : Int32) : Mt :=
  match mf_find S W sb t p with
  | some o => (t.1, t.2.1, upd t.2.2.1 o k, upd t.2.2.2.1 o x, upd t.2.2.2.2.1 o (t.2.2.2.2.2 + 1), t.2.2.2.2.2 + 1)
  | none => if S = 0 then t else (upd t.1 (mf_slot S W t p) 1, upd t.2.1 (mf_slot S W t p) (ts_tag sb p), upd t.2.2.1 (mf_slot S W t p) k, upd t.2.2.2.1 (mf_slot S W t p) x, upd t.2.2.2.2.1 (mf_slot S W t p) (t.2.2.2.2.2 + 1), t.2.2.2.2.2 + 1)
def mf_putH (h : Hs) (p x : Int32) : Hs := (upd h.1 (mf_ix h.2.2 p) (hf_tag p), upd h.2.1 (mf_ix h.2.2 p) x, h.2.2)
def mf_updH (h : Hs) (p k x : Int32) : Hs := hf_rem (if k = 3 then mf_putH h p x else h) x
def mf_pl (m : Ms) : Int32 := m.2.2.2.1.1 0
def mf_td (m : Ms) : Int32 := m.2.2.2.1.2.1 0
def mf_went (m : Ms) (tk x : Int32) : Int32 := if tk = 0 then mf_pl m + 4 else x
def mf_ans (S W sb : Nat) (m : Ms) (k tk x : Int32) : Int32 := if mf_td m = mf_went m tk x then 0 else cf_cause m.1.2.2.1 k tk (mf_find S W sb m.1 (mf_pl m))
def mf_cts (c : Fn) (j : Nat) : Fn := upd (upd c 0 (c 0 + 1)) (1 + j) (upd c 0 (c 0 + 1) (1 + j) + 1)
def mf_chk (S W sb L : Nat) (m : Ms) (d0 : Nat) (k tk x : Int32) : Ms :=
  (if tk = 0 then m.1 else mf_putT S W sb m.1 (mf_pl m) k x, if tk = 0 then m.2.1 else mf_updH m.2.1 (mf_pl m) k x,
   if mf_td m = mf_went m tk x then m.2.2.1 else if tk = 0 then mf_back m.2.2.2.1 m.2.2.1 d0 else mf_move L (mf_back m.2.2.2.1 m.2.2.1 d0) k (mf_pl m),
   if mf_td m = mf_went m tk x then mf_drop m.2.2.2.1 else (m.2.2.2.1.1, m.2.2.2.1.2.1, m.2.2.2.1.2.2.1, m.2.2.2.1.2.2.2.1, 0),
   mf_cts m.2.2.2.2.1 (mf_ans S W sb m k tk x).toNatClampNeg,
   if mf_td m = mf_went m tk x then m.2.2.2.2.2.1 else m.2.2.2.2.2.1 + (nI m.2.2.2.1.2.2.2.2 - 1), 0)
def mf_flush (m : Ms) (d0 : Nat) : Ms := (m.1, m.2.1, if m.2.2.2.1.2.2.2.2 = 0 then m.2.2.1 else mf_back m.2.2.2.1 m.2.2.1 d0, (m.2.2.2.1.1, m.2.2.2.1.2.1, m.2.2.2.1.2.2.1, m.2.2.2.1.2.2.2.1, 0), m.2.2.2.2.1, m.2.2.2.2.2.1 + nI m.2.2.2.1.2.2.2.2, 0)
def mf_within (v a b : Int32) : Int32 := if a ≤ v ∧ v ≤ b then 1 else 0
def mf_count (S W L : Nat) (m : Ms) (w : Int32) : Int32 :=
  if ¬ (0 ≤ w ∧ w ≤ 17) then -1 else if w < 8 then m.2.2.2.2.1 w.toNatClampNeg else if w = 8 then m.2.2.1.2.2.1 else if w = 9 then m.2.2.1.2.2.2 else if w = 10 then nI m.2.2.2.1.2.2.2.2
  else if w = 11 then nI m.2.2.1.2.1 else if w = 12 then mf_cnt m.1.1 0 64 0 else if w = 13 then m.2.1.2.2 else if w = 14 then m.2.2.2.2.2.1 else if w = 15 then nI S else if w = 16 then nI W else nI L
/-! numbers -/
theorem mf_set4 {S sb : Nat} (h : S = 2 ^ sb) (hb : sb ≤ 4) (p : Int32) : (4 : Int32) * (k_ush p 2 &&& (nI S - 1)) = nI (4 * ts_set S p) := by
  rw [ts_lem h hb p]
  exact pk_mul 4 _
theorem mf_tagl {sb : Nat} (hb : sb ≤ 4) (p : Int32) : k_ush p (2 + nI sb) &&& 255 = ts_tag sb p := by
  have e : k_ush p (2 + nI sb) = k_ush (k_ush p 2) (nI sb) := by
    have hs : ∀ k, k ≤ 4 → ((((2 : Int32) + nI k).toUInt32 &&& Int32.toUInt32 31).toBitVec % 32).toNat = 2 + k ∧ (((nI k).toUInt32 &&& Int32.toUInt32 31).toBitVec % 32).toNat = k := by decide
    apply Int32.toBitVec_inj.mp
    apply BitVec.eq_of_toNat_eq
    rw [k_ush_tn p _ (hs sb hb).1, k_ush_tn _ _ (hs sb hb).2, k_ush_tn p 2 (by decide), Nat.div_div_eq_div_mul, Nat.pow_add]
  rw [e]
  rfl
theorem mf_ixl (h p : Int32) : ((((k_ush p 2 ^^^ h) ^^^ (h >>> ((6 : Int32) &&& 31))) ^^^ (h >>> ((12 : Int32) &&& 31))) ^^^ (h >>> ((18 : Int32) &&& 31))) &&& 63 = nI (mf_ix h p) := pk_and _ 6 (by decide)
theorem mf_ix_lt (h p : Int32) : mf_ix h p < 64 := Nat.mod_lt _ (by decide)
theorem mf_s64 {S W j : Nat} (p : Int32) (hS0 : S ≠ 0) (hS : S ≤ 16) (hj : j < 4) : 4 * ts_set S p + j < 64 := by
  have := ts_set_lt (S := S) (by omega) p
  omega
theorem mf_fo_lt {hs g : Fn} {t : Int32} {M : Nat} : ∀ (n b : Nat) (a : Option Nat), (∀ o, a = some o → o < M) → b + n ≤ M → ∀ o, mf_fo hs g t b n a = some o → o < M
  | 0, b, a, h, _, o, ho => h o ho
  | n + 1, b, a, h, hb, o, ho => by
    unfold mf_fo at ho
    refine mf_fo_lt n (b + 1) _ ?_ (by omega) o ho
    intro o' h'
    split at h'
    · cases h'; omega
    · exact h o' h'
theorem mf_find_lt {S W sb : Nat} {t : Mt} {p : Int32} (hS : S ≤ 16) (hW : W ≤ 4) {o : Nat} (h : mf_find S W sb t p = some o) : o < 64 := by
  unfold mf_find at h
  by_cases hS0 : S = 0
  · rw [if_pos hS0] at h; cases h
  · rw [if_neg hS0] at h
    have := ts_set_lt (S := S) (by omega) p
    exact mf_fo_lt W (4 * ts_set S p) none (fun o q => by cases q) (by omega) o h
theorem mf_way_lt {hs u : Fn} {M : Nat} : ∀ (n w b : Nat), b < M → w + n ≤ M → mf_way hs u w n b < M
  | 0, w, b, h1, h2 => h1
  | n + 1, w, b, h1, h2 => by
    unfold mf_way
    split
    · omega
    · refine mf_way_lt n (w + 1) _ ?_ (by omega)
      split
      · omega
      · exact h1
theorem mf_slot_lt {S W : Nat} (t : Mt) (p : Int32) (hS0 : S ≠ 0) (hS : S ≤ 16) (hW : W ≤ 4) : mf_slot S W t p < 64 := by
  have := ts_set_lt (S := S) (by omega) p
  exact mf_way_lt W _ _ (by omega) (by omega)
theorem mf_push_le {L : Nat} {r : Rs} (x : Int32) (h : r.2.1 ≤ L) : (mf_push L r x).2.1 ≤ L := by
  unfold mf_push
  split
  · exact h
  · show r.2.1 + 1 ≤ L
    omega
theorem mf_move_le {L : Nat} {r : Rs} (k p : Int32) (h : r.2.1 ≤ L) : (mf_move L r k p).2.1 ≤ L := by
  unfold mf_move
  split
  · exact mf_push_le _ h
  · split
    · exact rf_pop_le h
    · exact h
theorem mw1 {v a b : Int32} (h1 : a ≤ v) (h2 : v ≤ b) : mf_within v a b = 1 := if_pos ⟨h1, h2⟩
theorem mw0 {v a b : Int32} (h : ¬ (a ≤ v ∧ v ≤ b)) : mf_within v a b = 0 := if_neg h
theorem mwk {k N : Nat} (h : k < N) (hN : N < 2 ^ 16) : mf_within (nI k) 0 (nI N - 1) = 1 := by
  have e : (nI N - 1 : Int32) = nI (N - 1) := pk_sub (b := 1) (by omega)
  rw [e]
  exact mw1 (nI_pos' (by omega)) (nI_le (by omega) (by omega))
theorem ct8 {w : Int32} (h1 : 0 ≤ w) (h2 : w < 8) : ∃ k : Nat, k < 8 ∧ w = nI k := by
  obtain ⟨n, hn, rfl⟩ := nI_of2 (x := w) (M := 8) (n := 8) rfl (Int32.not_lt.mpr h1) (Int32.le_of_lt h2)
  exact ⟨n, (nI_ltI (b := 8) (by omega) (by decide)).mp h2, rfl⟩
theorem ct17 {w : Int32} (h1 : 8 ≤ w) (h2 : w ≤ 17) (e8 : ¬ w = 8) (e9 : ¬ w = 9) (e10 : ¬ w = 10) (e11 : ¬ w = 11) (e12 : ¬ w = 12) (e13 : ¬ w = 13) (e14 : ¬ w = 14) (e15 : ¬ w = 15) (e16 : ¬ w = 16) : w.toInt < 8 ∨ 16 < w.toInt := by
  have f8 := lv_neT e8 (a := 8) rfl
  have f9 := lv_neT e9 (a := 9) rfl
  have f10 := lv_neT e10 (a := 10) rfl
  have f11 := lv_neT e11 (a := 11) rfl
  have f12 := lv_neT e12 (a := 12) rfl
  have f13 := lv_neT e13 (a := 13) rfl
  have f14 := lv_neT e14 (a := 14) rfl
  have f15 := lv_neT e15 (a := 15) rfl
  have f16 := lv_neT e16 (a := 16) rfl
  have a1 : (8 : Int) ≤ w.toInt := Int32.le_iff_toInt_le.mp h1
  omega
