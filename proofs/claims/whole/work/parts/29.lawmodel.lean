/-! ===== the class's calls on its whole state ===== -/
def cn_told (S W sb : Nat) (c : Cs) (p : Int32) : Int32 := cf_told c p (tf_find S W sb c.1 p)
def cn_next (S W sb L : Nat) (c : Cs) (p : Int32) : Cs := (c.1, c.2.1, cf_nextR L c p (tf_find S W sb c.1 p), qf_add L c.2.2.2.1 p (cn_told S W sb c p) c.2.2.1, c.2.2.2.2.1, c.2.2.2.2.2.1, c.2.2.2.2.2.2)
def cn_entry (W : Nat) (c : Cs) (k0 k1 : Nat) (w : Int32) : Int32 := if w = 0 then c.1.1 (k0 * W + k1) else if w = 1 then c.1.2.1 (k0 * W + k1) else c.1.2.2.1 (k0 * W + k1)
def cn_row (c : Cs) (k : Nat) (w : Int32) : Int32 := if w = 0 then c.2.1.1 k else c.2.1.2.1 k
def cn_queued (c : Cs) (k : Nat) (w : Int32) : Int32 := if w = 0 then c.2.2.2.1.1 (qf_ix c.2.2.2.1 k) else c.2.2.2.1.2.1 (qf_ix c.2.2.2.1 k)
/-! .. and the reference's -/
def mn_tell (S W sb : Nat) (m : Ms) (p : Int32) : Int32 := mf_tell m.1 m.2.1 m.2.2.1 p (mf_find S W sb m.1 p)
def mn_th (m : Ms) (t : Int32) : Ms := (m.1, m.2.1, m.2.2.1, m.2.2.2.1, m.2.2.2.2.1, m.2.2.2.2.2.1, t)
def mn_next (S W sb L : Nat) (m : Ms) (p : Int32) : Ms := (m.1, m.2.1, mf_nextR L m.1 m.2.2.1 p (mf_find S W sb m.1 p), mf_addQ m.2.2.2.1 m.2.2.1 p (mn_tell S W sb m p), m.2.2.2.2.1, m.2.2.2.2.2.1, 0)
def mn_entry (m : Ms) (k0 k1 : Nat) (w : Int32) : Int32 := if m.1.1 (4 * k0 + k1) = 0 then (if w = 0 then -1 else 0) else if w = 0 then m.1.2.1 (4 * k0 + k1) else if w = 1 then m.1.2.2.1 (4 * k0 + k1) else m.1.2.2.2.1 (4 * k0 + k1)
def mn_row (m : Ms) (k : Nat) (w : Int32) : Int32 := if w = 0 then m.2.1.1 k else m.2.1.2.1 k
def mn_queued (m : Ms) (k : Nat) (w : Int32) : Int32 := if w = 0 then m.2.2.2.1.1 k else m.2.2.2.1.2.1 k
