/-! ===== own rows: 'throw new E("text")' where nothing has been written yet ===== -/
def kxQ (below : List Frame) (E : String) (s : State) (mc ms : Nat) : State → Prop := fun t => ∃ (q : Addr) (ce : Cell), t.status = .running ∧ Ended t below (.threw q) ∧ t.heap[q]? = some ce ∧ ce.vm = .none ∧ s.vm.findClass E = some ce.cls ∧ s.WarmedH t.vm ∧ s.sameButNew ({ t with vm := s.vm } : State) [] mc ms
theorem kx_of {l : Launch} {y : MethodName} {ws ws' : List Cond} {rm : Room} {Pc : Array Value → State → Prop} {E : String} {mc ms : Nat} {cc : ByteArray} {maxL : Nat} {ret : Option FieldType}
    (hy : plainName y.cls = true) (hw : ws = Cond.code y cc maxL ret :: ws')
    (body : ∀ p e s m args below meth c s₁, BodyLoose p l y (headSpec ws rm) cc maxL ret e s m args below meth c s₁ → c.maxLocals = maxL → c.exceptionTable.toList = [] → Pc args s →
      W p l e (headSpec ws rm).room s m args below meth c s.heap [] 0 0 (kxQ below E s mc ms) (entryFrame m args maxL)) : KXm l y ws rm Pc E mc ms := by
  refine MetFree.of_bodyS (code := cc) (maxLocals := maxL) (ret := ret) hy ?_ ?_
  · intro args s m h hn
    obtain ⟨meth, c, h1, h2, h3, h4, h5, h6, -, -⟩ := Cond.code_spec hn (atoms_spec (ws := ws) h _ (by rw [hw]; exact List.mem_cons_self))
    exact ⟨meth, c, h1, h2, h3, h4, h5, h6⟩
  · intro p e s m args below meth c s₁ B hml hP _
    have hh0 : s₁.heap = s.heap := by rw [B.state]; rfl
    have ht : c.exceptionTable.toList = [] := by
      obtain ⟨meth9, c9, h1, h2, -, -, -, -, h7, -⟩ := Cond.code_spec B.named (atoms_spec (ws := ws) B.pre _ (by rw [hw]; exact List.mem_cons_self))
      cases Option.some.inj (h1.symm.trans B.method)
      cases Option.some.inj (h2.symm.trans (Stand.of_body B).code)
      rw [Array.isEmpty_iff.mp h7]
    obtain ⟨t, a1, q, ce, b1, b2, b3⟩ := body p e s m args below meth c s₁ B hml ht hP s₁ hh0 (Stand.of_body B)
    exact ⟨t, .threw q, a1, b1, b2, q, ce, rfl, b3⟩
theorem kx_throw {p : Program} {l : Launch} {e : Env} {R : Room} {s : State} {m : MethodId} {args : Array Value} {below : List Frame} {meth : Method} {c : Code} {cc : ByteArray} {pc : Nat} {ls : Array Slot} {rest : List Value}
    (hexec : p.tables.exec = Jvm.exec) (hb : c.code = cc) (hl : l.stackTraces = false) {own cls text : String} {names : List String} {ik is ic : Nat}
    (hown : s.vm.findClass own = some m.cls) (hcls : Bundle.fit cls = true) (hnames : ∀ n ∈ names, Bundle.fit n = true)
    (hk : (Cond.classLink own ik cls).before args s = true) (hini : (Cond.initialized cls).before args s = true) (hs : (Cond.stringRef own is text).before args s = true) (h : ∀ w ∈ Bundle.ownAtoms own ic cls names, w.before args s = true)
    (hsize : ls.size = c.maxLocals) (d0 : decode cc pc = .ok (.new ik, 3)) (d3 : decode cc (pc + 3) = .ok (.dup, 1)) (d4 : decode cc (pc + 4) = .ok (.ldc is, 2)) (d6 : decode cc (pc + 6) = .ok (.invokespecial ic, 3)) (d9 : decode cc (pc + 9) = .ok (.athrow, 1))
    (hout : c.exceptionTable.toList = []) (hRframes : names.length + 3 < R.frames) (hRlocals : (rest.map fun v => v.category).sum + (13 * (names.length + 1) + 43) ≤ R.locals) (hRcells : 1 ≤ R.cells) (hRslots : 6 ≤ R.slots) (hlocks : meth.locks = false) :
    W p l e R s m args below meth c s.heap [] 0 0 (kxQ below cls s 1 6) (F0 m pc ls rest) := by
  intro T hT X
  have htr : e.platform.stackTraces = false := (show e.platform.stackTraces = l.stackTraces by rw [X.admits.platform]).trans hl
  have hins : (Cond.instantiable cls 6).before args s = true := h _ (by simp [Bundle.ownAtoms])
  obtain ⟨vm₁, cX, kX, hfX, hkX, -, -, X₁, st1⟩ := X.newCold hexec (own := own) (C := cls) (index := ik) (n := 6) hown hk hins hini (g := F0 m pc ls rest) rfl (by rw [hb]; exact d0) (by omega) (by omega)
  generalize hT1 : (T.setVm vm₁).pushCell { cls := cX, slots := kX.instanceTypes.map defaultValue, vm := .none } = T1 at X₁ st1
  have hcat : (Value.ref T.heap.size).category = 1 := rfl
  have hcellA : T1.heap[T.heap.size]? = some (freshCell cX kX) := by rw [← hT1]; exact State.heap_pushCell_size _ _
  have d3' : decode c.code (pc + 3) = .ok (.dup, 1) := by rw [hb]; exact d3
  have d4' : decode c.code (pc + 4) = .ok (.ldc is, 2) := by rw [hb]; exact d4
  obtain ⟨-, -, -, sa, -, -, -, -, -, hev⟩ := Cond.stringRef_spec hown hs
  obtain ⟨U, hsteps, hrun, hend, hW, hsame, ce, hce, hO⟩ := X₁.ctorThrowS hexec htr (own := own) (cls := cls) (names := names) (ic := ic) hown hcls hnames h (fun x hx => nomatch hx) hfX hkX hcellA (by rw [hT]; exact Nat.le_refl _) (msg := .ref sa) rfl
    (g := { method := m, pc := pc + 6, locals := ls, stack := .ref sa :: .ref T.heap.size :: .ref T.heap.size :: rest, locked := none }) rfl hsize rfl rfl (rest := rest) rfl
    (by rw [hb]; exact d6) (by rw [hb]; exact d9) (by rw [hout]; exact fun x hx => nomatch hx) hRframes (by simp only [List.map_cons, List.sum_cons, hcat]; omega) hlocks
  refine ⟨U, st1 _ ?_, T.heap.size, ce, hrun, hend, hce, hO.vm, hO.cls, hW, hsame⟩
  show Steps p.tables e below (T1.setTop { method := m, pc := pc + 3, locals := ls, stack := .ref T.heap.size :: rest, locked := none }) _
  jvm_step X₁.here [X₁.here.top, hexec, d3', Value.category]
  exact X₁.ldcString hexec (own := own) (text := text) (index := is) (a := sa) hown hs hev
    (g := { method := m, pc := pc + 4, locals := ls, stack := .ref T.heap.size :: .ref T.heap.size :: rest, locked := none }) rfl d4' _ hsteps
/-! the words that are no good words: by the state where the law began -/
def kxE (k : Nat) : String := match k with
  | 0 => "java/lang/UnsupportedOperationException"
  | 1 => "java/lang/IllegalArgumentException"
  | 2 => "java/lang/IllegalStateException"
  | _ => "java/lang/IndexOutOfBoundsException"
def kxC (k : Nat) : Nat := match k with
  | 0 => 66
  | 1 => 83
  | 2 => 88
  | _ => 136
abbrev kxN : List String := ["java/lang/RuntimeException", "java/lang/Exception"]
def kzI (n : String) : MethodName := ⟨n, "<init>", "(Ljava/lang/String;)V"⟩
def kzW : List Cond := [.castable (kxE 0) (kxE 0), .castable (kxE 1) (kxE 1), .castable (kxE 2) (kxE 2), .castable (kxE 3) (kxE 3), .declares (kzI "java/lang/RuntimeException"), .declares (kzI "java/lang/Exception"), .declares (kzI "java/lang/Throwable"),
  .isRef (.static Bundle.tN "UNASSIGNED_STACK" Bundle.steD), .isRef (.static Bundle.tN "SUPPRESSED_SENTINEL" Bundle.listD), .laysStatic Bundle.tN "UNASSIGNED_STACK" Bundle.steD, .laysStatic Bundle.tN "SUPPRESSED_SENTINEL" Bundle.listD]
theorem kx_at0 : ∀ w ∈ Bundle.ownAtoms RX4 (kxC 0) (kxE 0) kxN, w ∈ kzW ∨ w ∈ kw_big := by decide +kernel
theorem kx_at1 : ∀ w ∈ Bundle.ownAtoms RX4 (kxC 1) (kxE 1) kxN, w ∈ kzW ∨ w ∈ kw_big := by decide +kernel
theorem kx_at2 : ∀ w ∈ Bundle.ownAtoms RX4 (kxC 2) (kxE 2) kxN, w ∈ kzW ∨ w ∈ kw_big := by decide +kernel
theorem kx_at3 : ∀ w ∈ Bundle.ownAtoms RX4 (kxC 3) (kxE 3) kxN, w ∈ kzW ∨ w ∈ kw_big := by decide +kernel
/-- since the root, nothing of its heap has changed -/
def kzR (root U : State) : Prop := root.WarmedH U.vm ∧ root.heap.size ≤ U.heap.size ∧ ∀ q : Nat, q < root.heap.size → U.heap[q]? = root.heap[q]?
/-- the String constants of the exceptions -/
def kzT (k : Nat) : Nat × String := match k with
  | 0 => (64, "the queue is full")
  | 1 => (81, "no such kind")
  | 2 => (86, "the queue is empty")
  | 3 => (134, "no such set or way")
  | 4 => (137, "no such what")
  | 5 => (145, "no such row")
  | 6 => (152, "the ring is not so deep")
  | _ => (157, "no such place in the queue")
/-- what the root says of every later state -/
def kzP (root : State) : Prop := ∀ (U : State) (a : Array Value), kzR root U → (∀ w ∈ kzW, w.before a U = true) ∧ (∀ k, k < 8 → (Cond.stringRef RX4 (kzT k).1 (kzT k).2).before a U = true) ∧ va_Nc (kxE 2) (kxE 1) U
theorem kz_isRef {C n d : String} {A : Nat → Prop} {s : State} {a : Array Value} (h : va_Zq C n d A s s.heap) : (Cond.isRef (.static C n d)).before a s = true := by
  have key : ∀ v : Value, va_Z C n d v A s s.heap → v.isRef = true → (Cond.isRef (.static C n d)).before a s = true := by
    intro v hz hv
    obtain ⟨cf, kf, fi, f, ad, cell, h1, h2, h3, h4, h5, h6, h7, -⟩ := hz
    have he : (Term.static C n d).eval a s none [] s = some v := by simp [Term.eval, State.fieldNamed?, h1, h2, h4, h5, h6, h7]
    simp only [Cond.before, Cond.holds, Cond.value, he]
    cases v <;> simp_all [Value.isRef]
  rcases h with h | ⟨t, h⟩
  · exact key _ h rfl
  · exact key _ h rfl
theorem kz_lays {C n d : String} {s U : State} {a a' : Array Value} (h : (Cond.laysStatic C n d).before a s = true) (hR : kzR s U) : (Cond.laysStatic C n d).before a' U = true := by
  obtain ⟨c, k, i, f, ad, cell, h1, h2, h3, h4, h5, h6, h7, h8, h9⟩ := Cond.laysStatic_spec h
  have hvm := hR.1.alike
  obtain ⟨k', hi', he⟩ := State.fieldFound?_setVm hvm h2
  show (Cond.laysStatic C n d).holds a' U none U [] = true
  exact Cond.laysStatic_of (by rw [hvm.findClass]; exact h1) hi' h3 (by rw [he]; exact h4) (by rw [hR.2.2 ad (Array.getElem?_eq_some_iff.mp h5).1]; exact h5) h6 h7 h8 (by rw [he]; exact h9)
/-- the root's own words give it -/
theorem kz_root {s : State} {a : Array Value} (h1 : ∀ w ∈ kzW, w.before a s = true) (hi : (Cond.initialized Bundle.tN).before a s = true) (h2 : ∀ k, k < 8 → (Cond.stringRef RX4 (kzT k).1 (kzT k).2).before a s = true) (hown : ∃ c, s.vm.findClass RX4 = some c) (hnc : va_Nc (kxE 2) (kxE 1) s) : kzP s := by
  intro U a' hR
  have hA : ∀ q : Nat, q < s.heap.size → ¬ (fun z : Nat => s.heap.size ≤ z) q := fun q h => Nat.not_le.mpr h
  have cst : ∀ C T : String, (Cond.castable C T).before a s = true → (Cond.castable C T).before a' U = true := fun C T h => va_Nw.use rfl (va_Nw.warmC hR.1 (va_Nw.of rfl h))
  have dcl : ∀ x : MethodName, (Cond.declares x).before a s = true → (Cond.declares x).before a' U = true := fun x h => va_Nw.use rfl (va_Nw.warmD hR.1 (va_Nw.of rfl h))
  have ref : ∀ n d : String, (Cond.isRef (.static Bundle.tN n d)).before a s = true → (Cond.laysStatic Bundle.tN n d).before a s = true → (Cond.isRef (.static Bundle.tN n d)).before a' U = true := fun n d g1 g2 =>
    kz_isRef (A := fun z : Nat => s.heap.size ≤ z) (va_Zq.moved hR.1.alike (va_Zq.kept (va_Zqof g2 hi g1 hA) (fun q hq _ => hR.2.2 q hq)))
  have g : ∀ (k : Nat) (w : Cond), kzW[k]? = some w → w.before a s = true := fun k w h => h1 w (List.mem_of_getElem? h)
  refine ⟨?_, fun k hk => ?_, va_Nc.moved hR.1.alike hnc⟩
  · intro w hw
    simp only [kzW, List.mem_cons, List.not_mem_nil, or_false] at hw
    rcases hw with rfl | rfl | rfl | rfl | rfl | rfl | rfl | rfl | rfl | rfl | rfl
    · exact cst _ _ (g 0 _ rfl)
    · exact cst _ _ (g 1 _ rfl)
    · exact cst _ _ (g 2 _ rfl)
    · exact cst _ _ (g 3 _ rfl)
    · exact dcl _ (g 4 _ rfl)
    · exact dcl _ (g 5 _ rfl)
    · exact dcl _ (g 6 _ rfl)
    · exact ref _ _ (g 7 _ rfl) (g 9 _ rfl)
    · exact ref _ _ (g 8 _ rfl) (g 10 _ rfl)
    · exact kz_lays (g 9 _ rfl) hR
    · exact kz_lays (g 10 _ rfl) hR
  · obtain ⟨c, hc⟩ := hown
    obtain ⟨-, -, -, sa, -, -, -, -, -, hev⟩ := Cond.stringRef_spec hc (h2 k hk)
    have hk1 : vk_R RX4 (kzT k).1 (kzT k).2 sa s := vk_R.of (h2 k hk) hev
    exact (vk_R.warm hR.1 hk1).1
theorem kPz_blind {D : va_G} {tys : List (ClassId × FieldType)} {w : va_W} {sz : Nat} {av : List Value} {root : State} : FrameBlind (va_Pc av (fun U => kP D tys w sz U ∧ kzR root U)) := fun a U g mk q => by
  obtain ⟨q0, ⟨q1, qP, qK, qD⟩, qR⟩ := q
  exact ⟨q0, ⟨q1, qP, va_K.moved (u := U) (U := U.calling g mk a) (Vm.Alike.refl U.vm) qK, qD⟩, qR⟩
theorem kz_pred {x : Int32} {n : Nat} (h : x < nI n) (hn : n < 2 ^ 30) : x ≤ nI n - 1 := by
  have h1 : x.toInt < (nI n).toInt := Int32.lt_iff_toInt_lt.mp h
  rw [nI_toInt (by omega)] at h1
  apply Int32.le_iff_toInt_le.mpr
  have h2 : (nI n - nI 1).toInt = (n : Int) - 1 := pk_sub_toInt hn (by decide)
  have h3 : (nI n - 1).toInt = (n : Int) - 1 := h2
  rw [h3]
  omega
