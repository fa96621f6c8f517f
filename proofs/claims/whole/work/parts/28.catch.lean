/-! ===== own rows: the law's helpers, which catch ===== -/
theorem kx_tab : ∀ (t : List ExceptionTableEntry) (hh : List (Nat × Nat × Nat × Nat)), t.map (fun h => (h.startPc, h.endPc, h.handlerPc, h.catchType)) = hh → t = hh.map (fun q => ⟨q.1, q.2.1, q.2.2.1, q.2.2.2⟩)
  | [], hh, h => by rw [← h]; rfl
  | x :: t, hh, h => by
    rw [← h, List.map_cons, List.map_cons, ← kx_tab t _ rfl]
theorem kx_table {p : Program} {l : Launch} {y : MethodName} {S : Spec} {cc bytes : ByteArray} {maxL maxL' : Nat} {ret ret' : Option FieldType} {e : Env} {s s₁ : State} {m : MethodId} {args : Array Value} {below : List Frame} {meth : Method} {c : Code} {hh : List (Nat × Nat × Nat × Nat)}
    (B : BodyLoose p l y S cc maxL ret e s m args below meth c s₁) (h : (Cond.codeWith y bytes maxL' ret' hh).before args s = true) : c.exceptionTable.toList = hh.map (fun q => ⟨q.1, q.2.1, q.2.2.1, q.2.2.2⟩) := by
  obtain ⟨m9, meth9, c9, hn9, h1, h2, -, -, h6, -⟩ := Cond.codeWith_spec h
  cases Option.some.inj (hn9.symm.trans B.named)
  cases Option.some.inj (h1.symm.trans B.method)
  cases Option.some.inj (h2.symm.trans (Stand.of_body B).code)
  exact kx_tab _ _ h6
section KXL
variable {e : Env} {s S' : State} {m : MethodId} {args : Array Value} {c : Code} {pc : Nat} {ls : Array Slot} {rest : List Value} {q : Addr} {ce : Cell} {own : String} {E : String}
theorem kx_find1 {x : ExceptionTableEntry} {t : List ExceptionTableEntry} (htab : c.exceptionTable.toList = x :: t) (hown : s.vm.findClass own = some m.cls) (hlink : (Cond.classLink own x.catchType E).before args s = true) (hcast : (Cond.castable E E).before args s = true)
    (hx : covers x pc = true) (h0 : x.catchType ≠ 0) (hpl : e.platform.magicAccessors = ({} : Platform).magicAccessors) (hW : s.WarmedH S'.vm) (hcell : S'.heap[q]? = some ce) (hv : ce.vm = .none) (hcl : s.vm.findClass E = some ce.cls) :
    ∃ vm', s.WarmedH vm' ∧ kxF e S' (F0 m pc ls rest) q c.exceptionTable.toList x.handlerPc vm' := by
  obtain ⟨c3, c4, hc3, hc4, hasg⟩ := Cond.castable_spec hcast
  cases Option.some.inj (hc3.symm.trans hcl)
  cases Option.some.inj (hc4.symm.trans hc3)
  obtain ⟨c5, hc5, hcl5⟩ := Cond.classLink_spec hown hlink e.platform hpl
  cases Option.some.inj (hc3.symm.trans hc5)
  rw [htab]
  obtain ⟨k9, h9, -⟩ := Vm.findClass_spec hcl
  exact kx_hit hW hx h0 hcl5 hcell (fun z h => by rw [hv] at h; cases h) ⟨k9, h9⟩ hasg
theorem kx_find2 {N : String} {x0 x : ExceptionTableEntry} {t : List ExceptionTableEntry} (htab : c.exceptionTable.toList = x0 :: x :: t) (hown : s.vm.findClass own = some m.cls) (hlink0 : (Cond.classLink own x0.catchType N).before args s = true) (hnc : va_Nc E N s) (hlink : (Cond.classLink own x.catchType E).before args s = true) (hcast : (Cond.castable E E).before args s = true)
    (hx0 : covers x0 pc = true) (h00 : x0.catchType ≠ 0) (hx : covers x pc = true) (h0 : x.catchType ≠ 0) (hpl : e.platform.magicAccessors = ({} : Platform).magicAccessors) (hW : s.WarmedH S'.vm) (hcell : S'.heap[q]? = some ce) (hv : ce.vm = .none) (hcl : s.vm.findClass E = some ce.cls) :
    ∃ vm', s.WarmedH vm' ∧ kxF e S' (F0 m pc ls rest) q c.exceptionTable.toList x.handlerPc vm' := by
  obtain ⟨c3, c4, hc3, hc4, hasg⟩ := Cond.castable_spec hcast
  cases Option.some.inj (hc3.symm.trans hcl)
  cases Option.some.inj (hc4.symm.trans hc3)
  obtain ⟨c5, hc5, hcl5⟩ := Cond.classLink_spec hown hlink e.platform hpl
  cases Option.some.inj (hc3.symm.trans hc5)
  obtain ⟨c6, hc6, hcl6⟩ := Cond.classLink_spec hown hlink0 e.platform hpl
  obtain ⟨a8, b8, g1, g2, g3⟩ := hnc
  cases Option.some.inj (g1.symm.trans hcl)
  cases Option.some.inj (g2.symm.trans hc6)
  rw [htab]
  obtain ⟨k9, h9, -⟩ := Vm.findClass_spec hcl
  have hobj : ∀ z, ce.vm ≠ .statics z := fun z h => by rw [hv] at h; cases h
  exact kx_past hW hx0 h00 hcl6 hcell hobj ⟨k9, h9⟩ g3 (fun S2 hW2 hh => kx_hit hW2 hx h0 hcl5 (by rw [hh]; exact hcell) hobj ⟨k9, h9⟩ hasg)
end KXL
theorem kz_step {root s U : State} (hR : kzR root s) (hU : U.heap = s.heap) (hW : s.WarmedH U.vm) : kzR root U := ⟨State.WarmedH.trans hR.1 hW, by rw [hU]; exact hR.2.1, fun q hq => by rw [hU]; exact hR.2.2 q hq⟩
theorem kx_keepP {D : va_G} {cl : List vw_C} {w : va_W} {H H1 : Heap} (hP : va_P D cl w H) (h : ∀ z : Nat, z < H.size → H1[z]? = H[z]?) : va_P D cl w H1 := hP.kept (fun k q hq => h q.1 (hP k q hq).lt)
theorem kx_keepS {A : Nat → Prop} {H0 H H1 : Heap} {locs : List Loc} (hS : va_S A H0 H locs) (h1 : H.size ≤ H1.size) (h : ∀ z : Nat, z < H.size → H1[z]? = H[z]?) : va_S A H0 H1 locs :=
  ⟨Nat.le_trans hS.1 h1, fun q a b => (h q (Nat.lt_of_lt_of_le a hS.1)).trans (hS.2.1 q a b), hS.2.2⟩
/-- as KI, from a state that the root reaches -/
abbrev KIz (l : Launch) (y : MethodName) (ws : List Cond) (rm : Room) (D : va_G) (tys : List (ClassId × FieldType)) (av : List Value) (w : va_W) (sz : Nat) (root : State) (w' : va_W) (r : Int32) (mc ms : Nat) : Prop :=
  Met l y ws rm (va_Pc av (fun U => kP D tys w sz U ∧ kzR root U)) (va_Qi (fun (r' : Int32) (_ : Unit) => r' = r) (fun _ t => kB D tys (va_A w sz) w' t) (va_A w sz)) mc ms (va_A w sz)
theorem kPz_at {D : va_G} {tys : List (ClassId × FieldType)} {w : va_W} {s root : State} {H : Heap} {A : Nat → Prop} {av : List Value} (hP : va_P D vwCl w H) (hK : va_K D vwCl tys s) (hD : va_D A w) (hR : root.WarmedH s.vm) (h1 : root.heap.size ≤ H.size) (h2 : ∀ q : Nat, q < root.heap.size → H[q]? = root.heap[q]?) :
    ∀ U : State, U.heap = H → s.WarmedH U.vm → va_Pc av (fun U => kP D tys w H.size U ∧ kzR root U) av.toArray U :=
  fun U hU hW => ⟨rfl, ⟨by rw [hU], by rw [hU]; exact hP, va_K.moved hW.alike hK, hD.weaken (fun _ _ _ _ => trivial)⟩, State.WarmedH.trans hR hW, by rw [hU]; exact h1, fun q hq => by rw [hU]; exact h2 q hq⟩
/-- a static call of a method with handlers -/
theorem kx_runS {p : Program} {l : Launch} {e : Env} {R : Room} {s : State} {m : MethodId} {args : Array Value} {below : List Frame} {meth : Method} {c : Code} {H : Heap} {locs : List Loc} {cells slots : Nat} {y : MethodName} {bytes cc : ByteArray} {maxL nL mc ms n index : Nat} {ret : Option FieldType} {hh : List (Nat × Nat × Nat × Nat)} {ws ws' : List Cond} {rm : Room} {Pc : Array Value → State → Prop} {Qc : Array Value → State → Outcome → State → Prop} {free : Addr → Prop} {Ts : List Cond} {own : String} {As rest : List Value} {g : JFrame}
    (S : CallFix p m c cc nL s args Ts own) (hM : Met l y ws rm Pc Qc mc ms free) (hT9 : GoodIn Ts (va_wsS own index y ws)) (hw : ws = Cond.codeWith y bytes maxL ret hh :: ws') (hrc : rm.cells = mc) (hrs : rm.slots = ms)
    (hd : y.cls ≠ "java/lang/invoke/MethodHandle" ∧ y.cls ≠ "java/lang/invoke/VarHandle" ∧ (parseMethodDescriptor y.desc).map (fun d => d.parameters.length) = some n) (hR : rm.frames + 1 ≤ R.frames ∧ 8 + (maxL + 11) + rm.locals ≤ R.locals) (hp : PreS s H Pc As)
    (hg : g.method = m) (hn : As.length = n) (hsize : g.locals.size = nL) (hstack : g.stack = As.reverse ++ rest) (hW : 2 * g.monitorRoom + (rest.map fun v => v.category).sum ≤ 8) (hdg : decode cc g.pc = .ok (.invokestatic index, 3)) (hf : cells + mc ≤ R.cells ∧ slots + ms ≤ R.slots) :
    va_Run p l e R s m args below meth c H locs cells slots mc ms g rest (Qc As.toArray) (free) := by
  obtain ⟨hx, hb, hml, ho, ht⟩ := S
  have ok : ∀ w ∈ va_wsS own index y ws, w.before args s = true := fun w h => ht w (hT9 w h).1
  have hG : GoodIn Ts ws := fun w h => hT9 w (by unfold va_wsS; exact List.mem_append_right _ h)
  have hc : Cond.codeWith y bytes maxL ret hh ∈ ws := by rw [hw]; exact List.mem_cons_self
  have hini : (Cond.initialized y.cls).before args s = true := ok _ (by simp [va_wsS])
  have hl : (Cond.methodLink own index y).before args s = true := ok _ (by simp [va_wsS])
  have hstt : (Cond.static y).before args s = true := ok _ (by simp [va_wsS])
  have hcode : (Cond.codeWith y bytes maxL ret hh).before args s = true := ht _ (hG _ hc).1
  have hK : Back l R p e below s args y 3 8 (PreOf R mc ms Pc) (PostOf Qc mc ms free) := va_backW (hh := hh) (bytes := bytes) (maxL := maxL) (ret := ret) hM hp.1 hrc hrs hR.1 hR.2 (pay_in ht hG) hc (fun a' U hW => word_at hW (Or.inl (by first | rfl | simp [Cond.onTables, Cond.keeps, Cond.steady])) hini)
  intro T hT X
  obtain ⟨mk, methM, cM, hnamed, hmethM, -, -, -, -, -, -, hsigM⟩ := Cond.codeWith_spec hcode
  have hstatic : methM.isStatic = true := Cond.static_spec hnamed hmethM hstt
  obtain ⟨kP, hkP, -⟩ := className_of_methodNamed hnamed
  have hinitP : kP.init = .initialized := Cond.initialized_spec (findClass_of_methodNamed hnamed) hkP hini
  have hlen : ∀ sig, parseMethodDescriptor y.desc = some sig → As.length = sig.parameters.length := fun sig h => by
    have h2 := hd.2.2
    rw [h] at h2
    exact hn.trans (Option.some.inj h2).symm
  obtain ⟨vm₁, X₁, hstep₁⟩ := X.invokestatic hx ho hl hnamed hmethM hstatic hkP hinitP ⟨hd.1, hd.2.1⟩ (g := g) hg (argsL := As) (rest := rest) (hlen _ hsigM) hstack (by rw [hb]; exact hdg)
  obtain ⟨v, ⟨U', l2, c2, s2⟩, X', ⟨g', mk', t, L, e1, e2, hq, h1, hL, h2, h3⟩, hsteps⟩ := hK m meth c ⟨T.setVm vm₁, locs, cells, slots⟩ { g with stack := rest } (.invokestatic index) mk As.toArray X₁ hg (hsize.trans hml.symm) (by rw [hb]; exact hdg) hW (X₁.named hnamed) ⟨hf.1, hf.2, hp.2 (T.setVm vm₁) hT X₁.warmed⟩
  dsimp only [Pt.U, Pt.locs, Pt.cells, Pt.slots] at X' e1 e2 h1 h2 h3 hsteps
  subst h1; subst h2; subst h3
  exact ⟨v, (T.setVm vm₁).calling g' mk' As.toArray, t, U', L, hT, X', hL, e1, e2, hq, fun target h => hstep₁ _ fun acts => by rw [doInvoke_state]; exact hsteps.trans h⟩
