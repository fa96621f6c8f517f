/-! ===== own rows: a method that throws an exception of one kind, having written nothing; its call under a handler of the caller ===== -/
/-- y, from every start with Pc, throws an E; nothing old is written; mc cells of ms slots may come -/
def KXm (l : Launch) (y : MethodName) (ws : List Cond) (rm : Room) (Pc : Array Value → State → Prop) (E : String) (mc ms : Nat) : Prop :=
  MetFree l y (headSpec ws rm) Pc (fun _ _ _ _ _ => True) (fun _ st o t => ∃ (q : Addr) (ce : Cell), o = .threw q ∧ t.heap[q]? = some ce ∧ ce.vm = .none ∧ st.vm.findClass E = some ce.cls ∧ st.WarmedH t.vm ∧ st.sameButNew ({ t with vm := st.vm } : State) [] mc ms)
/-- one row of a table of handlers, that speaks of the place: its class is linked, cold or warm -/
theorem kx_row {e : Env} {S : State} {f : JFrame} {a : Addr} {x : ExceptionTableEntry} {t : List ExceptionTableEntry} {k : ClassId} {cell : Cell} (hx : covers x f.pc = true) (h0 : x.catchType ≠ 0)
    (hl : S.vm.ClassLinks e.platform f.method.cls x.catchType k) (hcell : S.heap[a]? = some cell) (hobj : ∀ z, cell.vm ≠ .statics z) (hk : ∃ z, S.vm.classes[cell.cls]? = some z) (hc : ∃ z, S.vm.classes[k]? = some z)
    (Q : Handler → Pre) (E : CtlPost) (d : Bool) (acts : List Action) :
    wp (findHandler.go f a (x :: t)) Q E e d acts S ↔ (if S.vm.assignable cell.cls k = true then Q (.found x.handlerPc) d acts (S.setVm (S.vm.noted f.method.cls x.catchType (.cls k)))
      else wp (findHandler.go f a t) Q E e d acts (S.setVm (S.vm.noted f.method.cls x.catchType (.cls k)))) := by
  have hx' : (decide (x.startPc ≤ f.pc) && decide (f.pc < x.endPc)) = true := hx
  obtain ⟨ha, ht⟩ := (resolveClass_links e.toSetting hl).op (op := VmOp.resolveClass f.method.cls x.catchType) rfl
  have hal : S.vm.Alike (S.vm.noted f.method.cls x.catchType (.cls k)) := (Vm.Alike.refl S.vm).noted _ _ _
  obtain ⟨k1, hk1⟩ := hk
  obtain ⟨k2, hk2⟩ := hc
  obtain ⟨k1', hk1', -⟩ := hal.2.2 _ _ hk1
  obtain ⟨k2', hk2', -⟩ := hal.2.2 _ _ hk2
  have e9 : (S.vm.noted f.method.cls x.catchType (.cls k)).assignable cell.cls k = S.vm.assignable cell.cls k := hal.assignable ..
  cases hf : S.vm.assignable cell.cls k <;> rw [hf] at e9 <;> simp [findHandler.go, hx', h0, ha, ht, hcell, hobj, hk1', hk2', e9, VmOp.dirties, VmOp.acts]
/-- the search ends at a handler, and what it leaves of the tables -/
def kxF (e : Env) (S : State) (f : JFrame) (a : Addr) (tb : List ExceptionTableEntry) (pc : Nat) (vm' : Vm) : Prop :=
  ∀ (Q : Handler → Pre) (E : CtlPost) (d : Bool) (acts : List Action), wp (findHandler.go f a tb) Q E e d acts S ↔ Q (.found pc) d acts (S.setVm vm')
theorem kx_links {s S : State} {e : Env} {f : JFrame} {x : ExceptionTableEntry} {k : ClassId} (hW : s.WarmedH S.vm) (hl : s.vm.ClassLinks e.platform f.method.cls x.catchType k) :
    S.vm.ClassLinks e.platform f.method.cls x.catchType k ∧ (∃ z, S.vm.classes[k]? = some z) ∧ s.WarmedH (S.vm.noted f.method.cls x.catchType (.cls k)) := by
  obtain ⟨dk, _, _, kt, hd, _, _, _, _, hkt, _, hopen⟩ := hl.here
  obtain ⟨kt', hkt', -⟩ := hW.alike.2.2 _ _ hkt
  exact ⟨hW.classLinks hl, ⟨kt', hkt'⟩, hW.noted hd hopen (State.rightAt_cls hl)⟩
theorem kx_hit {s S : State} {e : Env} {f : JFrame} {a : Addr} {x : ExceptionTableEntry} {t : List ExceptionTableEntry} {k : ClassId} {cell : Cell} (hW : s.WarmedH S.vm) (hx : covers x f.pc = true) (h0 : x.catchType ≠ 0)
    (hl : s.vm.ClassLinks e.platform f.method.cls x.catchType k) (hcell : S.heap[a]? = some cell) (hobj : ∀ z, cell.vm ≠ .statics z) (hk : ∃ z, s.vm.classes[cell.cls]? = some z) (hfit : s.vm.assignable cell.cls k = true) :
    ∃ vm', s.WarmedH vm' ∧ kxF e S f a (x :: t) x.handlerPc vm' := by
  obtain ⟨h1, h2, h3⟩ := kx_links hW hl
  obtain ⟨z, hz⟩ := hk
  obtain ⟨z', hz', -⟩ := hW.alike.2.2 _ _ hz
  refine ⟨_, h3, fun Q E d acts => ?_⟩
  rw [kx_row hx h0 h1 hcell hobj ⟨z', hz'⟩ h2 Q E d acts, if_pos (by rw [hW.alike.assignable]; exact hfit)]
theorem kx_past {s S : State} {e : Env} {f : JFrame} {a : Addr} {x : ExceptionTableEntry} {t : List ExceptionTableEntry} {k : ClassId} {cell : Cell} {pc : Nat} (hW : s.WarmedH S.vm) (hx : covers x f.pc = true) (h0 : x.catchType ≠ 0)
    (hl : s.vm.ClassLinks e.platform f.method.cls x.catchType k) (hcell : S.heap[a]? = some cell) (hobj : ∀ z, cell.vm ≠ .statics z) (hk : ∃ z, s.vm.classes[cell.cls]? = some z) (hno : s.vm.assignable cell.cls k = false)
    (next : ∀ S' : State, s.WarmedH S'.vm → S'.heap = S.heap → ∃ vm', s.WarmedH vm' ∧ kxF e S' f a t pc vm') :
    ∃ vm', s.WarmedH vm' ∧ kxF e S f a (x :: t) pc vm' := by
  obtain ⟨h1, h2, h3⟩ := kx_links hW hl
  obtain ⟨z, hz⟩ := hk
  obtain ⟨z', hz', -⟩ := hW.alike.2.2 _ _ hz
  obtain ⟨vm', h4, h5⟩ := next (S.setVm (S.vm.noted f.method.cls x.catchType (.cls k))) h3 rfl
  refine ⟨vm', h4, fun Q E d acts => ?_⟩
  rw [kx_row hx h0 h1 hcell hobj ⟨z', hz'⟩ h2 Q E d acts, if_neg (by rw [hW.alike.assignable, hno]; decide)]
  exact h5 Q E d acts
section KXS
variable {p : Program} {l : Launch} {e : Env} {R : Room} {s : State} {m : MethodId} {args : Array Value} {below : List Frame} {meth : Method} {c : Code} {T : State} {H : Heap} {locs : List Loc} {cells slots : Nat} {Q : State → Prop}
/-- thrown over the frame g, found: on at the handler -/
theorem kx_caught (X : Stand p l e R s m args below meth c T locs cells slots) (a : Addr) {g : JFrame} (hg : g.method = m) {hpc : Nat} {vm' : Vm} (hW' : s.WarmedH vm')
    (hF : kxF e ((T.setTop g).pushFrame (.throwing a)) g a c.exceptionTable.toList hpc vm') :
    Stand p l e R s m args below meth c (T.setVm vm') locs cells slots ∧
      ∀ target, Steps p.tables e below ((T.setVm vm').setTop { g with pc := hpc, stack := [.ref a] }) target → Steps p.tables e below ((T.setTop g).pushFrame (.throwing a)) target := by
  subst hg
  refine ⟨X.noted hW', fun target hrest => ?_⟩
  have h : At T g.method c below := X.here
  obtain ⟨hgo, hw⟩ := h.throwing a
  have hfind : ∀ (Q : Handler → Pre) (E : CtlPost) (d : Bool) (acts : List Action), wp (findHandler g a) Q E e d acts ((T.setTop g).pushFrame (.throwing a)) ↔ Q (.found hpc) d acts (((T.setTop g).pushFrame (.throwing a)).setVm vm') := fun Q E d acts =>
    (W.findHandler_eq (s := (T.setTop g).pushFrame (.throwing a)) (f := g) (meth := meth) (code := c) X.method' X.code).trans (hF Q E d acts)
  generalize hS : (T.setTop g).pushFrame (.throwing a) = S at hfind hgo hw ⊢
  have hst : ∀ r : List Frame, (stepThrowing e S a (.java g :: r)).Is ((S.setVm vm').setFrames (.java { g with pc := hpc, stack := [.ref a] } :: r)) [] := by
    intro r
    simp only [stepThrowing, searchFrame, vmDo]
    generalize hr : Sem.go _ e false [] S = res
    obtain ⟨as, rfl, ha⟩ := Sem.eq_ok_of hr (a := Handler.found hpc) (s' := S.setVm vm') (acts' := []) (by simp [hfind _ _ _ _])
    exact ⟨rfl, ha⟩
  refine Steps.head hgo hw ?_
  have hfr : S.frames = .throwing a :: .java g :: T.frames.tail := by rw [← hS]; exact frames_entered h.top _
  rw [stepThread_throwing hfr, (hst _).1]
  obtain ⟨g₀, hg⟩ := Option.isSome_iff_exists.mp h.top
  obtain ⟨r, hr⟩ := State.topJava?_eq_some.mp hg
  have hr' : (T.setVm vm').frames = .java g₀ :: r := hr
  rw [State.setTop_of_frames _ hr'] at hrest
  have e1 : (S.setVm vm').setFrames (.java { g with pc := hpc, stack := [.ref a] } :: T.frames.tail) = (T.setVm vm').setFrames (.java { g with pc := hpc, stack := [.ref a] } :: r) := by
    have e0 : ∀ (u : State) (F G : List Frame), ((u.setFrames F).setVm vm').setFrames G = (u.setVm vm').setFrames G := fun u F G => by
      rw [show (u.setFrames F).setVm vm' = (u.setVm vm').setFrames F from rfl, State.setFrames_setFrames]
    rw [← hS, State.pushFrame, State.setTop_of_frames _ hr, State.setFrames_setFrames, e0, hr]
    rfl
  rw [e1]
  exact hrest
/-- a call of a method that throws, under a handler -/
theorem kx_call {y : MethodName} {bytes cc : ByteArray} {maxL nL mc ms n index pc hpc : Nat} {ret : Option FieldType} {ws : List Cond} {rm : Room} {Pc : Array Value → State → Prop} {E : String} {Ts : List Cond} {own C : String} {b : Addr} {As rest st0 : List Value} {ls : Array Slot}
    (S : CallFix p m c cc nL s args Ts own) (hM : KXm l y ws rm Pc E mc ms) (cw : CallW R s args own C index y bytes maxL ret ws rm mc ms n) (hp : PreV s H C b Pc As)
    (hn : As.length = n) (hsize : ls.size = nL) (hst : st0 = As.reverse ++ .ref b :: rest) (hW9 : (rest.map fun v => v.category).sum ≤ 8) (hdg : decode cc pc = .ok (.invokevirtual index, 3)) (hf : cells + mc ≤ R.cells ∧ slots + ms ≤ R.slots)
    (hfind : e.platform.magicAccessors = ({} : Platform).magicAccessors → ∀ (S' : State) (q : Addr) (ce : Cell), s.WarmedH S'.vm → S'.heap[q]? = some ce → ce.vm = .none → s.vm.findClass E = some ce.cls → ∃ vm', s.WarmedH vm' ∧ kxF e S' (F0 m pc ls rest) q c.exceptionTable.toList hpc vm')
    (kk : ∀ (q : Addr) (H1 : Heap), H.size ≤ H1.size → (∀ z : Nat, z < H.size → H1[z]? = H[z]?) → W p l e R s m args below meth c H1 locs (cells + mc) (slots + ms) Q (F0 m hpc ls [.ref q])) :
    W p l e R s m args below meth c H locs cells slots Q (F0 m pc ls st0) := by
  intro T hT X
  obtain ⟨⟨hrc, hrs, hfr, hlo, hws, hcw, hcode, hini, hy, hlen, hl⟩, hin, hse⟩ := cw
  obtain ⟨hx, hb, hml, ho, -⟩ := S
  obtain ⟨hbl, ⟨cellB, hcB, hoB, hclB⟩, hPc⟩ := hp
  obtain ⟨mk, methM, hnamed, hmethM, hstM, habM⟩ := Cond.instanceMethod_spec hin
  obtain ⟨methM', cM, hmethM', -, -, -, -, -, -, hsigM⟩ := Cond.code_spec hnamed hcode
  cases hmethM.symm.trans hmethM'
  obtain ⟨c2, r2, m2, q1, q2, q3, q4, kP, hkP, hkPi⟩ := Cond.selects_spec hse
  cases hclB.symm.trans q1
  cases (State.methodFound?_of_named hnamed hy).symm.trans q2
  cases hnamed.symm.trans q3
  have hselP : selectMethod e.platform s.vm cellB.cls mk = .method mk := by rw [Launch.admits_selectMethod X.admits]; exact q4
  obtain ⟨vm₁, X₁, hstep₁⟩ := X.invokevirtual hx ho hl hnamed hmethM hstM hkP hkPi hy (a := b) (cell := cellB) (by rw [hT]; exact hcB)
    (fun z h => by rw [h] at hoB; cases hoB) hselP hmethM habM hkP hkPi (g := F0 m pc ls st0) rfl (argsL := As) (rest := rest) (hn.trans (hlen _ hsigM)) hst (by rw [hb]; exact hdg)
  have hW₁ := X₁.warmed
  have hPc1 : Pc (Value.ref b :: As).toArray (T.setVm vm₁) := hPc (T.setVm vm₁) hT hW₁
  have hmk := X₁.named hnamed
  have hT1 : (T.setVm vm₁).heap = H := hT
  generalize hU : T.setVm vm₁ = U at X₁ hstep₁ hPc1 hmk hT1
  generalize ha : (Value.ref b :: As).toArray = a at hPc1 hstep₁
  have hg : (F0 m pc ls rest).method = m := rfl
  have h : At U (F0 m pc ls rest).method c below := X₁.here
  have hdg' : decode c.code (F0 m pc ls rest).pc = .ok (.invokevirtual index, 3) := by rw [hb]; exact hdg
  have h1 : (headSpec ws rm).pre.before a U = true := atoms_intro fun w hw => hws w hw _ _ X₁.warmed
  have h2 : (Cond.code y bytes maxL ret).before a U = true := hws _ hcw _ _ X₁.warmed
  have h3 : (Cond.initialized y.cls).before a U = true := word_at X₁.warmed (Or.inl (by first | rfl | simp [Cond.onTables, Cond.keeps, Cond.steady])) hini
  obtain ⟨methY, cY, hmY, hcY, -, hlY, -, -, -, -⟩ := Cond.code_spec hmk h2
  obtain ⟨kY, hkY, -⟩ := className_of_methodNamed hmk
  have hinitY : kY.init = .initialized := Cond.initialized_spec (findClass_of_methodNamed hmk) hkY h3
  have happ : (headSpec ws rm).appliesLoose y e.platform (U.calling (F0 m pc ls rest) mk a) = true :=
    Spec.appliesLoose_calling (g := F0 m pc ls rest) h hdg' hmk hkY hinitY
      (X₁.room_calling (g := F0 m pc ls rest) (R' := (headSpec ws rm).room) (hsize.trans hml.symm) hmY hcY hfr (by
        rw [hlY]
        show 2 * 0 + (rest.map fun v => v.category).sum + (maxL + 11) + rm.locals ≤ R.locals
        omega) (by rw [show (headSpec ws rm).room.cells = mc from hrc]; exact hf.1) (by rw [show (headSpec ws rm).room.slots = ms from hrs]; exact hf.2)) h1
  obtain ⟨mid, hmid⟩ := h.above
  have hfr9 : (U.setTop (F0 m pc ls rest)).frames = (.java (F0 m pc ls rest) :: mid) ++ below := by rw [State.frames_setTop' _ h.top, hmid]; rfl
  obtain ⟨o, s₂, hsteps, -, hend, q, ce, rfl, hce, hcv, hcl, hW₂, hsm⟩ := Steps.callFree hM p X₁.admits X₁.cas X₁.clock (acts := []) hfr9 happ (hbl _ _ _ _ hPc1) trivial
  rw [State.frames_setTop' _ h.top] at hend
  obtain ⟨g₀, hg0⟩ := Option.isSome_iff_exists.mp h.top
  obtain ⟨r, hr⟩ := State.topJava?_eq_some.mp hg0
  have hW' : U.WarmedH s₂.vm := hW₂
  have hsm : (U.calling (F0 m pc ls rest) mk a).sameButNew ({ s₂ with vm := (U.calling (F0 m pc ls rest) mk a).vm } : State) [] mc ms := hsm
  obtain ⟨V, hV⟩ : ∃ V : State, V = ({ U with heap := s₂.heap, slotsUsed := s₂.slotsUsed } : State).setVm s₂.vm := ⟨_, rfl⟩
  have hr' : V.frames = .java g₀ :: r := by rw [hV]; exact hr
  have hs₂ : s₂ = (V.setTop (F0 m pc ls rest)).pushFrame (.throwing q) := by
    obtain ⟨e2, -⟩ := id hsm
    have e3 : s₂ = ({ (U.calling (F0 m pc ls rest) mk a).setFrames s₂.frames with heap := s₂.heap, slotsUsed := s₂.slotsUsed } : State).setVm s₂.vm := by
      have e4 : s₂ = ({ s₂ with vm := (U.calling (F0 m pc ls rest) mk a).vm } : State).setVm s₂.vm := rfl
      rw [e2] at e4
      exact e4
    have hf₂ : s₂.frames = .throwing q :: .java (F0 m pc ls rest) :: U.frames.tail := hend
    refine e3.trans ?_
    rw [hf₂, State.calling_eq h.top, State.setFrames_setFrames, State.pushFrame, State.frames_setTop _ hr', State.setTop_of_frames _ hr', State.setFrames_setFrames, hr, hV]
    rfl
  have hsame : U.sameButNew ({ U with heap := s₂.heap, slotsUsed := s₂.slotsUsed } : State) [] mc ms := by
    obtain ⟨-, q2, q3, q4, q5, q6⟩ := id hsm
    refine ⟨?_, q2, q3, q4, q5, q6⟩
    obtain ⟨t, ht, -⟩ := State.frames_cons hr
    show ({ U with heap := s₂.heap, slotsUsed := s₂.slotsUsed } : State) = { U.setFrames U.frames with heap := s₂.heap, slotsUsed := s₂.slotsUsed }
    rw [State.setFrames_self ht]
  have XV : Stand p l e R s m args below meth c V (locs ++ []) (cells + mc) (slots + ms) := by
    rw [hV]
    exact ⟨X₁.admits, X₁.cas, X₁.clock, X₁.frames, X₁.room, X₁.hears, X₁.method, X₁.code, (X₁.here.setHeapUsed s₂.heap s₂.slotsUsed).setVm hW'.alike, X₁.tail, State.WarmedH.trans X₁.warmed hW', X₁.limits, X₁.bytes, X₁.same.trans (hsame.setVm s.vm)⟩
  rw [List.append_nil] at XV
  have hVh : V.heap = s₂.heap := by rw [hV]; rfl
  have hcls : s.vm.findClass E = some ce.cls := by
    have h9 : U.vm.findClass E = some ce.cls := hcl
    rw [X₁.warmed.alike.findClass] at h9
    exact h9
  have hpl : e.platform.magicAccessors = ({} : Platform).magicAccessors := by rw [X.admits.platform]
  obtain ⟨vm', hW3, hF⟩ := hfind hpl ((V.setTop (F0 m pc ls rest)).pushFrame (.throwing q)) q ce XV.warmed (by show V.heap[q]? = some ce; rw [hVh]; exact hce) hcv hcls
  obtain ⟨X3, st3⟩ := kx_caught XV q (g := F0 m pc ls rest) rfl hW3 hF
  have hold : H.size ≤ V.heap.size ∧ ∀ z : Nat, z < H.size → V.heap[z]? = H[z]? := by
    obtain ⟨-, h2, -, -, -, h6⟩ := hsame
    rw [hVh, ← hT1]
    refine ⟨h2, fun z hz => ?_⟩
    obtain ⟨c9, e1, e2, e3, e4⟩ := h6 z _ (Array.getElem?_eq_getElem hz)
    have hs : c9.slots = (U.heap[z]).slots := Array.ext_getElem? fun i => e4 i fun hm => nomatch hm
    have h9 : c9 = U.heap[z] := by
      rw [hs] at e2
      exact e2
    have e5 : s₂.heap[z]? = some c9 := e1
    rw [e5, h9, Array.getElem?_eq_getElem hz]
  obtain ⟨t, a1, b1⟩ := kk q V.heap hold.1 hold.2 (V.setVm vm') rfl X3
  refine ⟨t, hstep₁ _ fun acts => ?_, b1⟩
  rw [doInvoke_state]
  refine hsteps.trans ?_
  rw [hs₂]
  exact st3 t a1
end KXS
