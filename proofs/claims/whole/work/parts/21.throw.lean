/-- what a call that throws leaves: a new object of class X thrown, nothing that was there changed -/
def TQ (X : String) (mc ms : Nat) (st : State) (o : Outcome) (t : State) : Prop :=
  ∃ b : Addr, o = .threw b ∧ (∃ ce : Cell, t.heap[b]? = some ce ∧ ce.vm = .none ∧ st.vm.findClass X = some ce.cls) ∧ st.WarmedH t.vm ∧ st.sameButNew ({ t with vm := st.vm } : State) [] mc ms
/-- the contract of a method that throws -/
def MetT (l : Launch) (y : MethodName) (ws : List Cond) (rm : Room) (Pc : Array Value → State → Prop) (X : String) (mc ms : Nat) : Prop :=
  MetFree l y (headSpec ws rm) Pc (fun _ _ _ _ _ => True) (fun _ st o t => TQ X mc ms st o t)
def TE (below : List Frame) (X : String) (s : State) (mc ms : Nat) : State → Prop := fun t => ∃ o, t.status = .running ∧ Ended t below o ∧ TQ X mc ms s o t
theorem MetT.ofW {l : Launch} {y : MethodName} {ws ws' : List Cond} {rm : Room} {Pc : Array Value → State → Prop} {X : String} {mc ms : Nat} {cc : ByteArray} {maxL : Nat} {ret : Option FieldType}
    (hy : plainName y.cls = true) (hw : ws = Cond.code y cc maxL ret :: ws')
    (body : ∀ p e s m args below meth c s₁, BodyLoose p l y (headSpec ws rm) cc maxL ret e s m args below meth c s₁ → c.maxLocals = maxL → (∀ x ∈ c.exceptionTable.toList, False) → Pc args s →
      W p l e (headSpec ws rm).room s m args below meth c s.heap [] 0 0 (TE below X s mc ms) (entryFrame m args maxL)) : MetT l y ws rm Pc X mc ms := by
  refine MetFree.of_bodyS (code := cc) (maxLocals := maxL) (ret := ret) hy ?_ ?_
  · intro args s m h hn
    obtain ⟨meth, c, h1, h2, h3, h4, h5, h6, -, -⟩ := Cond.code_spec hn (atoms_spec (ws := ws) h _ (by rw [hw]; exact List.mem_cons_self))
    exact ⟨meth, c, h1, h2, h3, h4, h5, h6⟩
  · intro p e s m args below meth c s₁ B hml hP _
    have hh0 : s₁.heap = s.heap := by rw [B.state]; rfl
    have hex : ∀ x ∈ c.exceptionTable.toList, False := by
      obtain ⟨meth', c', h1, h2, -, -, -, -, h7, -⟩ := Cond.code_spec B.named (atoms_spec (ws := ws) B.pre _ (by rw [hw]; exact List.mem_cons_self))
      cases B.method.symm.trans h1
      have hc : meth.code = some c := (Stand.of_body B).code
      cases hc.symm.trans h2
      intro x hx
      rw [Array.isEmpty_iff] at h7
      rw [h7] at hx
      simp at hx
    obtain ⟨t, a1, o, b1, b2, b3⟩ := body p e s m args below meth c s₁ B hml hex hP s₁ hh0 (Stand.of_body B)
    exact ⟨t, o, a1, b1, b2, b3⟩
theorem keep_of {U V : State} {k n : Nat} (h : U.sameButNew V [] k n) (q : Addr) (cell : Cell) (hq : U.heap[q]? = some cell) : V.heap[q]? = some cell := by
  obtain ⟨c', h1, h2, h3, h4⟩ := h.2.2.2.2.2 q cell hq
  have e : c'.slots = cell.slots := Array.ext_getElem? (fun i => h4 i List.not_mem_nil)
  have e2 : c' = cell := h2.trans (by rw [e])
  rw [h1, e2]
/-- the premise on a callee that throws -/
def BackT (l : Launch) (R : Room) (p : Program) (e : Env) (below : List Frame) (s : State) (sargs : Array Value) (y : MethodName) (len wd : Nat) (Pre : Pt → Array Value → Prop) (X : String) (mc ms : Nat) : Prop :=
  ∀ (m : MethodId) (meth : Method) (c : Code) (U : State) (locs : List Loc) (cells slots : Nat) (g : JFrame) (ig : Instr) (mk : MethodId) (a : Array Value),
    Stand p l e R s m sargs below meth c U locs cells slots → g.method = m → g.locals.size = c.maxLocals → decode c.code g.pc = .ok (ig, len) →
    2 * g.monitorRoom + (g.stack.map fun v => v.category).sum ≤ wd → U.methodNamed? y = some mk → Pre ⟨U, locs, cells, slots⟩ a →
    ∃ (b : Addr) (V : State), Stand p l e R s m sargs below meth c V locs (cells + mc) (slots + ms) ∧ (∃ ce : Cell, V.heap[b]? = some ce ∧ ce.vm = .none ∧ U.vm.findClass X = some ce.cls) ∧ (∀ (q : Addr) (cell : Cell), U.heap[q]? = some cell → V.heap[q]? = some cell) ∧ U.heap.size ≤ V.heap.size ∧
      Steps p.tables e below (doInvoke e (U.setTop g) [] mk a).1 ((V.setTop g).pushFrame (.throwing b))
section THB
variable {l : Launch} {R : Room} {p : Program} {e : Env} {below : List Frame} {s : State} {sargs : Array Value} {y : MethodName} {len wd : Nat}
theorem backT {ws : List Cond} {rm : Room} {Pc : Array Value → State → Prop} {X : String} {mc ms : Nat} {bytes : ByteArray} {maxL : Nat} {ret : Option FieldType}
    (hM : MetT l y ws rm Pc X mc ms) (hblind : FrameBlind Pc) (hrc : rm.cells = mc) (hrs : rm.slots = ms)
    (hframes : rm.frames + 1 ≤ R.frames) (hlocals : wd + (maxL + 11) + rm.locals ≤ R.locals)
    (hws : ∀ w ∈ ws, ∀ a' U, s.WarmedH U.vm → w.before a' U = true) (hcode : Cond.code y bytes maxL ret ∈ ws) (hinit : ∀ a' U, s.WarmedH U.vm → (Cond.initialized y.cls).before a' U = true) :
    BackT l R p e below s sargs y len wd (PreOf R mc ms Pc) X mc ms := by
  intro m meth c U Ls c0 s0 g ig mk a X hg hsize hdg hW hn hp
  obtain ⟨hp1, hp2, hp3⟩ := hp
  have hp1 : c0 + mc ≤ R.cells := hp1
  have hp2 : s0 + ms ≤ R.slots := hp2
  have hp3 : Pc a U := hp3
  have h1 : (headSpec ws rm).pre.before a U = true := atoms_intro fun w hw => hws w hw _ _ X.warmed
  have h2 : (Cond.code y bytes maxL ret).before a U = true := hws _ hcode _ _ X.warmed
  have h3 := hinit a U X.warmed
  have hlo : wd + (maxL + 11) + (headSpec ws rm).room.locals ≤ R.locals := hlocals
  obtain ⟨methY, cY, hmY, hcY, -, hlY, -, -, -, -⟩ := Cond.code_spec hn h2
  obtain ⟨kY, hkY, -⟩ := className_of_methodNamed hn
  have hinitY : kY.init = .initialized := Cond.initialized_spec (findClass_of_methodNamed hn) hkY h3
  have h : At U g.method c below := by rw [hg]; exact X.here
  have happ : (headSpec ws rm).appliesLoose y e.platform (U.calling g mk a) = true :=
    Spec.appliesLoose_calling (g := g) h hdg hn hkY hinitY
      (X.room_calling (g := g) (R' := (headSpec ws rm).room) hsize hmY hcY hframes (by rw [hlY]; omega) (by rw [show (headSpec ws rm).room.cells = mc from hrc]; exact hp1) (by rw [show (headSpec ws rm).room.slots = ms from hrs]; exact hp2)) h1
  obtain ⟨mid, hmid⟩ := h.above
  have hfr : (U.setTop g).frames = (.java g :: mid) ++ below := by rw [State.frames_setTop' g h.top, hmid]; rfl
  obtain ⟨o, s₂, hsteps, -, hend, hq⟩ := Steps.callFree hM p X.admits X.cas X.clock (acts := []) hfr happ (hblind _ _ _ _ hp3) trivial
  rw [State.frames_setTop' g h.top] at hend
  obtain ⟨b, rfl, ⟨ce, hce1, hce2, hce3⟩, hW₂, hsame0⟩ := hq
  obtain ⟨e2, q2, q3, q4, q5, q6⟩ := id hsame0
  have e2 : ({ s₂ with vm := (U.calling g mk a).vm } : State) = { (U.calling g mk a).setFrames s₂.frames with heap := s₂.heap, slotsUsed := s₂.slotsUsed } := e2
  have e3 : s₂ = ({ (U.calling g mk a).setFrames s₂.frames with heap := s₂.heap, slotsUsed := s₂.slotsUsed } : State).setVm s₂.vm := by
    have : s₂ = ({ s₂ with vm := (U.calling g mk a).vm } : State).setVm s₂.vm := rfl
    rw [e2] at this
    exact this
  have hf₂ : s₂.frames = .throwing b :: .java g :: U.frames.tail := hend
  have hW' : U.WarmedH s₂.vm := hW₂
  obtain ⟨g₀, hg0⟩ := Option.isSome_iff_exists.mp h.top
  obtain ⟨r, hr⟩ := State.topJava?_eq_some.mp hg0
  have hs₂ : s₂ = ((({ U with heap := s₂.heap, slotsUsed := s₂.slotsUsed } : State).setVm s₂.vm).setTop g).pushFrame (.throwing b) := by
    have hr' : (({ U with heap := s₂.heap, slotsUsed := s₂.slotsUsed } : State).setVm s₂.vm).frames = .java g₀ :: r := hr
    refine e3.trans ?_
    rw [hf₂, State.calling_eq h.top, State.setFrames_setFrames, State.pushFrame, State.frames_setTop _ hr', State.setTop_of_frames _ hr', State.setFrames_setFrames, hr]
    rfl
  have hsame : U.sameButNew ({ U with heap := s₂.heap, slotsUsed := s₂.slotsUsed } : State) [] mc ms := by
    refine ⟨?_, q2, q3, q4, q5, q6⟩
    obtain ⟨t, ht, -⟩ := State.frames_cons hr
    show ({ U with heap := s₂.heap, slotsUsed := s₂.slotsUsed } : State) = { U.setFrames U.frames with heap := s₂.heap, slotsUsed := s₂.slotsUsed }
    rw [State.setFrames_self ht]
  subst hg
  have hst := X.same.trans (hsame.setVm s.vm)
  rw [List.append_nil] at hst
  refine ⟨b, (({ U with heap := s₂.heap, slotsUsed := s₂.slotsUsed } : State).setVm s₂.vm),
    ⟨X.admits, X.cas, X.clock, X.frames, X.room, X.hears, X.method, X.code, (X.here.setHeapUsed s₂.heap s₂.slotsUsed).setVm hW'.alike, X.tail, State.WarmedH.trans X.warmed hW', X.limits, X.bytes, hst⟩,
    ⟨ce, hce1, hce2, hce3⟩, fun q cell hq => keep_of hsame q cell hq, q2, ?_⟩
  rw [← hs₂]
  exact hsteps
end THB
section THC
variable {p : Program} {l : Launch} {e : Env} {R : Room} {s : State} {m : MethodId} {args : Array Value} {below : List Frame} {meth : Method} {c : Code} {T : State} {locs : List Loc} {cells slots : Nat}
theorem thrS (X : Stand p l e R s m args below meth c T locs cells slots) (hexec : p.tables.exec = Jvm.exec) {own : String} {index : Nat} {y : MethodName} {bytes : ByteArray} {maxL : Nat} {ret : Option FieldType}
    (hown : s.vm.findClass own = some m.cls) (hlink : (Cond.methodLink own index y).before args s = true) (hstat : (Cond.static y).before args s = true) (hinit : (Cond.initialized y.cls).before args s = true)
    (hcode : (Cond.code y bytes maxL ret).before args s = true) (hy : y.cls ≠ "java/lang/invoke/MethodHandle" ∧ y.cls ≠ "java/lang/invoke/VarHandle")
    {wd : Nat} {Pre : Pt → Array Value → Prop} {Xc : String} {mc ms : Nat} (hK : BackT l R p e below s args y 3 wd Pre Xc mc ms)
    {g : JFrame} (hg : g.method = m) (hsize : g.locals.size = c.maxLocals) {argsL rest : List Value} (hlen : ∀ sig, parseMethodDescriptor y.desc = some sig → argsL.length = sig.parameters.length)
    (hstack : g.stack = argsL.reverse ++ rest) (hW : 2 * g.monitorRoom + (rest.map fun v => v.category).sum ≤ wd) (hdg : decode c.code g.pc = .ok (.invokestatic index, 3))
    (hpre : ∀ vm₁, s.WarmedH vm₁ → Pre ⟨T.setVm vm₁, locs, cells, slots⟩ argsL.toArray) :
    ∃ (b : Addr) (V : State), Stand p l e R s m args below meth c V locs (cells + mc) (slots + ms) ∧ (∃ ce : Cell, V.heap[b]? = some ce ∧ ce.vm = .none ∧ s.vm.findClass Xc = some ce.cls) ∧ (∀ (q : Addr) (cell : Cell), T.heap[q]? = some cell → V.heap[q]? = some cell) ∧ T.heap.size ≤ V.heap.size ∧
      ∀ target, Steps p.tables e below ((V.setTop { g with stack := rest }).pushFrame (.throwing b)) target → Steps p.tables e below (T.setTop g) target := by
  obtain ⟨mk, hnamed⟩ := Cond.code_named hcode
  obtain ⟨methM, cM, hmethM, -, -, -, -, -, -, hsigM⟩ := Cond.code_spec hnamed hcode
  have hstatic : methM.isStatic = true := Cond.static_spec hnamed hmethM hstat
  obtain ⟨kP, hkP, -⟩ := className_of_methodNamed hnamed
  have hinitP : kP.init = .initialized := Cond.initialized_spec (findClass_of_methodNamed hnamed) hkP hinit
  obtain ⟨vm₁, X₁, hstep₁⟩ := X.invokestatic hexec hown hlink hnamed hmethM hstatic hkP hinitP hy (g := g) hg (argsL := argsL) (rest := rest) (hlen _ hsigM) hstack hdg
  obtain ⟨b, V, X', ⟨ce, h1, h2, h3⟩, h4, h5, hsteps⟩ := hK m meth c (T.setVm vm₁) locs cells slots { g with stack := rest } (.invokestatic index) mk argsL.toArray X₁ hg hsize hdg hW (X₁.named hnamed) (hpre vm₁ X₁.warmed)
  exact ⟨b, V, X', ⟨ce, h1, h2, (X₁.warmed.alike.findClass Xc none).symm.trans h3⟩, h4, h5, fun target h => hstep₁ _ fun acts => by rw [doInvoke_state]; exact hsteps.trans h⟩
theorem thrV (X : Stand p l e R s m args below meth c T locs cells slots) (hexec : p.tables.exec = Jvm.exec) {own C : String} {index : Nat} {y : MethodName} {bytes : ByteArray} {maxL : Nat} {ret : Option FieldType}
    (hown : s.vm.findClass own = some m.cls) (hlink : (Cond.methodLink own index y).before args s = true) (hinst : (Cond.instanceMethod y).before args s = true) (hsel : (Cond.selects C y y).before args s = true)
    (hcode : (Cond.code y bytes maxL ret).before args s = true) (hy : y.cls ≠ "java/lang/invoke/MethodHandle" ∧ y.cls ≠ "java/lang/invoke/VarHandle")
    {wd : Nat} {Pre : Pt → Array Value → Prop} {Xc : String} {mc ms : Nat} (hK : BackT l R p e below s args y 3 wd Pre Xc mc ms)
    {b0 : Addr} {cellB : Cell} (hcell : T.heap[b0]? = some cellB) (hobj : cellB.vm.isStatics = false) (hcls : s.vm.findClass C = some cellB.cls)
    {g : JFrame} (hg : g.method = m) (hsize : g.locals.size = c.maxLocals) {argsL rest : List Value} (hlen : ∀ sig, parseMethodDescriptor y.desc = some sig → argsL.length = sig.parameters.length)
    (hstack : g.stack = argsL.reverse ++ .ref b0 :: rest) (hW : 2 * g.monitorRoom + (rest.map fun v => v.category).sum ≤ wd) (hdg : decode c.code g.pc = .ok (.invokevirtual index, 3))
    (hpre : ∀ vm₁, s.WarmedH vm₁ → Pre ⟨T.setVm vm₁, locs, cells, slots⟩ (Value.ref b0 :: argsL).toArray) :
    ∃ (b : Addr) (V : State), Stand p l e R s m args below meth c V locs (cells + mc) (slots + ms) ∧ (∃ ce : Cell, V.heap[b]? = some ce ∧ ce.vm = .none ∧ s.vm.findClass Xc = some ce.cls) ∧ (∀ (q : Addr) (cell : Cell), T.heap[q]? = some cell → V.heap[q]? = some cell) ∧ T.heap.size ≤ V.heap.size ∧
      ∀ target, Steps p.tables e below ((V.setTop { g with stack := rest }).pushFrame (.throwing b)) target → Steps p.tables e below (T.setTop g) target := by
  obtain ⟨mk, methM, hnamed, hmethM, hstM, habM⟩ := Cond.instanceMethod_spec hinst
  obtain ⟨methM', cM, hmethM', -, -, -, -, -, -, hsigM⟩ := Cond.code_spec hnamed hcode
  cases hmethM.symm.trans hmethM'
  obtain ⟨c2, r2, m2, q1, q2, q3, q4, kP, hkP, hkPi⟩ := Cond.selects_spec hsel
  cases hcls.symm.trans q1
  cases (State.methodFound?_of_named hnamed hy).symm.trans q2
  cases hnamed.symm.trans q3
  have hselP : selectMethod e.platform s.vm cellB.cls mk = .method mk := by rw [Launch.admits_selectMethod X.admits]; exact q4
  obtain ⟨vm₁, X₁, hstep₁⟩ := X.invokevirtual hexec hown hlink hnamed hmethM hstM hkP hkPi hy (a := b0) (cell := cellB) hcell
    (fun z h => by rw [h] at hobj; cases hobj) hselP hmethM habM hkP hkPi (g := g) hg (argsL := argsL) (rest := rest) (hlen _ hsigM) hstack hdg
  obtain ⟨b, V, X', ⟨ce, h1, h2, h3⟩, h4, h5, hsteps⟩ := hK m meth c (T.setVm vm₁) locs cells slots { g with stack := rest } (.invokevirtual index) mk (Value.ref b0 :: argsL).toArray X₁ hg hsize hdg hW (X₁.named hnamed) (hpre vm₁ X₁.warmed)
  exact ⟨b, V, X', ⟨ce, h1, h2, (X₁.warmed.alike.findClass Xc none).symm.trans h3⟩, h4, h5, fun target h => hstep₁ _ fun acts => by rw [doInvoke_state]; exact hsteps.trans h⟩
/-- nothing has been done yet, and the call throws: so does the method -/
theorem tqOut {V : State} {g : JFrame} {b : Addr} {Xc : String} {mc ms : Nat} (X : Stand p l e R s m args below meth c V [] mc ms) (hlocks : meth.locks = false) (hce : ∃ ce : Cell, V.heap[b]? = some ce ∧ ce.vm = .none ∧ s.vm.findClass Xc = some ce.cls)
    (hg : g.method = m) (hlocked : g.locked = none) (hentered : g.entered = []) (hex : ∀ x ∈ c.exceptionTable.toList, False) :
    ∃ t, Steps p.tables e below ((V.setTop g).pushFrame (.throwing b)) t ∧ TE below Xc s mc ms t := by
  obtain ⟨h1, h2, h3, h4, h5⟩ := X.leaveThrown b hg hlocked hentered (fun x hx => (hex x hx).elim) hlocks
  exact ⟨_, h1, .threw b, h2, h3, b, rfl, hce, h4, h5⟩
end THC
abbrev xIA : String := "java/lang/IllegalArgumentException"
abbrev xUp : List String := ["java/lang/RuntimeException", "java/lang/Exception"]
section THW
variable {p : Program} {l : Launch} {e : Env} {R : Room} {s : State} {m : MethodId} {args : Array Value} {below : List Frame} {meth : Method} {c : Code} {H : Heap} {cc : ByteArray} {pc nL : Nat} {ls : Array Slot} {rest : List Value} {own : String} {index : Nat}
theorem r_thrS {n maxL mc ms : Nat} {y : MethodName} {bytes : ByteArray} {ret : Option FieldType} {rm : Room} {K : State → Prop} {As st : List Value} {Xc : String}
    (S : CallFix p m c cc nL s args lwg own) (hM : MetT l y (.code y bytes maxL ret :: lwg) rm (va_Pc As K) Xc mc ms) (hKb : ∀ (U : State) (g : JFrame) (mk : MethodId) (av : Array Value), K U → K (U.calling g mk av)) (hK : ∀ U : State, U.heap = H → s.WarmedH U.vm → K U)
    (h1 : Cond.methodLink own index y ∈ lwg) (h2 : Cond.static y ∈ lwg) (h4 : Cond.initialized y.cls ∈ lwg) (h5 : Cond.code y bytes maxL ret ∈ lwg) (hrc : rm.cells = mc) (hrs : rm.slots = ms)
    (hd : y.cls ≠ "java/lang/invoke/MethodHandle" ∧ y.cls ≠ "java/lang/invoke/VarHandle" ∧ (parseMethodDescriptor y.desc).map (fun d => d.parameters.length) = some n) (hR : rm.frames + 1 ≤ R.frames ∧ 8 + (maxL + 11) + rm.locals ≤ R.locals) (hRc : mc ≤ R.cells) (hRs : ms ≤ R.slots)
    (hex : ∀ x ∈ c.exceptionTable.toList, False) (hlocks : meth.locks = false) (hsize : ls.size = nL) (hn : As.length = n) (hst : st = As.reverse ++ rest) (hW : (rest.map fun v => v.category).sum ≤ 8) (hdg : decode cc pc = .ok (.invokestatic index, 3)) :
    W p l e R s m args below meth c H [] 0 0 (TE below Xc s mc ms) (F0 m pc ls st) := by
  subst hst
  intro T hT X
  obtain ⟨-, -, hfr, hlo, hws, hcw, hcode, hini, hy, hlen, hl⟩ := callB_of n S.2.2.2.2 (lwg_G h5) rfl hrc hrs (S.2.2.2.2 _ h4) (S.2.2.2.2 _ h1) hd hR
  have hB : BackT l R p e below s args y 3 8 (PreOf R mc ms (va_Pc As K)) Xc mc ms := backT (bytes := bytes) (maxL := maxL) (ret := ret) hM (fun a U g mk q => ⟨q.1, hKb U g mk a q.2⟩) hrc hrs hfr hlo hws hcw (fun a' U hW => word_at hW (Or.inl (by first | rfl | simp [Cond.onTables, Cond.keeps, Cond.steady])) hini)
  obtain ⟨b, V, X', hce, -, -, st⟩ := thrS X S.1 (bytes := bytes) (maxL := maxL) (ret := ret) S.2.2.2.1 hl (S.2.2.2.2 _ h2) hini hcode hy hB (g := F0 m pc ls (As.reverse ++ rest)) rfl (hsize.trans S.2.2.1.symm) (argsL := As) (rest := rest) (fun sig h => hn.trans (hlen sig h)) rfl (lv_room hW) (by rw [S.2.1]; exact hdg)
    (fun vm₁ hW₁ => ⟨by show 0 + mc ≤ R.cells; omega, by show 0 + ms ≤ R.slots; omega, rfl, hK (T.setVm vm₁) hT hW₁⟩)
  rw [Nat.zero_add, Nat.zero_add] at X'
  obtain ⟨t, h6, h7⟩ := tqOut (g := { F0 m pc ls (As.reverse ++ rest) with stack := rest }) X' hlocks hce rfl rfl rfl hex
  exact ⟨t, st t h6, h7⟩
theorem r_thrV {n maxL mc ms : Nat} {C : String} {y : MethodName} {bytes : ByteArray} {ret : Option FieldType} {rm : Room} {K : State → Prop} {b0 : Nat} {As st : List Value} {Xc : String}
    (S : CallFix p m c cc nL s args lwg own) (hM : MetT l y (.code y bytes maxL ret :: lwg) rm (va_Pc (.ref b0 :: As) K) Xc mc ms) (hKb : ∀ (U : State) (g : JFrame) (mk : MethodId) (av : Array Value), K U → K (U.calling g mk av)) (hK : ∀ U : State, U.heap = H → s.WarmedH U.vm → K U)
    (hrv : ∃ cell : Cell, H[b0]? = some cell ∧ cell.vm.isStatics = false ∧ s.vm.findClass C = some cell.cls)
    (h1 : Cond.methodLink own index y ∈ lwg) (h2 : Cond.instanceMethod y ∈ lwg) (h3 : Cond.selects C y y ∈ lwg) (h4 : Cond.initialized y.cls ∈ lwg) (h5 : Cond.code y bytes maxL ret ∈ lwg) (hrc : rm.cells = mc) (hrs : rm.slots = ms)
    (hd : y.cls ≠ "java/lang/invoke/MethodHandle" ∧ y.cls ≠ "java/lang/invoke/VarHandle" ∧ (parseMethodDescriptor y.desc).map (fun d => d.parameters.length) = some n) (hR : rm.frames + 1 ≤ R.frames ∧ 8 + (maxL + 11) + rm.locals ≤ R.locals) (hRc : mc ≤ R.cells) (hRs : ms ≤ R.slots)
    (hex : ∀ x ∈ c.exceptionTable.toList, False) (hlocks : meth.locks = false) (hsize : ls.size = nL) (hn : As.length = n) (hst : st = As.reverse ++ .ref b0 :: rest) (hW : (rest.map fun v => v.category).sum ≤ 8) (hdg : decode cc pc = .ok (.invokevirtual index, 3)) :
    W p l e R s m args below meth c H [] 0 0 (TE below Xc s mc ms) (F0 m pc ls st) := by
  subst hst
  intro T hT X
  obtain ⟨-, -, hfr, hlo, hws, hcw, hcode, hini, hy, hlen, hl⟩ := callB_of n S.2.2.2.2 (lwg_G h5) rfl hrc hrs (S.2.2.2.2 _ h4) (S.2.2.2.2 _ h1) hd hR
  obtain ⟨cellB, hr1, hr2, hr3⟩ := hrv
  have hB : BackT l R p e below s args y 3 8 (PreOf R mc ms (va_Pc (.ref b0 :: As) K)) Xc mc ms := backT (bytes := bytes) (maxL := maxL) (ret := ret) hM (fun a U g mk q => ⟨q.1, hKb U g mk a q.2⟩) hrc hrs hfr hlo hws hcw (fun a' U hW => word_at hW (Or.inl (by first | rfl | simp [Cond.onTables, Cond.keeps, Cond.steady])) hini)
  obtain ⟨b, V, X', hce, -, -, st⟩ := thrV X S.1 (C := C) (bytes := bytes) (maxL := maxL) (ret := ret) S.2.2.2.1 hl (S.2.2.2.2 _ h2) (S.2.2.2.2 _ h3) hcode hy hB (b0 := b0) (cellB := cellB) (by rw [hT]; exact hr1) hr2 hr3 (g := F0 m pc ls (As.reverse ++ .ref b0 :: rest)) rfl (hsize.trans S.2.2.1.symm) (argsL := As) (rest := rest) (fun sig h => hn.trans (hlen sig h)) rfl (lv_room hW) (by rw [S.2.1]; exact hdg)
    (fun vm₁ hW₁ => ⟨by show 0 + mc ≤ R.cells; omega, by show 0 + ms ≤ R.slots; omega, rfl, hK (T.setVm vm₁) hT hW₁⟩)
  rw [Nat.zero_add, Nat.zero_add] at X'
  obtain ⟨t, h6, h7⟩ := tqOut (g := { F0 m pc ls (As.reverse ++ .ref b0 :: rest) with stack := rest }) X' hlocks hce rfl rfl rfl hex
  exact ⟨t, st t h6, h7⟩
/-- new, dup, ldc, <init>, athrow -/
theorem r_newThrow {ix it ic q : Nat} {tx : String} (S : CallFix p m c cc nL s args lwg own) (htr : e.platform.stackTraces = false) (hat : ∀ w ∈ Bundle.ownAtoms own ic xIA xUp, w.before args s = true) (hZ : vk_R own it tx q s)
    (hcl : (Cond.classLink own ix xIA).before args s = true) (hini : (Cond.initialized xIA).before args s = true) (d0 : decode cc pc = .ok (.new ix, 3)) (d3 : decode cc (pc + 3) = .ok (.dup, 1)) (d4 : decode cc (pc + 3 + 1) = .ok (.ldc it, 2)) (d6 : decode cc (pc + 3 + 1 + 2) = .ok (.invokespecial ic, 3)) (d9 : decode cc (pc + 3 + 1 + 2 + 3) = .ok (.athrow, 1))
    (hsize : ls.size = nL) (hex : ∀ x ∈ c.exceptionTable.toList, False) (hlocks : meth.locks = false) (hRf : 5 < R.frames) (hRl : 90 ≤ R.locals) (hRc : 1 ≤ R.cells) (hRs : 6 ≤ R.slots) :
    W p l e R s m args below meth c s.heap [] 0 0 (TE below xIA s 1 6) (F0 m pc ls []) := by
  refine W.newc (n := 6) S.1 S.2.1 S.2.2.2.1 hcl (hat (.instantiable xIA 6) (by simp [Bundle.ownAtoms])) hini rfl d0 (by omega) (by omega) (fun cC kC h1 h2 h3 h4 => ?_)
  refine lv_dup S.1 S.2.1 d3 rfl ?_
  refine va_ldcS S.1 S.2.1 S.2.2.2.1 hZ d4 ?_
  intro T hT X
  have hc : T.heap[s.heap.size]? = some (freshCell cC kC) := by
    rw [hT]
    exact Array.getElem?_push_size
  obtain ⟨U, h5, h6, h7, h8, h9, ce, h10, h11⟩ := X.ctorThrowS S.1 htr (own := own) (cls := xIA) (names := xUp) (ic := ic) S.2.2.2.1 (by decide) (by decide) hat (fun x hx => by cases hx) h1 h2 hc (Nat.le_refl _) (msg := .ref q) rfl
    (g := F0 m (pc + 3 + 1 + 2) ls [.ref q, .ref s.heap.size, .ref s.heap.size]) rfl (hsize.trans S.2.2.1.symm) rfl rfl (rest := []) rfl (by rw [S.2.1]; exact d6) (by rw [S.2.1]; exact d9) (fun x hx => (hex x hx).elim) (by show 2 + 3 < R.frames; omega) (by show 0 + 1 + (13 * (2 + 1) + 42) ≤ R.locals; omega) hlocks
  exact ⟨U, h5, .threw _, h6, h7, _, rfl, ⟨ce, h10, h11.vm, h11.cls⟩, h8, h9⟩
end THW
section CAT
variable {p : Program} {l : Launch} {e : Env} {R : Room} {s : State} {m : MethodId} {args : Array Value} {below : List Frame} {meth : Method} {c : Code} {T : State} {locs : List Loc} {cells slots : Nat}
/-- caught by the one row of the table, whose class may not be resolved yet -/
theorem catchCold (X : Stand p l e R s m args below meth c T locs cells slots) {own name : String} {b : Addr} {cell : Cell} {x : ExceptionTableEntry} (hown : s.vm.findClass own = some m.cls) (hlink : (Cond.classLink own x.catchType name).before args s = true)
    (hcell : T.heap[b]? = some cell) (hobj : cell.vm = .none) (hcls : s.vm.findClass name = some cell.cls) (htab : c.exceptionTable.toList = [x]) (h0 : x.catchType ≠ 0) {g : JFrame} (hg : g.method = m) (hx : covers x g.pc = true) :
    ∃ vm', Stand p l e R s m args below meth c (T.setVm vm') locs cells slots ∧ ∀ target, Steps p.tables e below ((T.setVm vm').setTop { g with pc := x.handlerPc, stack := [.ref b] }) target → Steps p.tables e below ((T.setTop g).pushFrame (.throwing b)) target := by
  have hpl : e.platform.magicAccessors = ({} : Platform).magicAccessors := by rw [X.admits.platform]
  obtain ⟨c', hc', hcl⟩ := Cond.classLink_spec hown hlink e.platform hpl
  cases hcls.symm.trans hc'
  obtain ⟨dk, _, _, kt, hd, _, _, _, _, hkt, _, hopen⟩ := hcl.here
  have hcl₀ := X.warmed.classLinks hcl
  have hW' : s.WarmedH (T.vm.noted m.cls x.catchType (.cls cell.cls)) := X.warmed.noted hd hopen (State.rightAt_cls hcl)
  obtain ⟨kt', hkt', -⟩ := hW'.alike.2.2 _ _ hkt
  refine ⟨_, X.noted hW', fun target hrest => ?_⟩
  subst hg
  have h : At T g.method c below := X.here
  obtain ⟨ha, ht⟩ := (resolveClass_links e.toSetting hcl₀).op (op := VmOp.resolveClass g.method.cls x.catchType) rfl
  have hasg : (T.vm.noted g.method.cls x.catchType (.cls cell.cls)).assignable cell.cls cell.cls = true := va_asg _ _
  have hsz : (T.vm.noted g.method.cls x.catchType (.cls cell.cls)).classes.size ≤ T.vm.classes.size := by no_record
  have hm : ((T.setTop g).pushFrame (.throwing b)).vm.method? g.method = some meth := by rw [Stand.throwing_vm]; exact X.method'
  have hfind : ∀ (Q : Handler → Pre) (E : CtlPost) (d : Bool) (acts : List Action), wp (findHandler g b) Q E e d acts ((T.setTop g).pushFrame (.throwing b)) ↔ Q (.found x.handlerPc) d acts (((T.setTop g).pushFrame (.throwing b)).setVm (T.vm.noted g.method.cls x.catchType (.cls cell.cls))) := by
    intro Q E d acts
    rw [W.findHandler_eq hm X.code, htab]
    simp only [covers] at hx
    simp [findHandler.go, hx, h0, ha, ht, hsz, hcell, hobj, hkt', hasg, Stand.throwing_vm, Stand.throwing_heap, VmOp.dirties, VmOp.acts]
  have hst : (stepThrowing e ((T.setTop g).pushFrame (.throwing b)) b (.java g :: T.frames.tail)).1 = ((((T.setTop g).pushFrame (.throwing b)).setVm (T.vm.noted g.method.cls x.catchType (.cls cell.cls))).setFrames (.java { g with pc := x.handlerPc, stack := [.ref b] } :: T.frames.tail)) := by
    simp only [stepThrowing, searchFrame, vmDo]
    generalize hr : Sem.go _ e false [] ((T.setTop g).pushFrame (.throwing b)) = res
    obtain ⟨as, rfl, ha⟩ := Sem.eq_ok_of hr (a := Handler.found x.handlerPc) (s' := ((T.setTop g).pushFrame (.throwing b)).setVm (T.vm.noted g.method.cls x.catchType (.cls cell.cls))) (acts' := []) (by simp [hfind _ _ _ _])
    rfl
  obtain ⟨hgo, hw⟩ := h.throwing b
  refine Steps.head hgo hw ?_
  rw [stepThread_throwing (frames_entered h.top _), hst]
  obtain ⟨g₀, hg⟩ := Option.isSome_iff_exists.mp h.top
  obtain ⟨r, hr⟩ := State.topJava?_eq_some.mp hg
  have hr' : (T.setVm (T.vm.noted g.method.cls x.catchType (.cls cell.cls))).frames = .java g₀ :: r := hr
  rw [State.setTop_of_frames _ hr'] at hrest
  rw [State.pushFrame, State.setTop_of_frames _ hr, hr]
  change Steps p.tables e below ((((T.setVm (T.vm.noted g.method.cls x.catchType (.cls cell.cls))).setFrames _).setFrames _).setFrames _) target
  rw [State.setFrames_setFrames, State.setFrames_setFrames]
  exact hrest
end CAT
