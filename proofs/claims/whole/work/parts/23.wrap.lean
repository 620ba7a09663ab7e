/-- the law's side of the tables -/
def okL (D : va_G) (cI cJ : ClassId) (U : State) : Prop := okS D cI U ∧ va_K D classes [(cJ, .long)] U
theorem okL.warm {D : va_G} {cI cJ : ClassId} {s U : State} (hW : s.WarmedH U.vm) (h : okL D cI cJ s) : okL D cI cJ U := ⟨okS.warm hW h.1, va_K.moved hW.alike h.2⟩
theorem okL.calling {D : va_G} {cI cJ : ClassId} {U : State} (h : okL D cI cJ U) (g : JFrame) (mk : MethodId) (av : Array Value) : okL D cI cJ (U.calling g mk av) := ⟨h.1.calling g mk av, va_K.moved (u := U) (U := U.calling g mk av) (Vm.Alike.refl U.vm) h.2⟩
abbrev wO (cJ : ClassId) (aO : Nat) (g : Nat → Int64) : St → va_W := fun _ => [(aO, .inl (cJ, 1, .inr (.inl g)))]
theorem Fx_O (n : Nat) (cJ : ClassId) (aO : Nat) (g : Nat → Int64) : Fx n (wO cJ aO g) := fun _ _ _ _ => rfl
abbrev wLa (cI cJ : ClassId) (a : Nat → Nat) (g : Nat → Int64) (σ : St) : va_W := wMo cI a (wO cJ (a 15) g) σ
def PreL (D : va_G) (cI cJ : ClassId) (w : va_W) (sz : Nat) (U : State) : Prop := U.heap.size = sz ∧ va_P D classes w U.heap ∧ okL D cI cJ U ∧ va_D (fun _ => True) w ∧ okT U
/-- the law's own helpers: they answer 0 and write the answer down, or 1 where the class has thrown -/
def Cw (l : Launch) (y : MethodName) (cw : Cond) (rm : Room) (D : va_G) (cI cJ : ClassId) (avs : List Value) (a : Nat → Nat) (g : Nat → Int64) (σ : St) (Qp : Int32 → St × (Nat → Int64) → Prop) : Prop :=
  ∀ sz : Nat, Met l y (cw :: lwg) rm (va_Pc avs (PreL D cI cJ (wLa cI cJ a g σ) sz)) (va_Qi Qp (fun u t => PstW D (va_A (wLa cI cJ a g σ) sz) (wLa cI cJ a u.2 u.1) t) (va_A (wLa cI cJ a g σ) sz)) 1 6 (va_A (wLa cI cJ a g σ) sz)
theorem MetW.ofW {l : Launch} {y : MethodName} {ws ws' : List Cond} {rm : Room} {Pc : Array Value → State → Prop} {Qc : Array Value → State → Outcome → State → Prop} {mc ms : Nat} {free : Addr → Prop} {cc : ByteArray} {maxL : Nat} {ret : Option FieldType} {hh : List (Nat × Nat × Nat × Nat)}
    (hy : plainName y.cls = true) (hw : ws = Cond.codeWith y cc maxL ret hh :: ws')
    (body : ∀ p e s m args below meth c s₁, BodyLoose p l y (headSpec ws rm) cc maxL ret e s m args below meth c s₁ → c.maxLocals = maxL → c.exceptionTable.toList.map (fun h => (h.startPc, h.endPc, h.handlerPc, h.catchType)) = hh → Pc args s →
      W p l e (headSpec ws rm).room s m args below meth c s.heap [] 0 0 (MQ below Qc args s mc ms free) (entryFrame m args maxL)) : Met l y ws rm Pc Qc mc ms free := by
  refine MetFree.of_bodyS (code := cc) (maxLocals := maxL) (ret := ret) hy ?_ ?_
  · intro args s m h hn
    obtain ⟨m9, meth, c, hn9, h1, h2, h3, h4, -, h5, h6, -⟩ := Cond.codeWith_spec (atoms_spec (ws := ws) h _ (by rw [hw]; exact List.mem_cons_self))
    cases hn.symm.trans hn9
    exact ⟨meth, c, h1, h2, h3, h4, h5, h6⟩
  · intro p e s m args below meth c s₁ B hml hP _
    have hh0 : s₁.heap = s.heap := by rw [B.state]; rfl
    have htab : c.exceptionTable.toList.map (fun h => (h.startPc, h.endPc, h.handlerPc, h.catchType)) = hh := by
      obtain ⟨m9, meth', c', hn9, h1, h2, -, -, h7, -⟩ := Cond.codeWith_spec (atoms_spec (ws := ws) B.pre _ (by rw [hw]; exact List.mem_cons_self))
      cases B.named.symm.trans hn9
      cases B.method.symm.trans h1
      have hc : meth.code = some c := (Stand.of_body B).code
      cases hc.symm.trans h2
      exact h7
    obtain ⟨t, a1, o, b1, b2, b3⟩ := body p e s m args below meth c s₁ B hml htab hP s₁ hh0 (Stand.of_body B)
    exact ⟨t, o, a1, b1, b2, ⟨b3.1, b3.2⟩⟩
theorem keep_eq {H H1 : Heap} (hk : ∀ (q : Addr) (cell : Cell), H[q]? = some cell → H1[q]? = some cell) {q : Nat} (h : q < H.size) : H1[q]? = H[q]? := by
  rw [hk q H[q] (Array.getElem?_eq_getElem h), Array.getElem?_eq_getElem h]
section CATW
variable {p : Program} {l : Launch} {e : Env} {R : Room} {s : State} {m : MethodId} {args : Array Value} {below : List Frame} {meth : Method} {c : Code} {H : Heap} {locs : List Loc} {cells slots : Nat} {Q : State → Prop} {cc : ByteArray} {pc nL : Nat} {ls : Array Slot} {rest : List Value} {own : String} {index : Nat}
theorem r_catV {n maxL mc ms x0 x1 x2 ct : Nat} {C : String} {y : MethodName} {bytes : ByteArray} {ret : Option FieldType} {rm : Room} {K : State → Prop} {b0 : Nat} {As st : List Value} {Xc : String}
    (S : CallFix p m c cc nL s args lwg own) (hM : MetT l y (.code y bytes maxL ret :: lwg) rm (va_Pc (.ref b0 :: As) K) Xc mc ms) (hKb : ∀ (U : State) (g : JFrame) (mk : MethodId) (av : Array Value), K U → K (U.calling g mk av)) (hK : ∀ U : State, U.heap = H → s.WarmedH U.vm → K U)
    (hrv : ∃ cell : Cell, H[b0]? = some cell ∧ cell.vm.isStatics = false ∧ s.vm.findClass C = some cell.cls)
    (h1 : Cond.methodLink own index y ∈ lwg) (h2 : Cond.instanceMethod y ∈ lwg) (h3 : Cond.selects C y y ∈ lwg) (h4 : Cond.initialized y.cls ∈ lwg) (h5 : Cond.code y bytes maxL ret ∈ lwg) (hrc : rm.cells = mc) (hrs : rm.slots = ms)
    (hd : y.cls ≠ "java/lang/invoke/MethodHandle" ∧ y.cls ≠ "java/lang/invoke/VarHandle" ∧ (parseMethodDescriptor y.desc).map (fun d => d.parameters.length) = some n) (hR : rm.frames + 1 ≤ R.frames ∧ 8 + (maxL + 11) + rm.locals ≤ R.locals) (hRc : cells + mc ≤ R.cells) (hRs : slots + ms ≤ R.slots)
    (htab : c.exceptionTable.toList.map (fun h => (h.startPc, h.endPc, h.handlerPc, h.catchType)) = [(x0, x1, x2, ct)]) (hcov : x0 ≤ pc ∧ pc < x1) (hct : ct ≠ 0) (hcl : Cond.classLink own ct Xc ∈ lwg)
    (hsize : ls.size = nL) (hn : As.length = n) (hst : st = As.reverse ++ .ref b0 :: rest) (hW : (rest.map fun v => v.category).sum ≤ 8) (hdg : decode cc pc = .ok (.invokevirtual index, 3))
    (kk : ∀ (b : Nat) (H1 : Heap), (∀ (q : Addr) (cell : Cell), H[q]? = some cell → H1[q]? = some cell) → H.size ≤ H1.size → W p l e R s m args below meth c H1 locs (cells + mc) (slots + ms) Q (F0 m x2 ls [.ref b])) :
    W p l e R s m args below meth c H locs cells slots Q (F0 m pc ls st) := by
  subst hst
  intro T hT X
  obtain ⟨-, -, hfr, hlo, hws, hcw, hcode, hini, hy, hlen, hl⟩ := callB_of n S.2.2.2.2 (lwg_G h5) rfl hrc hrs (S.2.2.2.2 _ h4) (S.2.2.2.2 _ h1) hd hR
  obtain ⟨cellB, hr1, hr2, hr3⟩ := hrv
  have hB : BackT l R p e below s args y 3 8 (PreOf R mc ms (va_Pc (.ref b0 :: As) K)) Xc mc ms := backT (bytes := bytes) (maxL := maxL) (ret := ret) hM (fun a U g mk q => ⟨q.1, hKb U g mk a q.2⟩) hrc hrs hfr hlo hws hcw (fun a' U hW => word_at hW (Or.inl (by first | rfl | simp [Cond.onTables, Cond.keeps, Cond.steady])) hini)
  obtain ⟨b, V, X', ⟨ce, hc1, hc2, hc3⟩, hk, hsz, st⟩ := thrV X S.1 (C := C) (bytes := bytes) (maxL := maxL) (ret := ret) S.2.2.2.1 hl (S.2.2.2.2 _ h2) (S.2.2.2.2 _ h3) hcode hy hB (b0 := b0) (cellB := cellB) (by rw [hT]; exact hr1) hr2 hr3 (g := F0 m pc ls (As.reverse ++ .ref b0 :: rest)) rfl (hsize.trans S.2.2.1.symm) (argsL := As) (rest := rest) (fun sig h => hn.trans (hlen sig h)) rfl (lv_room hW) (by rw [S.2.1]; exact hdg)
    (fun vm₁ hW₁ => ⟨hRc, hRs, rfl, hK (T.setVm vm₁) hT hW₁⟩)
  rw [hT] at hk hsz
  cases hL : c.exceptionTable.toList with
  | nil => rw [hL] at htab; cases htab
  | cons x t =>
    rw [hL] at htab
    simp only [List.map_cons, List.cons.injEq, List.map_eq_nil_iff, Prod.mk.injEq] at htab
    obtain ⟨⟨rfl, rfl, rfl, rfl⟩, rfl⟩ := htab
    obtain ⟨vm', X2, st2⟩ := catchCold (g := { F0 m pc ls (As.reverse ++ .ref b0 :: rest) with stack := rest }) X' S.2.2.2.1 (S.2.2.2.2 _ hcl) hc1 hc2 hc3 hL hct rfl (by simp only [covers, Bool.and_eq_true, decide_eq_true_eq]; exact hcov)
    obtain ⟨t2, h6, h7⟩ := kk b V.heap hk hsz (V.setVm vm') rfl X2
    exact ⟨t2, st t2 (st2 t2 h6), h7⟩
/-- a static method with an exception table is called -/
theorem callSW {T : State} (X : Stand p l e R s m args below meth c T locs cells slots) (hexec : p.tables.exec = Jvm.exec) {y : MethodName} {bytes : ByteArray} {maxL : Nat} {ret : Option FieldType} {hh : List (Nat × Nat × Nat × Nat)}
    (hown : s.vm.findClass own = some m.cls) (hlink : (Cond.methodLink own index y).before args s = true) (hstat : (Cond.static y).before args s = true) (hinit : (Cond.initialized y.cls).before args s = true)
    (hcode : (Cond.codeWith y bytes maxL ret hh).before args s = true) (hy : y.cls ≠ "java/lang/invoke/MethodHandle" ∧ y.cls ≠ "java/lang/invoke/VarHandle")
    {wd : Nat} {Pre : Pt → Array Value → Prop} {Post : Pt → Array Value → Option Value → Pt → Prop} (hK : Back l R p e below s args y 3 wd Pre Post)
    {g : JFrame} (hg : g.method = m) (hsize : g.locals.size = c.maxLocals) {argsL rest : List Value} (hlen : ∀ sig, parseMethodDescriptor y.desc = some sig → argsL.length = sig.parameters.length)
    (hstack : g.stack = argsL.reverse ++ rest) (hW : 2 * g.monitorRoom + (rest.map fun v => v.category).sum ≤ wd) (hdg : decode c.code g.pc = .ok (.invokestatic index, 3))
    (hpre : ∀ vm₁, s.WarmedH vm₁ → Pre ⟨T.setVm vm₁, locs, cells, slots⟩ argsL.toArray) :
    ∃ (v : Option Value) (vm₁ : Vm) (B : Pt), s.WarmedH vm₁ ∧ Stand p l e R s m args below meth c B.U B.locs B.cells B.slots ∧ Post ⟨T.setVm vm₁, locs, cells, slots⟩ argsL.toArray v B ∧
      ∀ target, Steps p.tables e below (B.U.setTop { g with pc := g.pc + 3, stack := v.toList ++ rest }) target → Steps p.tables e below (T.setTop g) target := by
  obtain ⟨mk, methM, cM, hnamed, hmethM, -, -, -, -, -, -, hsigM⟩ := Cond.codeWith_spec hcode
  have hstatic : methM.isStatic = true := Cond.static_spec hnamed hmethM hstat
  obtain ⟨kP, hkP, -⟩ := className_of_methodNamed hnamed
  have hinitP : kP.init = .initialized := Cond.initialized_spec (findClass_of_methodNamed hnamed) hkP hinit
  obtain ⟨vm₁, X₁, hstep₁⟩ := X.invokestatic hexec hown hlink hnamed hmethM hstatic hkP hinitP hy (g := g) hg (argsL := argsL) (rest := rest) (hlen _ hsigM) hstack hdg
  obtain ⟨v, B, X', hpost, hsteps⟩ := hK m meth c ⟨T.setVm vm₁, locs, cells, slots⟩ { g with stack := rest } (.invokestatic index) mk argsL.toArray X₁ hg hsize hdg hW (X₁.named hnamed) (hpre vm₁ X₁.warmed)
  exact ⟨v, vm₁, B, X₁.warmed, X', hpost, fun target h => hstep₁ _ fun acts => by rw [doInvoke_state]; exact hsteps.trans h⟩
theorem r_callW {n maxL : Nat} {D : va_G} {cI cJ : ClassId} {A : Nat → Prop} {a : Nat → Nat} {g0 : Nat → Int64} {σ : St} {y : MethodName} {bytes : ByteArray} {hh : List (Nat × Nat × Nat × Nat)} {rm : Room} {As st : List Value} {Qp : Int32 → St × (Nat → Int64) → Prop}
    (S : CallFix p m c cc nL s args lwg own) (hok : okL D cI cJ s) (hTk : ∀ U : State, U.heap = H → s.WarmedH U.vm → okT U) (hM : Cw l y (.codeWith y bytes maxL (some .int) hh) rm D cI cJ As a g0 σ Qp)
    (h1 : Cond.methodLink own index y ∈ lwg) (h2 : Cond.static y ∈ lwg) (h4 : Cond.initialized y.cls ∈ lwg) (h5 : Cond.codeWith y bytes maxL (some .int) hh ∈ lwg) (hrc : rm.cells = 1) (hrs : rm.slots = 6)
    (hd : y.cls ≠ "java/lang/invoke/MethodHandle" ∧ y.cls ≠ "java/lang/invoke/VarHandle" ∧ (parseMethodDescriptor y.desc).map (fun d => d.parameters.length) = some n) (hR : rm.frames + 1 ≤ R.frames ∧ 8 + (maxL + 11) + rm.locals ≤ R.locals)
    (hP : va_P D classes (wLa cI cJ a g0 σ) H) (hD : va_D A (wLa cI cJ a g0 σ)) (hS : va_S A s.heap H locs) (hA : ∀ q, s.heap.size ≤ q → A q) (hfc : cells + 1 ≤ R.cells) (hfs : slots + 6 ≤ R.slots)
    (hsize : ls.size = nL) (hn : As.length = n) (hst : st = As.reverse ++ rest) (hW : (rest.map fun v => v.category).sum ≤ 8) (hdg : decode cc pc = .ok (.invokestatic index, 3))
    (kk : ∀ (r : Int32) (u : St × (Nat → Int64)) (H1 : Heap) (locs1 : List Loc), Qp r u → va_P D classes (wLa cI cJ a u.2 u.1) H1 → va_D A (wLa cI cJ a u.2 u.1) → va_S A s.heap H1 locs1 → W p l e R s m args below meth c H1 locs1 (cells + 1) (slots + 6) Q (F0 m (pc + 3) ls (.int r :: rest))) :
    W p l e R s m args below meth c H locs cells slots Q (F0 m pc ls st) := by
  subst hst
  have hFc : ∀ q, va_A (wLa cI cJ a g0 σ) H.size q → A q := fun q h => by
    rcases h with ⟨k, e, h⟩ | h
    · exact hD.2 k _ h
    · exact hA q (Nat.le_trans hS.1 h)
  have hws : ∀ w ∈ (Cond.codeWith y bytes maxL (some .int) hh :: lwg), ∀ (a' : Array Value) (U : State), s.WarmedH U.vm → w.before a' U = true := pay_in S.2.2.2.2 (lwg_G h5)
  have hK := va_backW (R := R) (p := p) (e := e) (below := below) (s := s) (sargs := args) (len := 3) (W := 8) (hM H.size) (fun av U g mk q => ⟨q.1, q.2.1, q.2.2.1, q.2.2.2.1.calling g mk av, q.2.2.2.2.1, okT_call U g mk av q.2.2.2.2.2⟩) hrc hrs hR.1 hR.2 hws List.mem_cons_self (fun a' U hW => word_at hW (Or.inl (by first | rfl | simp [Cond.onTables, Cond.keeps, Cond.steady])) (S.2.2.2.2 _ h4))
  have hrun : va_Run p l e R s m args below meth c H locs cells slots 1 6 (F0 m pc ls (As.reverse ++ rest)) rest (va_Qi Qp (fun u t => PstW D (va_A (wLa cI cJ a g0 σ) H.size) (wLa cI cJ a u.2 u.1) t) (va_A (wLa cI cJ a g0 σ) H.size) As.toArray) (va_A (wLa cI cJ a g0 σ) H.size) := by
    intro T hT X
    obtain ⟨v, vm₁, ⟨U', l2, c2, s2⟩, hW₁, X', ⟨g', mk, t, L, e1, e2, hq, h1, hL, h2, h3⟩, st⟩ := callSW X S.1 S.2.2.2.1 (S.2.2.2.2 _ h1) (S.2.2.2.2 _ h2) (S.2.2.2.2 _ h4) (S.2.2.2.2 _ h5) ⟨hd.1, hd.2.1⟩ hK (g := F0 m pc ls (As.reverse ++ rest)) rfl (hsize.trans S.2.2.1.symm) (argsL := As) (rest := rest) (fun sig h => by
        have h2 := hd.2.2
        rw [h] at h2
        exact hn.trans (Option.some.inj h2).symm) rfl (lv_room hW) (by rw [S.2.1]; exact hdg)
      (fun vm₁ hW₁ => ⟨hfc, hfs, rfl, by show T.heap.size = _; rw [hT], by show va_P D classes _ T.heap; rw [hT]; exact hP, hok.warm hW₁, hD.weaken (fun _ _ _ _ => trivial), hTk (T.setVm vm₁) hT hW₁⟩)
    dsimp only [Pt.U, Pt.locs, Pt.cells, Pt.slots] at X' e1 e2 h1 h2 h3 st
    subst h1; subst h2; subst h3
    exact ⟨v, (T.setVm vm₁).calling g' mk As.toArray, t, U', L, hT, X', hL, e1, e2, hq, st⟩
  exact va_calli hrun hS (fun q _ h => hFc q h) hFc (fun r u t H1 locs1 ht hvm hq hB hz1 hk1 hS1 => kk r u H1 locs1 hq (by rw [← ht]; exact hB.1) (hB.2.weaken (fun _ _ _ h => hFc _ h)) hS1)
end CATW
