abbrev classes : List vw_C := [(R_Rc, F_Rc, 11), (R_Bl, F_Bl, 7), (R_Pt, F_Pt, 1), (R_Mo, F_Mo, 4)]
abbrev fsRc (a : Nat → Nat) (σ : St) : List Value := [.ref (a 1), .ref (a 2), .ref (a 3), .int (σ 7 0), .ref (a 4), .ref (a 5), .int (σ 8 0), .int (σ 9 0), .int (σ 10 0), .ref (a 6), .ref (a 7)]
abbrev WRc (cI : ClassId) (a : Nat → Nat) (σ : St) : va_W := [(a 0, .inr (0, fsRc a σ)), (a 1, .inl (cI, 8224, .inl (σ 0))), (a 2, .inl (cI, 1028, .inl (σ 1))), (a 3, .inl (cI, 1028, .inl (σ 2))), (a 4, .inl (cI, 1024, .inl (σ 3))), (a 5, .inl (cI, 1028, .inl (σ 4))), (a 6, .inl (cI, 1028, .inl (σ 5))), (a 7, .inl (cI, 8, .inl (σ 6)))]
abbrev fsBl (a : Nat → Nat) (σ : St) : List Value := [.ref (a 0), .ref (a 9), .ref (a 10), .int (σ 13 0), .int (σ 14 0), .int (σ 15 0), .int (σ 16 0)]
abbrev WBl (cI : ClassId) (a : Nat → Nat) (σ : St) : va_W := [(a 8, .inr (1, fsBl a σ)), (a 9, .inl (cI, 66624, .inl (σ 11))), (a 10, .inl (cI, 2048, .inl (σ 12)))]
abbrev fsPt (a : Nat → Nat) (σ : St) : List Value := [.ref (a 8)]
abbrev WPt (cI : ClassId) (a : Nat → Nat) (σ : St) : va_W := [(a 11, .inr (2, fsPt a σ))]
abbrev fsMo (a : Nat → Nat) (σ : St) : List Value := [.int (σ 19 0), .int (σ 20 0), .ref (a 13), .ref (a 14)]
abbrev WMo (cI : ClassId) (a : Nat → Nat) (σ : St) : va_W := [(a 12, .inr (3, fsMo a σ)), (a 13, .inl (cI, 9000, .inl (σ 17))), (a 14, .inl (cI, 72000, .inl (σ 18)))]
def Fx (n : Nat) (wr : St → va_W) : Prop := ∀ (τ : St) (k : Nat) (f : Nat → Int32), k < n → wr (sA τ k f) = wr τ
abbrev wrB (cI : ClassId) (a : Nat → Nat) (wr : St → va_W) : St → va_W := fun τ => WBl cI a τ ++ wr τ
abbrev wrT (a : Nat → Nat) (wr : St → va_W) : St → va_W := fun τ => [(a 11, .inr (2, [.ref (a 8)]))] ++ wr τ
abbrev wrM (cI : ClassId) (a : Nat → Nat) (wr : St → va_W) : St → va_W := fun τ => WMo cI a τ ++ wr τ
abbrev wRc (cI : ClassId) (a : Nat → Nat) (wr : St → va_W) : St → va_W := fun τ => WRc cI a τ ++ wr τ
abbrev wBl (cI : ClassId) (a : Nat → Nat) (wr : St → va_W) : St → va_W := wRc cI a (wrB cI a wr)
abbrev wPt (cI : ClassId) (a : Nat → Nat) (wr : St → va_W) : St → va_W := wBl cI a (wrT a wr)
abbrev wMo (cI : ClassId) (a : Nat → Nat) (wr : St → va_W) : St → va_W := wPt cI a (wrM cI a wr)
theorem Fx_B {cI : ClassId} {a : Nat → Nat} {wr : St → va_W} (h : Fx 17 wr) : Fx 11 (wrB cI a wr) := by
  intro τ k f hk
  have e : ∀ j, 11 ≤ j → sA τ k f j = τ j := fun j hj => sA_n (by omega)
  show WBl cI a (sA τ k f) ++ wr (sA τ k f) = WBl cI a τ ++ wr τ
  rw [h τ k f (by omega)]
  unfold WBl fsBl
  rw [e 11 (by decide), e 12 (by decide), e 13 (by decide), e 14 (by decide), e 15 (by decide), e 16 (by decide)]
theorem Fx_T {a : Nat → Nat} {wr : St → va_W} (h : Fx 17 wr) : Fx 17 (wrT a wr) := by
  intro τ k f hk
  show [(a 11, .inr (2, [.ref (a 8)]))] ++ wr (sA τ k f) = [(a 11, .inr (2, [.ref (a 8)]))] ++ wr τ
  rw [h τ k f hk]
theorem Fx_M {cI : ClassId} {a : Nat → Nat} {wr : St → va_W} (h : Fx 21 wr) : Fx 17 (wrM cI a wr) := by
  intro τ k f hk
  have e : ∀ j, 17 ≤ j → sA τ k f j = τ j := fun j hj => sA_n (by omega)
  show WMo cI a (sA τ k f) ++ wr (sA τ k f) = WMo cI a τ ++ wr τ
  rw [h τ k f (by omega)]
  unfold WMo fsMo
  rw [e 17 (by decide), e 18 (by decide), e 19 (by decide), e 20 (by decide)]
/-- the tables' side of a state: the classes, the array class of int, the nest mates' links -/
def okS (D : va_G) (cI : ClassId) (U : State) : Prop := va_K D classes [(cI, .int)] U ∧ ∀ w ∈ lwn, va_Nw w U
theorem okS.warm {D : va_G} {cI : ClassId} {s U : State} (hW : s.WarmedH U.vm) (h : okS D cI s) : okS D cI U := ⟨va_K.moved hW.alike h.1, lwn_warm hW h.2⟩
theorem okS.calling {D : va_G} {cI : ClassId} {U : State} (h : okS D cI U) (g : JFrame) (mk : MethodId) (av : Array Value) : okS D cI (U.calling g mk av) := ⟨va_K.moved (u := U) (U := U.calling g mk av) (Vm.Alike.refl U.vm) h.1, fun w hw => va_Nw.same (u := U) (U := U.calling g mk av) (lwn_tab w hw) rfl (h.2 w hw)⟩
def PreW (D : va_G) (cI : ClassId) (w : va_W) (sz : Nat) (U : State) : Prop := U.heap.size = sz ∧ va_P D classes w U.heap ∧ okS D cI U ∧ va_D (fun _ => True) w
def PstW (D : va_G) (A : Nat → Prop) (w : va_W) (t : State) : Prop := va_P D classes w t.heap ∧ va_D A w
/-- a method that answers a number (or a boolean) -/
def Ci (l : Launch) (y : MethodName) (cw : Cond) (rm : Room) (D : va_G) (cI : ClassId) (avs : List Value) (w : St → va_W) (σ : St) (Qp : Int32 → St → Prop) : Prop :=
  ∀ sz : Nat, Met l y (cw :: lwg) rm (va_Pc avs (PreW D cI (w σ) sz)) (va_Qi Qp (fun u t => PstW D (va_A (w σ) sz) (w u) t) (va_A (w σ) sz)) 0 0 (va_A (w σ) sz)
/-- a method that answers nothing -/
def Cv (l : Launch) (y : MethodName) (cw : Cond) (rm : Room) (D : va_G) (cI : ClassId) (avs : List Value) (w : St → va_W) (σ : St) (Qp : St → Prop) : Prop :=
  ∀ sz : Nat, Met l y (cw :: lwg) rm (va_Pc avs (PreW D cI (w σ) sz)) (va_Qv Qp (fun u t => PstW D (va_A (w σ) sz) (w u) t) (va_A (w σ) sz)) 0 0 (va_A (w σ) sz)
theorem Ci.of {l : Launch} {y : MethodName} {cc : ByteArray} {maxL : Nat} {ty : FieldType} {rm : Room} {D : va_G} {cI : ClassId} {avs : List Value} {w : St → va_W} {σ : St} {Qp : Int32 → St → Prop} (hy : plainName y.cls = true) (hav : (lg_sl avs).length ≤ maxL)
    (body : ∀ (p : Program) (e : Env) (s : State) (m : MethodId) (below : List Frame) (meth : Method) (c : Code) (ls : Array Slot) (A : Nat → Prop) (Z : State → Prop), p.tables.exec = Jvm.exec → c.code = cc → c.maxLocals = maxL → s.vm.findClass y.cls = some m.cls → (∀ v ∈ lwg, v.before avs.toArray s = true) → okS D cI s →
      va_P D classes (w σ) s.heap → va_D A (w σ) → (∀ q, s.heap.size ≤ q → A q) → lv_has ls maxL (lv_args 0 avs) →
      (∀ (v : Int32) (u : St) (H : Heap) (locs : List Loc) (pc : Nat) (ls : Array Slot), decode cc pc = .ok (.ireturn, 1) → narrow ty (.int v) = .int v → Qp v u → va_P D classes (w u) H → va_D A (w u) → va_S A s.heap H locs → W p l e rm s m avs.toArray below meth c H locs 0 0 Z (F0 m pc ls [.int v])) →
      W p l e rm s m avs.toArray below meth c s.heap [] 0 0 Z (F0 m 0 ls [])) : Ci l y (.code y cc maxL (some ty)) rm D cI avs w σ Qp := by
  intro sz
  refine Met.ofW (cc := cc) (maxL := maxL) (ret := some ty) hy rfl ?_
  intro p e s m args below meth c s₁ B hml hv
  obtain ⟨rfl, hsz, hP, hok, hD0⟩ := hv
  subst hsz
  have hts := atoms_spec (ws := .code y cc maxL (some ty) :: lwg) B.pre
  have hl := lv_entry avs (n := maxL) hav
  rw [lg_entry_eq]
  exact body p e s m below meth c _ (va_A (w σ) s.heap.size) _ B.exec B.bytes hml (findClass_of_methodNamed B.named) (fun v hv => hts v (List.mem_cons_of_mem _ hv)) hok hP hD0.self (fun q h => Or.inr h) hl
    (fun v u H locs pc ls hd hn hq hP hD hS => W.zret B.exec B.bytes B.returns hn (fun t ht hW => ⟨⟨v, u, rfl, hq, by rw [ht]; exact hP, hD⟩, hS.F ht⟩) hS.2.2 hd B.notSynchronized)
theorem Cv.of {l : Launch} {y : MethodName} {cc : ByteArray} {maxL : Nat} {rm : Room} {D : va_G} {cI : ClassId} {avs : List Value} {w : St → va_W} {σ : St} {Qp : St → Prop} (hy : plainName y.cls = true) (hav : (lg_sl avs).length ≤ maxL)
    (body : ∀ (p : Program) (e : Env) (s : State) (m : MethodId) (below : List Frame) (meth : Method) (c : Code) (ls : Array Slot) (A : Nat → Prop) (Z : State → Prop), p.tables.exec = Jvm.exec → c.code = cc → c.maxLocals = maxL → s.vm.findClass y.cls = some m.cls → (∀ v ∈ lwg, v.before avs.toArray s = true) → okS D cI s →
      va_P D classes (w σ) s.heap → va_D A (w σ) → (∀ q, s.heap.size ≤ q → A q) → lv_has ls maxL (lv_args 0 avs) →
      (∀ (u : St) (H : Heap) (locs : List Loc) (pc : Nat) (ls : Array Slot), decode cc pc = .ok (.return_, 1) → Qp u → va_P D classes (w u) H → va_D A (w u) → va_S A s.heap H locs → W p l e rm s m avs.toArray below meth c H locs 0 0 Z (F0 m pc ls [])) →
      W p l e rm s m avs.toArray below meth c s.heap [] 0 0 Z (F0 m 0 ls [])) : Cv l y (.code y cc maxL (none)) rm D cI avs w σ Qp := by
  intro sz
  refine Met.ofW (cc := cc) (maxL := maxL) (ret := none) hy rfl ?_
  intro p e s m args below meth c s₁ B hml hv
  obtain ⟨rfl, hsz, hP, hok, hD0⟩ := hv
  subst hsz
  have hts := atoms_spec (ws := .code y cc maxL (none) :: lwg) B.pre
  have hl := lv_entry avs (n := maxL) hav
  rw [lg_entry_eq]
  exact body p e s m below meth c _ (va_A (w σ) s.heap.size) _ B.exec B.bytes hml (findClass_of_methodNamed B.named) (fun v hv => hts v (List.mem_cons_of_mem _ hv)) hok hP hD0.self (fun q h => Or.inr h) hl
    (fun u H locs pc ls hd hq hP hD hS => W.vret B.exec B.bytes B.returns (fun t ht hW => ⟨⟨u, rfl, hq, by rw [ht]; exact hP, hD⟩, hS.F ht⟩) hS.2.2 hd B.notSynchronized)
theorem lwg_G {cw : Cond} (h : cw ∈ lwg) : GoodIn lwg (cw :: lwg) := fun w hw => by
  rcases List.mem_cons.mp hw with rfl | h2
  · exact ⟨h, lwg_good h⟩
  · exact ⟨h2, lwg_good h2⟩
section ROWS
variable {p : Program} {l : Launch} {e : Env} {R : Room} {s : State} {m : MethodId} {args : Array Value} {below : List Frame} {meth : Method} {c : Code} {H H0 : Heap} {locs : List Loc} {cells slots : Nat} {Q : State → Prop} {cc : ByteArray} {pc nL : Nat} {ls : Array Slot} {rest : List Value} {D : va_G} {A : Nat → Prop} {cI : ClassId} {a : Nat → Nat} {wr : St → va_W} {σ : St} {own : String} {index : Nat}
theorem r_callVi {C : String} {T : u_T} {N n maxL ci q0 : Nat} {b : Nat} {fs : List Value} {y : MethodName} {bytes : ByteArray} {ty : FieldType} {rm : Room} {w : St → va_W} {As st : List Value} {Qp : Int32 → St → Prop}
    (S : CallFix p m c cc nL s args lwg own) (hok : okS D cI s) (hM : Ci l y (.code y bytes maxL (some ty)) rm D cI (.ref b :: As) w σ Qp)
    (h1 : Cond.methodLink own index y ∈ lwg) (h2 : Cond.instanceMethod y ∈ lwg) (h3 : Cond.selects C y y ∈ lwg) (h4 : Cond.initialized C ∈ lwg) (h5 : Cond.code y bytes maxL (some ty) ∈ lwg) (hrc : rm.cells = 0) (hrs : rm.slots = 0)
    (hd : y.cls = C ∧ y.cls ≠ "java/lang/invoke/MethodHandle" ∧ y.cls ≠ "java/lang/invoke/VarHandle" ∧ (parseMethodDescriptor y.desc).map (fun d => d.parameters.length) = some n) (hR : rm.frames + 1 ≤ R.frames ∧ 8 + (maxL + 11) + rm.locals ≤ R.locals)
    (he : (w σ)[q0]? = some (b, .inr (ci, fs))) (hc : classes[ci]? = some (C, T, N)) (hP : va_P D classes (w σ) H) (hD : va_D A (w σ)) (hS : va_S A s.heap H locs) (hA : ∀ q, s.heap.size ≤ q → A q) (hfc : cells ≤ R.cells) (hfs : slots ≤ R.slots)
    (hsize : ls.size = nL) (hn : As.length = n) (hst : st = As.reverse ++ .ref b :: rest) (hW : (rest.map fun v => v.category).sum ≤ 8) (hdg : decode cc pc = .ok (.invokevirtual index, 3))
    (kk : ∀ (r : Int32) (u : St) (H1 : Heap) (locs1 : List Loc), Qp r u → va_P D classes (w u) H1 → va_D A (w u) → va_S A s.heap H1 locs1 → W p l e R s m args below meth c H1 locs1 cells slots Q (F0 m (pc + 3) ls (.int r :: rest))) :
    W p l e R s m args below meth c H locs cells slots Q (F0 m pc ls st) := by
  subst hst
  have hFc : ∀ q, va_A (w σ) H.size q → A q := fun q h => by
    rcases h with ⟨k, e, h⟩ | h
    · exact hD.2 k _ h
    · exact hA q (Nat.le_trans hS.1 h)
  have hG : GoodIn lwg (wsV own index C y (.code y bytes maxL (some ty) :: lwg)) := fun x hx => by
    unfold wsV at hx
    rcases List.mem_append.mp hx with h | h
    · simp only [List.mem_cons, List.not_mem_nil, or_false] at h
      rcases h with rfl | rfl | rfl | rfl
      · exact ⟨h1, lwg_good h1⟩
      · exact ⟨h2, lwg_good h2⟩
      · exact ⟨h3, lwg_good h3⟩
      · exact ⟨h4, lwg_good h4⟩
    · exact lwg_G h5 x h
  refine va_calli (va_runV (As := As) (rest := rest) S (hM H.size) (cwV n S.2.2.2.2 hG rfl hrc hrs hd hR) ⟨fun av U g mk q => ?_, va_recv hok.1 hP hc he, fun U hU hW => ⟨rfl, by rw [hU], by rw [hU]; exact hP, hok.warm hW, hD.weaken (fun _ _ _ _ => trivial)⟩⟩ rfl hn hsize rfl (lv_room hW) hdg ⟨hfc, hfs⟩) hS (fun q _ h => hFc q h) hFc (fun r u t H1 locs1 ht hvm hq hB hz1 hk1 hS1 => ?_)
  · obtain ⟨q0, q1, qP, qK, qD⟩ := q
    exact ⟨q0, q1, qP, qK.calling g mk av, qD⟩
  · exact kk r u H1 locs1 hq (by rw [← ht]; exact hB.1) (hB.2.weaken (fun _ _ _ h => hFc _ h)) hS1
theorem r_callSi {n maxL : Nat} {y : MethodName} {bytes : ByteArray} {ty : FieldType} {rm : Room} {w : St → va_W} {As st : List Value} {Qp : Int32 → St → Prop}
    (S : CallFix p m c cc nL s args lwg own) (hok : okS D cI s) (hM : Ci l y (.code y bytes maxL (some ty)) rm D cI As w σ Qp)
    (h1 : Cond.methodLink own index y ∈ lwg) (h2 : Cond.static y ∈ lwg) (h4 : Cond.initialized y.cls ∈ lwg) (h5 : Cond.code y bytes maxL (some ty) ∈ lwg) (hrc : rm.cells = 0) (hrs : rm.slots = 0)
    (hd : y.cls ≠ "java/lang/invoke/MethodHandle" ∧ y.cls ≠ "java/lang/invoke/VarHandle" ∧ (parseMethodDescriptor y.desc).map (fun d => d.parameters.length) = some n) (hR : rm.frames + 1 ≤ R.frames ∧ 8 + (maxL + 11) + rm.locals ≤ R.locals)
    (hP : va_P D classes (w σ) H) (hD : va_D A (w σ)) (hS : va_S A s.heap H locs) (hA : ∀ q, s.heap.size ≤ q → A q) (hfc : cells ≤ R.cells) (hfs : slots ≤ R.slots)
    (hsize : ls.size = nL) (hn : As.length = n) (hst : st = As.reverse ++ rest) (hW : (rest.map fun v => v.category).sum ≤ 8) (hdg : decode cc pc = .ok (.invokestatic index, 3))
    (kk : ∀ (r : Int32) (u : St) (H1 : Heap) (locs1 : List Loc), Qp r u → va_P D classes (w u) H1 → va_D A (w u) → va_S A s.heap H1 locs1 → W p l e R s m args below meth c H1 locs1 cells slots Q (F0 m (pc + 3) ls (.int r :: rest))) :
    W p l e R s m args below meth c H locs cells slots Q (F0 m pc ls st) := by
  subst hst
  have hFc : ∀ q, va_A (w σ) H.size q → A q := fun q h => by
    rcases h with ⟨k, e, h⟩ | h
    · exact hD.2 k _ h
    · exact hA q (Nat.le_trans hS.1 h)
  refine va_calli (va_runS (As := As) (rest := rest) S (hM H.size) ⟨callB_of n S.2.2.2.2 (lwg_G h5) rfl hrc hrs (S.2.2.2.2 _ h4) (S.2.2.2.2 _ h1) hd hR, S.2.2.2.2 _ h2⟩ ⟨fun av U g mk q => ?_, fun U hU hW => ⟨rfl, by rw [hU], by rw [hU]; exact hP, hok.warm hW, hD.weaken (fun _ _ _ _ => trivial)⟩⟩ rfl hn hsize rfl (lv_room hW) hdg ⟨hfc, hfs⟩) hS (fun q _ h => hFc q h) hFc (fun r u t H1 locs1 ht hvm hq hB hz1 hk1 hS1 => ?_)
  · obtain ⟨q0, q1, qP, qK, qD⟩ := q
    exact ⟨q0, q1, qP, qK.calling g mk av, qD⟩
  · exact kk r u H1 locs1 hq (by rw [← ht]; exact hB.1) (hB.2.weaken (fun _ _ _ h => hFc _ h)) hS1
theorem r_callVv {C : String} {T : u_T} {N n maxL ci q0 : Nat} {b : Nat} {fs : List Value} {y : MethodName} {bytes : ByteArray} {rm : Room} {w : St → va_W} {As st : List Value} {Qp : St → Prop}
    (S : CallFix p m c cc nL s args lwg own) (hok : okS D cI s) (hM : Cv l y (.code y bytes maxL (none)) rm D cI (.ref b :: As) w σ Qp)
    (h1 : Cond.methodLink own index y ∈ lwg) (h2 : Cond.instanceMethod y ∈ lwg) (h3 : Cond.selects C y y ∈ lwg) (h4 : Cond.initialized C ∈ lwg) (h5 : Cond.code y bytes maxL (none) ∈ lwg) (hrc : rm.cells = 0) (hrs : rm.slots = 0)
    (hd : y.cls = C ∧ y.cls ≠ "java/lang/invoke/MethodHandle" ∧ y.cls ≠ "java/lang/invoke/VarHandle" ∧ (parseMethodDescriptor y.desc).map (fun d => d.parameters.length) = some n) (hR : rm.frames + 1 ≤ R.frames ∧ 8 + (maxL + 11) + rm.locals ≤ R.locals)
    (he : (w σ)[q0]? = some (b, .inr (ci, fs))) (hc : classes[ci]? = some (C, T, N)) (hP : va_P D classes (w σ) H) (hD : va_D A (w σ)) (hS : va_S A s.heap H locs) (hA : ∀ q, s.heap.size ≤ q → A q) (hfc : cells ≤ R.cells) (hfs : slots ≤ R.slots)
    (hsize : ls.size = nL) (hn : As.length = n) (hst : st = As.reverse ++ .ref b :: rest) (hW : (rest.map fun v => v.category).sum ≤ 8) (hdg : decode cc pc = .ok (.invokevirtual index, 3))
    (kk : ∀ (u : St) (H1 : Heap) (locs1 : List Loc), Qp u → va_P D classes (w u) H1 → va_D A (w u) → va_S A s.heap H1 locs1 → W p l e R s m args below meth c H1 locs1 cells slots Q (F0 m (pc + 3) ls rest)) :
    W p l e R s m args below meth c H locs cells slots Q (F0 m pc ls st) := by
  subst hst
  have hFc : ∀ q, va_A (w σ) H.size q → A q := fun q h => by
    rcases h with ⟨k, e, h⟩ | h
    · exact hD.2 k _ h
    · exact hA q (Nat.le_trans hS.1 h)
  have hG : GoodIn lwg (wsV own index C y (.code y bytes maxL (none) :: lwg)) := fun x hx => by
    unfold wsV at hx
    rcases List.mem_append.mp hx with h | h
    · simp only [List.mem_cons, List.not_mem_nil, or_false] at h
      rcases h with rfl | rfl | rfl | rfl
      · exact ⟨h1, lwg_good h1⟩
      · exact ⟨h2, lwg_good h2⟩
      · exact ⟨h3, lwg_good h3⟩
      · exact ⟨h4, lwg_good h4⟩
    · exact lwg_G h5 x h
  refine va_callv (va_runV (As := As) (rest := rest) S (hM H.size) (cwV n S.2.2.2.2 hG rfl hrc hrs hd hR) ⟨fun av U g mk q => ?_, va_recv hok.1 hP hc he, fun U hU hW => ⟨rfl, by rw [hU], by rw [hU]; exact hP, hok.warm hW, hD.weaken (fun _ _ _ _ => trivial)⟩⟩ rfl hn hsize rfl (lv_room hW) hdg ⟨hfc, hfs⟩) hS (fun q _ h => hFc q h) hFc (fun u t H1 locs1 ht hvm hq hB hz1 hk1 hS1 => ?_)
  · obtain ⟨q0, q1, qP, qK, qD⟩ := q
    exact ⟨q0, q1, qP, qK.calling g mk av, qD⟩
  · exact kk u H1 locs1 hq (by rw [← ht]; exact hB.1) (hB.2.weaken (fun _ _ _ h => hFc _ h)) hS1
theorem r_callSv {n maxL : Nat} {y : MethodName} {bytes : ByteArray} {rm : Room} {w : St → va_W} {As st : List Value} {Qp : St → Prop}
    (S : CallFix p m c cc nL s args lwg own) (hok : okS D cI s) (hM : Cv l y (.code y bytes maxL (none)) rm D cI As w σ Qp)
    (h1 : Cond.methodLink own index y ∈ lwg) (h2 : Cond.static y ∈ lwg) (h4 : Cond.initialized y.cls ∈ lwg) (h5 : Cond.code y bytes maxL (none) ∈ lwg) (hrc : rm.cells = 0) (hrs : rm.slots = 0)
    (hd : y.cls ≠ "java/lang/invoke/MethodHandle" ∧ y.cls ≠ "java/lang/invoke/VarHandle" ∧ (parseMethodDescriptor y.desc).map (fun d => d.parameters.length) = some n) (hR : rm.frames + 1 ≤ R.frames ∧ 8 + (maxL + 11) + rm.locals ≤ R.locals)
    (hP : va_P D classes (w σ) H) (hD : va_D A (w σ)) (hS : va_S A s.heap H locs) (hA : ∀ q, s.heap.size ≤ q → A q) (hfc : cells ≤ R.cells) (hfs : slots ≤ R.slots)
    (hsize : ls.size = nL) (hn : As.length = n) (hst : st = As.reverse ++ rest) (hW : (rest.map fun v => v.category).sum ≤ 8) (hdg : decode cc pc = .ok (.invokestatic index, 3))
    (kk : ∀ (u : St) (H1 : Heap) (locs1 : List Loc), Qp u → va_P D classes (w u) H1 → va_D A (w u) → va_S A s.heap H1 locs1 → W p l e R s m args below meth c H1 locs1 cells slots Q (F0 m (pc + 3) ls rest)) :
    W p l e R s m args below meth c H locs cells slots Q (F0 m pc ls st) := by
  subst hst
  have hFc : ∀ q, va_A (w σ) H.size q → A q := fun q h => by
    rcases h with ⟨k, e, h⟩ | h
    · exact hD.2 k _ h
    · exact hA q (Nat.le_trans hS.1 h)
  refine va_callv (va_runS (As := As) (rest := rest) S (hM H.size) ⟨callB_of n S.2.2.2.2 (lwg_G h5) rfl hrc hrs (S.2.2.2.2 _ h4) (S.2.2.2.2 _ h1) hd hR, S.2.2.2.2 _ h2⟩ ⟨fun av U g mk q => ?_, fun U hU hW => ⟨rfl, by rw [hU], by rw [hU]; exact hP, hok.warm hW, hD.weaken (fun _ _ _ _ => trivial)⟩⟩ rfl hn hsize rfl (lv_room hW) hdg ⟨hfc, hfs⟩) hS (fun q _ h => hFc q h) hFc (fun u t H1 locs1 ht hvm hq hB hz1 hk1 hS1 => ?_)
  · obtain ⟨q0, q1, qP, qK, qD⟩ := q
    exact ⟨q0, q1, qP, qK.calling g mk av, qD⟩
  · exact kk u H1 locs1 hq (by rw [← ht]; exact hB.1) (hB.2.weaken (fun _ _ _ h => hFc _ h)) hS1
theorem rg_Rc_values (S : CallFix p m c cc nL s args lwg own) (hok : okS D cI s) (hP : va_P D classes (wRc cI a wr σ) H) (hl : (Cond.fieldLink own index "PropertyTrie$Records" "values" "[I").before args s = true) (hdg : decode cc pc = .ok (.getfield index, 3)) (kk : W p l e R s m args below meth c H locs cells slots Q (F0 m (pc + 3) ls (.ref (a 1) :: rest))) : W p l e R s m args below meth c H locs cells slots Q (F0 m pc ls (.ref (a 0) :: rest)) :=
  va_get (C := R_Rc) (T := F_Rc) (N := 11) (ci := 0) (ref := "PropertyTrie$Records") (fs := fsRc a σ) (v := .ref (a 1)) S.1 S.2.1 S.2.2.2.2 i_Rc S.2.2.2.1 hok.1 hP 0 rfl rfl 0 (by decide) hl (fun _ h9 => h9) rfl hdg kk
theorem rl_Rc_values {i : Int32} (S : CallFix p m c cc nL s args lwg own) (hok : okS D cI s) (hP : va_P D classes (wRc cI a wr σ) H) (hin : vp_in i 8224) (hdg : decode cc pc = .ok (.iaload, 1)) (kk : W p l e R s m args below meth c H locs cells slots Q (F0 m (pc + 1) ls (.int (σ 0 i.toNatClampNeg) :: rest))) : W p l e R s m args below meth c H locs cells slots Q (F0 m pc ls (.int i :: .ref (a 1) :: rest)) :=
  va_iald (n := 8224) (f := σ 0) (cA := cI) S.1 S.2.1 hok.1 hP 1 0 rfl rfl hin hdg kk
theorem ra_Rc_values (S : CallFix p m c cc nL s args lwg own) (hok : okS D cI s) (hP : va_P D classes (wRc cI a wr σ) H) (hdg : decode cc pc = .ok (.arraylength, 1)) (kk : W p l e R s m args below meth c H locs cells slots Q (F0 m (pc + 1) ls (.int 8224 :: rest))) : W p l e R s m args below meth c H locs cells slots Q (F0 m pc ls (.ref (a 1) :: rest)) :=
  va_alen (ty := .int) (cA := cI) (x := (8224, .inl (σ 0))) S.1 S.2.1 hok.1 hP 1 0 rfl rfl rfl hdg kk
theorem e_Rc_values (hwr : Fx 11 wr) (g : Nat → Int32) : wRc cI a wr (sA σ 0 g) = (wRc cI a wr σ).set 1 (a 1, .inl (cI, 8224, .inl g)) := by
  show WRc cI a (sA σ 0 g) ++ wr (sA σ 0 g) = _
  rw [hwr σ 0 g (by decide)]
  rfl
theorem rs_Rc_values {i x : Int32} (S : CallFix p m c cc nL s args lwg own) (hok : okS D cI s) (hwr : Fx 11 wr) (hP : va_P D classes (wRc cI a wr σ) H) (hD : va_D A (wRc cI a wr σ)) (hS : va_S A H0 H locs) (hin : vp_in i 8224) (hdg : decode cc pc = .ok (.iastore, 1)) (kk : ∀ (τ : St) (H1 : Heap) (locs1 : List Loc), τ = sA σ 0 (upd (σ 0) i.toNatClampNeg x) → va_P D classes (wRc cI a wr τ) H1 → va_D A (wRc cI a wr τ) → va_S A H0 H1 locs1 → W p l e R s m args below meth c H1 locs1 cells slots Q (F0 m (pc + 1) ls rest)) : W p l e R s m args below meth c H locs cells slots Q (F0 m pc ls (.int x :: .int i :: .ref (a 1) :: rest)) :=
  va_iast (n := 8224) (f := σ 0) (cA := cI) S.1 S.2.1 hok.1 hP hD hS 1 0 rfl rfl hin hdg (fun H1 locs1 hP hD hS => kk _ H1 locs1 rfl (by rw [e_Rc_values hwr _]; exact hP) (by rw [e_Rc_values hwr _]; exact hD) hS)
theorem rg_Rc_holders (S : CallFix p m c cc nL s args lwg own) (hok : okS D cI s) (hP : va_P D classes (wRc cI a wr σ) H) (hl : (Cond.fieldLink own index "PropertyTrie$Records" "holders" "[I").before args s = true) (hdg : decode cc pc = .ok (.getfield index, 3)) (kk : W p l e R s m args below meth c H locs cells slots Q (F0 m (pc + 3) ls (.ref (a 2) :: rest))) : W p l e R s m args below meth c H locs cells slots Q (F0 m pc ls (.ref (a 0) :: rest)) :=
  va_get (C := R_Rc) (T := F_Rc) (N := 11) (ci := 0) (ref := "PropertyTrie$Records") (fs := fsRc a σ) (v := .ref (a 2)) S.1 S.2.1 S.2.2.2.2 i_Rc S.2.2.2.1 hok.1 hP 0 rfl rfl 1 (by decide) hl (fun _ h9 => h9) rfl hdg kk
theorem rl_Rc_holders {i : Int32} (S : CallFix p m c cc nL s args lwg own) (hok : okS D cI s) (hP : va_P D classes (wRc cI a wr σ) H) (hin : vp_in i 1028) (hdg : decode cc pc = .ok (.iaload, 1)) (kk : W p l e R s m args below meth c H locs cells slots Q (F0 m (pc + 1) ls (.int (σ 1 i.toNatClampNeg) :: rest))) : W p l e R s m args below meth c H locs cells slots Q (F0 m pc ls (.int i :: .ref (a 2) :: rest)) :=
  va_iald (n := 1028) (f := σ 1) (cA := cI) S.1 S.2.1 hok.1 hP 2 0 rfl rfl hin hdg kk
theorem ra_Rc_holders (S : CallFix p m c cc nL s args lwg own) (hok : okS D cI s) (hP : va_P D classes (wRc cI a wr σ) H) (hdg : decode cc pc = .ok (.arraylength, 1)) (kk : W p l e R s m args below meth c H locs cells slots Q (F0 m (pc + 1) ls (.int 1028 :: rest))) : W p l e R s m args below meth c H locs cells slots Q (F0 m pc ls (.ref (a 2) :: rest)) :=
  va_alen (ty := .int) (cA := cI) (x := (1028, .inl (σ 1))) S.1 S.2.1 hok.1 hP 2 0 rfl rfl rfl hdg kk
theorem e_Rc_holders (hwr : Fx 11 wr) (g : Nat → Int32) : wRc cI a wr (sA σ 1 g) = (wRc cI a wr σ).set 2 (a 2, .inl (cI, 1028, .inl g)) := by
  show WRc cI a (sA σ 1 g) ++ wr (sA σ 1 g) = _
  rw [hwr σ 1 g (by decide)]
  rfl
theorem rs_Rc_holders {i x : Int32} (S : CallFix p m c cc nL s args lwg own) (hok : okS D cI s) (hwr : Fx 11 wr) (hP : va_P D classes (wRc cI a wr σ) H) (hD : va_D A (wRc cI a wr σ)) (hS : va_S A H0 H locs) (hin : vp_in i 1028) (hdg : decode cc pc = .ok (.iastore, 1)) (kk : ∀ (τ : St) (H1 : Heap) (locs1 : List Loc), τ = sA σ 1 (upd (σ 1) i.toNatClampNeg x) → va_P D classes (wRc cI a wr τ) H1 → va_D A (wRc cI a wr τ) → va_S A H0 H1 locs1 → W p l e R s m args below meth c H1 locs1 cells slots Q (F0 m (pc + 1) ls rest)) : W p l e R s m args below meth c H locs cells slots Q (F0 m pc ls (.int x :: .int i :: .ref (a 2) :: rest)) :=
  va_iast (n := 1028) (f := σ 1) (cA := cI) S.1 S.2.1 hok.1 hP hD hS 2 0 rfl rfl hin hdg (fun H1 locs1 hP hD hS => kk _ H1 locs1 rfl (by rw [e_Rc_holders hwr _]; exact hP) (by rw [e_Rc_holders hwr _]; exact hD) hS)
theorem rg_Rc_spareRecords (S : CallFix p m c cc nL s args lwg own) (hok : okS D cI s) (hP : va_P D classes (wRc cI a wr σ) H) (hl : (Cond.fieldLink own index "PropertyTrie$Records" "spareRecords" "[I").before args s = true) (hdg : decode cc pc = .ok (.getfield index, 3)) (kk : W p l e R s m args below meth c H locs cells slots Q (F0 m (pc + 3) ls (.ref (a 3) :: rest))) : W p l e R s m args below meth c H locs cells slots Q (F0 m pc ls (.ref (a 0) :: rest)) :=
  va_get (C := R_Rc) (T := F_Rc) (N := 11) (ci := 0) (ref := "PropertyTrie$Records") (fs := fsRc a σ) (v := .ref (a 3)) S.1 S.2.1 S.2.2.2.2 i_Rc S.2.2.2.1 hok.1 hP 0 rfl rfl 2 (by decide) hl (fun _ h9 => h9) rfl hdg kk
theorem rl_Rc_spareRecords {i : Int32} (S : CallFix p m c cc nL s args lwg own) (hok : okS D cI s) (hP : va_P D classes (wRc cI a wr σ) H) (hin : vp_in i 1028) (hdg : decode cc pc = .ok (.iaload, 1)) (kk : W p l e R s m args below meth c H locs cells slots Q (F0 m (pc + 1) ls (.int (σ 2 i.toNatClampNeg) :: rest))) : W p l e R s m args below meth c H locs cells slots Q (F0 m pc ls (.int i :: .ref (a 3) :: rest)) :=
  va_iald (n := 1028) (f := σ 2) (cA := cI) S.1 S.2.1 hok.1 hP 3 0 rfl rfl hin hdg kk
theorem ra_Rc_spareRecords (S : CallFix p m c cc nL s args lwg own) (hok : okS D cI s) (hP : va_P D classes (wRc cI a wr σ) H) (hdg : decode cc pc = .ok (.arraylength, 1)) (kk : W p l e R s m args below meth c H locs cells slots Q (F0 m (pc + 1) ls (.int 1028 :: rest))) : W p l e R s m args below meth c H locs cells slots Q (F0 m pc ls (.ref (a 3) :: rest)) :=
  va_alen (ty := .int) (cA := cI) (x := (1028, .inl (σ 2))) S.1 S.2.1 hok.1 hP 3 0 rfl rfl rfl hdg kk
theorem e_Rc_spareRecords (hwr : Fx 11 wr) (g : Nat → Int32) : wRc cI a wr (sA σ 2 g) = (wRc cI a wr σ).set 3 (a 3, .inl (cI, 1028, .inl g)) := by
  show WRc cI a (sA σ 2 g) ++ wr (sA σ 2 g) = _
  rw [hwr σ 2 g (by decide)]
  rfl
theorem rs_Rc_spareRecords {i x : Int32} (S : CallFix p m c cc nL s args lwg own) (hok : okS D cI s) (hwr : Fx 11 wr) (hP : va_P D classes (wRc cI a wr σ) H) (hD : va_D A (wRc cI a wr σ)) (hS : va_S A H0 H locs) (hin : vp_in i 1028) (hdg : decode cc pc = .ok (.iastore, 1)) (kk : ∀ (τ : St) (H1 : Heap) (locs1 : List Loc), τ = sA σ 2 (upd (σ 2) i.toNatClampNeg x) → va_P D classes (wRc cI a wr τ) H1 → va_D A (wRc cI a wr τ) → va_S A H0 H1 locs1 → W p l e R s m args below meth c H1 locs1 cells slots Q (F0 m (pc + 1) ls rest)) : W p l e R s m args below meth c H locs cells slots Q (F0 m pc ls (.int x :: .int i :: .ref (a 3) :: rest)) :=
  va_iast (n := 1028) (f := σ 2) (cA := cI) S.1 S.2.1 hok.1 hP hD hS 3 0 rfl rfl hin hdg (fun H1 locs1 hP hD hS => kk _ H1 locs1 rfl (by rw [e_Rc_spareRecords hwr _]; exact hP) (by rw [e_Rc_spareRecords hwr _]; exact hD) hS)
theorem rg_Rc_spares (S : CallFix p m c cc nL s args lwg own) (hok : okS D cI s) (hP : va_P D classes (wRc cI a wr σ) H) (hl : (Cond.fieldLink own index "PropertyTrie$Records" "spares" "I").before args s = true) (hdg : decode cc pc = .ok (.getfield index, 3)) (kk : W p l e R s m args below meth c H locs cells slots Q (F0 m (pc + 3) ls (.int (σ 7 0) :: rest))) : W p l e R s m args below meth c H locs cells slots Q (F0 m pc ls (.ref (a 0) :: rest)) :=
  va_get (C := R_Rc) (T := F_Rc) (N := 11) (ci := 0) (ref := "PropertyTrie$Records") (fs := fsRc a σ) (v := .int (σ 7 0)) S.1 S.2.1 S.2.2.2.2 i_Rc S.2.2.2.1 hok.1 hP 0 rfl rfl 3 (by decide) hl (fun _ h9 => h9) rfl hdg kk
theorem e_Rc_spares (hwr : Fx 11 wr) (x : Int32) : wRc cI a wr (sA σ 7 (fun _ => x)) = (wRc cI a wr σ).set 0 (a 0, .inr (0, (fsRc a σ).set 3 (.int x))) := by
  show WRc cI a (sA σ 7 (fun _ => x)) ++ wr (sA σ 7 (fun _ => x)) = _
  rw [hwr σ 7 (fun _ => x) (by decide)]
  rfl
theorem rp_Rc_spares {x : Int32} (S : CallFix p m c cc nL s args lwg own) (hok : okS D cI s) (hwr : Fx 11 wr) (hP : va_P D classes (wRc cI a wr σ) H) (hD : va_D A (wRc cI a wr σ)) (hS : va_S A H0 H locs) (hl : (Cond.fieldLink own index "PropertyTrie$Records" "spares" "I").before args s = true) (hdg : decode cc pc = .ok (.putfield index, 3)) (kk : ∀ (τ : St) (H1 : Heap) (locs1 : List Loc), τ = sA σ 7 (fun _ => x) → va_P D classes (wRc cI a wr τ) H1 → va_D A (wRc cI a wr τ) → va_S A H0 H1 locs1 → W p l e R s m args below meth c H1 locs1 cells slots Q (F0 m (pc + 3) ls rest)) : W p l e R s m args below meth c H locs cells slots Q (F0 m pc ls (.int x :: .ref (a 0) :: rest)) :=
  va_put (D := D) (C := R_Rc) (T := F_Rc) (N := 11) (ci := 0) (ref := "PropertyTrie$Records") (fs := fsRc a σ) (v := .int x) (ty := .int) S.1 S.2.1 S.2.2.2.2 i_Rc t_Rc t_Rc_ok n_Rc S.2.2.2.1 hok.1 hP hD hS 0 rfl rfl 3 (by decide) hl (fun _ h9 => h9) rfl (by decide +kernel) rfl rfl (Nat.le_of_ble_eq_true rfl) hdg (fun H1 locs1 hP hD hS => kk _ H1 locs1 rfl (by rw [e_Rc_spares hwr x]; exact hP) (by rw [e_Rc_spares hwr x]; exact hD) hS)
theorem rg_Rc_heads (S : CallFix p m c cc nL s args lwg own) (hok : okS D cI s) (hP : va_P D classes (wRc cI a wr σ) H) (hl : (Cond.fieldLink own index "PropertyTrie$Records" "heads" "[I").before args s = true) (hdg : decode cc pc = .ok (.getfield index, 3)) (kk : W p l e R s m args below meth c H locs cells slots Q (F0 m (pc + 3) ls (.ref (a 4) :: rest))) : W p l e R s m args below meth c H locs cells slots Q (F0 m pc ls (.ref (a 0) :: rest)) :=
  va_get (C := R_Rc) (T := F_Rc) (N := 11) (ci := 0) (ref := "PropertyTrie$Records") (fs := fsRc a σ) (v := .ref (a 4)) S.1 S.2.1 S.2.2.2.2 i_Rc S.2.2.2.1 hok.1 hP 0 rfl rfl 4 (by decide) hl (fun _ h9 => h9) rfl hdg kk
theorem rl_Rc_heads {i : Int32} (S : CallFix p m c cc nL s args lwg own) (hok : okS D cI s) (hP : va_P D classes (wRc cI a wr σ) H) (hin : vp_in i 1024) (hdg : decode cc pc = .ok (.iaload, 1)) (kk : W p l e R s m args below meth c H locs cells slots Q (F0 m (pc + 1) ls (.int (σ 3 i.toNatClampNeg) :: rest))) : W p l e R s m args below meth c H locs cells slots Q (F0 m pc ls (.int i :: .ref (a 4) :: rest)) :=
  va_iald (n := 1024) (f := σ 3) (cA := cI) S.1 S.2.1 hok.1 hP 4 0 rfl rfl hin hdg kk
theorem ra_Rc_heads (S : CallFix p m c cc nL s args lwg own) (hok : okS D cI s) (hP : va_P D classes (wRc cI a wr σ) H) (hdg : decode cc pc = .ok (.arraylength, 1)) (kk : W p l e R s m args below meth c H locs cells slots Q (F0 m (pc + 1) ls (.int 1024 :: rest))) : W p l e R s m args below meth c H locs cells slots Q (F0 m pc ls (.ref (a 4) :: rest)) :=
  va_alen (ty := .int) (cA := cI) (x := (1024, .inl (σ 3))) S.1 S.2.1 hok.1 hP 4 0 rfl rfl rfl hdg kk
theorem e_Rc_heads (hwr : Fx 11 wr) (g : Nat → Int32) : wRc cI a wr (sA σ 3 g) = (wRc cI a wr σ).set 4 (a 4, .inl (cI, 1024, .inl g)) := by
  show WRc cI a (sA σ 3 g) ++ wr (sA σ 3 g) = _
  rw [hwr σ 3 g (by decide)]
  rfl
theorem rs_Rc_heads {i x : Int32} (S : CallFix p m c cc nL s args lwg own) (hok : okS D cI s) (hwr : Fx 11 wr) (hP : va_P D classes (wRc cI a wr σ) H) (hD : va_D A (wRc cI a wr σ)) (hS : va_S A H0 H locs) (hin : vp_in i 1024) (hdg : decode cc pc = .ok (.iastore, 1)) (kk : ∀ (τ : St) (H1 : Heap) (locs1 : List Loc), τ = sA σ 3 (upd (σ 3) i.toNatClampNeg x) → va_P D classes (wRc cI a wr τ) H1 → va_D A (wRc cI a wr τ) → va_S A H0 H1 locs1 → W p l e R s m args below meth c H1 locs1 cells slots Q (F0 m (pc + 1) ls rest)) : W p l e R s m args below meth c H locs cells slots Q (F0 m pc ls (.int x :: .int i :: .ref (a 4) :: rest)) :=
  va_iast (n := 1024) (f := σ 3) (cA := cI) S.1 S.2.1 hok.1 hP hD hS 4 0 rfl rfl hin hdg (fun H1 locs1 hP hD hS => kk _ H1 locs1 rfl (by rw [e_Rc_heads hwr _]; exact hP) (by rw [e_Rc_heads hwr _]; exact hD) hS)
theorem rg_Rc_behind (S : CallFix p m c cc nL s args lwg own) (hok : okS D cI s) (hP : va_P D classes (wRc cI a wr σ) H) (hl : (Cond.fieldLink own index "PropertyTrie$Records" "behind" "[I").before args s = true) (hdg : decode cc pc = .ok (.getfield index, 3)) (kk : W p l e R s m args below meth c H locs cells slots Q (F0 m (pc + 3) ls (.ref (a 5) :: rest))) : W p l e R s m args below meth c H locs cells slots Q (F0 m pc ls (.ref (a 0) :: rest)) :=
  va_get (C := R_Rc) (T := F_Rc) (N := 11) (ci := 0) (ref := "PropertyTrie$Records") (fs := fsRc a σ) (v := .ref (a 5)) S.1 S.2.1 S.2.2.2.2 i_Rc S.2.2.2.1 hok.1 hP 0 rfl rfl 5 (by decide) hl (fun _ h9 => h9) rfl hdg kk
theorem rl_Rc_behind {i : Int32} (S : CallFix p m c cc nL s args lwg own) (hok : okS D cI s) (hP : va_P D classes (wRc cI a wr σ) H) (hin : vp_in i 1028) (hdg : decode cc pc = .ok (.iaload, 1)) (kk : W p l e R s m args below meth c H locs cells slots Q (F0 m (pc + 1) ls (.int (σ 4 i.toNatClampNeg) :: rest))) : W p l e R s m args below meth c H locs cells slots Q (F0 m pc ls (.int i :: .ref (a 5) :: rest)) :=
  va_iald (n := 1028) (f := σ 4) (cA := cI) S.1 S.2.1 hok.1 hP 5 0 rfl rfl hin hdg kk
theorem ra_Rc_behind (S : CallFix p m c cc nL s args lwg own) (hok : okS D cI s) (hP : va_P D classes (wRc cI a wr σ) H) (hdg : decode cc pc = .ok (.arraylength, 1)) (kk : W p l e R s m args below meth c H locs cells slots Q (F0 m (pc + 1) ls (.int 1028 :: rest))) : W p l e R s m args below meth c H locs cells slots Q (F0 m pc ls (.ref (a 5) :: rest)) :=
  va_alen (ty := .int) (cA := cI) (x := (1028, .inl (σ 4))) S.1 S.2.1 hok.1 hP 5 0 rfl rfl rfl hdg kk
theorem e_Rc_behind (hwr : Fx 11 wr) (g : Nat → Int32) : wRc cI a wr (sA σ 4 g) = (wRc cI a wr σ).set 5 (a 5, .inl (cI, 1028, .inl g)) := by
  show WRc cI a (sA σ 4 g) ++ wr (sA σ 4 g) = _
  rw [hwr σ 4 g (by decide)]
  rfl
theorem rs_Rc_behind {i x : Int32} (S : CallFix p m c cc nL s args lwg own) (hok : okS D cI s) (hwr : Fx 11 wr) (hP : va_P D classes (wRc cI a wr σ) H) (hD : va_D A (wRc cI a wr σ)) (hS : va_S A H0 H locs) (hin : vp_in i 1028) (hdg : decode cc pc = .ok (.iastore, 1)) (kk : ∀ (τ : St) (H1 : Heap) (locs1 : List Loc), τ = sA σ 4 (upd (σ 4) i.toNatClampNeg x) → va_P D classes (wRc cI a wr τ) H1 → va_D A (wRc cI a wr τ) → va_S A H0 H1 locs1 → W p l e R s m args below meth c H1 locs1 cells slots Q (F0 m (pc + 1) ls rest)) : W p l e R s m args below meth c H locs cells slots Q (F0 m pc ls (.int x :: .int i :: .ref (a 5) :: rest)) :=
  va_iast (n := 1028) (f := σ 4) (cA := cI) S.1 S.2.1 hok.1 hP hD hS 5 0 rfl rfl hin hdg (fun H1 locs1 hP hD hS => kk _ H1 locs1 rfl (by rw [e_Rc_behind hwr _]; exact hP) (by rw [e_Rc_behind hwr _]; exact hD) hS)
theorem rg_Rc_field (S : CallFix p m c cc nL s args lwg own) (hok : okS D cI s) (hP : va_P D classes (wRc cI a wr σ) H) (hl : (Cond.fieldLink own index "PropertyTrie$Records" "field" "I").before args s = true) (hdg : decode cc pc = .ok (.getfield index, 3)) (kk : W p l e R s m args below meth c H locs cells slots Q (F0 m (pc + 3) ls (.int (σ 8 0) :: rest))) : W p l e R s m args below meth c H locs cells slots Q (F0 m pc ls (.ref (a 0) :: rest)) :=
  va_get (C := R_Rc) (T := F_Rc) (N := 11) (ci := 0) (ref := "PropertyTrie$Records") (fs := fsRc a σ) (v := .int (σ 8 0)) S.1 S.2.1 S.2.2.2.2 i_Rc S.2.2.2.1 hok.1 hP 0 rfl rfl 6 (by decide) hl (fun _ h9 => h9) rfl hdg kk
theorem e_Rc_field (hwr : Fx 11 wr) (x : Int32) : wRc cI a wr (sA σ 8 (fun _ => x)) = (wRc cI a wr σ).set 0 (a 0, .inr (0, (fsRc a σ).set 6 (.int x))) := by
  show WRc cI a (sA σ 8 (fun _ => x)) ++ wr (sA σ 8 (fun _ => x)) = _
  rw [hwr σ 8 (fun _ => x) (by decide)]
  rfl
theorem rp_Rc_field {x : Int32} (S : CallFix p m c cc nL s args lwg own) (hok : okS D cI s) (hwr : Fx 11 wr) (hP : va_P D classes (wRc cI a wr σ) H) (hD : va_D A (wRc cI a wr σ)) (hS : va_S A H0 H locs) (hl : (Cond.fieldLink own index "PropertyTrie$Records" "field" "I").before args s = true) (hdg : decode cc pc = .ok (.putfield index, 3)) (kk : ∀ (τ : St) (H1 : Heap) (locs1 : List Loc), τ = sA σ 8 (fun _ => x) → va_P D classes (wRc cI a wr τ) H1 → va_D A (wRc cI a wr τ) → va_S A H0 H1 locs1 → W p l e R s m args below meth c H1 locs1 cells slots Q (F0 m (pc + 3) ls rest)) : W p l e R s m args below meth c H locs cells slots Q (F0 m pc ls (.int x :: .ref (a 0) :: rest)) :=
  va_put (D := D) (C := R_Rc) (T := F_Rc) (N := 11) (ci := 0) (ref := "PropertyTrie$Records") (fs := fsRc a σ) (v := .int x) (ty := .int) S.1 S.2.1 S.2.2.2.2 i_Rc t_Rc t_Rc_ok n_Rc S.2.2.2.1 hok.1 hP hD hS 0 rfl rfl 6 (by decide) hl (fun _ h9 => h9) rfl (by decide +kernel) rfl rfl (Nat.le_of_ble_eq_true rfl) hdg (fun H1 locs1 hP hD hS => kk _ H1 locs1 rfl (by rw [e_Rc_field hwr x]; exact hP) (by rw [e_Rc_field hwr x]; exact hD) hS)
theorem rg_Rc_v (S : CallFix p m c cc nL s args lwg own) (hok : okS D cI s) (hP : va_P D classes (wRc cI a wr σ) H) (hl : (Cond.fieldLink own index "PropertyTrie$Records" "v" "I").before args s = true) (hdg : decode cc pc = .ok (.getfield index, 3)) (kk : W p l e R s m args below meth c H locs cells slots Q (F0 m (pc + 3) ls (.int (σ 9 0) :: rest))) : W p l e R s m args below meth c H locs cells slots Q (F0 m pc ls (.ref (a 0) :: rest)) :=
  va_get (C := R_Rc) (T := F_Rc) (N := 11) (ci := 0) (ref := "PropertyTrie$Records") (fs := fsRc a σ) (v := .int (σ 9 0)) S.1 S.2.1 S.2.2.2.2 i_Rc S.2.2.2.1 hok.1 hP 0 rfl rfl 7 (by decide) hl (fun _ h9 => h9) rfl hdg kk
theorem e_Rc_v (hwr : Fx 11 wr) (x : Int32) : wRc cI a wr (sA σ 9 (fun _ => x)) = (wRc cI a wr σ).set 0 (a 0, .inr (0, (fsRc a σ).set 7 (.int x))) := by
  show WRc cI a (sA σ 9 (fun _ => x)) ++ wr (sA σ 9 (fun _ => x)) = _
  rw [hwr σ 9 (fun _ => x) (by decide)]
  rfl
theorem rp_Rc_v {x : Int32} (S : CallFix p m c cc nL s args lwg own) (hok : okS D cI s) (hwr : Fx 11 wr) (hP : va_P D classes (wRc cI a wr σ) H) (hD : va_D A (wRc cI a wr σ)) (hS : va_S A H0 H locs) (hl : (Cond.fieldLink own index "PropertyTrie$Records" "v" "I").before args s = true) (hdg : decode cc pc = .ok (.putfield index, 3)) (kk : ∀ (τ : St) (H1 : Heap) (locs1 : List Loc), τ = sA σ 9 (fun _ => x) → va_P D classes (wRc cI a wr τ) H1 → va_D A (wRc cI a wr τ) → va_S A H0 H1 locs1 → W p l e R s m args below meth c H1 locs1 cells slots Q (F0 m (pc + 3) ls rest)) : W p l e R s m args below meth c H locs cells slots Q (F0 m pc ls (.int x :: .ref (a 0) :: rest)) :=
  va_put (D := D) (C := R_Rc) (T := F_Rc) (N := 11) (ci := 0) (ref := "PropertyTrie$Records") (fs := fsRc a σ) (v := .int x) (ty := .int) S.1 S.2.1 S.2.2.2.2 i_Rc t_Rc t_Rc_ok n_Rc S.2.2.2.1 hok.1 hP hD hS 0 rfl rfl 7 (by decide) hl (fun _ h9 => h9) rfl (by decide +kernel) rfl rfl (Nat.le_of_ble_eq_true rfl) hdg (fun H1 locs1 hP hD hS => kk _ H1 locs1 rfl (by rw [e_Rc_v hwr x]; exact hP) (by rw [e_Rc_v hwr x]; exact hD) hS)
theorem rg_Rc_kept (S : CallFix p m c cc nL s args lwg own) (hok : okS D cI s) (hP : va_P D classes (wRc cI a wr σ) H) (hl : (Cond.fieldLink own index "PropertyTrie$Records" "kept" "I").before args s = true) (hdg : decode cc pc = .ok (.getfield index, 3)) (kk : W p l e R s m args below meth c H locs cells slots Q (F0 m (pc + 3) ls (.int (σ 10 0) :: rest))) : W p l e R s m args below meth c H locs cells slots Q (F0 m pc ls (.ref (a 0) :: rest)) :=
  va_get (C := R_Rc) (T := F_Rc) (N := 11) (ci := 0) (ref := "PropertyTrie$Records") (fs := fsRc a σ) (v := .int (σ 10 0)) S.1 S.2.1 S.2.2.2.2 i_Rc S.2.2.2.1 hok.1 hP 0 rfl rfl 8 (by decide) hl (fun _ h9 => h9) rfl hdg kk
theorem e_Rc_kept (hwr : Fx 11 wr) (x : Int32) : wRc cI a wr (sA σ 10 (fun _ => x)) = (wRc cI a wr σ).set 0 (a 0, .inr (0, (fsRc a σ).set 8 (.int x))) := by
  show WRc cI a (sA σ 10 (fun _ => x)) ++ wr (sA σ 10 (fun _ => x)) = _
  rw [hwr σ 10 (fun _ => x) (by decide)]
  rfl
theorem rp_Rc_kept {x : Int32} (S : CallFix p m c cc nL s args lwg own) (hok : okS D cI s) (hwr : Fx 11 wr) (hP : va_P D classes (wRc cI a wr σ) H) (hD : va_D A (wRc cI a wr σ)) (hS : va_S A H0 H locs) (hl : (Cond.fieldLink own index "PropertyTrie$Records" "kept" "I").before args s = true) (hdg : decode cc pc = .ok (.putfield index, 3)) (kk : ∀ (τ : St) (H1 : Heap) (locs1 : List Loc), τ = sA σ 10 (fun _ => x) → va_P D classes (wRc cI a wr τ) H1 → va_D A (wRc cI a wr τ) → va_S A H0 H1 locs1 → W p l e R s m args below meth c H1 locs1 cells slots Q (F0 m (pc + 3) ls rest)) : W p l e R s m args below meth c H locs cells slots Q (F0 m pc ls (.int x :: .ref (a 0) :: rest)) :=
  va_put (D := D) (C := R_Rc) (T := F_Rc) (N := 11) (ci := 0) (ref := "PropertyTrie$Records") (fs := fsRc a σ) (v := .int x) (ty := .int) S.1 S.2.1 S.2.2.2.2 i_Rc t_Rc t_Rc_ok n_Rc S.2.2.2.1 hok.1 hP hD hS 0 rfl rfl 8 (by decide) hl (fun _ h9 => h9) rfl (by decide +kernel) rfl rfl (Nat.le_of_ble_eq_true rfl) hdg (fun H1 locs1 hP hD hS => kk _ H1 locs1 rfl (by rw [e_Rc_kept hwr x]; exact hP) (by rw [e_Rc_kept hwr x]; exact hD) hS)
theorem rg_Rc_outcome (S : CallFix p m c cc nL s args lwg own) (hok : okS D cI s) (hP : va_P D classes (wRc cI a wr σ) H) (hl : (Cond.fieldLink own index "PropertyTrie$Records" "outcome" "[I").before args s = true) (hdg : decode cc pc = .ok (.getfield index, 3)) (kk : W p l e R s m args below meth c H locs cells slots Q (F0 m (pc + 3) ls (.ref (a 6) :: rest))) : W p l e R s m args below meth c H locs cells slots Q (F0 m pc ls (.ref (a 0) :: rest)) :=
  va_get (C := R_Rc) (T := F_Rc) (N := 11) (ci := 0) (ref := "PropertyTrie$Records") (fs := fsRc a σ) (v := .ref (a 6)) S.1 S.2.1 S.2.2.2.2 i_Rc S.2.2.2.1 hok.1 hP 0 rfl rfl 9 (by decide) hl (fun _ h9 => h9) rfl hdg kk
theorem rl_Rc_outcome {i : Int32} (S : CallFix p m c cc nL s args lwg own) (hok : okS D cI s) (hP : va_P D classes (wRc cI a wr σ) H) (hin : vp_in i 1028) (hdg : decode cc pc = .ok (.iaload, 1)) (kk : W p l e R s m args below meth c H locs cells slots Q (F0 m (pc + 1) ls (.int (σ 5 i.toNatClampNeg) :: rest))) : W p l e R s m args below meth c H locs cells slots Q (F0 m pc ls (.int i :: .ref (a 6) :: rest)) :=
  va_iald (n := 1028) (f := σ 5) (cA := cI) S.1 S.2.1 hok.1 hP 6 0 rfl rfl hin hdg kk
theorem ra_Rc_outcome (S : CallFix p m c cc nL s args lwg own) (hok : okS D cI s) (hP : va_P D classes (wRc cI a wr σ) H) (hdg : decode cc pc = .ok (.arraylength, 1)) (kk : W p l e R s m args below meth c H locs cells slots Q (F0 m (pc + 1) ls (.int 1028 :: rest))) : W p l e R s m args below meth c H locs cells slots Q (F0 m pc ls (.ref (a 6) :: rest)) :=
  va_alen (ty := .int) (cA := cI) (x := (1028, .inl (σ 5))) S.1 S.2.1 hok.1 hP 6 0 rfl rfl rfl hdg kk
theorem e_Rc_outcome (hwr : Fx 11 wr) (g : Nat → Int32) : wRc cI a wr (sA σ 5 g) = (wRc cI a wr σ).set 6 (a 6, .inl (cI, 1028, .inl g)) := by
  show WRc cI a (sA σ 5 g) ++ wr (sA σ 5 g) = _
  rw [hwr σ 5 g (by decide)]
  rfl
theorem rs_Rc_outcome {i x : Int32} (S : CallFix p m c cc nL s args lwg own) (hok : okS D cI s) (hwr : Fx 11 wr) (hP : va_P D classes (wRc cI a wr σ) H) (hD : va_D A (wRc cI a wr σ)) (hS : va_S A H0 H locs) (hin : vp_in i 1028) (hdg : decode cc pc = .ok (.iastore, 1)) (kk : ∀ (τ : St) (H1 : Heap) (locs1 : List Loc), τ = sA σ 5 (upd (σ 5) i.toNatClampNeg x) → va_P D classes (wRc cI a wr τ) H1 → va_D A (wRc cI a wr τ) → va_S A H0 H1 locs1 → W p l e R s m args below meth c H1 locs1 cells slots Q (F0 m (pc + 1) ls rest)) : W p l e R s m args below meth c H locs cells slots Q (F0 m pc ls (.int x :: .int i :: .ref (a 6) :: rest)) :=
  va_iast (n := 1028) (f := σ 5) (cA := cI) S.1 S.2.1 hok.1 hP hD hS 6 0 rfl rfl hin hdg (fun H1 locs1 hP hD hS => kk _ H1 locs1 rfl (by rw [e_Rc_outcome hwr _]; exact hP) (by rw [e_Rc_outcome hwr _]; exact hD) hS)
theorem rg_Rc_wanted (S : CallFix p m c cc nL s args lwg own) (hok : okS D cI s) (hP : va_P D classes (wRc cI a wr σ) H) (hl : (Cond.fieldLink own index "PropertyTrie$Records" "wanted" "[I").before args s = true) (hdg : decode cc pc = .ok (.getfield index, 3)) (kk : W p l e R s m args below meth c H locs cells slots Q (F0 m (pc + 3) ls (.ref (a 7) :: rest))) : W p l e R s m args below meth c H locs cells slots Q (F0 m pc ls (.ref (a 0) :: rest)) :=
  va_get (C := R_Rc) (T := F_Rc) (N := 11) (ci := 0) (ref := "PropertyTrie$Records") (fs := fsRc a σ) (v := .ref (a 7)) S.1 S.2.1 S.2.2.2.2 i_Rc S.2.2.2.1 hok.1 hP 0 rfl rfl 10 (by decide) hl (fun _ h9 => h9) rfl hdg kk
theorem rl_Rc_wanted {i : Int32} (S : CallFix p m c cc nL s args lwg own) (hok : okS D cI s) (hP : va_P D classes (wRc cI a wr σ) H) (hin : vp_in i 8) (hdg : decode cc pc = .ok (.iaload, 1)) (kk : W p l e R s m args below meth c H locs cells slots Q (F0 m (pc + 1) ls (.int (σ 6 i.toNatClampNeg) :: rest))) : W p l e R s m args below meth c H locs cells slots Q (F0 m pc ls (.int i :: .ref (a 7) :: rest)) :=
  va_iald (n := 8) (f := σ 6) (cA := cI) S.1 S.2.1 hok.1 hP 7 0 rfl rfl hin hdg kk
theorem ra_Rc_wanted (S : CallFix p m c cc nL s args lwg own) (hok : okS D cI s) (hP : va_P D classes (wRc cI a wr σ) H) (hdg : decode cc pc = .ok (.arraylength, 1)) (kk : W p l e R s m args below meth c H locs cells slots Q (F0 m (pc + 1) ls (.int 8 :: rest))) : W p l e R s m args below meth c H locs cells slots Q (F0 m pc ls (.ref (a 7) :: rest)) :=
  va_alen (ty := .int) (cA := cI) (x := (8, .inl (σ 6))) S.1 S.2.1 hok.1 hP 7 0 rfl rfl rfl hdg kk
theorem e_Rc_wanted (hwr : Fx 11 wr) (g : Nat → Int32) : wRc cI a wr (sA σ 6 g) = (wRc cI a wr σ).set 7 (a 7, .inl (cI, 8, .inl g)) := by
  show WRc cI a (sA σ 6 g) ++ wr (sA σ 6 g) = _
  rw [hwr σ 6 g (by decide)]
  rfl
theorem rs_Rc_wanted {i x : Int32} (S : CallFix p m c cc nL s args lwg own) (hok : okS D cI s) (hwr : Fx 11 wr) (hP : va_P D classes (wRc cI a wr σ) H) (hD : va_D A (wRc cI a wr σ)) (hS : va_S A H0 H locs) (hin : vp_in i 8) (hdg : decode cc pc = .ok (.iastore, 1)) (kk : ∀ (τ : St) (H1 : Heap) (locs1 : List Loc), τ = sA σ 6 (upd (σ 6) i.toNatClampNeg x) → va_P D classes (wRc cI a wr τ) H1 → va_D A (wRc cI a wr τ) → va_S A H0 H1 locs1 → W p l e R s m args below meth c H1 locs1 cells slots Q (F0 m (pc + 1) ls rest)) : W p l e R s m args below meth c H locs cells slots Q (F0 m pc ls (.int x :: .int i :: .ref (a 7) :: rest)) :=
  va_iast (n := 8) (f := σ 6) (cA := cI) S.1 S.2.1 hok.1 hP hD hS 7 0 rfl rfl hin hdg (fun H1 locs1 hP hD hS => kk _ H1 locs1 rfl (by rw [e_Rc_wanted hwr _]; exact hP) (by rw [e_Rc_wanted hwr _]; exact hD) hS)
theorem rg_Bl_records (S : CallFix p m c cc nL s args lwg own) (hok : okS D cI s) (hP : va_P D classes (wBl cI a wr σ) H) (hl : (Cond.fieldLink own index "PropertyTrie$Blocks" "records" "LPropertyTrie$Records;").before args s = true) (hdg : decode cc pc = .ok (.getfield index, 3)) (kk : W p l e R s m args below meth c H locs cells slots Q (F0 m (pc + 3) ls (.ref (a 0) :: rest))) : W p l e R s m args below meth c H locs cells slots Q (F0 m pc ls (.ref (a 8) :: rest)) :=
  va_get (C := R_Bl) (T := F_Bl) (N := 7) (ci := 1) (ref := "PropertyTrie$Blocks") (fs := fsBl a σ) (v := .ref (a 0)) S.1 S.2.1 S.2.2.2.2 i_Bl S.2.2.2.1 hok.1 hP 8 rfl rfl 0 (by decide) hl (fun _ h9 => h9) rfl hdg kk
theorem rgN_Bl_records (S : CallFix p m c cc nL s args lwg own) (hok : okS D cI s) (hP : va_P D classes (wBl cI a wr σ) H) (hl : (Cond.fieldLinkNest own index "PropertyTrie$Blocks" "records" "LPropertyTrie$Records;" "PropertyTrie").before args s = true) (hdg : decode cc pc = .ok (.getfield index, 3)) (kk : W p l e R s m args below meth c H locs cells slots Q (F0 m (pc + 3) ls (.ref (a 0) :: rest))) : W p l e R s m args below meth c H locs cells slots Q (F0 m pc ls (.ref (a 8) :: rest)) :=
  va_getN (C := R_Bl) (T := F_Bl) (N := 7) (ci := 1) (ref := "PropertyTrie$Blocks") (fs := fsBl a σ) (v := .ref (a 0)) S.1 S.2.1 S.2.2.2.2 i_Bl S.2.2.2.1 hok.1 hP 8 rfl rfl 0 (by decide) hl (fun _ h9 => h9) rfl hdg kk
theorem rg_Bl_cells (S : CallFix p m c cc nL s args lwg own) (hok : okS D cI s) (hP : va_P D classes (wBl cI a wr σ) H) (hl : (Cond.fieldLink own index "PropertyTrie$Blocks" "cells" "[I").before args s = true) (hdg : decode cc pc = .ok (.getfield index, 3)) (kk : W p l e R s m args below meth c H locs cells slots Q (F0 m (pc + 3) ls (.ref (a 9) :: rest))) : W p l e R s m args below meth c H locs cells slots Q (F0 m pc ls (.ref (a 8) :: rest)) :=
  va_get (C := R_Bl) (T := F_Bl) (N := 7) (ci := 1) (ref := "PropertyTrie$Blocks") (fs := fsBl a σ) (v := .ref (a 9)) S.1 S.2.1 S.2.2.2.2 i_Bl S.2.2.2.1 hok.1 hP 8 rfl rfl 1 (by decide) hl (fun _ h9 => h9) rfl hdg kk
theorem rl_Bl_cells {i : Int32} (S : CallFix p m c cc nL s args lwg own) (hok : okS D cI s) (hP : va_P D classes (wBl cI a wr σ) H) (hin : vp_in i 66624) (hdg : decode cc pc = .ok (.iaload, 1)) (kk : W p l e R s m args below meth c H locs cells slots Q (F0 m (pc + 1) ls (.int (σ 11 i.toNatClampNeg) :: rest))) : W p l e R s m args below meth c H locs cells slots Q (F0 m pc ls (.int i :: .ref (a 9) :: rest)) :=
  va_iald (n := 66624) (f := σ 11) (cA := cI) S.1 S.2.1 hok.1 hP 9 0 rfl rfl hin hdg kk
theorem ra_Bl_cells (S : CallFix p m c cc nL s args lwg own) (hok : okS D cI s) (hP : va_P D classes (wBl cI a wr σ) H) (hdg : decode cc pc = .ok (.arraylength, 1)) (kk : W p l e R s m args below meth c H locs cells slots Q (F0 m (pc + 1) ls (.int 66624 :: rest))) : W p l e R s m args below meth c H locs cells slots Q (F0 m pc ls (.ref (a 9) :: rest)) :=
  va_alen (ty := .int) (cA := cI) (x := (66624, .inl (σ 11))) S.1 S.2.1 hok.1 hP 9 0 rfl rfl rfl hdg kk
theorem e_Bl_cells (hwr : Fx 17 wr) (g : Nat → Int32) : wBl cI a wr (sA σ 11 g) = (wBl cI a wr σ).set 9 (a 9, .inl (cI, 66624, .inl g)) := by
  show WRc cI a (sA σ 11 g) ++ (WBl cI a (sA σ 11 g) ++ wr (sA σ 11 g)) = _
  rw [hwr σ 11 g (by decide)]
  rfl
theorem rs_Bl_cells {i x : Int32} (S : CallFix p m c cc nL s args lwg own) (hok : okS D cI s) (hwr : Fx 17 wr) (hP : va_P D classes (wBl cI a wr σ) H) (hD : va_D A (wBl cI a wr σ)) (hS : va_S A H0 H locs) (hin : vp_in i 66624) (hdg : decode cc pc = .ok (.iastore, 1)) (kk : ∀ (τ : St) (H1 : Heap) (locs1 : List Loc), τ = sA σ 11 (upd (σ 11) i.toNatClampNeg x) → va_P D classes (wBl cI a wr τ) H1 → va_D A (wBl cI a wr τ) → va_S A H0 H1 locs1 → W p l e R s m args below meth c H1 locs1 cells slots Q (F0 m (pc + 1) ls rest)) : W p l e R s m args below meth c H locs cells slots Q (F0 m pc ls (.int x :: .int i :: .ref (a 9) :: rest)) :=
  va_iast (n := 66624) (f := σ 11) (cA := cI) S.1 S.2.1 hok.1 hP hD hS 9 0 rfl rfl hin hdg (fun H1 locs1 hP hD hS => kk _ H1 locs1 rfl (by rw [e_Bl_cells hwr _]; exact hP) (by rw [e_Bl_cells hwr _]; exact hD) hS)
theorem rg_Bl_spareRows (S : CallFix p m c cc nL s args lwg own) (hok : okS D cI s) (hP : va_P D classes (wBl cI a wr σ) H) (hl : (Cond.fieldLink own index "PropertyTrie$Blocks" "spareRows" "[I").before args s = true) (hdg : decode cc pc = .ok (.getfield index, 3)) (kk : W p l e R s m args below meth c H locs cells slots Q (F0 m (pc + 3) ls (.ref (a 10) :: rest))) : W p l e R s m args below meth c H locs cells slots Q (F0 m pc ls (.ref (a 8) :: rest)) :=
  va_get (C := R_Bl) (T := F_Bl) (N := 7) (ci := 1) (ref := "PropertyTrie$Blocks") (fs := fsBl a σ) (v := .ref (a 10)) S.1 S.2.1 S.2.2.2.2 i_Bl S.2.2.2.1 hok.1 hP 8 rfl rfl 2 (by decide) hl (fun _ h9 => h9) rfl hdg kk
theorem rl_Bl_spareRows {i : Int32} (S : CallFix p m c cc nL s args lwg own) (hok : okS D cI s) (hP : va_P D classes (wBl cI a wr σ) H) (hin : vp_in i 2048) (hdg : decode cc pc = .ok (.iaload, 1)) (kk : W p l e R s m args below meth c H locs cells slots Q (F0 m (pc + 1) ls (.int (σ 12 i.toNatClampNeg) :: rest))) : W p l e R s m args below meth c H locs cells slots Q (F0 m pc ls (.int i :: .ref (a 10) :: rest)) :=
  va_iald (n := 2048) (f := σ 12) (cA := cI) S.1 S.2.1 hok.1 hP 10 0 rfl rfl hin hdg kk
theorem ra_Bl_spareRows (S : CallFix p m c cc nL s args lwg own) (hok : okS D cI s) (hP : va_P D classes (wBl cI a wr σ) H) (hdg : decode cc pc = .ok (.arraylength, 1)) (kk : W p l e R s m args below meth c H locs cells slots Q (F0 m (pc + 1) ls (.int 2048 :: rest))) : W p l e R s m args below meth c H locs cells slots Q (F0 m pc ls (.ref (a 10) :: rest)) :=
  va_alen (ty := .int) (cA := cI) (x := (2048, .inl (σ 12))) S.1 S.2.1 hok.1 hP 10 0 rfl rfl rfl hdg kk
theorem e_Bl_spareRows (hwr : Fx 17 wr) (g : Nat → Int32) : wBl cI a wr (sA σ 12 g) = (wBl cI a wr σ).set 10 (a 10, .inl (cI, 2048, .inl g)) := by
  show WRc cI a (sA σ 12 g) ++ (WBl cI a (sA σ 12 g) ++ wr (sA σ 12 g)) = _
  rw [hwr σ 12 g (by decide)]
  rfl
theorem rs_Bl_spareRows {i x : Int32} (S : CallFix p m c cc nL s args lwg own) (hok : okS D cI s) (hwr : Fx 17 wr) (hP : va_P D classes (wBl cI a wr σ) H) (hD : va_D A (wBl cI a wr σ)) (hS : va_S A H0 H locs) (hin : vp_in i 2048) (hdg : decode cc pc = .ok (.iastore, 1)) (kk : ∀ (τ : St) (H1 : Heap) (locs1 : List Loc), τ = sA σ 12 (upd (σ 12) i.toNatClampNeg x) → va_P D classes (wBl cI a wr τ) H1 → va_D A (wBl cI a wr τ) → va_S A H0 H1 locs1 → W p l e R s m args below meth c H1 locs1 cells slots Q (F0 m (pc + 1) ls rest)) : W p l e R s m args below meth c H locs cells slots Q (F0 m pc ls (.int x :: .int i :: .ref (a 10) :: rest)) :=
  va_iast (n := 2048) (f := σ 12) (cA := cI) S.1 S.2.1 hok.1 hP hD hS 10 0 rfl rfl hin hdg (fun H1 locs1 hP hD hS => kk _ H1 locs1 rfl (by rw [e_Bl_spareRows hwr _]; exact hP) (by rw [e_Bl_spareRows hwr _]; exact hD) hS)
theorem rg_Bl_spares (S : CallFix p m c cc nL s args lwg own) (hok : okS D cI s) (hP : va_P D classes (wBl cI a wr σ) H) (hl : (Cond.fieldLink own index "PropertyTrie$Blocks" "spares" "I").before args s = true) (hdg : decode cc pc = .ok (.getfield index, 3)) (kk : W p l e R s m args below meth c H locs cells slots Q (F0 m (pc + 3) ls (.int (σ 13 0) :: rest))) : W p l e R s m args below meth c H locs cells slots Q (F0 m pc ls (.ref (a 8) :: rest)) :=
  va_get (C := R_Bl) (T := F_Bl) (N := 7) (ci := 1) (ref := "PropertyTrie$Blocks") (fs := fsBl a σ) (v := .int (σ 13 0)) S.1 S.2.1 S.2.2.2.2 i_Bl S.2.2.2.1 hok.1 hP 8 rfl rfl 3 (by decide) hl (fun _ h9 => h9) rfl hdg kk
theorem e_Bl_spares (hwr : Fx 17 wr) (x : Int32) : wBl cI a wr (sA σ 13 (fun _ => x)) = (wBl cI a wr σ).set 8 (a 8, .inr (1, (fsBl a σ).set 3 (.int x))) := by
  show WRc cI a (sA σ 13 (fun _ => x)) ++ (WBl cI a (sA σ 13 (fun _ => x)) ++ wr (sA σ 13 (fun _ => x))) = _
  rw [hwr σ 13 (fun _ => x) (by decide)]
  rfl
theorem rp_Bl_spares {x : Int32} (S : CallFix p m c cc nL s args lwg own) (hok : okS D cI s) (hwr : Fx 17 wr) (hP : va_P D classes (wBl cI a wr σ) H) (hD : va_D A (wBl cI a wr σ)) (hS : va_S A H0 H locs) (hl : (Cond.fieldLink own index "PropertyTrie$Blocks" "spares" "I").before args s = true) (hdg : decode cc pc = .ok (.putfield index, 3)) (kk : ∀ (τ : St) (H1 : Heap) (locs1 : List Loc), τ = sA σ 13 (fun _ => x) → va_P D classes (wBl cI a wr τ) H1 → va_D A (wBl cI a wr τ) → va_S A H0 H1 locs1 → W p l e R s m args below meth c H1 locs1 cells slots Q (F0 m (pc + 3) ls rest)) : W p l e R s m args below meth c H locs cells slots Q (F0 m pc ls (.int x :: .ref (a 8) :: rest)) :=
  va_put (D := D) (C := R_Bl) (T := F_Bl) (N := 7) (ci := 1) (ref := "PropertyTrie$Blocks") (fs := fsBl a σ) (v := .int x) (ty := .int) S.1 S.2.1 S.2.2.2.2 i_Bl t_Bl t_Bl_ok n_Bl S.2.2.2.1 hok.1 hP hD hS 8 rfl rfl 3 (by decide) hl (fun _ h9 => h9) rfl (by decide +kernel) rfl rfl (Nat.le_of_ble_eq_true rfl) hdg (fun H1 locs1 hP hD hS => kk _ H1 locs1 rfl (by rw [e_Bl_spares hwr x]; exact hP) (by rw [e_Bl_spares hwr x]; exact hD) hS)
theorem rg_Bl_found (S : CallFix p m c cc nL s args lwg own) (hok : okS D cI s) (hP : va_P D classes (wBl cI a wr σ) H) (hl : (Cond.fieldLink own index "PropertyTrie$Blocks" "found" "I").before args s = true) (hdg : decode cc pc = .ok (.getfield index, 3)) (kk : W p l e R s m args below meth c H locs cells slots Q (F0 m (pc + 3) ls (.int (σ 14 0) :: rest))) : W p l e R s m args below meth c H locs cells slots Q (F0 m pc ls (.ref (a 8) :: rest)) :=
  va_get (C := R_Bl) (T := F_Bl) (N := 7) (ci := 1) (ref := "PropertyTrie$Blocks") (fs := fsBl a σ) (v := .int (σ 14 0)) S.1 S.2.1 S.2.2.2.2 i_Bl S.2.2.2.1 hok.1 hP 8 rfl rfl 4 (by decide) hl (fun _ h9 => h9) rfl hdg kk
theorem e_Bl_found (hwr : Fx 17 wr) (x : Int32) : wBl cI a wr (sA σ 14 (fun _ => x)) = (wBl cI a wr σ).set 8 (a 8, .inr (1, (fsBl a σ).set 4 (.int x))) := by
  show WRc cI a (sA σ 14 (fun _ => x)) ++ (WBl cI a (sA σ 14 (fun _ => x)) ++ wr (sA σ 14 (fun _ => x))) = _
  rw [hwr σ 14 (fun _ => x) (by decide)]
  rfl
theorem rp_Bl_found {x : Int32} (S : CallFix p m c cc nL s args lwg own) (hok : okS D cI s) (hwr : Fx 17 wr) (hP : va_P D classes (wBl cI a wr σ) H) (hD : va_D A (wBl cI a wr σ)) (hS : va_S A H0 H locs) (hl : (Cond.fieldLink own index "PropertyTrie$Blocks" "found" "I").before args s = true) (hdg : decode cc pc = .ok (.putfield index, 3)) (kk : ∀ (τ : St) (H1 : Heap) (locs1 : List Loc), τ = sA σ 14 (fun _ => x) → va_P D classes (wBl cI a wr τ) H1 → va_D A (wBl cI a wr τ) → va_S A H0 H1 locs1 → W p l e R s m args below meth c H1 locs1 cells slots Q (F0 m (pc + 3) ls rest)) : W p l e R s m args below meth c H locs cells slots Q (F0 m pc ls (.int x :: .ref (a 8) :: rest)) :=
  va_put (D := D) (C := R_Bl) (T := F_Bl) (N := 7) (ci := 1) (ref := "PropertyTrie$Blocks") (fs := fsBl a σ) (v := .int x) (ty := .int) S.1 S.2.1 S.2.2.2.2 i_Bl t_Bl t_Bl_ok n_Bl S.2.2.2.1 hok.1 hP hD hS 8 rfl rfl 4 (by decide) hl (fun _ h9 => h9) rfl (by decide +kernel) rfl rfl (Nat.le_of_ble_eq_true rfl) hdg (fun H1 locs1 hP hD hS => kk _ H1 locs1 rfl (by rw [e_Bl_found hwr x]; exact hP) (by rw [e_Bl_found hwr x]; exact hD) hS)
theorem rg_Bl_foundFirst (S : CallFix p m c cc nL s args lwg own) (hok : okS D cI s) (hP : va_P D classes (wBl cI a wr σ) H) (hl : (Cond.fieldLink own index "PropertyTrie$Blocks" "foundFirst" "I").before args s = true) (hdg : decode cc pc = .ok (.getfield index, 3)) (kk : W p l e R s m args below meth c H locs cells slots Q (F0 m (pc + 3) ls (.int (σ 15 0) :: rest))) : W p l e R s m args below meth c H locs cells slots Q (F0 m pc ls (.ref (a 8) :: rest)) :=
  va_get (C := R_Bl) (T := F_Bl) (N := 7) (ci := 1) (ref := "PropertyTrie$Blocks") (fs := fsBl a σ) (v := .int (σ 15 0)) S.1 S.2.1 S.2.2.2.2 i_Bl S.2.2.2.1 hok.1 hP 8 rfl rfl 5 (by decide) hl (fun _ h9 => h9) rfl hdg kk
theorem e_Bl_foundFirst (hwr : Fx 17 wr) (x : Int32) : wBl cI a wr (sA σ 15 (fun _ => x)) = (wBl cI a wr σ).set 8 (a 8, .inr (1, (fsBl a σ).set 5 (.int x))) := by
  show WRc cI a (sA σ 15 (fun _ => x)) ++ (WBl cI a (sA σ 15 (fun _ => x)) ++ wr (sA σ 15 (fun _ => x))) = _
  rw [hwr σ 15 (fun _ => x) (by decide)]
  rfl
theorem rp_Bl_foundFirst {x : Int32} (S : CallFix p m c cc nL s args lwg own) (hok : okS D cI s) (hwr : Fx 17 wr) (hP : va_P D classes (wBl cI a wr σ) H) (hD : va_D A (wBl cI a wr σ)) (hS : va_S A H0 H locs) (hl : (Cond.fieldLink own index "PropertyTrie$Blocks" "foundFirst" "I").before args s = true) (hdg : decode cc pc = .ok (.putfield index, 3)) (kk : ∀ (τ : St) (H1 : Heap) (locs1 : List Loc), τ = sA σ 15 (fun _ => x) → va_P D classes (wBl cI a wr τ) H1 → va_D A (wBl cI a wr τ) → va_S A H0 H1 locs1 → W p l e R s m args below meth c H1 locs1 cells slots Q (F0 m (pc + 3) ls rest)) : W p l e R s m args below meth c H locs cells slots Q (F0 m pc ls (.int x :: .ref (a 8) :: rest)) :=
  va_put (D := D) (C := R_Bl) (T := F_Bl) (N := 7) (ci := 1) (ref := "PropertyTrie$Blocks") (fs := fsBl a σ) (v := .int x) (ty := .int) S.1 S.2.1 S.2.2.2.2 i_Bl t_Bl t_Bl_ok n_Bl S.2.2.2.1 hok.1 hP hD hS 8 rfl rfl 5 (by decide) hl (fun _ h9 => h9) rfl (by decide +kernel) rfl rfl (Nat.le_of_ble_eq_true rfl) hdg (fun H1 locs1 hP hD hS => kk _ H1 locs1 rfl (by rw [e_Bl_foundFirst hwr x]; exact hP) (by rw [e_Bl_foundFirst hwr x]; exact hD) hS)
theorem rg_Bl_foundLast (S : CallFix p m c cc nL s args lwg own) (hok : okS D cI s) (hP : va_P D classes (wBl cI a wr σ) H) (hl : (Cond.fieldLink own index "PropertyTrie$Blocks" "foundLast" "I").before args s = true) (hdg : decode cc pc = .ok (.getfield index, 3)) (kk : W p l e R s m args below meth c H locs cells slots Q (F0 m (pc + 3) ls (.int (σ 16 0) :: rest))) : W p l e R s m args below meth c H locs cells slots Q (F0 m pc ls (.ref (a 8) :: rest)) :=
  va_get (C := R_Bl) (T := F_Bl) (N := 7) (ci := 1) (ref := "PropertyTrie$Blocks") (fs := fsBl a σ) (v := .int (σ 16 0)) S.1 S.2.1 S.2.2.2.2 i_Bl S.2.2.2.1 hok.1 hP 8 rfl rfl 6 (by decide) hl (fun _ h9 => h9) rfl hdg kk
theorem rgN_Bl_foundLast (S : CallFix p m c cc nL s args lwg own) (hok : okS D cI s) (hP : va_P D classes (wBl cI a wr σ) H) (hl : (Cond.fieldLinkNest own index "PropertyTrie$Blocks" "foundLast" "I" "PropertyTrie").before args s = true) (hdg : decode cc pc = .ok (.getfield index, 3)) (kk : W p l e R s m args below meth c H locs cells slots Q (F0 m (pc + 3) ls (.int (σ 16 0) :: rest))) : W p l e R s m args below meth c H locs cells slots Q (F0 m pc ls (.ref (a 8) :: rest)) :=
  va_getN (C := R_Bl) (T := F_Bl) (N := 7) (ci := 1) (ref := "PropertyTrie$Blocks") (fs := fsBl a σ) (v := .int (σ 16 0)) S.1 S.2.1 S.2.2.2.2 i_Bl S.2.2.2.1 hok.1 hP 8 rfl rfl 6 (by decide) hl (fun _ h9 => h9) rfl hdg kk
theorem e_Bl_foundLast (hwr : Fx 17 wr) (x : Int32) : wBl cI a wr (sA σ 16 (fun _ => x)) = (wBl cI a wr σ).set 8 (a 8, .inr (1, (fsBl a σ).set 6 (.int x))) := by
  show WRc cI a (sA σ 16 (fun _ => x)) ++ (WBl cI a (sA σ 16 (fun _ => x)) ++ wr (sA σ 16 (fun _ => x))) = _
  rw [hwr σ 16 (fun _ => x) (by decide)]
  rfl
theorem rp_Bl_foundLast {x : Int32} (S : CallFix p m c cc nL s args lwg own) (hok : okS D cI s) (hwr : Fx 17 wr) (hP : va_P D classes (wBl cI a wr σ) H) (hD : va_D A (wBl cI a wr σ)) (hS : va_S A H0 H locs) (hl : (Cond.fieldLink own index "PropertyTrie$Blocks" "foundLast" "I").before args s = true) (hdg : decode cc pc = .ok (.putfield index, 3)) (kk : ∀ (τ : St) (H1 : Heap) (locs1 : List Loc), τ = sA σ 16 (fun _ => x) → va_P D classes (wBl cI a wr τ) H1 → va_D A (wBl cI a wr τ) → va_S A H0 H1 locs1 → W p l e R s m args below meth c H1 locs1 cells slots Q (F0 m (pc + 3) ls rest)) : W p l e R s m args below meth c H locs cells slots Q (F0 m pc ls (.int x :: .ref (a 8) :: rest)) :=
  va_put (D := D) (C := R_Bl) (T := F_Bl) (N := 7) (ci := 1) (ref := "PropertyTrie$Blocks") (fs := fsBl a σ) (v := .int x) (ty := .int) S.1 S.2.1 S.2.2.2.2 i_Bl t_Bl t_Bl_ok n_Bl S.2.2.2.1 hok.1 hP hD hS 8 rfl rfl 6 (by decide) hl (fun _ h9 => h9) rfl (by decide +kernel) rfl rfl (Nat.le_of_ble_eq_true rfl) hdg (fun H1 locs1 hP hD hS => kk _ H1 locs1 rfl (by rw [e_Bl_foundLast hwr x]; exact hP) (by rw [e_Bl_foundLast hwr x]; exact hD) hS)
theorem rg_Pt_blocks (S : CallFix p m c cc nL s args lwg own) (hok : okS D cI s) (hP : va_P D classes (wPt cI a wr σ) H) (hl : (Cond.fieldLink own index "PropertyTrie" "blocks" "LPropertyTrie$Blocks;").before args s = true) (hdg : decode cc pc = .ok (.getfield index, 3)) (kk : W p l e R s m args below meth c H locs cells slots Q (F0 m (pc + 3) ls (.ref (a 8) :: rest))) : W p l e R s m args below meth c H locs cells slots Q (F0 m pc ls (.ref (a 11) :: rest)) :=
  va_get (C := R_Pt) (T := F_Pt) (N := 1) (ci := 2) (ref := "PropertyTrie") (fs := fsPt a σ) (v := .ref (a 8)) S.1 S.2.1 S.2.2.2.2 i_Pt S.2.2.2.1 hok.1 hP 11 rfl rfl 0 (by decide) hl (fun _ h9 => h9) rfl hdg kk
theorem rg_Mo_failed (S : CallFix p m c cc nL s args lwg own) (hok : okS D cI s) (hP : va_P D classes (wMo cI a wr σ) H) (hl : (Cond.fieldLink own index "PropertyTrieModel" "failed" "I").before args s = true) (hdg : decode cc pc = .ok (.getfield index, 3)) (kk : W p l e R s m args below meth c H locs cells slots Q (F0 m (pc + 3) ls (.int (σ 19 0) :: rest))) : W p l e R s m args below meth c H locs cells slots Q (F0 m pc ls (.ref (a 12) :: rest)) :=
  va_get (C := R_Mo) (T := F_Mo) (N := 4) (ci := 3) (ref := "PropertyTrieModel") (fs := fsMo a σ) (v := .int (σ 19 0)) S.1 S.2.1 S.2.2.2.2 i_Mo S.2.2.2.1 hok.1 hP 12 rfl rfl 0 (by decide) hl (fun _ h9 => h9) rfl hdg kk
theorem e_Mo_failed (hwr : Fx 21 wr) (x : Int32) : wMo cI a wr (sA σ 19 (fun _ => x)) = (wMo cI a wr σ).set 12 (a 12, .inr (3, (fsMo a σ).set 0 (.int x))) := by
  show WRc cI a (sA σ 19 (fun _ => x)) ++ (WBl cI a (sA σ 19 (fun _ => x)) ++ ([(a 11, .inr (2, [.ref (a 8)]))] ++ (WMo cI a (sA σ 19 (fun _ => x)) ++ wr (sA σ 19 (fun _ => x))))) = _
  rw [hwr σ 19 (fun _ => x) (by decide)]
  rfl
theorem rp_Mo_failed {x : Int32} (S : CallFix p m c cc nL s args lwg own) (hok : okS D cI s) (hwr : Fx 21 wr) (hP : va_P D classes (wMo cI a wr σ) H) (hD : va_D A (wMo cI a wr σ)) (hS : va_S A H0 H locs) (hl : (Cond.fieldLink own index "PropertyTrieModel" "failed" "I").before args s = true) (hdg : decode cc pc = .ok (.putfield index, 3)) (kk : ∀ (τ : St) (H1 : Heap) (locs1 : List Loc), τ = sA σ 19 (fun _ => x) → va_P D classes (wMo cI a wr τ) H1 → va_D A (wMo cI a wr τ) → va_S A H0 H1 locs1 → W p l e R s m args below meth c H1 locs1 cells slots Q (F0 m (pc + 3) ls rest)) : W p l e R s m args below meth c H locs cells slots Q (F0 m pc ls (.int x :: .ref (a 12) :: rest)) :=
  va_put (D := D) (C := R_Mo) (T := F_Mo) (N := 4) (ci := 3) (ref := "PropertyTrieModel") (fs := fsMo a σ) (v := .int x) (ty := .int) S.1 S.2.1 S.2.2.2.2 i_Mo t_Mo t_Mo_ok n_Mo S.2.2.2.1 hok.1 hP hD hS 12 rfl rfl 0 (by decide) hl (fun _ h9 => h9) rfl (by decide +kernel) rfl rfl (Nat.le_of_ble_eq_true rfl) hdg (fun H1 locs1 hP hD hS => kk _ H1 locs1 rfl (by rw [e_Mo_failed hwr x]; exact hP) (by rw [e_Mo_failed hwr x]; exact hD) hS)
theorem rg_Mo_count (S : CallFix p m c cc nL s args lwg own) (hok : okS D cI s) (hP : va_P D classes (wMo cI a wr σ) H) (hl : (Cond.fieldLink own index "PropertyTrieModel" "count" "I").before args s = true) (hdg : decode cc pc = .ok (.getfield index, 3)) (kk : W p l e R s m args below meth c H locs cells slots Q (F0 m (pc + 3) ls (.int (σ 20 0) :: rest))) : W p l e R s m args below meth c H locs cells slots Q (F0 m pc ls (.ref (a 12) :: rest)) :=
  va_get (C := R_Mo) (T := F_Mo) (N := 4) (ci := 3) (ref := "PropertyTrieModel") (fs := fsMo a σ) (v := .int (σ 20 0)) S.1 S.2.1 S.2.2.2.2 i_Mo S.2.2.2.1 hok.1 hP 12 rfl rfl 1 (by decide) hl (fun _ h9 => h9) rfl hdg kk
theorem e_Mo_count (hwr : Fx 21 wr) (x : Int32) : wMo cI a wr (sA σ 20 (fun _ => x)) = (wMo cI a wr σ).set 12 (a 12, .inr (3, (fsMo a σ).set 1 (.int x))) := by
  show WRc cI a (sA σ 20 (fun _ => x)) ++ (WBl cI a (sA σ 20 (fun _ => x)) ++ ([(a 11, .inr (2, [.ref (a 8)]))] ++ (WMo cI a (sA σ 20 (fun _ => x)) ++ wr (sA σ 20 (fun _ => x))))) = _
  rw [hwr σ 20 (fun _ => x) (by decide)]
  rfl
theorem rp_Mo_count {x : Int32} (S : CallFix p m c cc nL s args lwg own) (hok : okS D cI s) (hwr : Fx 21 wr) (hP : va_P D classes (wMo cI a wr σ) H) (hD : va_D A (wMo cI a wr σ)) (hS : va_S A H0 H locs) (hl : (Cond.fieldLink own index "PropertyTrieModel" "count" "I").before args s = true) (hdg : decode cc pc = .ok (.putfield index, 3)) (kk : ∀ (τ : St) (H1 : Heap) (locs1 : List Loc), τ = sA σ 20 (fun _ => x) → va_P D classes (wMo cI a wr τ) H1 → va_D A (wMo cI a wr τ) → va_S A H0 H1 locs1 → W p l e R s m args below meth c H1 locs1 cells slots Q (F0 m (pc + 3) ls rest)) : W p l e R s m args below meth c H locs cells slots Q (F0 m pc ls (.int x :: .ref (a 12) :: rest)) :=
  va_put (D := D) (C := R_Mo) (T := F_Mo) (N := 4) (ci := 3) (ref := "PropertyTrieModel") (fs := fsMo a σ) (v := .int x) (ty := .int) S.1 S.2.1 S.2.2.2.2 i_Mo t_Mo t_Mo_ok n_Mo S.2.2.2.1 hok.1 hP hD hS 12 rfl rfl 1 (by decide) hl (fun _ h9 => h9) rfl (by decide +kernel) rfl rfl (Nat.le_of_ble_eq_true rfl) hdg (fun H1 locs1 hP hD hS => kk _ H1 locs1 rfl (by rw [e_Mo_count hwr x]; exact hP) (by rw [e_Mo_count hwr x]; exact hD) hS)
theorem rg_Mo_starts (S : CallFix p m c cc nL s args lwg own) (hok : okS D cI s) (hP : va_P D classes (wMo cI a wr σ) H) (hl : (Cond.fieldLink own index "PropertyTrieModel" "starts" "[I").before args s = true) (hdg : decode cc pc = .ok (.getfield index, 3)) (kk : W p l e R s m args below meth c H locs cells slots Q (F0 m (pc + 3) ls (.ref (a 13) :: rest))) : W p l e R s m args below meth c H locs cells slots Q (F0 m pc ls (.ref (a 12) :: rest)) :=
  va_get (C := R_Mo) (T := F_Mo) (N := 4) (ci := 3) (ref := "PropertyTrieModel") (fs := fsMo a σ) (v := .ref (a 13)) S.1 S.2.1 S.2.2.2.2 i_Mo S.2.2.2.1 hok.1 hP 12 rfl rfl 2 (by decide) hl (fun _ h9 => h9) rfl hdg kk
theorem rl_Mo_starts {i : Int32} (S : CallFix p m c cc nL s args lwg own) (hok : okS D cI s) (hP : va_P D classes (wMo cI a wr σ) H) (hin : vp_in i 9000) (hdg : decode cc pc = .ok (.iaload, 1)) (kk : W p l e R s m args below meth c H locs cells slots Q (F0 m (pc + 1) ls (.int (σ 17 i.toNatClampNeg) :: rest))) : W p l e R s m args below meth c H locs cells slots Q (F0 m pc ls (.int i :: .ref (a 13) :: rest)) :=
  va_iald (n := 9000) (f := σ 17) (cA := cI) S.1 S.2.1 hok.1 hP 13 0 rfl rfl hin hdg kk
theorem ra_Mo_starts (S : CallFix p m c cc nL s args lwg own) (hok : okS D cI s) (hP : va_P D classes (wMo cI a wr σ) H) (hdg : decode cc pc = .ok (.arraylength, 1)) (kk : W p l e R s m args below meth c H locs cells slots Q (F0 m (pc + 1) ls (.int 9000 :: rest))) : W p l e R s m args below meth c H locs cells slots Q (F0 m pc ls (.ref (a 13) :: rest)) :=
  va_alen (ty := .int) (cA := cI) (x := (9000, .inl (σ 17))) S.1 S.2.1 hok.1 hP 13 0 rfl rfl rfl hdg kk
theorem e_Mo_starts (hwr : Fx 21 wr) (g : Nat → Int32) : wMo cI a wr (sA σ 17 g) = (wMo cI a wr σ).set 13 (a 13, .inl (cI, 9000, .inl g)) := by
  show WRc cI a (sA σ 17 g) ++ (WBl cI a (sA σ 17 g) ++ ([(a 11, .inr (2, [.ref (a 8)]))] ++ (WMo cI a (sA σ 17 g) ++ wr (sA σ 17 g)))) = _
  rw [hwr σ 17 g (by decide)]
  rfl
theorem rs_Mo_starts {i x : Int32} (S : CallFix p m c cc nL s args lwg own) (hok : okS D cI s) (hwr : Fx 21 wr) (hP : va_P D classes (wMo cI a wr σ) H) (hD : va_D A (wMo cI a wr σ)) (hS : va_S A H0 H locs) (hin : vp_in i 9000) (hdg : decode cc pc = .ok (.iastore, 1)) (kk : ∀ (τ : St) (H1 : Heap) (locs1 : List Loc), τ = sA σ 17 (upd (σ 17) i.toNatClampNeg x) → va_P D classes (wMo cI a wr τ) H1 → va_D A (wMo cI a wr τ) → va_S A H0 H1 locs1 → W p l e R s m args below meth c H1 locs1 cells slots Q (F0 m (pc + 1) ls rest)) : W p l e R s m args below meth c H locs cells slots Q (F0 m pc ls (.int x :: .int i :: .ref (a 13) :: rest)) :=
  va_iast (n := 9000) (f := σ 17) (cA := cI) S.1 S.2.1 hok.1 hP hD hS 13 0 rfl rfl hin hdg (fun H1 locs1 hP hD hS => kk _ H1 locs1 rfl (by rw [e_Mo_starts hwr _]; exact hP) (by rw [e_Mo_starts hwr _]; exact hD) hS)
theorem rg_Mo_fields (S : CallFix p m c cc nL s args lwg own) (hok : okS D cI s) (hP : va_P D classes (wMo cI a wr σ) H) (hl : (Cond.fieldLink own index "PropertyTrieModel" "fields" "[I").before args s = true) (hdg : decode cc pc = .ok (.getfield index, 3)) (kk : W p l e R s m args below meth c H locs cells slots Q (F0 m (pc + 3) ls (.ref (a 14) :: rest))) : W p l e R s m args below meth c H locs cells slots Q (F0 m pc ls (.ref (a 12) :: rest)) :=
  va_get (C := R_Mo) (T := F_Mo) (N := 4) (ci := 3) (ref := "PropertyTrieModel") (fs := fsMo a σ) (v := .ref (a 14)) S.1 S.2.1 S.2.2.2.2 i_Mo S.2.2.2.1 hok.1 hP 12 rfl rfl 3 (by decide) hl (fun _ h9 => h9) rfl hdg kk
theorem rl_Mo_fields {i : Int32} (S : CallFix p m c cc nL s args lwg own) (hok : okS D cI s) (hP : va_P D classes (wMo cI a wr σ) H) (hin : vp_in i 72000) (hdg : decode cc pc = .ok (.iaload, 1)) (kk : W p l e R s m args below meth c H locs cells slots Q (F0 m (pc + 1) ls (.int (σ 18 i.toNatClampNeg) :: rest))) : W p l e R s m args below meth c H locs cells slots Q (F0 m pc ls (.int i :: .ref (a 14) :: rest)) :=
  va_iald (n := 72000) (f := σ 18) (cA := cI) S.1 S.2.1 hok.1 hP 14 0 rfl rfl hin hdg kk
theorem ra_Mo_fields (S : CallFix p m c cc nL s args lwg own) (hok : okS D cI s) (hP : va_P D classes (wMo cI a wr σ) H) (hdg : decode cc pc = .ok (.arraylength, 1)) (kk : W p l e R s m args below meth c H locs cells slots Q (F0 m (pc + 1) ls (.int 72000 :: rest))) : W p l e R s m args below meth c H locs cells slots Q (F0 m pc ls (.ref (a 14) :: rest)) :=
  va_alen (ty := .int) (cA := cI) (x := (72000, .inl (σ 18))) S.1 S.2.1 hok.1 hP 14 0 rfl rfl rfl hdg kk
theorem e_Mo_fields (hwr : Fx 21 wr) (g : Nat → Int32) : wMo cI a wr (sA σ 18 g) = (wMo cI a wr σ).set 14 (a 14, .inl (cI, 72000, .inl g)) := by
  show WRc cI a (sA σ 18 g) ++ (WBl cI a (sA σ 18 g) ++ ([(a 11, .inr (2, [.ref (a 8)]))] ++ (WMo cI a (sA σ 18 g) ++ wr (sA σ 18 g)))) = _
  rw [hwr σ 18 g (by decide)]
  rfl
theorem rs_Mo_fields {i x : Int32} (S : CallFix p m c cc nL s args lwg own) (hok : okS D cI s) (hwr : Fx 21 wr) (hP : va_P D classes (wMo cI a wr σ) H) (hD : va_D A (wMo cI a wr σ)) (hS : va_S A H0 H locs) (hin : vp_in i 72000) (hdg : decode cc pc = .ok (.iastore, 1)) (kk : ∀ (τ : St) (H1 : Heap) (locs1 : List Loc), τ = sA σ 18 (upd (σ 18) i.toNatClampNeg x) → va_P D classes (wMo cI a wr τ) H1 → va_D A (wMo cI a wr τ) → va_S A H0 H1 locs1 → W p l e R s m args below meth c H1 locs1 cells slots Q (F0 m (pc + 1) ls rest)) : W p l e R s m args below meth c H locs cells slots Q (F0 m pc ls (.int x :: .int i :: .ref (a 14) :: rest)) :=
  va_iast (n := 72000) (f := σ 18) (cA := cI) S.1 S.2.1 hok.1 hP hD hS 14 0 rfl rfl hin hdg (fun H1 locs1 hP hD hS => kk _ H1 locs1 rfl (by rw [e_Mo_fields hwr _]; exact hP) (by rw [e_Mo_fields hwr _]; exact hD) hS)
theorem rc_Rc_values_wanted {sp dp n : Int32} (S : CallFix p m c cc nL s args lwg own) (hok : okS D cI s) (hwr : Fx 11 wr) (hP : va_P D classes (wRc cI a wr σ) H) (hD : va_D A (wRc cI a wr σ)) (hS : va_S A H0 H locs) (hl : (Cond.methodLink own index arraycopyName).before args s = true) (hml : c.maxLocals = ls.size)
    (h1 : ¬ sp < 0) (h2 : ¬ dp < 0) (h3 : ¬ n < 0) (h4 : sp.toNatClampNeg + n.toNatClampNeg ≤ 8224) (h5 : dp.toNatClampNeg + n.toNatClampNeg ≤ 8) (hframes : 1 ≤ R.frames) (hlocals : (rest.map fun v => v.category).sum + (nativeFrameWords "java/lang/System" "arraycopy" 5 + 11) ≤ R.locals) (hdg : decode cc pc = .ok (.invokestatic index, 3))
    (kk : ∀ (τ : St) (H1 : Heap) (locs1 : List Loc), τ = sA σ 6 (va_cpy (σ 0) (σ 6) sp.toNatClampNeg dp.toNatClampNeg n.toNatClampNeg) → va_P D classes (wRc cI a wr τ) H1 → va_D A (wRc cI a wr τ) → va_S A H0 H1 locs1 → W p l e R s m args below meth c H1 locs1 cells slots Q (F0 m (pc + 3) ls rest)) : W p l e R s m args below meth c H locs cells slots Q (F0 m pc ls (.int n :: .int dp :: .ref (a 7) :: .int sp :: .ref (a 1) :: rest)) :=
  va_copyi (n0 := 8224) (n1 := 8) (f := σ 0) (g := σ 6) (c0 := cI) (c1 := cI) (ty := .int) S.1 S.2.1 hml S.2.2.2.1 hl (S.2.2.2.2 _ k_nt_Sy_arraycopy) (S.2.2.2.2 _ k_st_Sy_arraycopy) (S.2.2.2.2 _ k_ini_Sy) hok.1 hP hD hS 1 7 0 0 rfl rfl rfl rfl rfl h1 h2 h3 h4 h5 (fun _ _ => rfl) hframes hlocals hdg (fun H1 locs1 hP hD hS => kk _ H1 locs1 rfl (by rw [e_Rc_wanted hwr _]; exact hP) (by rw [e_Rc_wanted hwr _]; exact hD) hS)
theorem rc_Rc_wanted_values {sp dp n : Int32} (S : CallFix p m c cc nL s args lwg own) (hok : okS D cI s) (hwr : Fx 11 wr) (hP : va_P D classes (wRc cI a wr σ) H) (hD : va_D A (wRc cI a wr σ)) (hS : va_S A H0 H locs) (hl : (Cond.methodLink own index arraycopyName).before args s = true) (hml : c.maxLocals = ls.size)
    (h1 : ¬ sp < 0) (h2 : ¬ dp < 0) (h3 : ¬ n < 0) (h4 : sp.toNatClampNeg + n.toNatClampNeg ≤ 8) (h5 : dp.toNatClampNeg + n.toNatClampNeg ≤ 8224) (hframes : 1 ≤ R.frames) (hlocals : (rest.map fun v => v.category).sum + (nativeFrameWords "java/lang/System" "arraycopy" 5 + 11) ≤ R.locals) (hdg : decode cc pc = .ok (.invokestatic index, 3))
    (kk : ∀ (τ : St) (H1 : Heap) (locs1 : List Loc), τ = sA σ 0 (va_cpy (σ 6) (σ 0) sp.toNatClampNeg dp.toNatClampNeg n.toNatClampNeg) → va_P D classes (wRc cI a wr τ) H1 → va_D A (wRc cI a wr τ) → va_S A H0 H1 locs1 → W p l e R s m args below meth c H1 locs1 cells slots Q (F0 m (pc + 3) ls rest)) : W p l e R s m args below meth c H locs cells slots Q (F0 m pc ls (.int n :: .int dp :: .ref (a 1) :: .int sp :: .ref (a 7) :: rest)) :=
  va_copyi (n0 := 8) (n1 := 8224) (f := σ 6) (g := σ 0) (c0 := cI) (c1 := cI) (ty := .int) S.1 S.2.1 hml S.2.2.2.1 hl (S.2.2.2.2 _ k_nt_Sy_arraycopy) (S.2.2.2.2 _ k_st_Sy_arraycopy) (S.2.2.2.2 _ k_ini_Sy) hok.1 hP hD hS 7 1 0 0 rfl rfl rfl rfl rfl h1 h2 h3 h4 h5 (fun _ _ => rfl) hframes hlocals hdg (fun H1 locs1 hP hD hS => kk _ H1 locs1 rfl (by rw [e_Rc_values hwr _]; exact hP) (by rw [e_Rc_values hwr _]; exact hD) hS)
end ROWS
