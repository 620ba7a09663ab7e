abbrev rmT0 : Room := { frames := 1, cells := 0, slots := 0, locals := 30 }
abbrev rmT1 : Room := { frames := 8, cells := 1, slots := 6, locals := 150 }
abbrev rmT2 : Room := { frames := 12, cells := 1, slots := 6, locals := 250 }
abbrev rmT3 : Room := { frames := 16, cells := 1, slots := 6, locals := 350 }
abbrev lwA : List Cond := Bundle.ownAtoms "PropertyTrie" 75 xIA xUp
abbrev lwS : List (Nat × String) := [(73, "a point is 0 .. 1114111"), (78, "a range is 0 .. first .. last .. 1114111"), (80, "a field is 0 .. 7"), (82, "a hash is over at most 4000 points")]
/-- what a throw rests on: the words of Throwable and its heirs, the texts -/
def okT (U : State) : Prop := (∀ w ∈ lwA, ∀ av : Array Value, w.before av U = true) ∧ ∀ x ∈ lwS, ∃ q, vk_R "PropertyTrie" x.1 x.2 q U
/-- and the object -/
def okU (b0 : Nat) (U : State) : Prop := okT U ∧ ∃ cell : Cell, U.heap[b0]? = some cell ∧ cell.vm.isStatics = false ∧ U.vm.findClass "PropertyTrie" = some cell.cls
theorem okT_call (U : State) (g : JFrame) (mk : MethodId) (av : Array Value) (h : okT U) : okT (U.calling g mk av) :=
  ⟨fun w hw av' => (Cond.holds_threads av' U (U.calling g mk av).threads U.cur none U (U.calling g mk av).threads U.cur w []).trans (h.1 w hw av'), fun x hx => by obtain ⟨q, hq⟩ := h.2 x hx; exact ⟨q, vk_R.same rfl hq⟩⟩
/-- a static field's reference: the statics' cell is there, and unchanged -/
theorem isRef_at {C f d : String} {s U : State} (hW : s.WarmedH U.vm) (hH : ∀ (q : Addr) (cell : Cell), s.heap[q]? = some cell → U.heap[q]? = some cell) {av av' : Array Value} (h : (Cond.isRef (.static C f d)).before av s = true) : (Cond.isRef (.static C f d)).before av' U = true := by
  simp only [Cond.before, Cond.holds, Cond.value, Term.eval, State.fieldNamed?] at h ⊢
  cases hf : s.fieldFound? C f d with
  | none => rw [hf] at h; simp at h
  | some x =>
    obtain ⟨c, k, i, fd⟩ := x
    obtain ⟨k', hf', hk'⟩ := State.fieldFound?_setVm hW.alike hf
    have hf2 : U.fieldFound? C f d = some (c, k', i, fd) := hf'
    rw [hf] at h
    rw [hf2]
    cases hst : fd.isStatic with
    | false => simp [hst] at h
    | true =>
      cases hs : k.statics with
      | none => simp [hst, hs] at h
      | some a =>
        have hs' : k'.statics = some a := by rw [hk']; exact hs
        cases hc : s.heap[a]? with
        | none => simp [hst, hs, hc] at h
        | some cell =>
          have hc' := hH a cell hc
          simp [hst, hs, hc] at h
          simp [hst, hs', hc']
          exact h
theorem laysS_at {C f d : String} {s U : State} (hW : s.WarmedH U.vm) (hH : ∀ (q : Addr) (cell : Cell), s.heap[q]? = some cell → U.heap[q]? = some cell) {av av' : Array Value} (h : (Cond.laysStatic C f d).before av s = true) : (Cond.laysStatic C f d).before av' U = true := by
  obtain ⟨c, k, i, fd, a, cell, h1, h2, h3, h4, h5, h6, h7, h8, h9⟩ := Cond.laysStatic_spec h
  obtain ⟨k', hf', hk'⟩ := State.fieldFound?_setVm hW.alike h2
  have hf2 : U.fieldFound? C f d = some (c, k', i, fd) := hf'
  have hs' : k'.statics = some a := by rw [hk']; exact h4
  have ht' : k'.staticTypes[fd.slot]? = some fd.type := by rw [hk']; exact h9
  have hc' : U.vm.findClass C = some c := (hW.alike.findClass C none).trans h1
  simp [Cond.before, Cond.holds, Cond.value, hc', hf2, hs', hH a cell h5, h3, h6, h7, h8, ht']
def kd : Cond → Bool
  | .declares _ => true
  | .castable .. => true
  | .laysStatic .. => true
  | .isRef (.static ..) => true
  | w => w.onTables && w.keeps
theorem kd_keep {w : Cond} {s U : State} (hk : kd w = true) (hW : s.WarmedH U.vm) (hH : ∀ (q : Addr) (cell : Cell), s.heap[q]? = some cell → U.heap[q]? = some cell) (h : ∀ av : Array Value, w.before av s = true) (av : Array Value) : w.before av U = true := by
  unfold kd at hk
  split at hk
  · exact va_Nw.use rfl (va_Nw.warmD hW (h #[]))
  · exact va_Nw.use rfl (va_Nw.warmC hW (h #[]))
  · exact laysS_at hW hH (h #[])
  · exact isRef_at hW hH (h #[])
  · exact word_at hW (Or.inl hk) (h #[])
theorem lwA_kd : ∀ w ∈ lwA, kd w = true := by decide +kernel
theorem okT_keep {s U : State} (hT : okT s) (hH : ∀ (q : Addr) (cell : Cell), s.heap[q]? = some cell → U.heap[q]? = some cell) (hW : s.WarmedH U.vm) : okT U := by
  refine ⟨fun w hw av => kd_keep (lwA_kd w hw) hW hH (hT.1 w hw) av, fun x hx => ?_⟩
  obtain ⟨q, hq⟩ := hT.2 x hx
  exact ⟨q, vk_R.warm hW hq⟩
theorem okT_at {s U : State} (hT : okT s) (hU : U.heap = s.heap) (hW : s.WarmedH U.vm) : okT U := okT_keep hT (fun q cell h => by rw [hU]; exact h) hW
theorem okU_call {b0 : Nat} (U : State) (g : JFrame) (mk : MethodId) (av : Array Value) (h : okU b0 U) : okU b0 (U.calling g mk av) := ⟨okT_call U g mk av h.1, h.2⟩
theorem okU_at {b0 : Nat} {s U : State} (h : okU b0 s) (hU : U.heap = s.heap) (hW : s.WarmedH U.vm) : okU b0 U := by
  obtain ⟨hT, cell, h1, h2, h3⟩ := h
  exact ⟨okT_at hT hU hW, cell, by rw [hU]; exact h1, h2, (hW.alike.findClass _ none).trans h3⟩
def FG_checkPoint (x0 : Int32) : Prop := ((x0 < 0 → False) ∧ (¬ x0 < 0 → ((x0 ≤ (1114111 : Int32) → True) ∧ (¬ x0 ≤ (1114111 : Int32) → False))))
theorem g_checkPoint (l : Launch) (x0 : Int32) (hf : FG_checkPoint x0) : Met l y_Pt_checkPoint (.code y_Pt_checkPoint b_Pt_checkPoint 1 none :: lwg) rmT0 (va_Pc [.int x0] (fun _ => True)) (fun _ st o t => o = .returned none ∧ t.heap = st.heap) 0 0 (fun _ => False) := by
  refine Met.ofW (cc := b_Pt_checkPoint) (maxL := 1) (ret := none) (by decide +kernel) rfl ?_
  intro p e s m args below meth c s₁ B hml hv
  obtain ⟨rfl, -⟩ := hv
  have hx := B.exec
  have hb := B.bytes
  have hr := B.returns
  have hts0 := atoms_spec (ws := .code y_Pt_checkPoint b_Pt_checkPoint 1 none :: lwg) B.pre
  have hts : ∀ v ∈ lwg, v.before ([.int x0] : List Value).toArray s = true := fun v hv => hts0 v (List.mem_cons_of_mem _ hv)
  have hown : s.vm.findClass "PropertyTrie" = some m.cls := findClass_of_methodNamed B.named
  have hlocks := B.notSynchronized
  have S : CallFix p m c b_Pt_checkPoint 1 s ([.int x0] : List Value).toArray lwg "PropertyTrie" := ⟨hx, hb, hml, hown, hts⟩
  have hl := lv_entry ([.int x0]) (n := 1) (Nat.le_of_ble_eq_true rfl)
  rw [lg_entry_eq]
  generalize (lg_sl ([.int x0]) ++ List.replicate (1 - (lg_sl ([.int x0])).length) Slot.unset).toArray = ls at hl ⊢
  have hl : lv_has ls 1 [(0, .int x0)] := hl
  unfold FG_checkPoint at hf
  refine lv_iload_n hx hb d_Pt_checkPoint_0 rfl (lv_at hl 0 rfl) ?_
  refine lv_if_lt hx hb d_Pt_checkPoint_1 rfl (fun hc => ?_) (fun hc => ?_)
  · have hf := hf.1 hc
    exact hf.elim
  · have hf := hf.2 hc
    refine lv_iload_n hx hb d_Pt_checkPoint_4 rfl (lv_at hl 0 rfl) ?_
    refine lv_ldc (v := (1114111 : Int32)) hx hb hown (hts _ k_cst_Pt_48) d_Pt_checkPoint_5 ?_
    refine lv_icmp_le hx hb d_Pt_checkPoint_7 rfl (fun hc => ?_) (fun hc => ?_)
    · have hf := hf.1 hc
      exact W.vret hx hb hr (fun t ht hW => ⟨rfl, ht⟩) (fun q hq => by cases hq) d_Pt_checkPoint_20 hlocks
    · have hf := hf.2 hc
      exact hf.elim
def FT_checkPoint (x0 : Int32) : Prop := ((x0 < 0 → True) ∧ (¬ x0 < 0 → ((x0 ≤ (1114111 : Int32) → False) ∧ (¬ x0 ≤ (1114111 : Int32) → True))))
theorem tw_checkPoint (l : Launch) (hst : l.stackTraces = false) (x0 : Int32) (hf : FT_checkPoint x0) : MetT l y_Pt_checkPoint (.code y_Pt_checkPoint b_Pt_checkPoint 1 none :: lwg) rmT1 (va_Pc [.int x0] okT) xIA 1 6 := by
  refine MetT.ofW (cc := b_Pt_checkPoint) (maxL := 1) (ret := none) (by decide +kernel) rfl ?_
  intro p e s m args below meth c s₁ B hml hex hv
  obtain ⟨rfl, hT⟩ := hv
  have htr : e.platform.stackTraces = false := by rw [B.admits.platform]; exact hst
  have hx := B.exec
  have hb := B.bytes
  have hr := B.returns
  have hts0 := atoms_spec (ws := .code y_Pt_checkPoint b_Pt_checkPoint 1 none :: lwg) B.pre
  have hts : ∀ v ∈ lwg, v.before ([.int x0] : List Value).toArray s = true := fun v hv => hts0 v (List.mem_cons_of_mem _ hv)
  have hown : s.vm.findClass "PropertyTrie" = some m.cls := findClass_of_methodNamed B.named
  have hlocks := B.notSynchronized
  have S : CallFix p m c b_Pt_checkPoint 1 s ([.int x0] : List Value).toArray lwg "PropertyTrie" := ⟨hx, hb, hml, hown, hts⟩
  have hl := lv_entry ([.int x0]) (n := 1) (Nat.le_of_ble_eq_true rfl)
  rw [lg_entry_eq]
  generalize (lg_sl ([.int x0]) ++ List.replicate (1 - (lg_sl ([.int x0])).length) Slot.unset).toArray = ls at hl ⊢
  have hl : lv_has ls 1 [(0, .int x0)] := hl
  unfold FT_checkPoint at hf
  refine lv_iload_n hx hb d_Pt_checkPoint_0 rfl (lv_at hl 0 rfl) ?_
  refine lv_if_lt hx hb d_Pt_checkPoint_1 rfl (fun hc => ?_) (fun hc => ?_)
  · have hf := hf.1 hc
    obtain ⟨q, hq⟩ := hT.2 (73, "a point is 0 .. 1114111") (by decide)
    exact r_newThrow S htr (fun w hw => hT.1 w hw _) hq (hts _ k_cl_Pt_71) (hts _ k_ini_Ia) d_Pt_checkPoint_10 d_Pt_checkPoint_13 d_Pt_checkPoint_14 d_Pt_checkPoint_16 d_Pt_checkPoint_19 hl.1 hex hlocks (by decide) (by decide) (by decide) (by decide)
  · have hf := hf.2 hc
    refine lv_iload_n hx hb d_Pt_checkPoint_4 rfl (lv_at hl 0 rfl) ?_
    refine lv_ldc (v := (1114111 : Int32)) hx hb hown (hts _ k_cst_Pt_48) d_Pt_checkPoint_5 ?_
    refine lv_icmp_le hx hb d_Pt_checkPoint_7 rfl (fun hc => ?_) (fun hc => ?_)
    · have hf := hf.1 hc
      exact hf.elim
    · have hf := hf.2 hc
      obtain ⟨q, hq⟩ := hT.2 (73, "a point is 0 .. 1114111") (by decide)
      exact r_newThrow S htr (fun w hw => hT.1 w hw _) hq (hts _ k_cl_Pt_71) (hts _ k_ini_Ia) d_Pt_checkPoint_10 d_Pt_checkPoint_13 d_Pt_checkPoint_14 d_Pt_checkPoint_16 d_Pt_checkPoint_19 hl.1 hex hlocks (by decide) (by decide) (by decide) (by decide)
def FG_checkRange (x0 : Int32) (x1 : Int32) : Prop := ((x0 < 0 → False) ∧ (¬ x0 < 0 → ((x1 < x0 → False) ∧ (¬ x1 < x0 → ((x1 ≤ (1114111 : Int32) → True) ∧ (¬ x1 ≤ (1114111 : Int32) → False))))))
theorem g_checkRange (l : Launch) (x0 : Int32) (x1 : Int32) (hf : FG_checkRange x0 x1) : Met l y_Pt_checkRange (.code y_Pt_checkRange b_Pt_checkRange 2 none :: lwg) rmT0 (va_Pc [.int x0, .int x1] (fun _ => True)) (fun _ st o t => o = .returned none ∧ t.heap = st.heap) 0 0 (fun _ => False) := by
  refine Met.ofW (cc := b_Pt_checkRange) (maxL := 2) (ret := none) (by decide +kernel) rfl ?_
  intro p e s m args below meth c s₁ B hml hv
  obtain ⟨rfl, -⟩ := hv
  have hx := B.exec
  have hb := B.bytes
  have hr := B.returns
  have hts0 := atoms_spec (ws := .code y_Pt_checkRange b_Pt_checkRange 2 none :: lwg) B.pre
  have hts : ∀ v ∈ lwg, v.before ([.int x0, .int x1] : List Value).toArray s = true := fun v hv => hts0 v (List.mem_cons_of_mem _ hv)
  have hown : s.vm.findClass "PropertyTrie" = some m.cls := findClass_of_methodNamed B.named
  have hlocks := B.notSynchronized
  have S : CallFix p m c b_Pt_checkRange 2 s ([.int x0, .int x1] : List Value).toArray lwg "PropertyTrie" := ⟨hx, hb, hml, hown, hts⟩
  have hl := lv_entry ([.int x0, .int x1]) (n := 2) (Nat.le_of_ble_eq_true rfl)
  rw [lg_entry_eq]
  generalize (lg_sl ([.int x0, .int x1]) ++ List.replicate (2 - (lg_sl ([.int x0, .int x1])).length) Slot.unset).toArray = ls at hl ⊢
  have hl : lv_has ls 2 [(0, .int x0), (1, .int x1)] := hl
  unfold FG_checkRange at hf
  refine lv_iload_n hx hb d_Pt_checkRange_0 rfl (lv_at hl 0 rfl) ?_
  refine lv_if_lt hx hb d_Pt_checkRange_1 rfl (fun hc => ?_) (fun hc => ?_)
  · have hf := hf.1 hc
    exact hf.elim
  · have hf := hf.2 hc
    refine lv_iload_n hx hb d_Pt_checkRange_4 rfl (lv_at hl 0 rfl) ?_
    refine lv_iload_n hx hb d_Pt_checkRange_5 rfl (lv_at hl 1 rfl) ?_
    refine lv_icmp_gt hx hb d_Pt_checkRange_6 rfl (fun hc => ?_) (fun hc => ?_)
    · have hf := hf.1 hc
      exact hf.elim
    · have hf := hf.2 hc
      refine lv_iload_n hx hb d_Pt_checkRange_9 rfl (lv_at hl 1 rfl) ?_
      refine lv_ldc (v := (1114111 : Int32)) hx hb hown (hts _ k_cst_Pt_48) d_Pt_checkRange_10 ?_
      refine lv_icmp_le hx hb d_Pt_checkRange_12 rfl (fun hc => ?_) (fun hc => ?_)
      · have hf := hf.1 hc
        exact W.vret hx hb hr (fun t ht hW => ⟨rfl, ht⟩) (fun q hq => by cases hq) d_Pt_checkRange_25 hlocks
      · have hf := hf.2 hc
        exact hf.elim
def FT_checkRange (x0 : Int32) (x1 : Int32) : Prop := ((x0 < 0 → True) ∧ (¬ x0 < 0 → ((x1 < x0 → True) ∧ (¬ x1 < x0 → ((x1 ≤ (1114111 : Int32) → False) ∧ (¬ x1 ≤ (1114111 : Int32) → True))))))
theorem tw_checkRange (l : Launch) (hst : l.stackTraces = false) (x0 : Int32) (x1 : Int32) (hf : FT_checkRange x0 x1) : MetT l y_Pt_checkRange (.code y_Pt_checkRange b_Pt_checkRange 2 none :: lwg) rmT1 (va_Pc [.int x0, .int x1] okT) xIA 1 6 := by
  refine MetT.ofW (cc := b_Pt_checkRange) (maxL := 2) (ret := none) (by decide +kernel) rfl ?_
  intro p e s m args below meth c s₁ B hml hex hv
  obtain ⟨rfl, hT⟩ := hv
  have htr : e.platform.stackTraces = false := by rw [B.admits.platform]; exact hst
  have hx := B.exec
  have hb := B.bytes
  have hr := B.returns
  have hts0 := atoms_spec (ws := .code y_Pt_checkRange b_Pt_checkRange 2 none :: lwg) B.pre
  have hts : ∀ v ∈ lwg, v.before ([.int x0, .int x1] : List Value).toArray s = true := fun v hv => hts0 v (List.mem_cons_of_mem _ hv)
  have hown : s.vm.findClass "PropertyTrie" = some m.cls := findClass_of_methodNamed B.named
  have hlocks := B.notSynchronized
  have S : CallFix p m c b_Pt_checkRange 2 s ([.int x0, .int x1] : List Value).toArray lwg "PropertyTrie" := ⟨hx, hb, hml, hown, hts⟩
  have hl := lv_entry ([.int x0, .int x1]) (n := 2) (Nat.le_of_ble_eq_true rfl)
  rw [lg_entry_eq]
  generalize (lg_sl ([.int x0, .int x1]) ++ List.replicate (2 - (lg_sl ([.int x0, .int x1])).length) Slot.unset).toArray = ls at hl ⊢
  have hl : lv_has ls 2 [(0, .int x0), (1, .int x1)] := hl
  unfold FT_checkRange at hf
  refine lv_iload_n hx hb d_Pt_checkRange_0 rfl (lv_at hl 0 rfl) ?_
  refine lv_if_lt hx hb d_Pt_checkRange_1 rfl (fun hc => ?_) (fun hc => ?_)
  · have hf := hf.1 hc
    obtain ⟨q, hq⟩ := hT.2 (78, "a range is 0 .. first .. last .. 1114111") (by decide)
    exact r_newThrow S htr (fun w hw => hT.1 w hw _) hq (hts _ k_cl_Pt_71) (hts _ k_ini_Ia) d_Pt_checkRange_15 d_Pt_checkRange_18 d_Pt_checkRange_19 d_Pt_checkRange_21 d_Pt_checkRange_24 hl.1 hex hlocks (by decide) (by decide) (by decide) (by decide)
  · have hf := hf.2 hc
    refine lv_iload_n hx hb d_Pt_checkRange_4 rfl (lv_at hl 0 rfl) ?_
    refine lv_iload_n hx hb d_Pt_checkRange_5 rfl (lv_at hl 1 rfl) ?_
    refine lv_icmp_gt hx hb d_Pt_checkRange_6 rfl (fun hc => ?_) (fun hc => ?_)
    · have hf := hf.1 hc
      obtain ⟨q, hq⟩ := hT.2 (78, "a range is 0 .. first .. last .. 1114111") (by decide)
      exact r_newThrow S htr (fun w hw => hT.1 w hw _) hq (hts _ k_cl_Pt_71) (hts _ k_ini_Ia) d_Pt_checkRange_15 d_Pt_checkRange_18 d_Pt_checkRange_19 d_Pt_checkRange_21 d_Pt_checkRange_24 hl.1 hex hlocks (by decide) (by decide) (by decide) (by decide)
    · have hf := hf.2 hc
      refine lv_iload_n hx hb d_Pt_checkRange_9 rfl (lv_at hl 1 rfl) ?_
      refine lv_ldc (v := (1114111 : Int32)) hx hb hown (hts _ k_cst_Pt_48) d_Pt_checkRange_10 ?_
      refine lv_icmp_le hx hb d_Pt_checkRange_12 rfl (fun hc => ?_) (fun hc => ?_)
      · have hf := hf.1 hc
        exact hf.elim
      · have hf := hf.2 hc
        obtain ⟨q, hq⟩ := hT.2 (78, "a range is 0 .. first .. last .. 1114111") (by decide)
        exact r_newThrow S htr (fun w hw => hT.1 w hw _) hq (hts _ k_cl_Pt_71) (hts _ k_ini_Ia) d_Pt_checkRange_15 d_Pt_checkRange_18 d_Pt_checkRange_19 d_Pt_checkRange_21 d_Pt_checkRange_24 hl.1 hex hlocks (by decide) (by decide) (by decide) (by decide)
def FG_checkField (x0 : Int32) : Prop := ((x0 < 0 → False) ∧ (¬ x0 < 0 → ((x0 < (8 : Int32) → True) ∧ (¬ x0 < (8 : Int32) → False))))
theorem g_checkField (l : Launch) (x0 : Int32) (hf : FG_checkField x0) : Met l y_Pt_checkField (.code y_Pt_checkField b_Pt_checkField 1 none :: lwg) rmT0 (va_Pc [.int x0] (fun _ => True)) (fun _ st o t => o = .returned none ∧ t.heap = st.heap) 0 0 (fun _ => False) := by
  refine Met.ofW (cc := b_Pt_checkField) (maxL := 1) (ret := none) (by decide +kernel) rfl ?_
  intro p e s m args below meth c s₁ B hml hv
  obtain ⟨rfl, -⟩ := hv
  have hx := B.exec
  have hb := B.bytes
  have hr := B.returns
  have hts0 := atoms_spec (ws := .code y_Pt_checkField b_Pt_checkField 1 none :: lwg) B.pre
  have hts : ∀ v ∈ lwg, v.before ([.int x0] : List Value).toArray s = true := fun v hv => hts0 v (List.mem_cons_of_mem _ hv)
  have hown : s.vm.findClass "PropertyTrie" = some m.cls := findClass_of_methodNamed B.named
  have hlocks := B.notSynchronized
  have S : CallFix p m c b_Pt_checkField 1 s ([.int x0] : List Value).toArray lwg "PropertyTrie" := ⟨hx, hb, hml, hown, hts⟩
  have hl := lv_entry ([.int x0]) (n := 1) (Nat.le_of_ble_eq_true rfl)
  rw [lg_entry_eq]
  generalize (lg_sl ([.int x0]) ++ List.replicate (1 - (lg_sl ([.int x0])).length) Slot.unset).toArray = ls at hl ⊢
  have hl : lv_has ls 1 [(0, .int x0)] := hl
  unfold FG_checkField at hf
  refine lv_iload_n hx hb d_Pt_checkField_0 rfl (lv_at hl 0 rfl) ?_
  refine lv_if_lt hx hb d_Pt_checkField_1 rfl (fun hc => ?_) (fun hc => ?_)
  · have hf := hf.1 hc
    exact hf.elim
  · have hf := hf.2 hc
    refine lv_iload_n hx hb d_Pt_checkField_4 rfl (lv_at hl 0 rfl) ?_
    refine lv_bipush (v := (8 : Int32)) hx hb d_Pt_checkField_5 (by decide) ?_
    refine lv_icmp_lt hx hb d_Pt_checkField_7 rfl (fun hc => ?_) (fun hc => ?_)
    · have hf := hf.1 hc
      exact W.vret hx hb hr (fun t ht hW => ⟨rfl, ht⟩) (fun q hq => by cases hq) d_Pt_checkField_20 hlocks
    · have hf := hf.2 hc
      exact hf.elim
def FT_checkField (x0 : Int32) : Prop := ((x0 < 0 → True) ∧ (¬ x0 < 0 → ((x0 < (8 : Int32) → False) ∧ (¬ x0 < (8 : Int32) → True))))
theorem tw_checkField (l : Launch) (hst : l.stackTraces = false) (x0 : Int32) (hf : FT_checkField x0) : MetT l y_Pt_checkField (.code y_Pt_checkField b_Pt_checkField 1 none :: lwg) rmT1 (va_Pc [.int x0] okT) xIA 1 6 := by
  refine MetT.ofW (cc := b_Pt_checkField) (maxL := 1) (ret := none) (by decide +kernel) rfl ?_
  intro p e s m args below meth c s₁ B hml hex hv
  obtain ⟨rfl, hT⟩ := hv
  have htr : e.platform.stackTraces = false := by rw [B.admits.platform]; exact hst
  have hx := B.exec
  have hb := B.bytes
  have hr := B.returns
  have hts0 := atoms_spec (ws := .code y_Pt_checkField b_Pt_checkField 1 none :: lwg) B.pre
  have hts : ∀ v ∈ lwg, v.before ([.int x0] : List Value).toArray s = true := fun v hv => hts0 v (List.mem_cons_of_mem _ hv)
  have hown : s.vm.findClass "PropertyTrie" = some m.cls := findClass_of_methodNamed B.named
  have hlocks := B.notSynchronized
  have S : CallFix p m c b_Pt_checkField 1 s ([.int x0] : List Value).toArray lwg "PropertyTrie" := ⟨hx, hb, hml, hown, hts⟩
  have hl := lv_entry ([.int x0]) (n := 1) (Nat.le_of_ble_eq_true rfl)
  rw [lg_entry_eq]
  generalize (lg_sl ([.int x0]) ++ List.replicate (1 - (lg_sl ([.int x0])).length) Slot.unset).toArray = ls at hl ⊢
  have hl : lv_has ls 1 [(0, .int x0)] := hl
  unfold FT_checkField at hf
  refine lv_iload_n hx hb d_Pt_checkField_0 rfl (lv_at hl 0 rfl) ?_
  refine lv_if_lt hx hb d_Pt_checkField_1 rfl (fun hc => ?_) (fun hc => ?_)
  · have hf := hf.1 hc
    obtain ⟨q, hq⟩ := hT.2 (80, "a field is 0 .. 7") (by decide)
    exact r_newThrow S htr (fun w hw => hT.1 w hw _) hq (hts _ k_cl_Pt_71) (hts _ k_ini_Ia) d_Pt_checkField_10 d_Pt_checkField_13 d_Pt_checkField_14 d_Pt_checkField_16 d_Pt_checkField_19 hl.1 hex hlocks (by decide) (by decide) (by decide) (by decide)
  · have hf := hf.2 hc
    refine lv_iload_n hx hb d_Pt_checkField_4 rfl (lv_at hl 0 rfl) ?_
    refine lv_bipush (v := (8 : Int32)) hx hb d_Pt_checkField_5 (by decide) ?_
    refine lv_icmp_lt hx hb d_Pt_checkField_7 rfl (fun hc => ?_) (fun hc => ?_)
    · have hf := hf.1 hc
      exact hf.elim
    · have hf := hf.2 hc
      obtain ⟨q, hq⟩ := hT.2 (80, "a field is 0 .. 7") (by decide)
      exact r_newThrow S htr (fun w hw => hT.1 w hw _) hq (hts _ k_cl_Pt_71) (hts _ k_ini_Ia) d_Pt_checkField_10 d_Pt_checkField_13 d_Pt_checkField_14 d_Pt_checkField_16 d_Pt_checkField_19 hl.1 hex hlocks (by decide) (by decide) (by decide) (by decide)
def FG_checkLength (x0 : Int32) : Prop := ((x0 ≤ (4000 : Int32) → True) ∧ (¬ x0 ≤ (4000 : Int32) → False))
theorem g_checkLength (l : Launch) (x0 : Int32) (hf : FG_checkLength x0) : Met l y_Pt_checkLength (.code y_Pt_checkLength b_Pt_checkLength 1 none :: lwg) rmT0 (va_Pc [.int x0] (fun _ => True)) (fun _ st o t => o = .returned none ∧ t.heap = st.heap) 0 0 (fun _ => False) := by
  refine Met.ofW (cc := b_Pt_checkLength) (maxL := 1) (ret := none) (by decide +kernel) rfl ?_
  intro p e s m args below meth c s₁ B hml hv
  obtain ⟨rfl, -⟩ := hv
  have hx := B.exec
  have hb := B.bytes
  have hr := B.returns
  have hts0 := atoms_spec (ws := .code y_Pt_checkLength b_Pt_checkLength 1 none :: lwg) B.pre
  have hts : ∀ v ∈ lwg, v.before ([.int x0] : List Value).toArray s = true := fun v hv => hts0 v (List.mem_cons_of_mem _ hv)
  have hown : s.vm.findClass "PropertyTrie" = some m.cls := findClass_of_methodNamed B.named
  have hlocks := B.notSynchronized
  have S : CallFix p m c b_Pt_checkLength 1 s ([.int x0] : List Value).toArray lwg "PropertyTrie" := ⟨hx, hb, hml, hown, hts⟩
  have hl := lv_entry ([.int x0]) (n := 1) (Nat.le_of_ble_eq_true rfl)
  rw [lg_entry_eq]
  generalize (lg_sl ([.int x0]) ++ List.replicate (1 - (lg_sl ([.int x0])).length) Slot.unset).toArray = ls at hl ⊢
  have hl : lv_has ls 1 [(0, .int x0)] := hl
  unfold FG_checkLength at hf
  refine lv_iload_n hx hb d_Pt_checkLength_0 rfl (lv_at hl 0 rfl) ?_
  refine lv_sipush (v := (4000 : Int32)) hx hb d_Pt_checkLength_1 (by decide) ?_
  refine lv_icmp_le hx hb d_Pt_checkLength_4 rfl (fun hc => ?_) (fun hc => ?_)
  · have hf := hf.1 hc
    exact W.vret hx hb hr (fun t ht hW => ⟨rfl, ht⟩) (fun q hq => by cases hq) d_Pt_checkLength_17 hlocks
  · have hf := hf.2 hc
    exact hf.elim
def FT_checkLength (x0 : Int32) : Prop := ((x0 ≤ (4000 : Int32) → False) ∧ (¬ x0 ≤ (4000 : Int32) → True))
theorem tw_checkLength (l : Launch) (hst : l.stackTraces = false) (x0 : Int32) (hf : FT_checkLength x0) : MetT l y_Pt_checkLength (.code y_Pt_checkLength b_Pt_checkLength 1 none :: lwg) rmT1 (va_Pc [.int x0] okT) xIA 1 6 := by
  refine MetT.ofW (cc := b_Pt_checkLength) (maxL := 1) (ret := none) (by decide +kernel) rfl ?_
  intro p e s m args below meth c s₁ B hml hex hv
  obtain ⟨rfl, hT⟩ := hv
  have htr : e.platform.stackTraces = false := by rw [B.admits.platform]; exact hst
  have hx := B.exec
  have hb := B.bytes
  have hr := B.returns
  have hts0 := atoms_spec (ws := .code y_Pt_checkLength b_Pt_checkLength 1 none :: lwg) B.pre
  have hts : ∀ v ∈ lwg, v.before ([.int x0] : List Value).toArray s = true := fun v hv => hts0 v (List.mem_cons_of_mem _ hv)
  have hown : s.vm.findClass "PropertyTrie" = some m.cls := findClass_of_methodNamed B.named
  have hlocks := B.notSynchronized
  have S : CallFix p m c b_Pt_checkLength 1 s ([.int x0] : List Value).toArray lwg "PropertyTrie" := ⟨hx, hb, hml, hown, hts⟩
  have hl := lv_entry ([.int x0]) (n := 1) (Nat.le_of_ble_eq_true rfl)
  rw [lg_entry_eq]
  generalize (lg_sl ([.int x0]) ++ List.replicate (1 - (lg_sl ([.int x0])).length) Slot.unset).toArray = ls at hl ⊢
  have hl : lv_has ls 1 [(0, .int x0)] := hl
  unfold FT_checkLength at hf
  refine lv_iload_n hx hb d_Pt_checkLength_0 rfl (lv_at hl 0 rfl) ?_
  refine lv_sipush (v := (4000 : Int32)) hx hb d_Pt_checkLength_1 (by decide) ?_
  refine lv_icmp_le hx hb d_Pt_checkLength_4 rfl (fun hc => ?_) (fun hc => ?_)
  · have hf := hf.1 hc
    exact hf.elim
  · have hf := hf.2 hc
    obtain ⟨q, hq⟩ := hT.2 (82, "a hash is over at most 4000 points") (by decide)
    exact r_newThrow S htr (fun w hw => hT.1 w hw _) hq (hts _ k_cl_Pt_71) (hts _ k_ini_Ia) d_Pt_checkLength_7 d_Pt_checkLength_10 d_Pt_checkLength_11 d_Pt_checkLength_13 d_Pt_checkLength_16 hl.1 hex hlocks (by decide) (by decide) (by decide) (by decide)
theorem tw_get (l : Launch) (hst : l.stackTraces = false) (b0 : Nat) (x1 : Int32) (x2 : Int32) (hf : FT_checkPoint x1 ∨ (FG_checkPoint x1 ∧ (FT_checkField x2))) : MetT l y_Pt_get (.code y_Pt_get b_Pt_get 3 (some .int) :: lwg) rmT2 (va_Pc [.ref b0, .int x1, .int x2] (okU b0)) xIA 1 6 := by
  refine MetT.ofW (cc := b_Pt_get) (maxL := 3) (ret := some .int) (by decide +kernel) rfl ?_
  intro p e s m args below meth c s₁ B hml hex hv
  obtain ⟨rfl, hU⟩ := hv
  have hx := B.exec
  have hb := B.bytes
  have hts0 := atoms_spec (ws := .code y_Pt_get b_Pt_get 3 (some .int) :: lwg) B.pre
  have hts : ∀ v ∈ lwg, v.before ([.ref b0, .int x1, .int x2] : List Value).toArray s = true := fun v hv => hts0 v (List.mem_cons_of_mem _ hv)
  have hown : s.vm.findClass "PropertyTrie" = some m.cls := findClass_of_methodNamed B.named
  have hlocks := B.notSynchronized
  have S : CallFix p m c b_Pt_get 3 s ([.ref b0, .int x1, .int x2] : List Value).toArray lwg "PropertyTrie" := ⟨hx, hb, hml, hown, hts⟩
  have hl := lv_entry ([.ref b0, .int x1, .int x2]) (n := 3) (Nat.le_of_ble_eq_true rfl)
  rw [lg_entry_eq]
  generalize (lg_sl ([.ref b0, .int x1, .int x2]) ++ List.replicate (3 - (lg_sl ([.ref b0, .int x1, .int x2])).length) Slot.unset).toArray = ls at hl ⊢
  have hl : lv_has ls 3 [(0, .ref b0), (1, .int x1), (2, .int x2)] := hl
  refine lv_iload_n hx hb d_Pt_get_0 rfl (lv_at hl 1 rfl) ?_
  rcases hf with hf | ⟨hg, hf⟩
  · exact r_thrS (As := [.int x1]) (rest := []) (n := 1) S (tw_checkPoint l hst x1 hf) okT_call (fun U hU2 hW => okT_at hU.1 hU2 hW) k_ml_Pt_41 k_st_Pt_checkPoint k_ini_Pt k_code_Pt_checkPoint rfl rfl (by decide +kernel) ⟨by decide, by decide⟩ (by decide) (by decide) hex hlocks hl.1 rfl rfl (Nat.le_of_ble_eq_true rfl) d_Pt_get_1
  refine W.callX (W.runS (As := [.int x1]) (rest := []) S (g_checkPoint l x1 hg) ⟨callB_of 1 hts (lwg_G k_code_Pt_checkPoint) rfl rfl rfl (hts _ k_ini_Pt) (hts _ k_ml_Pt_41) (by decide +kernel) ⟨by decide, by decide⟩, hts _ k_st_Pt_checkPoint⟩ ⟨fun _ _ _ _ q => q, fun _ _ _ => ⟨rfl, trivial⟩⟩ rfl rfl hl.1 rfl (lv_room (Nat.le_of_ble_eq_true rfl)) d_Pt_get_1 ⟨Nat.zero_le _, Nat.zero_le _⟩) (fun _ h => h.elim) (fun v st₀ t h0 hq => ?_)
  obtain ⟨hv, hh⟩ := hq
  cases hv
  rw [hh, h0]
  refine W.eq (g2 := F0 m 4 ls []) rfl ?_
  refine lv_iload_n hx hb d_Pt_get_4 rfl (lv_at hl 2 rfl) ?_
  exact r_thrS (As := [.int x2]) (rest := []) (n := 1) S (tw_checkField l hst x2 hf) okT_call (fun U hU2 hW => okT_at hU.1 hU2 hW) k_ml_Pt_24 k_st_Pt_checkField k_ini_Pt k_code_Pt_checkField rfl rfl (by decide +kernel) ⟨by decide, by decide⟩ (by decide) (by decide) hex hlocks hl.1 rfl rfl (Nat.le_of_ble_eq_true rfl) d_Pt_get_5
theorem tw_change (l : Launch) (hst : l.stackTraces = false) (b0 : Nat) (x1 : Int32) (x2 : Int32) (hf : FT_checkPoint x1 ∨ (FG_checkPoint x1 ∧ (FT_checkField x2))) : MetT l y_Pt_change (.code y_Pt_change b_Pt_change 5 (some .int) :: lwg) rmT2 (va_Pc [.ref b0, .int x1, .int x2] (okU b0)) xIA 1 6 := by
  refine MetT.ofW (cc := b_Pt_change) (maxL := 5) (ret := some .int) (by decide +kernel) rfl ?_
  intro p e s m args below meth c s₁ B hml hex hv
  obtain ⟨rfl, hU⟩ := hv
  have hx := B.exec
  have hb := B.bytes
  have hts0 := atoms_spec (ws := .code y_Pt_change b_Pt_change 5 (some .int) :: lwg) B.pre
  have hts : ∀ v ∈ lwg, v.before ([.ref b0, .int x1, .int x2] : List Value).toArray s = true := fun v hv => hts0 v (List.mem_cons_of_mem _ hv)
  have hown : s.vm.findClass "PropertyTrie" = some m.cls := findClass_of_methodNamed B.named
  have hlocks := B.notSynchronized
  have S : CallFix p m c b_Pt_change 5 s ([.ref b0, .int x1, .int x2] : List Value).toArray lwg "PropertyTrie" := ⟨hx, hb, hml, hown, hts⟩
  have hl := lv_entry ([.ref b0, .int x1, .int x2]) (n := 5) (Nat.le_of_ble_eq_true rfl)
  rw [lg_entry_eq]
  generalize (lg_sl ([.ref b0, .int x1, .int x2]) ++ List.replicate (5 - (lg_sl ([.ref b0, .int x1, .int x2])).length) Slot.unset).toArray = ls at hl ⊢
  have hl : lv_has ls 5 [(0, .ref b0), (1, .int x1), (2, .int x2)] := hl
  refine lv_iload_n hx hb d_Pt_change_0 rfl (lv_at hl 1 rfl) ?_
  rcases hf with hf | ⟨hg, hf⟩
  · exact r_thrS (As := [.int x1]) (rest := []) (n := 1) S (tw_checkPoint l hst x1 hf) okT_call (fun U hU2 hW => okT_at hU.1 hU2 hW) k_ml_Pt_41 k_st_Pt_checkPoint k_ini_Pt k_code_Pt_checkPoint rfl rfl (by decide +kernel) ⟨by decide, by decide⟩ (by decide) (by decide) hex hlocks hl.1 rfl rfl (Nat.le_of_ble_eq_true rfl) d_Pt_change_1
  refine W.callX (W.runS (As := [.int x1]) (rest := []) S (g_checkPoint l x1 hg) ⟨callB_of 1 hts (lwg_G k_code_Pt_checkPoint) rfl rfl rfl (hts _ k_ini_Pt) (hts _ k_ml_Pt_41) (by decide +kernel) ⟨by decide, by decide⟩, hts _ k_st_Pt_checkPoint⟩ ⟨fun _ _ _ _ q => q, fun _ _ _ => ⟨rfl, trivial⟩⟩ rfl rfl hl.1 rfl (lv_room (Nat.le_of_ble_eq_true rfl)) d_Pt_change_1 ⟨Nat.zero_le _, Nat.zero_le _⟩) (fun _ h => h.elim) (fun v st₀ t h0 hq => ?_)
  obtain ⟨hv, hh⟩ := hq
  cases hv
  rw [hh, h0]
  refine W.eq (g2 := F0 m 4 ls []) rfl ?_
  refine lv_iload_n hx hb d_Pt_change_4 rfl (lv_at hl 2 rfl) ?_
  exact r_thrS (As := [.int x2]) (rest := []) (n := 1) S (tw_checkField l hst x2 hf) okT_call (fun U hU2 hW => okT_at hU.1 hU2 hW) k_ml_Pt_24 k_st_Pt_checkField k_ini_Pt k_code_Pt_checkField rfl rfl (by decide +kernel) ⟨by decide, by decide⟩ (by decide) (by decide) hex hlocks hl.1 rfl rfl (Nat.le_of_ble_eq_true rfl) d_Pt_change_5
theorem tw_alike (l : Launch) (hst : l.stackTraces = false) (b0 : Nat) (x1 : Int32) (x2 : Int32) (hf : FT_checkPoint x1 ∨ (FG_checkPoint x1 ∧ (FT_checkPoint x2))) : MetT l y_Pt_alike (.code y_Pt_alike b_Pt_alike 3 (some .boolean) :: lwg) rmT2 (va_Pc [.ref b0, .int x1, .int x2] (okU b0)) xIA 1 6 := by
  refine MetT.ofW (cc := b_Pt_alike) (maxL := 3) (ret := some .boolean) (by decide +kernel) rfl ?_
  intro p e s m args below meth c s₁ B hml hex hv
  obtain ⟨rfl, hU⟩ := hv
  have hx := B.exec
  have hb := B.bytes
  have hts0 := atoms_spec (ws := .code y_Pt_alike b_Pt_alike 3 (some .boolean) :: lwg) B.pre
  have hts : ∀ v ∈ lwg, v.before ([.ref b0, .int x1, .int x2] : List Value).toArray s = true := fun v hv => hts0 v (List.mem_cons_of_mem _ hv)
  have hown : s.vm.findClass "PropertyTrie" = some m.cls := findClass_of_methodNamed B.named
  have hlocks := B.notSynchronized
  have S : CallFix p m c b_Pt_alike 3 s ([.ref b0, .int x1, .int x2] : List Value).toArray lwg "PropertyTrie" := ⟨hx, hb, hml, hown, hts⟩
  have hl := lv_entry ([.ref b0, .int x1, .int x2]) (n := 3) (Nat.le_of_ble_eq_true rfl)
  rw [lg_entry_eq]
  generalize (lg_sl ([.ref b0, .int x1, .int x2]) ++ List.replicate (3 - (lg_sl ([.ref b0, .int x1, .int x2])).length) Slot.unset).toArray = ls at hl ⊢
  have hl : lv_has ls 3 [(0, .ref b0), (1, .int x1), (2, .int x2)] := hl
  refine lv_iload_n hx hb d_Pt_alike_0 rfl (lv_at hl 1 rfl) ?_
  rcases hf with hf | ⟨hg, hf⟩
  · exact r_thrS (As := [.int x1]) (rest := []) (n := 1) S (tw_checkPoint l hst x1 hf) okT_call (fun U hU2 hW => okT_at hU.1 hU2 hW) k_ml_Pt_41 k_st_Pt_checkPoint k_ini_Pt k_code_Pt_checkPoint rfl rfl (by decide +kernel) ⟨by decide, by decide⟩ (by decide) (by decide) hex hlocks hl.1 rfl rfl (Nat.le_of_ble_eq_true rfl) d_Pt_alike_1
  refine W.callX (W.runS (As := [.int x1]) (rest := []) S (g_checkPoint l x1 hg) ⟨callB_of 1 hts (lwg_G k_code_Pt_checkPoint) rfl rfl rfl (hts _ k_ini_Pt) (hts _ k_ml_Pt_41) (by decide +kernel) ⟨by decide, by decide⟩, hts _ k_st_Pt_checkPoint⟩ ⟨fun _ _ _ _ q => q, fun _ _ _ => ⟨rfl, trivial⟩⟩ rfl rfl hl.1 rfl (lv_room (Nat.le_of_ble_eq_true rfl)) d_Pt_alike_1 ⟨Nat.zero_le _, Nat.zero_le _⟩) (fun _ h => h.elim) (fun v st₀ t h0 hq => ?_)
  obtain ⟨hv, hh⟩ := hq
  cases hv
  rw [hh, h0]
  refine W.eq (g2 := F0 m 4 ls []) rfl ?_
  refine lv_iload_n hx hb d_Pt_alike_4 rfl (lv_at hl 2 rfl) ?_
  exact r_thrS (As := [.int x2]) (rest := []) (n := 1) S (tw_checkPoint l hst x2 hf) okT_call (fun U hU2 hW => okT_at hU.1 hU2 hW) k_ml_Pt_41 k_st_Pt_checkPoint k_ini_Pt k_code_Pt_checkPoint rfl rfl (by decide +kernel) ⟨by decide, by decide⟩ (by decide) (by decide) hex hlocks hl.1 rfl rfl (Nat.le_of_ble_eq_true rfl) d_Pt_alike_5
theorem tw_hash (l : Launch) (hst : l.stackTraces = false) (b0 : Nat) (x1 : Int32) (x2 : Int32) (x3 : Int32) (hf : FT_checkRange x1 x2 ∨ (FG_checkRange x1 x2 ∧ (FT_checkLength (x2 - x1 + 1) ∨ (FG_checkLength (x2 - x1 + 1) ∧ (FT_checkField x3))))) : MetT l y_Pt_hash (.code y_Pt_hash b_Pt_hash 8 (some .int) :: lwg) rmT2 (va_Pc [.ref b0, .int x1, .int x2, .int x3] (okU b0)) xIA 1 6 := by
  refine MetT.ofW (cc := b_Pt_hash) (maxL := 8) (ret := some .int) (by decide +kernel) rfl ?_
  intro p e s m args below meth c s₁ B hml hex hv
  obtain ⟨rfl, hU⟩ := hv
  have hx := B.exec
  have hb := B.bytes
  have hts0 := atoms_spec (ws := .code y_Pt_hash b_Pt_hash 8 (some .int) :: lwg) B.pre
  have hts : ∀ v ∈ lwg, v.before ([.ref b0, .int x1, .int x2, .int x3] : List Value).toArray s = true := fun v hv => hts0 v (List.mem_cons_of_mem _ hv)
  have hown : s.vm.findClass "PropertyTrie" = some m.cls := findClass_of_methodNamed B.named
  have hlocks := B.notSynchronized
  have S : CallFix p m c b_Pt_hash 8 s ([.ref b0, .int x1, .int x2, .int x3] : List Value).toArray lwg "PropertyTrie" := ⟨hx, hb, hml, hown, hts⟩
  have hl := lv_entry ([.ref b0, .int x1, .int x2, .int x3]) (n := 8) (Nat.le_of_ble_eq_true rfl)
  rw [lg_entry_eq]
  generalize (lg_sl ([.ref b0, .int x1, .int x2, .int x3]) ++ List.replicate (8 - (lg_sl ([.ref b0, .int x1, .int x2, .int x3])).length) Slot.unset).toArray = ls at hl ⊢
  have hl : lv_has ls 8 [(0, .ref b0), (1, .int x1), (2, .int x2), (3, .int x3)] := hl
  refine lv_iload_n hx hb d_Pt_hash_0 rfl (lv_at hl 1 rfl) ?_
  refine lv_iload_n hx hb d_Pt_hash_1 rfl (lv_at hl 2 rfl) ?_
  rcases hf with hf | ⟨hg, hf⟩
  · exact r_thrS (As := [.int x1, .int x2]) (rest := []) (n := 2) S (tw_checkRange l hst x1 x2 hf) okT_call (fun U hU2 hW => okT_at hU.1 hU2 hW) k_ml_Pt_20 k_st_Pt_checkRange k_ini_Pt k_code_Pt_checkRange rfl rfl (by decide +kernel) ⟨by decide, by decide⟩ (by decide) (by decide) hex hlocks hl.1 rfl rfl (Nat.le_of_ble_eq_true rfl) d_Pt_hash_2
  refine W.callX (W.runS (As := [.int x1, .int x2]) (rest := []) S (g_checkRange l x1 x2 hg) ⟨callB_of 2 hts (lwg_G k_code_Pt_checkRange) rfl rfl rfl (hts _ k_ini_Pt) (hts _ k_ml_Pt_20) (by decide +kernel) ⟨by decide, by decide⟩, hts _ k_st_Pt_checkRange⟩ ⟨fun _ _ _ _ q => q, fun _ _ _ => ⟨rfl, trivial⟩⟩ rfl rfl hl.1 rfl (lv_room (Nat.le_of_ble_eq_true rfl)) d_Pt_hash_2 ⟨Nat.zero_le _, Nat.zero_le _⟩) (fun _ h => h.elim) (fun v st₀ t h0 hq => ?_)
  obtain ⟨hv, hh⟩ := hq
  cases hv
  rw [hh, h0]
  refine W.eq (g2 := F0 m 5 ls []) rfl ?_
  refine lv_iload_n hx hb d_Pt_hash_5 rfl (lv_at hl 2 rfl) ?_
  refine lv_iload_n hx hb d_Pt_hash_6 rfl (lv_at hl 1 rfl) ?_
  refine lv_isub hx hb d_Pt_hash_7 ?_
  refine lv_iconst (v := 1) hx hb d_Pt_hash_8 (by decide) ?_
  refine lv_iadd hx hb d_Pt_hash_9 ?_
  rcases hf with hf | ⟨hg, hf⟩
  · exact r_thrS (As := [.int (x2 - x1 + 1)]) (rest := []) (n := 1) S (tw_checkLength l hst (x2 - x1 + 1) hf) okT_call (fun U hU2 hW => okT_at hU.1 hU2 hW) k_ml_Pt_62 k_st_Pt_checkLength k_ini_Pt k_code_Pt_checkLength rfl rfl (by decide +kernel) ⟨by decide, by decide⟩ (by decide) (by decide) hex hlocks hl.1 rfl rfl (Nat.le_of_ble_eq_true rfl) d_Pt_hash_10
  refine W.callX (W.runS (As := [.int (x2 - x1 + 1)]) (rest := []) S (g_checkLength l (x2 - x1 + 1) hg) ⟨callB_of 1 hts (lwg_G k_code_Pt_checkLength) rfl rfl rfl (hts _ k_ini_Pt) (hts _ k_ml_Pt_62) (by decide +kernel) ⟨by decide, by decide⟩, hts _ k_st_Pt_checkLength⟩ ⟨fun _ _ _ _ q => q, fun _ _ _ => ⟨rfl, trivial⟩⟩ rfl rfl hl.1 rfl (lv_room (Nat.le_of_ble_eq_true rfl)) d_Pt_hash_10 ⟨Nat.zero_le _, Nat.zero_le _⟩) (fun _ h => h.elim) (fun v st₀ t h0 hq => ?_)
  obtain ⟨hv, hh⟩ := hq
  cases hv
  rw [hh, h0]
  refine W.eq (g2 := F0 m 13 ls []) rfl ?_
  refine lv_iload_n hx hb d_Pt_hash_13 rfl (lv_at hl 3 rfl) ?_
  exact r_thrS (As := [.int x3]) (rest := []) (n := 1) S (tw_checkField l hst x3 hf) okT_call (fun U hU2 hW => okT_at hU.1 hU2 hW) k_ml_Pt_24 k_st_Pt_checkField k_ini_Pt k_code_Pt_checkField rfl rfl (by decide +kernel) ⟨by decide, by decide⟩ (by decide) (by decide) hex hlocks hl.1 rfl rfl (Nat.le_of_ble_eq_true rfl) d_Pt_hash_14
theorem tw_mark (l : Launch) (hst : l.stackTraces = false) (b0 : Nat) (x1 : Int32) (x2 : Int32) (x3 : Int32) (x4 : Int32) (x5 : Int32) (hf : FT_checkRange x1 x2 ∨ (FG_checkRange x1 x2 ∧ (FT_checkField x3))) : MetT l y_Pt_mark (.code y_Pt_mark b_Pt_mark 6 (some .int) :: lwg) rmT2 (va_Pc [.ref b0, .int x1, .int x2, .int x3, .int x4, .int x5] (okU b0)) xIA 1 6 := by
  refine MetT.ofW (cc := b_Pt_mark) (maxL := 6) (ret := some .int) (by decide +kernel) rfl ?_
  intro p e s m args below meth c s₁ B hml hex hv
  obtain ⟨rfl, hU⟩ := hv
  have hx := B.exec
  have hb := B.bytes
  have hts0 := atoms_spec (ws := .code y_Pt_mark b_Pt_mark 6 (some .int) :: lwg) B.pre
  have hts : ∀ v ∈ lwg, v.before ([.ref b0, .int x1, .int x2, .int x3, .int x4, .int x5] : List Value).toArray s = true := fun v hv => hts0 v (List.mem_cons_of_mem _ hv)
  have hown : s.vm.findClass "PropertyTrie" = some m.cls := findClass_of_methodNamed B.named
  have hlocks := B.notSynchronized
  have S : CallFix p m c b_Pt_mark 6 s ([.ref b0, .int x1, .int x2, .int x3, .int x4, .int x5] : List Value).toArray lwg "PropertyTrie" := ⟨hx, hb, hml, hown, hts⟩
  have hl := lv_entry ([.ref b0, .int x1, .int x2, .int x3, .int x4, .int x5]) (n := 6) (Nat.le_of_ble_eq_true rfl)
  rw [lg_entry_eq]
  generalize (lg_sl ([.ref b0, .int x1, .int x2, .int x3, .int x4, .int x5]) ++ List.replicate (6 - (lg_sl ([.ref b0, .int x1, .int x2, .int x3, .int x4, .int x5])).length) Slot.unset).toArray = ls at hl ⊢
  have hl : lv_has ls 6 [(0, .ref b0), (1, .int x1), (2, .int x2), (3, .int x3), (4, .int x4), (5, .int x5)] := hl
  refine lv_iload_n hx hb d_Pt_mark_0 rfl (lv_at hl 1 rfl) ?_
  refine lv_iload_n hx hb d_Pt_mark_1 rfl (lv_at hl 2 rfl) ?_
  rcases hf with hf | ⟨hg, hf⟩
  · exact r_thrS (As := [.int x1, .int x2]) (rest := []) (n := 2) S (tw_checkRange l hst x1 x2 hf) okT_call (fun U hU2 hW => okT_at hU.1 hU2 hW) k_ml_Pt_20 k_st_Pt_checkRange k_ini_Pt k_code_Pt_checkRange rfl rfl (by decide +kernel) ⟨by decide, by decide⟩ (by decide) (by decide) hex hlocks hl.1 rfl rfl (Nat.le_of_ble_eq_true rfl) d_Pt_mark_2
  refine W.callX (W.runS (As := [.int x1, .int x2]) (rest := []) S (g_checkRange l x1 x2 hg) ⟨callB_of 2 hts (lwg_G k_code_Pt_checkRange) rfl rfl rfl (hts _ k_ini_Pt) (hts _ k_ml_Pt_20) (by decide +kernel) ⟨by decide, by decide⟩, hts _ k_st_Pt_checkRange⟩ ⟨fun _ _ _ _ q => q, fun _ _ _ => ⟨rfl, trivial⟩⟩ rfl rfl hl.1 rfl (lv_room (Nat.le_of_ble_eq_true rfl)) d_Pt_mark_2 ⟨Nat.zero_le _, Nat.zero_le _⟩) (fun _ h => h.elim) (fun v st₀ t h0 hq => ?_)
  obtain ⟨hv, hh⟩ := hq
  cases hv
  rw [hh, h0]
  refine W.eq (g2 := F0 m 5 ls []) rfl ?_
  refine lv_iload_n hx hb d_Pt_mark_5 rfl (lv_at hl 3 rfl) ?_
  exact r_thrS (As := [.int x3]) (rest := []) (n := 1) S (tw_checkField l hst x3 hf) okT_call (fun U hU2 hW => okT_at hU.1 hU2 hW) k_ml_Pt_24 k_st_Pt_checkField k_ini_Pt k_code_Pt_checkField rfl rfl (by decide +kernel) ⟨by decide, by decide⟩ (by decide) (by decide) hex hlocks hl.1 rfl rfl (Nat.le_of_ble_eq_true rfl) d_Pt_mark_6
theorem tw_set (l : Launch) (hst : l.stackTraces = false) (b0 : Nat) (x1 x2 x3 x4 : Int32) (hf : FT_checkRange x1 x2 ∨ (FG_checkRange x1 x2 ∧ (FT_checkField x3))) : MetT l y_Pt_set (.code y_Pt_set b_Pt_set 5 (some .int) :: lwg) rmT3 (va_Pc [.ref b0, .int x1, .int x2, .int x3, .int x4] (okU b0)) xIA 1 6 := by
  refine MetT.ofW (cc := b_Pt_set) (maxL := 5) (ret := some .int) (by decide +kernel) rfl ?_
  intro p e s m args below meth c s₁ B hml hex hv
  obtain ⟨rfl, hU⟩ := hv
  have hx := B.exec
  have hb := B.bytes
  have hts0 := atoms_spec (ws := .code y_Pt_set b_Pt_set 5 (some .int) :: lwg) B.pre
  have hts : ∀ v ∈ lwg, v.before ([.ref b0, .int x1, .int x2, .int x3, .int x4] : List Value).toArray s = true := fun v hv => hts0 v (List.mem_cons_of_mem _ hv)
  have hown : s.vm.findClass "PropertyTrie" = some m.cls := findClass_of_methodNamed B.named
  have hlocks := B.notSynchronized
  have S : CallFix p m c b_Pt_set 5 s ([.ref b0, .int x1, .int x2, .int x3, .int x4] : List Value).toArray lwg "PropertyTrie" := ⟨hx, hb, hml, hown, hts⟩
  have hl := lv_entry ([.ref b0, .int x1, .int x2, .int x3, .int x4]) (n := 5) (Nat.le_of_ble_eq_true rfl)
  rw [lg_entry_eq]
  generalize (lg_sl ([.ref b0, .int x1, .int x2, .int x3, .int x4]) ++ List.replicate (5 - (lg_sl ([.ref b0, .int x1, .int x2, .int x3, .int x4])).length) Slot.unset).toArray = ls at hl ⊢
  have hl : lv_has ls 5 [(0, .ref b0), (1, .int x1), (2, .int x2), (3, .int x3), (4, .int x4)] := hl
  refine lv_aload_n hx hb d_Pt_set_0 rfl (lv_at hl 0 rfl) ?_
  refine lv_iload_n hx hb d_Pt_set_1 rfl (lv_at hl 1 rfl) ?_
  refine lv_iload_n hx hb d_Pt_set_2 rfl (lv_at hl 2 rfl) ?_
  refine lv_iload_n hx hb d_Pt_set_3 rfl (lv_at hl 3 rfl) ?_
  refine lv_iload hx hb d_Pt_set_4 (lv_at hl 4 rfl) ?_
  refine lv_iconst (v := 0) hx hb d_Pt_set_6 (by decide) ?_
  exact r_thrV (C := "PropertyTrie") (As := [.int x1, .int x2, .int x3, .int x4, .int 0]) (rest := []) (n := 5) S (tw_mark l hst b0 x1 x2 x3 x4 0 hf) okU_call (fun U hU2 hW => okU_at hU hU2 hW) hU.2 k_ml_Pt_16 k_im_Pt_mark k_sel_Pt_mark k_ini_Pt k_code_Pt_mark rfl rfl (by decide +kernel) ⟨by decide, by decide⟩ (by decide) (by decide) hex hlocks hl.1 rfl rfl (Nat.le_of_ble_eq_true rfl) d_Pt_set_7
