abbrev rm_w : Room := { frames := 200, cells := 1, slots := 6, locals := 4000 }
set_option maxRecDepth 100000 in
set_option maxHeartbeats 4000000 in
theorem wr_set (l : Launch) (hst : l.stackTraces = false) (D : va_G) (cI cJ : ClassId) (a : Nat → Nat) (g : Nat → Int64) (x1 x2 x3 x4 : Int32) (σ : St) (Qp : Int32 → St × (Nat → Int64) → Prop) (hf : ((FT_checkRange x1 x2 ∨ (FG_checkRange x1 x2 ∧ (FT_checkField x3))) ∧ Qp 1 (σ, g)) ∨ F_Pt_set x1 x2 x3 x4 σ (fun r τ => ∀ g2 : Nat → Int64, g2 0 = r.toInt64 → Qp 0 (τ, g2))) : Cw l y_La_set (.codeWith y_La_set b_La_set 7 (some .int) [(0, 14, 17, 13)]) rm_w D cI cJ [.ref (a 11), .int x1, .int x2, .int x3, .int x4, .ref (a 15)] a g σ Qp := by
  intro sz
  refine MetW.ofW (cc := b_La_set) (maxL := 7) (ret := some .int) (hh := [(0, 14, 17, 13)]) (by decide +kernel) rfl ?_
  intro p e s m args below meth c s₁ B hml htab hv
  obtain ⟨rfl, hsz, hP, hok, hD0, hT⟩ := hv
  subst hsz
  have hx := B.exec
  have hb := B.bytes
  have hr := B.returns
  have hts0 := atoms_spec (ws := .codeWith y_La_set b_La_set 7 (some .int) [(0, 14, 17, 13)] :: lwg) B.pre
  have hts : ∀ v ∈ lwg, v.before ([.ref (a 11), .int x1, .int x2, .int x3, .int x4, .ref (a 15)] : List Value).toArray s = true := fun v hv => hts0 v (List.mem_cons_of_mem _ hv)
  have hown : s.vm.findClass "PropertyTrieLaw" = some m.cls := findClass_of_methodNamed B.named
  have hlocks := B.notSynchronized
  have S : CallFix p m c b_La_set 7 s ([.ref (a 11), .int x1, .int x2, .int x3, .int x4, .ref (a 15)] : List Value).toArray lwg "PropertyTrieLaw" := ⟨hx, hb, hml, hown, hts⟩
  have hD := hD0.self (sz := s.heap.size)
  generalize hAe : va_A (wLa cI cJ a g σ) s.heap.size = A at hD ⊢
  have hA : ∀ q : Nat, s.heap.size ≤ q → A q := fun q h => by rw [← hAe]; exact Or.inr h
  have hS : va_S A s.heap s.heap [] := va_S.rf
  have hl := lv_entry ([.ref (a 11), .int x1, .int x2, .int x3, .int x4, .ref (a 15)]) (n := 7) (Nat.le_of_ble_eq_true rfl)
  rw [lg_entry_eq]
  generalize (lg_sl ([.ref (a 11), .int x1, .int x2, .int x3, .int x4, .ref (a 15)]) ++ List.replicate (7 - (lg_sl ([.ref (a 11), .int x1, .int x2, .int x3, .int x4, .ref (a 15)])).length) Slot.unset).toArray = ls at hl ⊢
  have hl : lv_has ls 7 [(0, .ref (a 11)), (1, .int x1), (2, .int x2), (3, .int x3), (4, .int x4), (5, .ref (a 15))] := hl
  have hU0 : okU (a 11) s := ⟨hT, va_recv hok.1.1 hP (q0 := 11) (ci := 2) rfl rfl⟩
  refine lv_aload hx hb d_La_set_0 (lv_at hl 5 rfl) ?_
  refine lv_iconst (v := 0) hx hb d_La_set_2 (by decide) ?_
  refine lv_aload_n hx hb d_La_set_3 rfl (lv_at hl 0 rfl) ?_
  refine lv_iload_n hx hb d_La_set_4 rfl (lv_at hl 1 rfl) ?_
  refine lv_iload_n hx hb d_La_set_5 rfl (lv_at hl 2 rfl) ?_
  refine lv_iload_n hx hb d_La_set_6 rfl (lv_at hl 3 rfl) ?_
  refine lv_iload hx hb d_La_set_7 (lv_at hl 4 rfl) ?_
  rcases hf with ⟨hbad, hq⟩ | hf
  · refine r_catV (C := "PropertyTrie") (As := [.int x1, .int x2, .int x3, .int x4]) (rest := [.int 0, .ref (a 15)]) (n := 4) S (tw_set l hst (a 11) x1 x2 x3 x4 hbad) okU_call (fun U hU hW => okU_at hU0 hU hW) hU0.2 k_ml_La_7 k_im_Pt_set k_sel_Pt_set k_ini_Pt k_code_Pt_set rfl rfl (by decide +kernel) ⟨by decide, by decide⟩ (by decide) (by decide) htab ⟨by decide, by decide⟩ (by decide) k_cl_La_13 hl.1 rfl rfl (Nat.le_of_ble_eq_true rfl) d_La_set_9 (fun b H1 hk hsz => ?_)
    have hP1 : va_P D classes (wLa cI cJ a g σ) H1 := hP.kept (fun k x hx => keep_eq hk ((hP k x hx).lt))
    have hS1 : va_S A s.heap H1 [] := ⟨hsz, fun q h _ => keep_eq hk h, fun q hq => by cases hq⟩
    refine lv_astore hx hb d_La_set_17 hl (by decide) rfl (fun ls hl => ?_)
    refine lv_iconst (v := 1) hx hb d_La_set_19 (by decide) ?_
    exact W.iret hx hb hr (fun t ht hW => ⟨⟨1, (σ, g), rfl, hq, by rw [ht]; exact hP1, hD⟩, hS1.F ht⟩) hS1.2.2 d_La_set_20 hlocks
  · refine r_callVi (As := [.int x1, .int x2, .int x3, .int x4]) (rest := [.int 0, .ref (a 15)]) (n := 4) (q0 := 11) S hok.1 (c_Pt_set l D cI a (wrM cI a (wO cJ (a 15) g)) (Fx_M (Fx_O _ _ _ _)) x1 x2 x3 x4 σ _ hf) k_ml_La_7 k_im_Pt_set k_sel_Pt_set k_ini_Pt k_code_Pt_set rfl rfl (by decide +kernel) ⟨by decide, by decide⟩ rfl rfl hP hD hS hA (Nat.zero_le _) (Nat.zero_le _) hl.1 rfl rfl (Nat.le_of_ble_eq_true rfl) d_La_set_9 (fun r τ H locs hf hP hD hS => ?_)
    refine lv_i2l hx hb d_La_set_12 rfl ?_
    refine va_last (cA := cJ) (n := 1) (f := g) (x := r.toInt64) hx hb hok.2 hP hD hS 15 0 rfl rfl (show vp_in (nI 0) 1 from vp_in_nI (by decide) (by decide)) d_La_set_13 (fun H locs hP hD hS => ?_)
    refine lv_goto hx hb d_La_set_14 rfl ?_
    refine lv_iconst (v := 0) hx hb d_La_set_21 (by decide) ?_
    refine W.widen (k := 1) (n := 6) (by omega) (by omega) ?_
    exact W.iret hx hb hr (fun t ht hW => ⟨⟨0, (τ, vp_updL g (Int32.toNatClampNeg 0) (r.toInt64)), rfl, hf _ (if_pos (by decide)), by rw [ht]; exact hP, hD⟩, hS.F ht⟩) hS.2.2 d_La_set_22 hlocks
set_option maxRecDepth 100000 in
set_option maxHeartbeats 4000000 in
theorem wr_mark (l : Launch) (hst : l.stackTraces = false) (D : va_G) (cI cJ : ClassId) (a : Nat → Nat) (g : Nat → Int64) (x1 x2 x3 x4 x5 : Int32) (σ : St) (Qp : Int32 → St × (Nat → Int64) → Prop) (hf : ((FT_checkRange x1 x2 ∨ (FG_checkRange x1 x2 ∧ (FT_checkField x3))) ∧ Qp 1 (σ, g)) ∨ F_Pt_mark x1 x2 x3 x4 x5 σ (fun r τ => ∀ g2 : Nat → Int64, g2 0 = r.toInt64 → Qp 0 (τ, g2))) : Cw l y_La_mark (.codeWith y_La_mark b_La_mark 8 (some .int) [(0, 16, 19, 13)]) rm_w D cI cJ [.ref (a 11), .int x1, .int x2, .int x3, .int x4, .int x5, .ref (a 15)] a g σ Qp := by
  intro sz
  refine MetW.ofW (cc := b_La_mark) (maxL := 8) (ret := some .int) (hh := [(0, 16, 19, 13)]) (by decide +kernel) rfl ?_
  intro p e s m args below meth c s₁ B hml htab hv
  obtain ⟨rfl, hsz, hP, hok, hD0, hT⟩ := hv
  subst hsz
  have hx := B.exec
  have hb := B.bytes
  have hr := B.returns
  have hts0 := atoms_spec (ws := .codeWith y_La_mark b_La_mark 8 (some .int) [(0, 16, 19, 13)] :: lwg) B.pre
  have hts : ∀ v ∈ lwg, v.before ([.ref (a 11), .int x1, .int x2, .int x3, .int x4, .int x5, .ref (a 15)] : List Value).toArray s = true := fun v hv => hts0 v (List.mem_cons_of_mem _ hv)
  have hown : s.vm.findClass "PropertyTrieLaw" = some m.cls := findClass_of_methodNamed B.named
  have hlocks := B.notSynchronized
  have S : CallFix p m c b_La_mark 8 s ([.ref (a 11), .int x1, .int x2, .int x3, .int x4, .int x5, .ref (a 15)] : List Value).toArray lwg "PropertyTrieLaw" := ⟨hx, hb, hml, hown, hts⟩
  have hD := hD0.self (sz := s.heap.size)
  generalize hAe : va_A (wLa cI cJ a g σ) s.heap.size = A at hD ⊢
  have hA : ∀ q : Nat, s.heap.size ≤ q → A q := fun q h => by rw [← hAe]; exact Or.inr h
  have hS : va_S A s.heap s.heap [] := va_S.rf
  have hl := lv_entry ([.ref (a 11), .int x1, .int x2, .int x3, .int x4, .int x5, .ref (a 15)]) (n := 8) (Nat.le_of_ble_eq_true rfl)
  rw [lg_entry_eq]
  generalize (lg_sl ([.ref (a 11), .int x1, .int x2, .int x3, .int x4, .int x5, .ref (a 15)]) ++ List.replicate (8 - (lg_sl ([.ref (a 11), .int x1, .int x2, .int x3, .int x4, .int x5, .ref (a 15)])).length) Slot.unset).toArray = ls at hl ⊢
  have hl : lv_has ls 8 [(0, .ref (a 11)), (1, .int x1), (2, .int x2), (3, .int x3), (4, .int x4), (5, .int x5), (6, .ref (a 15))] := hl
  have hU0 : okU (a 11) s := ⟨hT, va_recv hok.1.1 hP (q0 := 11) (ci := 2) rfl rfl⟩
  refine lv_aload hx hb d_La_mark_0 (lv_at hl 6 rfl) ?_
  refine lv_iconst (v := 0) hx hb d_La_mark_2 (by decide) ?_
  refine lv_aload_n hx hb d_La_mark_3 rfl (lv_at hl 0 rfl) ?_
  refine lv_iload_n hx hb d_La_mark_4 rfl (lv_at hl 1 rfl) ?_
  refine lv_iload_n hx hb d_La_mark_5 rfl (lv_at hl 2 rfl) ?_
  refine lv_iload_n hx hb d_La_mark_6 rfl (lv_at hl 3 rfl) ?_
  refine lv_iload hx hb d_La_mark_7 (lv_at hl 4 rfl) ?_
  refine lv_iload hx hb d_La_mark_9 (lv_at hl 5 rfl) ?_
  rcases hf with ⟨hbad, hq⟩ | hf
  · refine r_catV (C := "PropertyTrie") (As := [.int x1, .int x2, .int x3, .int x4, .int x5]) (rest := [.int 0, .ref (a 15)]) (n := 5) S (tw_mark l hst (a 11) x1 x2 x3 x4 x5 hbad) okU_call (fun U hU hW => okU_at hU0 hU hW) hU0.2 k_ml_La_15 k_im_Pt_mark k_sel_Pt_mark k_ini_Pt k_code_Pt_mark rfl rfl (by decide +kernel) ⟨by decide, by decide⟩ (by decide) (by decide) htab ⟨by decide, by decide⟩ (by decide) k_cl_La_13 hl.1 rfl rfl (Nat.le_of_ble_eq_true rfl) d_La_mark_11 (fun b H1 hk hsz => ?_)
    have hP1 : va_P D classes (wLa cI cJ a g σ) H1 := hP.kept (fun k x hx => keep_eq hk ((hP k x hx).lt))
    have hS1 : va_S A s.heap H1 [] := ⟨hsz, fun q h _ => keep_eq hk h, fun q hq => by cases hq⟩
    refine lv_astore hx hb d_La_mark_19 hl (by decide) rfl (fun ls hl => ?_)
    refine lv_iconst (v := 1) hx hb d_La_mark_21 (by decide) ?_
    exact W.iret hx hb hr (fun t ht hW => ⟨⟨1, (σ, g), rfl, hq, by rw [ht]; exact hP1, hD⟩, hS1.F ht⟩) hS1.2.2 d_La_mark_22 hlocks
  · refine r_callVi (As := [.int x1, .int x2, .int x3, .int x4, .int x5]) (rest := [.int 0, .ref (a 15)]) (n := 5) (q0 := 11) S hok.1 (c_Pt_mark l D cI a (wrM cI a (wO cJ (a 15) g)) (Fx_M (Fx_O _ _ _ _)) x1 x2 x3 x4 x5 σ _ hf) k_ml_La_15 k_im_Pt_mark k_sel_Pt_mark k_ini_Pt k_code_Pt_mark rfl rfl (by decide +kernel) ⟨by decide, by decide⟩ rfl rfl hP hD hS hA (Nat.zero_le _) (Nat.zero_le _) hl.1 rfl rfl (Nat.le_of_ble_eq_true rfl) d_La_mark_11 (fun r τ H locs hf hP hD hS => ?_)
    refine lv_i2l hx hb d_La_mark_14 rfl ?_
    refine va_last (cA := cJ) (n := 1) (f := g) (x := r.toInt64) hx hb hok.2 hP hD hS 15 0 rfl rfl (show vp_in (nI 0) 1 from vp_in_nI (by decide) (by decide)) d_La_mark_15 (fun H locs hP hD hS => ?_)
    refine lv_goto hx hb d_La_mark_16 rfl ?_
    refine lv_iconst (v := 0) hx hb d_La_mark_23 (by decide) ?_
    refine W.widen (k := 1) (n := 6) (by omega) (by omega) ?_
    exact W.iret hx hb hr (fun t ht hW => ⟨⟨0, (τ, vp_updL g (Int32.toNatClampNeg 0) (r.toInt64)), rfl, hf _ (if_pos (by decide)), by rw [ht]; exact hP, hD⟩, hS.F ht⟩) hS.2.2 d_La_mark_24 hlocks
set_option maxRecDepth 100000 in
set_option maxHeartbeats 4000000 in
theorem wr_get (l : Launch) (hst : l.stackTraces = false) (D : va_G) (cI cJ : ClassId) (a : Nat → Nat) (g : Nat → Int64) (x1 x2 : Int32) (σ : St) (Qp : Int32 → St × (Nat → Int64) → Prop) (hf : ((FT_checkPoint x1 ∨ (FG_checkPoint x1 ∧ (FT_checkField x2))) ∧ Qp 1 (σ, g)) ∨ F_Pt_get x1 x2 σ (fun r τ => ∀ g2 : Nat → Int64, g2 0 = r.toInt64 → Qp 0 (τ, g2))) : Cw l y_La_get (.codeWith y_La_get b_La_get 5 (some .int) [(0, 10, 13, 13)]) rm_w D cI cJ [.ref (a 11), .int x1, .int x2, .ref (a 15)] a g σ Qp := by
  intro sz
  refine MetW.ofW (cc := b_La_get) (maxL := 5) (ret := some .int) (hh := [(0, 10, 13, 13)]) (by decide +kernel) rfl ?_
  intro p e s m args below meth c s₁ B hml htab hv
  obtain ⟨rfl, hsz, hP, hok, hD0, hT⟩ := hv
  subst hsz
  have hx := B.exec
  have hb := B.bytes
  have hr := B.returns
  have hts0 := atoms_spec (ws := .codeWith y_La_get b_La_get 5 (some .int) [(0, 10, 13, 13)] :: lwg) B.pre
  have hts : ∀ v ∈ lwg, v.before ([.ref (a 11), .int x1, .int x2, .ref (a 15)] : List Value).toArray s = true := fun v hv => hts0 v (List.mem_cons_of_mem _ hv)
  have hown : s.vm.findClass "PropertyTrieLaw" = some m.cls := findClass_of_methodNamed B.named
  have hlocks := B.notSynchronized
  have S : CallFix p m c b_La_get 5 s ([.ref (a 11), .int x1, .int x2, .ref (a 15)] : List Value).toArray lwg "PropertyTrieLaw" := ⟨hx, hb, hml, hown, hts⟩
  have hD := hD0.self (sz := s.heap.size)
  generalize hAe : va_A (wLa cI cJ a g σ) s.heap.size = A at hD ⊢
  have hA : ∀ q : Nat, s.heap.size ≤ q → A q := fun q h => by rw [← hAe]; exact Or.inr h
  have hS : va_S A s.heap s.heap [] := va_S.rf
  have hl := lv_entry ([.ref (a 11), .int x1, .int x2, .ref (a 15)]) (n := 5) (Nat.le_of_ble_eq_true rfl)
  rw [lg_entry_eq]
  generalize (lg_sl ([.ref (a 11), .int x1, .int x2, .ref (a 15)]) ++ List.replicate (5 - (lg_sl ([.ref (a 11), .int x1, .int x2, .ref (a 15)])).length) Slot.unset).toArray = ls at hl ⊢
  have hl : lv_has ls 5 [(0, .ref (a 11)), (1, .int x1), (2, .int x2), (3, .ref (a 15))] := hl
  have hU0 : okU (a 11) s := ⟨hT, va_recv hok.1.1 hP (q0 := 11) (ci := 2) rfl rfl⟩
  refine lv_aload_n hx hb d_La_get_0 rfl (lv_at hl 3 rfl) ?_
  refine lv_iconst (v := 0) hx hb d_La_get_1 (by decide) ?_
  refine lv_aload_n hx hb d_La_get_2 rfl (lv_at hl 0 rfl) ?_
  refine lv_iload_n hx hb d_La_get_3 rfl (lv_at hl 1 rfl) ?_
  refine lv_iload_n hx hb d_La_get_4 rfl (lv_at hl 2 rfl) ?_
  rcases hf with ⟨hbad, hq⟩ | hf
  · refine r_catV (C := "PropertyTrie") (As := [.int x1, .int x2]) (rest := [.int 0, .ref (a 15)]) (n := 2) S (tw_get l hst (a 11) x1 x2 hbad) okU_call (fun U hU hW => okU_at hU0 hU hW) hU0.2 k_ml_La_19 k_im_Pt_get k_sel_Pt_get k_ini_Pt k_code_Pt_get rfl rfl (by decide +kernel) ⟨by decide, by decide⟩ (by decide) (by decide) htab ⟨by decide, by decide⟩ (by decide) k_cl_La_13 hl.1 rfl rfl (Nat.le_of_ble_eq_true rfl) d_La_get_5 (fun b H1 hk hsz => ?_)
    have hP1 : va_P D classes (wLa cI cJ a g σ) H1 := hP.kept (fun k x hx => keep_eq hk ((hP k x hx).lt))
    have hS1 : va_S A s.heap H1 [] := ⟨hsz, fun q h _ => keep_eq hk h, fun q hq => by cases hq⟩
    refine lv_astore hx hb d_La_get_13 hl (by decide) rfl (fun ls hl => ?_)
    refine lv_iconst (v := 1) hx hb d_La_get_15 (by decide) ?_
    exact W.iret hx hb hr (fun t ht hW => ⟨⟨1, (σ, g), rfl, hq, by rw [ht]; exact hP1, hD⟩, hS1.F ht⟩) hS1.2.2 d_La_get_16 hlocks
  · refine r_callVi (As := [.int x1, .int x2]) (rest := [.int 0, .ref (a 15)]) (n := 2) (q0 := 11) S hok.1 (c_Pt_get l D cI a (wrM cI a (wO cJ (a 15) g)) (Fx_M (Fx_O _ _ _ _)) x1 x2 σ _ hf) k_ml_La_19 k_im_Pt_get k_sel_Pt_get k_ini_Pt k_code_Pt_get rfl rfl (by decide +kernel) ⟨by decide, by decide⟩ rfl rfl hP hD hS hA (Nat.zero_le _) (Nat.zero_le _) hl.1 rfl rfl (Nat.le_of_ble_eq_true rfl) d_La_get_5 (fun r τ H locs hf hP hD hS => ?_)
    refine lv_i2l hx hb d_La_get_8 rfl ?_
    refine va_last (cA := cJ) (n := 1) (f := g) (x := r.toInt64) hx hb hok.2 hP hD hS 15 0 rfl rfl (show vp_in (nI 0) 1 from vp_in_nI (by decide) (by decide)) d_La_get_9 (fun H locs hP hD hS => ?_)
    refine lv_goto hx hb d_La_get_10 rfl ?_
    refine lv_iconst (v := 0) hx hb d_La_get_17 (by decide) ?_
    refine W.widen (k := 1) (n := 6) (by omega) (by omega) ?_
    exact W.iret hx hb hr (fun t ht hW => ⟨⟨0, (τ, vp_updL g (Int32.toNatClampNeg 0) (r.toInt64)), rfl, hf _ (if_pos (by decide)), by rw [ht]; exact hP, hD⟩, hS.F ht⟩) hS.2.2 d_La_get_18 hlocks
set_option maxRecDepth 100000 in
set_option maxHeartbeats 4000000 in
theorem wr_change (l : Launch) (hst : l.stackTraces = false) (D : va_G) (cI cJ : ClassId) (a : Nat → Nat) (g : Nat → Int64) (x1 x2 : Int32) (σ : St) (Qp : Int32 → St × (Nat → Int64) → Prop) (hf : ((FT_checkPoint x1 ∨ (FG_checkPoint x1 ∧ (FT_checkField x2))) ∧ Qp 1 (σ, g)) ∨ F_Pt_change x1 x2 σ (fun r τ => ∀ g2 : Nat → Int64, g2 0 = r.toInt64 → Qp 0 (τ, g2))) : Cw l y_La_change (.codeWith y_La_change b_La_change 5 (some .int) [(0, 10, 13, 13)]) rm_w D cI cJ [.ref (a 11), .int x1, .int x2, .ref (a 15)] a g σ Qp := by
  intro sz
  refine MetW.ofW (cc := b_La_change) (maxL := 5) (ret := some .int) (hh := [(0, 10, 13, 13)]) (by decide +kernel) rfl ?_
  intro p e s m args below meth c s₁ B hml htab hv
  obtain ⟨rfl, hsz, hP, hok, hD0, hT⟩ := hv
  subst hsz
  have hx := B.exec
  have hb := B.bytes
  have hr := B.returns
  have hts0 := atoms_spec (ws := .codeWith y_La_change b_La_change 5 (some .int) [(0, 10, 13, 13)] :: lwg) B.pre
  have hts : ∀ v ∈ lwg, v.before ([.ref (a 11), .int x1, .int x2, .ref (a 15)] : List Value).toArray s = true := fun v hv => hts0 v (List.mem_cons_of_mem _ hv)
  have hown : s.vm.findClass "PropertyTrieLaw" = some m.cls := findClass_of_methodNamed B.named
  have hlocks := B.notSynchronized
  have S : CallFix p m c b_La_change 5 s ([.ref (a 11), .int x1, .int x2, .ref (a 15)] : List Value).toArray lwg "PropertyTrieLaw" := ⟨hx, hb, hml, hown, hts⟩
  have hD := hD0.self (sz := s.heap.size)
  generalize hAe : va_A (wLa cI cJ a g σ) s.heap.size = A at hD ⊢
  have hA : ∀ q : Nat, s.heap.size ≤ q → A q := fun q h => by rw [← hAe]; exact Or.inr h
  have hS : va_S A s.heap s.heap [] := va_S.rf
  have hl := lv_entry ([.ref (a 11), .int x1, .int x2, .ref (a 15)]) (n := 5) (Nat.le_of_ble_eq_true rfl)
  rw [lg_entry_eq]
  generalize (lg_sl ([.ref (a 11), .int x1, .int x2, .ref (a 15)]) ++ List.replicate (5 - (lg_sl ([.ref (a 11), .int x1, .int x2, .ref (a 15)])).length) Slot.unset).toArray = ls at hl ⊢
  have hl : lv_has ls 5 [(0, .ref (a 11)), (1, .int x1), (2, .int x2), (3, .ref (a 15))] := hl
  have hU0 : okU (a 11) s := ⟨hT, va_recv hok.1.1 hP (q0 := 11) (ci := 2) rfl rfl⟩
  refine lv_aload_n hx hb d_La_change_0 rfl (lv_at hl 3 rfl) ?_
  refine lv_iconst (v := 0) hx hb d_La_change_1 (by decide) ?_
  refine lv_aload_n hx hb d_La_change_2 rfl (lv_at hl 0 rfl) ?_
  refine lv_iload_n hx hb d_La_change_3 rfl (lv_at hl 1 rfl) ?_
  refine lv_iload_n hx hb d_La_change_4 rfl (lv_at hl 2 rfl) ?_
  rcases hf with ⟨hbad, hq⟩ | hf
  · refine r_catV (C := "PropertyTrie") (As := [.int x1, .int x2]) (rest := [.int 0, .ref (a 15)]) (n := 2) S (tw_change l hst (a 11) x1 x2 hbad) okU_call (fun U hU hW => okU_at hU0 hU hW) hU0.2 k_ml_La_23 k_im_Pt_change k_sel_Pt_change k_ini_Pt k_code_Pt_change rfl rfl (by decide +kernel) ⟨by decide, by decide⟩ (by decide) (by decide) htab ⟨by decide, by decide⟩ (by decide) k_cl_La_13 hl.1 rfl rfl (Nat.le_of_ble_eq_true rfl) d_La_change_5 (fun b H1 hk hsz => ?_)
    have hP1 : va_P D classes (wLa cI cJ a g σ) H1 := hP.kept (fun k x hx => keep_eq hk ((hP k x hx).lt))
    have hS1 : va_S A s.heap H1 [] := ⟨hsz, fun q h _ => keep_eq hk h, fun q hq => by cases hq⟩
    refine lv_astore hx hb d_La_change_13 hl (by decide) rfl (fun ls hl => ?_)
    refine lv_iconst (v := 1) hx hb d_La_change_15 (by decide) ?_
    exact W.iret hx hb hr (fun t ht hW => ⟨⟨1, (σ, g), rfl, hq, by rw [ht]; exact hP1, hD⟩, hS1.F ht⟩) hS1.2.2 d_La_change_16 hlocks
  · refine r_callVi (As := [.int x1, .int x2]) (rest := [.int 0, .ref (a 15)]) (n := 2) (q0 := 11) S hok.1 (c_Pt_change l D cI a (wrM cI a (wO cJ (a 15) g)) (Fx_M (Fx_O _ _ _ _)) x1 x2 σ _ hf) k_ml_La_23 k_im_Pt_change k_sel_Pt_change k_ini_Pt k_code_Pt_change rfl rfl (by decide +kernel) ⟨by decide, by decide⟩ rfl rfl hP hD hS hA (Nat.zero_le _) (Nat.zero_le _) hl.1 rfl rfl (Nat.le_of_ble_eq_true rfl) d_La_change_5 (fun r τ H locs hf hP hD hS => ?_)
    refine lv_i2l hx hb d_La_change_8 rfl ?_
    refine va_last (cA := cJ) (n := 1) (f := g) (x := r.toInt64) hx hb hok.2 hP hD hS 15 0 rfl rfl (show vp_in (nI 0) 1 from vp_in_nI (by decide) (by decide)) d_La_change_9 (fun H locs hP hD hS => ?_)
    refine lv_goto hx hb d_La_change_10 rfl ?_
    refine lv_iconst (v := 0) hx hb d_La_change_17 (by decide) ?_
    refine W.widen (k := 1) (n := 6) (by omega) (by omega) ?_
    exact W.iret hx hb hr (fun t ht hW => ⟨⟨0, (τ, vp_updL g (Int32.toNatClampNeg 0) (r.toInt64)), rfl, hf _ (if_pos (by decide)), by rw [ht]; exact hP, hD⟩, hS.F ht⟩) hS.2.2 d_La_change_18 hlocks
set_option maxRecDepth 100000 in
set_option maxHeartbeats 4000000 in
theorem wr_alike (l : Launch) (hst : l.stackTraces = false) (D : va_G) (cI cJ : ClassId) (a : Nat → Nat) (g : Nat → Int64) (x1 x2 : Int32) (σ : St) (Qp : Int32 → St × (Nat → Int64) → Prop) (hf : ((FT_checkPoint x1 ∨ (FG_checkPoint x1 ∧ (FT_checkPoint x2))) ∧ Qp 1 (σ, g)) ∨ F_Pt_alike x1 x2 σ (fun r τ => ∀ g2 : Nat → Int64, g2 0 = (if r = 0 then 0 else 1) → Qp 0 (τ, g2))) : Cw l y_La_alike (.codeWith y_La_alike b_La_alike 5 (some .int) [(0, 17, 20, 13)]) rm_w D cI cJ [.ref (a 11), .int x1, .int x2, .ref (a 15)] a g σ Qp := by
  intro sz
  refine MetW.ofW (cc := b_La_alike) (maxL := 5) (ret := some .int) (hh := [(0, 17, 20, 13)]) (by decide +kernel) rfl ?_
  intro p e s m args below meth c s₁ B hml htab hv
  obtain ⟨rfl, hsz, hP, hok, hD0, hT⟩ := hv
  subst hsz
  have hx := B.exec
  have hb := B.bytes
  have hr := B.returns
  have hts0 := atoms_spec (ws := .codeWith y_La_alike b_La_alike 5 (some .int) [(0, 17, 20, 13)] :: lwg) B.pre
  have hts : ∀ v ∈ lwg, v.before ([.ref (a 11), .int x1, .int x2, .ref (a 15)] : List Value).toArray s = true := fun v hv => hts0 v (List.mem_cons_of_mem _ hv)
  have hown : s.vm.findClass "PropertyTrieLaw" = some m.cls := findClass_of_methodNamed B.named
  have hlocks := B.notSynchronized
  have S : CallFix p m c b_La_alike 5 s ([.ref (a 11), .int x1, .int x2, .ref (a 15)] : List Value).toArray lwg "PropertyTrieLaw" := ⟨hx, hb, hml, hown, hts⟩
  have hD := hD0.self (sz := s.heap.size)
  generalize hAe : va_A (wLa cI cJ a g σ) s.heap.size = A at hD ⊢
  have hA : ∀ q : Nat, s.heap.size ≤ q → A q := fun q h => by rw [← hAe]; exact Or.inr h
  have hS : va_S A s.heap s.heap [] := va_S.rf
  have hl := lv_entry ([.ref (a 11), .int x1, .int x2, .ref (a 15)]) (n := 5) (Nat.le_of_ble_eq_true rfl)
  rw [lg_entry_eq]
  generalize (lg_sl ([.ref (a 11), .int x1, .int x2, .ref (a 15)]) ++ List.replicate (5 - (lg_sl ([.ref (a 11), .int x1, .int x2, .ref (a 15)])).length) Slot.unset).toArray = ls at hl ⊢
  have hl : lv_has ls 5 [(0, .ref (a 11)), (1, .int x1), (2, .int x2), (3, .ref (a 15))] := hl
  have hU0 : okU (a 11) s := ⟨hT, va_recv hok.1.1 hP (q0 := 11) (ci := 2) rfl rfl⟩
  refine lv_aload_n hx hb d_La_alike_0 rfl (lv_at hl 3 rfl) ?_
  refine lv_iconst (v := 0) hx hb d_La_alike_1 (by decide) ?_
  refine lv_aload_n hx hb d_La_alike_2 rfl (lv_at hl 0 rfl) ?_
  refine lv_iload_n hx hb d_La_alike_3 rfl (lv_at hl 1 rfl) ?_
  refine lv_iload_n hx hb d_La_alike_4 rfl (lv_at hl 2 rfl) ?_
  rcases hf with ⟨hbad, hq⟩ | hf
  · refine r_catV (C := "PropertyTrie") (As := [.int x1, .int x2]) (rest := [.int 0, .ref (a 15)]) (n := 2) S (tw_alike l hst (a 11) x1 x2 hbad) okU_call (fun U hU hW => okU_at hU0 hU hW) hU0.2 k_ml_La_26 k_im_Pt_alike k_sel_Pt_alike k_ini_Pt k_code_Pt_alike rfl rfl (by decide +kernel) ⟨by decide, by decide⟩ (by decide) (by decide) htab ⟨by decide, by decide⟩ (by decide) k_cl_La_13 hl.1 rfl rfl (Nat.le_of_ble_eq_true rfl) d_La_alike_5 (fun b H1 hk hsz => ?_)
    have hP1 : va_P D classes (wLa cI cJ a g σ) H1 := hP.kept (fun k x hx => keep_eq hk ((hP k x hx).lt))
    have hS1 : va_S A s.heap H1 [] := ⟨hsz, fun q h _ => keep_eq hk h, fun q hq => by cases hq⟩
    refine lv_astore hx hb d_La_alike_20 hl (by decide) rfl (fun ls hl => ?_)
    refine lv_iconst (v := 1) hx hb d_La_alike_22 (by decide) ?_
    exact W.iret hx hb hr (fun t ht hW => ⟨⟨1, (σ, g), rfl, hq, by rw [ht]; exact hP1, hD⟩, hS1.F ht⟩) hS1.2.2 d_La_alike_23 hlocks
  · refine r_callVi (As := [.int x1, .int x2]) (rest := [.int 0, .ref (a 15)]) (n := 2) (q0 := 11) S hok.1 (c_Pt_alike l D cI a (wrM cI a (wO cJ (a 15) g)) (Fx_M (Fx_O _ _ _ _)) x1 x2 σ _ hf) k_ml_La_26 k_im_Pt_alike k_sel_Pt_alike k_ini_Pt k_code_Pt_alike rfl rfl (by decide +kernel) ⟨by decide, by decide⟩ rfl rfl hP hD hS hA (Nat.zero_le _) (Nat.zero_le _) hl.1 rfl rfl (Nat.le_of_ble_eq_true rfl) d_La_alike_5 (fun r τ H locs hf hP hD hS => ?_)
    refine lv_if_eq hx hb d_La_alike_8 rfl (fun hc => ?_) (fun hc => ?_)
    · refine lv_lconst (v := 0) hx hb d_La_alike_15 rfl ?_
      refine va_last (cA := cJ) (n := 1) (f := g) (x := (0 : Int64)) hx hb hok.2 hP hD hS 15 0 rfl rfl (show vp_in (nI 0) 1 from vp_in_nI (by decide) (by decide)) d_La_alike_16 (fun H locs hP hD hS => ?_)
      refine lv_goto hx hb d_La_alike_17 rfl ?_
      refine lv_iconst (v := 0) hx hb d_La_alike_24 (by decide) ?_
      refine W.widen (k := 1) (n := 6) (by omega) (by omega) ?_
      exact W.iret hx hb hr (fun t ht hW => ⟨⟨0, (τ, vp_updL g (Int32.toNatClampNeg 0) ((0 : Int64))), rfl, hf _ (by rw [if_pos hc]; exact if_pos (by decide)), by rw [ht]; exact hP, hD⟩, hS.F ht⟩) hS.2.2 d_La_alike_25 hlocks
    · refine lv_lconst (v := 1) hx hb d_La_alike_11 rfl ?_
      refine lv_goto hx hb d_La_alike_12 rfl ?_
      refine va_last (cA := cJ) (n := 1) (f := g) (x := (1 : Int64)) hx hb hok.2 hP hD hS 15 0 rfl rfl (show vp_in (nI 0) 1 from vp_in_nI (by decide) (by decide)) d_La_alike_16 (fun H locs hP hD hS => ?_)
      refine lv_goto hx hb d_La_alike_17 rfl ?_
      refine lv_iconst (v := 0) hx hb d_La_alike_24 (by decide) ?_
      refine W.widen (k := 1) (n := 6) (by omega) (by omega) ?_
      exact W.iret hx hb hr (fun t ht hW => ⟨⟨0, (τ, vp_updL g (Int32.toNatClampNeg 0) ((1 : Int64))), rfl, hf _ (by rw [if_neg hc]; exact if_pos (by decide)), by rw [ht]; exact hP, hD⟩, hS.F ht⟩) hS.2.2 d_La_alike_25 hlocks
set_option maxRecDepth 100000 in
set_option maxHeartbeats 4000000 in
theorem wr_hash (l : Launch) (hst : l.stackTraces = false) (D : va_G) (cI cJ : ClassId) (a : Nat → Nat) (g : Nat → Int64) (x1 x2 x3 : Int32) (σ : St) (Qp : Int32 → St × (Nat → Int64) → Prop) (hf : ((FT_checkRange x1 x2 ∨ (FG_checkRange x1 x2 ∧ (FT_checkLength (x2 - x1 + 1) ∨ (FG_checkLength (x2 - x1 + 1) ∧ (FT_checkField x3))))) ∧ Qp 1 (σ, g)) ∨ F_Pt_hash x1 x2 x3 σ (fun r τ => ∀ g2 : Nat → Int64, g2 0 = r.toInt64 → Qp 0 (τ, g2))) : Cw l y_La_hash (.codeWith y_La_hash b_La_hash 6 (some .int) [(0, 12, 15, 13)]) rm_w D cI cJ [.ref (a 11), .int x1, .int x2, .int x3, .ref (a 15)] a g σ Qp := by
  intro sz
  refine MetW.ofW (cc := b_La_hash) (maxL := 6) (ret := some .int) (hh := [(0, 12, 15, 13)]) (by decide +kernel) rfl ?_
  intro p e s m args below meth c s₁ B hml htab hv
  obtain ⟨rfl, hsz, hP, hok, hD0, hT⟩ := hv
  subst hsz
  have hx := B.exec
  have hb := B.bytes
  have hr := B.returns
  have hts0 := atoms_spec (ws := .codeWith y_La_hash b_La_hash 6 (some .int) [(0, 12, 15, 13)] :: lwg) B.pre
  have hts : ∀ v ∈ lwg, v.before ([.ref (a 11), .int x1, .int x2, .int x3, .ref (a 15)] : List Value).toArray s = true := fun v hv => hts0 v (List.mem_cons_of_mem _ hv)
  have hown : s.vm.findClass "PropertyTrieLaw" = some m.cls := findClass_of_methodNamed B.named
  have hlocks := B.notSynchronized
  have S : CallFix p m c b_La_hash 6 s ([.ref (a 11), .int x1, .int x2, .int x3, .ref (a 15)] : List Value).toArray lwg "PropertyTrieLaw" := ⟨hx, hb, hml, hown, hts⟩
  have hD := hD0.self (sz := s.heap.size)
  generalize hAe : va_A (wLa cI cJ a g σ) s.heap.size = A at hD ⊢
  have hA : ∀ q : Nat, s.heap.size ≤ q → A q := fun q h => by rw [← hAe]; exact Or.inr h
  have hS : va_S A s.heap s.heap [] := va_S.rf
  have hl := lv_entry ([.ref (a 11), .int x1, .int x2, .int x3, .ref (a 15)]) (n := 6) (Nat.le_of_ble_eq_true rfl)
  rw [lg_entry_eq]
  generalize (lg_sl ([.ref (a 11), .int x1, .int x2, .int x3, .ref (a 15)]) ++ List.replicate (6 - (lg_sl ([.ref (a 11), .int x1, .int x2, .int x3, .ref (a 15)])).length) Slot.unset).toArray = ls at hl ⊢
  have hl : lv_has ls 6 [(0, .ref (a 11)), (1, .int x1), (2, .int x2), (3, .int x3), (4, .ref (a 15))] := hl
  have hU0 : okU (a 11) s := ⟨hT, va_recv hok.1.1 hP (q0 := 11) (ci := 2) rfl rfl⟩
  refine lv_aload hx hb d_La_hash_0 (lv_at hl 4 rfl) ?_
  refine lv_iconst (v := 0) hx hb d_La_hash_2 (by decide) ?_
  refine lv_aload_n hx hb d_La_hash_3 rfl (lv_at hl 0 rfl) ?_
  refine lv_iload_n hx hb d_La_hash_4 rfl (lv_at hl 1 rfl) ?_
  refine lv_iload_n hx hb d_La_hash_5 rfl (lv_at hl 2 rfl) ?_
  refine lv_iload_n hx hb d_La_hash_6 rfl (lv_at hl 3 rfl) ?_
  rcases hf with ⟨hbad, hq⟩ | hf
  · refine r_catV (C := "PropertyTrie") (As := [.int x1, .int x2, .int x3]) (rest := [.int 0, .ref (a 15)]) (n := 3) S (tw_hash l hst (a 11) x1 x2 x3 hbad) okU_call (fun U hU hW => okU_at hU0 hU hW) hU0.2 k_ml_La_30 k_im_Pt_hash k_sel_Pt_hash k_ini_Pt k_code_Pt_hash rfl rfl (by decide +kernel) ⟨by decide, by decide⟩ (by decide) (by decide) htab ⟨by decide, by decide⟩ (by decide) k_cl_La_13 hl.1 rfl rfl (Nat.le_of_ble_eq_true rfl) d_La_hash_7 (fun b H1 hk hsz => ?_)
    have hP1 : va_P D classes (wLa cI cJ a g σ) H1 := hP.kept (fun k x hx => keep_eq hk ((hP k x hx).lt))
    have hS1 : va_S A s.heap H1 [] := ⟨hsz, fun q h _ => keep_eq hk h, fun q hq => by cases hq⟩
    refine lv_astore hx hb d_La_hash_15 hl (by decide) rfl (fun ls hl => ?_)
    refine lv_iconst (v := 1) hx hb d_La_hash_17 (by decide) ?_
    exact W.iret hx hb hr (fun t ht hW => ⟨⟨1, (σ, g), rfl, hq, by rw [ht]; exact hP1, hD⟩, hS1.F ht⟩) hS1.2.2 d_La_hash_18 hlocks
  · refine r_callVi (As := [.int x1, .int x2, .int x3]) (rest := [.int 0, .ref (a 15)]) (n := 3) (q0 := 11) S hok.1 (c_Pt_hash l D cI a (wrM cI a (wO cJ (a 15) g)) (Fx_M (Fx_O _ _ _ _)) x1 x2 x3 σ _ hf) k_ml_La_30 k_im_Pt_hash k_sel_Pt_hash k_ini_Pt k_code_Pt_hash rfl rfl (by decide +kernel) ⟨by decide, by decide⟩ rfl rfl hP hD hS hA (Nat.zero_le _) (Nat.zero_le _) hl.1 rfl rfl (Nat.le_of_ble_eq_true rfl) d_La_hash_7 (fun r τ H locs hf hP hD hS => ?_)
    refine lv_i2l hx hb d_La_hash_10 rfl ?_
    refine va_last (cA := cJ) (n := 1) (f := g) (x := r.toInt64) hx hb hok.2 hP hD hS 15 0 rfl rfl (show vp_in (nI 0) 1 from vp_in_nI (by decide) (by decide)) d_La_hash_11 (fun H locs hP hD hS => ?_)
    refine lv_goto hx hb d_La_hash_12 rfl ?_
    refine lv_iconst (v := 0) hx hb d_La_hash_19 (by decide) ?_
    refine W.widen (k := 1) (n := 6) (by omega) (by omega) ?_
    exact W.iret hx hb hr (fun t ht hW => ⟨⟨0, (τ, vp_updL g (Int32.toNatClampNeg 0) (r.toInt64)), rfl, hf _ (if_pos (by decide)), by rw [ht]; exact hP, hD⟩, hS.F ht⟩) hS.2.2 d_La_hash_20 hlocks
