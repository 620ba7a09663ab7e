theorem lwA_in : ∀ w ∈ lwA, w ∈ lw_tbl ∨ w ∈ flatC (Jvm.Cond.and given_1 narrow_1) := by decide +kernel
theorem kd_any {w : Cond} {s : State} (hk : kd w = true) {av0 : Array Value} (h : w.before av0 s = true) (av : Array Value) : w.before av s = true := by
  unfold kd at hk
  split at hk
  · exact va_Nw.use rfl (va_Nw.of rfl h)
  · exact va_Nw.use rfl (va_Nw.of rfl h)
  · exact laysS_at (State.WarmedH.refl s) (fun _ _ h => h) h
  · exact isRef_at (State.WarmedH.refl s) (fun _ _ h => h) h
  · exact word_at (State.WarmedH.refl s) (Or.inl hk) h
theorem str_ok {s : State} {A : Array Value} {k : Nat} {tx : String} (h1 : (Cond.stringRef "PropertyTrie" k tx).before A s = true) (h2 : (Cond.exactly (.string "PropertyTrie" k) "java/lang/String").before A s = true) : ∃ q, vk_R "PropertyTrie" k tx q s := by
  obtain ⟨q, c, cA, kA, q1, -⟩ := Cond.exactly_spec h2
  exact ⟨q, h1, q1⟩
theorem okT_start {s : State} {b : Nat} (hts : ∀ w ∈ lw_tbl, w.before #[Value.ref b] s = true) (hgv : (Jvm.Cond.and given_1 narrow_1).before #[Value.ref b] s = true) : okT s := by
  have hfl := flat_of_before _ hgv
  refine ⟨fun w hw av => ?_, fun x hx => ?_⟩
  · rcases lwA_in w hw with h | h
    · exact kd_any (lwA_kd w hw) (hts w h) av
    · exact kd_any (lwA_kd w hw) (hfl w h) av
  · simp only [lwS, List.mem_cons, List.not_mem_nil, or_false] at hx
    rcases hx with rfl | rfl | rfl | rfl
    · exact str_ok (hts _ k_str_Pt_73) (hfl _ (by decide +kernel))
    · exact str_ok (hts _ k_str_Pt_78) (hfl _ (by decide +kernel))
    · exact str_ok (hts _ k_str_Pt_80) (hfl _ (by decide +kernel))
    · exact str_ok (hts _ k_str_Pt_82) (hfl _ (by decide +kernel))
theorem LI_start {τ1 τ2 : St} (h1 : BI τ1 (fun _ => 0) (fun _ => 0) (fun x => x == 0) L00 (fun _ _ => 0) 2048) (h2 : MS τ2 (fun _ => 0) 1) (h3 : MV τ2 (fun _ => 0) 1 (fun _ _ => 0)) : LI 0 (fun k => cond (Nat.ble k 16) (τ1 k) (τ2 k)) := by
  refine ⟨_, _, _, _, _, 2048, _, 1, BI_congr (fun j _ _ _ _ _ hj => ?_) h1, by rw [brk_0]; omega, by omega, MS_congr rfl rfl h2, MV_congr rfl h3, by omega⟩
  show cond (Nat.ble j 16) (τ1 j) (τ2 j) = τ1 j
  rw [show Nat.ble j 16 = true from Nat.ble_eq.mpr (by omega)]
  rfl
set_option maxRecDepth 100000 in
set_option maxHeartbeats 8000000 in
theorem whole_start {p : Program} {e : Env} {s : State} {m : MethodId} {below : List Frame} {meth : Method} {c : Code} (l : Launch) (hst : l.stackTraces = false) {b L : Nat} {xs : Nat → Int32} (hL : L ≤ 3072) (C0 : lw_At p s m meth c b L xs) : W p l e room_1 s m #[Value.ref b] below meth c s.heap [] 0 0 (lw_Z below #[Value.ref b] s) (entryFrame m ([Value.ref b] : List Value).toArray 7) := by
  have C1 := C0
  obtain ⟨hx, hb, hr, hml, hown, hts0, hX, hbl, hlocks, hgv⟩ := C0
  have hts : ∀ w ∈ lwg, w.before #[Value.ref b] s = true := fun w hw => hts0 w (List.mem_filter.mp hw).1
  have S : CallFix p m c code 7 s #[Value.ref b] lwg "PropertyTrieLaw" := ⟨hx, hb, hml, hown, hts⟩
  have hT : okT s := okT_start hts0 hgv
  obtain ⟨c0, i0, k0⟩ := u_known (C := R_Rc) (T := F_Rc) (N := 11) hts i_Rc (hts _ k_in_Rc)
  obtain ⟨c1, i1, k1⟩ := u_known (C := R_Bl) (T := F_Bl) (N := 7) hts i_Bl (hts _ k_in_Bl)
  obtain ⟨c2, i2, k2⟩ := u_known (C := R_Pt) (T := F_Pt) (N := 1) hts i_Pt (hts _ k_in_Pt)
  obtain ⟨c3, i3, k3⟩ := u_known (C := R_Mo) (T := F_Mo) (N := 4) hts i_Mo (hts _ k_in_Mo)
  obtain ⟨cI, kI, compI, hI1, hI2, hI3⟩ := Cond.arrayClass_spec (hts _ k_ac_int)
  obtain ⟨cJ, kJ, compJ, hJ1, hJ2, hJ3⟩ := Cond.arrayClass_spec (hts _ k_ac_long)
  have hKc : ∃ D : va_G, ∀ (c : Nat) (q : vw_C), classes[c]? = some q → u_Kn s q.1 q.2.1 q.2.2 (D.1 c) (D.2 c) := by
    refine ⟨(fun k => cond (Nat.beq k 0) c0 (cond (Nat.beq k 1) c1 (cond (Nat.beq k 2) c2 c3)), fun k => cond (Nat.beq k 0) i0 (cond (Nat.beq k 1) i1 (cond (Nat.beq k 2) i2 i3))), fun c q hq => ?_⟩
    rcases c with _ | _ | _ | _ | c
    · cases hq; exact k0
    · cases hq; exact k1
    · cases hq; exact k2
    · cases hq; exact k3
    · simp [classes] at hq
  obtain ⟨D, hKc⟩ := hKc
  have hKI : va_K D classes [(cI, .int)] s := ⟨hKc, fun k q hk => by
    rcases k with _ | k
    · cases hk
      exact ⟨fun n z => ⟨fun k h => (by cases h), kI, hI2, compI, hI3⟩, hI1⟩
    · simp at hk⟩
  have hKJ : va_K D classes [(cJ, .long)] s := ⟨hKc, fun k q hk => by
    rcases k with _ | k
    · cases hk
      exact ⟨fun n z => ⟨fun k h => (by cases h), kJ, hJ2, compJ, hJ3⟩, hJ1⟩
    · simp at hk⟩
  have hok : okL D cI cJ s := ⟨⟨hKI, fun w hw => va_Nw.of (lwn_tab w hw) (hts0 w (lwn_in w hw))⟩, hKJ⟩
  have hP : va_P D classes [] s.heap := fun k q hq => by simp at hq
  have hD : va_D (fun q => s.heap.size ≤ q) [] := ⟨fun i j p q hp _ _ => by simp at hp, fun k q hq => by simp at hq⟩
  have hA : ∀ q : Nat, s.heap.size ≤ q → (fun q => s.heap.size ≤ q) q := fun _ h => h
  generalize hAe : (fun q => s.heap.size ≤ q) = A at hD hA
  have hS : va_S A s.heap s.heap [] := va_S.rf
  have hl := lv_entry ([.ref b]) (n := 7) (Nat.le_of_ble_eq_true rfl)
  rw [lg_entry_eq]
  generalize (lg_sl ([.ref b]) ++ List.replicate (7 - (lg_sl ([.ref b])).length) Slot.unset).toArray = ls at hl ⊢
  have hl : lv_has ls 7 [(0, .ref b)] := hl
  refine va_new (ci := 2) (fs := [.null]) (C := R_Pt) (T := F_Pt) (N := 1) hx hb hts i_Pt t_Pt t_Pt_ok hown (hts _ k_cl_La_8) (hts _ k_in_Pt) (hts _ k_ini_Pt) hok.1.1 hP hD hS hA rfl (by decide) (by show 0 + 1 ≤ 601024; omega) (by show 0 + 1 ≤ 7293034; omega) d_law_0 (fun q0 H hP hD hS => ?_)
  have hP : va_P D classes [(q0, .inr (2, [.null]))] H := hP
  have hD : va_D A [(q0, .inr (2, [.null]))] := hD
  refine lv_dup hx hb d_law_3 rfl ?_
  have hFc := va_free (wc := [(q0, .inr (2, [.null]))]) hD hS hA [0] rfl
  refine va_callv (va_runI (As := []) (rest := [.ref q0]) S (c_Pt_init l D cI q0 H.size) (cwI 0 hts (lwg_G k_code_Pt_init) rfl rfl rfl (hts _ k_ini_Pt) (hts _ k_ml_La_34) (hts _ k_im_Pt_init) rfl (by decide +kernel) ⟨by decide, by decide⟩) ⟨fun a U g mk q => by obtain ⟨q0, q1, qP, qK, qD⟩ := q; exact ⟨q0, q1, qP, qK.calling g mk a, qD⟩, fun U hU hW => ⟨rfl, by rw [hU], by rw [hU]; exact hP, hok.1.warm hW, hD.weaken (fun _ _ _ _ => trivial)⟩⟩ rfl rfl hl.1 rfl (lv_room (Nat.le_of_ble_eq_true rfl)) d_law_4 ⟨by show 0 + 1 + 11 ≤ 601024; omega, by show 0 + 1 + 82058 ≤ 7293034; omega⟩) hS (fun q _ h => hFc q h) hFc (fun u t H1 locs ht hvm h5 hB hz1 hk1 hS => ?_)
  obtain ⟨a1, τ1⟩ := u
  have ha : a1 11 = q0 := h5.1
  have hB1 : BI τ1 (fun _ => 0) (fun _ => 0) (fun x => x == 0) L00 (fun _ _ => 0) 2048 := h5.2
  clear h5
  subst ha
  obtain ⟨hP1, hD1⟩ := hB
  rw [ht] at hP1
  clear hP hD
  have hP : va_P D classes (wPt cI a1 (fun _ => []) τ1) H1 := hP1
  have hD : va_D A (wPt cI a1 (fun _ => []) τ1) := hD1.weaken (fun _ _ _ h => hFc _ h)
  clear hP1 hD1 hFc hk1 hz1 ht
  refine lv_astore_n hx hb d_law_7 rfl hl (by decide) rfl (fun ls hl => ?_)
  have hl : lv_has ls 7 [(1, .ref (a1 11)), (0, .ref b)] := hl
  refine va_new (ci := 3) (fs := [.int 0, .int 0, .null, .null]) (C := R_Mo) (T := F_Mo) (N := 4) hx hb hts i_Mo t_Mo t_Mo_ok hown (hts _ k_cl_La_35) (hts _ k_in_Mo) (hts _ k_ini_Mo) hok.1.1 hP hD hS hA rfl (by decide) (by show 0 + 1 + 11 + 1 ≤ 601024; omega) (by show 0 + 1 + 82058 + 4 ≤ 7293034; omega) d_law_8 (fun q8 H hP hD hS => ?_)
  refine lv_dup hx hb d_law_11 rfl ?_
  have hPc := hP.sub (ws' := [(q8, .inr (3, [.int 0, .int 0, .null, .null]))]) [12] rfl
  have hDc := hD.sub (ws' := [(q8, .inr (3, [.int 0, .int 0, .null, .null]))]) [12] (by decide) rfl
  have hFc := va_free (wc := [(q8, .inr (3, [.int 0, .int 0, .null, .null]))]) hD hS hA [12] rfl
  refine va_callv (va_runI (As := []) (rest := [.ref q8]) S (c_Mo_init l D cI q8 H.size) (cwI 0 hts (lwg_G k_code_Mo_init) rfl rfl rfl (hts _ k_ini_Mo) (hts _ k_ml_La_37) (hts _ k_im_Mo_init) rfl (by decide +kernel) ⟨by decide, by decide⟩) ⟨fun a U g mk q => by obtain ⟨q0, q1, qP, qK, qD⟩ := q; exact ⟨q0, q1, qP, qK.calling g mk a, qD⟩, fun U hU hW => ⟨rfl, by rw [hU], by rw [hU]; exact hPc, hok.1.warm hW, hDc.weaken (fun _ _ _ _ => trivial)⟩⟩ rfl rfl hl.1 rfl (lv_room (Nat.le_of_ble_eq_true rfl)) d_law_12 ⟨by show 0 + 1 + 11 + 1 + 2 ≤ 601024; omega, by show 0 + 1 + 82058 + 4 + 81000 ≤ 7293034; omega⟩) hS (fun q _ h => hFc q h) hFc (fun u t H1 locs ht hvm h5 hB hz1 hk1 hS => ?_)
  obtain ⟨a2, τ2⟩ := u
  have ha : a2 12 = q8 := h5.1
  have hB2 : MS τ2 (fun _ => 0) 1 ∧ MV τ2 (fun _ => 0) 1 (fun _ _ => 0) := ⟨h5.2.1, h5.2.2.1⟩
  clear h5
  subst ha
  obtain ⟨hP1, hD1⟩ := hB
  rw [ht] at hP1
  obtain ⟨hP2, hD2⟩ := va_join (wr := wPt cI a1 (fun _ => []) τ1) (w1 := WMo cI a2 τ2 ++ []) hP hD [12] [0, 1, 2, 3, 4, 5, 6, 7, 8, 9, 10, 11] rfl rfl (by decide) (by decide) hk1 hFc hP1 hD1
  clear hP hD hPc hDc hP1 hD1
  have hP := hP2
  have hD := hD2
  clear hP2 hD2 hFc hk1 hz1 ht
  refine lv_astore_n hx hb d_law_15 rfl hl (by decide) rfl (fun ls hl => ?_)
  have hl : lv_has ls 7 [(2, .ref (a2 12)), (1, .ref (a1 11)), (0, .ref b)] := hl
  refine lv_iconst (v := 1) hx hb d_law_16 (by decide) ?_
  refine va_newa (atype := .long) (ty := .long) (N' := 1) (a0 := (1, .inr (.inl (fun _ => 0)))) hx hb (hts _ k_ac_long) rfl hok.2 hP hD hS hA (fun cA => rfl) (by decide) (by decide) (by decide) (by show 0 + 1 + 11 + 1 + 2 + 1 ≤ 601024; omega) (by show 0 + 1 + 82058 + 4 + 81000 + 1 ≤ 7293034; omega) d_law_17 (fun q17 cA H hK hP hD hS => ?_)
  have e1 := (hok.2.2 0 _ rfl).2
  have e2 := (hK.2 1 _ rfl).2
  have e3 : cA = cJ := Option.some.inj (e2.symm.trans e1)
  subst e3
  refine lv_astore_n hx hb d_law_19 rfl hl (by decide) rfl (fun ls hl => ?_)
  refine lv_iconst (v := 0) hx hb d_law_20 (by decide) ?_
  refine lv_istore hx hb d_law_21 hl (by decide) rfl (fun ls hl => ?_)
  have hl : lv_has ls 7 [(4, .int 0), (3, .ref q17), (2, .ref (a2 12)), (1, .ref (a1 11)), (0, .ref b)] := hl
  have hP : va_P D classes (wLa cI cA (fun k => cond (Nat.ble k 11) (a1 k) (cond (Nat.beq k 15) q17 (a2 k))) (fun _ => 0) (fun k => cond (Nat.ble k 16) (τ1 k) (τ2 k))) H := hP
  have hD : va_D A (wLa cI cA (fun k => cond (Nat.ble k 11) (a1 k) (cond (Nat.beq k 15) q17 (a2 k))) (fun _ => 0) (fun k => cond (Nat.ble k 16) (τ1 k) (τ2 k))) := hD
  subst hAe
  refine W.widen (k := 16 + 0) (n := 163064 + 6 * 0) (by omega) (by omega) ?_
  exact law_loop l hst hL C1 hok hT 600 0 _ _ H locs ls rfl (LI_start hB1 hB2.1 hB2.2) (by omega) hP hD hS (lv_sub hl [4, 3, 2, 1, 0] rfl)
