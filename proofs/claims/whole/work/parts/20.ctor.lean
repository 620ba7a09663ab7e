/-- a constructor: of a fresh object it makes the world w, for some addresses and some state -/
def Cn (l : Launch) (y : MethodName) (cw : Cond) (rm : Room) (D : va_G) (cI : ClassId) (w0 : va_W) (o : Nat) (w : (Nat → Nat) → St → va_W) (Pp : (Nat → Nat) → St → Prop) (mc ms : Nat) : Prop :=
  ∀ sz : Nat, Met l y (cw :: lwg) rm (va_Pc [.ref o] (PreW D cI w0 sz)) (va_Qv (fun u : (Nat → Nat) × St => Pp u.1 u.2) (fun u t => PstW D (va_A w0 sz) (w u.1 u.2) t) (va_A w0 sz)) mc ms (va_A w0 sz)
theorem Fx_nil (n : Nat) : Fx n (fun _ => []) := fun _ _ _ _ => rfl
section NEWI
variable {p : Program} {l : Launch} {e : Env} {R : Room} {s : State} {m : MethodId} {args : Array Value} {below : List Frame} {meth : Method} {c : Code} {H : Heap} {locs : List Loc} {cells slots : Nat} {Q : State → Prop} {cc : ByteArray} {pc nL : Nat} {ls : Array Slot} {rest : List Value} {D : va_G} {A : Nat → Prop} {cI : ClassId} {own : String} {ws : va_W}
theorem r_newi {n : Int32} (N : Nat) (S : CallFix p m c cc nL s args lwg own) (hok : okS D cI s) (hP : va_P D classes ws H) (hD : va_D A ws) (hS : va_S A s.heap H locs) (hA : ∀ q, s.heap.size ≤ q → A q) (hn : n = nI N) (hN : N < 2 ^ 20) (hcells : cells + 1 ≤ R.cells) (hslots : slots + N ≤ R.slots) (hdg : decode cc pc = .ok (.newarray .int, 2))
    (kk : ∀ (q : Nat) (H1 : Heap), va_P D classes (ws ++ [(q, .inl (cI, N, .inl (fun _ => 0)))]) H1 → va_D A (ws ++ [(q, .inl (cI, N, .inl (fun _ => 0)))]) → va_S A s.heap H1 locs → W p l e R s m args below meth c H1 locs (cells + 1) (slots + N) Q (F0 m (pc + 2) ls (.ref q :: rest))) : W p l e R s m args below meth c H locs cells slots Q (F0 m pc ls (.int n :: rest)) := by
  subst hn
  refine va_newa (atype := .int) (ty := .int) (a0 := (N, .inl (fun _ => 0))) S.1 S.2.1 (S.2.2.2.2 _ k_ac_int) rfl hok.1 hP hD hS hA (fun cA => rfl) (nI_pos (by omega)) (nI_clamp (by omega)) (by show N * 4 ≤ 536870912; omega) hcells hslots hdg (fun q cA H1 hK hP hD hS => ?_)
  have h1 := (hok.1.2 0 _ rfl).2
  have h2 := (hK.2 1 _ rfl).2
  have e : cA = cI := Option.some.inj (h2.symm.trans h1)
  subst e
  exact kk q H1 hP hD hS
end NEWI
theorem MS_new : MS (fun k => cond (Nat.beq k 20) (fun _ => 1) (fun _ => 0)) (fun _ => 0) 1 := ⟨by omega, by omega, rfl, rfl, fun _ _ => ⟨rfl, show 0 < 1114112 by omega⟩, fun i j hij hj => by omega⟩
theorem MV_new : MV (fun k => cond (Nat.beq k 20) (fun _ => 1) (fun _ => 0)) (fun _ => 0) 1 (fun _ _ => 0) := fun _ _ _ _ _ _ _ _ => rfl
abbrev rm_Rc_init : Room := { frames := 80, cells := 7, slots := 13368, locals := 1600 }
set_option maxRecDepth 100000 in
set_option maxHeartbeats 4000000 in
theorem c_Rc_init (l : Launch) (D : va_G) (cI : ClassId) (o : Nat) : Cn l y_Rc_init (.code y_Rc_init b_Rc_init 1 none) rm_Rc_init D cI [(o, .inr (0, [.null, .null, .null, .int 0, .null, .null, .int 0, .int 0, .int 0, .null, .null]))] o (fun a τ => wRc cI a (fun _ => []) τ) (fun a _ => a 0 = o) 7 13368 := by
  intro sz
  refine Met.ofW (cc := b_Rc_init) (maxL := 1) (ret := none) (by decide +kernel) rfl ?_
  intro p e s m args below meth c s₁ B hml hv
  obtain ⟨rfl, hsz, hP, hok, hD0⟩ := hv
  subst hsz
  have hx := B.exec
  have hb := B.bytes
  have hr := B.returns
  have hts0 := atoms_spec (ws := .code y_Rc_init b_Rc_init 1 none :: lwg) B.pre
  have hts : ∀ v ∈ lwg, v.before ([.ref o] : List Value).toArray s = true := fun v hv => hts0 v (List.mem_cons_of_mem _ hv)
  have hown : s.vm.findClass "PropertyTrie$Records" = some m.cls := findClass_of_methodNamed B.named
  have hlocks := B.notSynchronized
  have hin : meth.name = "<init>" := (name_of_methodNamed B.named B.method).1
  have S : CallFix p m c b_Rc_init 1 s ([.ref o] : List Value).toArray lwg "PropertyTrie$Records" := ⟨hx, hb, hml, hown, hts⟩
  have hD := hD0.self (sz := s.heap.size)
  generalize hAe : va_A [(o, .inr (0, [.null, .null, .null, .int 0, .null, .null, .int 0, .int 0, .int 0, .null, .null]))] s.heap.size = A at hD ⊢
  have hA : ∀ q : Nat, s.heap.size ≤ q → A q := fun q h => by rw [← hAe]; exact Or.inr h
  have hS : va_S A s.heap s.heap [] := va_S.rf
  have hP : va_P D classes [(o, .inr (0, [.null, .null, .null, .int 0, .null, .null, .int 0, .int 0, .int 0, .null, .null]))] s.heap := hP
  have hl := lv_entry ([.ref o]) (n := 1) (Nat.le_of_ble_eq_true rfl)
  rw [lg_entry_eq]
  generalize (lg_sl ([.ref o]) ++ List.replicate (1 - (lg_sl ([.ref o])).length) Slot.unset).toArray = ls at hl ⊢
  have hl : lv_has ls 1 [(0, .ref o)] := hl
  refine lv_aload_n hx hb d_Rc_init_0 rfl (lv_at hl 0 rfl) ?_
  refine W.objInit hx hb hown (hts _ k_ml_Rc_3) (hts _ k_im_Ob_init) (hts _ k_code_Ob_init) rfl (by rw [hml]; exact hl.1) rfl d_Rc_init_1 (Nat.le_of_ble_eq_true rfl) (Nat.le_of_ble_eq_true rfl) ?_
  refine W.eq (g2 := F0 m 4 ls []) rfl ?_
  refine lv_aload_n hx hb d_Rc_init_4 rfl (lv_at hl 0 rfl) ?_
  refine lv_sipush (v := (8224 : Int32)) hx hb d_Rc_init_5 (by decide) ?_
  refine r_newi 8224 S hok hP hD hS hA rfl (by decide) (by decide) (by decide) d_Rc_init_8 (fun q8 H hP hD hS => ?_)
  have hP : va_P D classes [(o, .inr (0, [.null, .null, .null, .int 0, .null, .null, .int 0, .int 0, .int 0, .null, .null])), (q8, .inl (cI, 8224, .inl (fun _ => 0)))] H := hP
  have hD : va_D A [(o, .inr (0, [.null, .null, .null, .int 0, .null, .null, .int 0, .int 0, .int 0, .null, .null])), (q8, .inl (cI, 8224, .inl (fun _ => 0)))] := hD
  refine W.eq (g2 := F0 m 10 ls [.ref q8, .ref o]) rfl ?_
  refine va_putF (D := D) (ci := 0) (v := .ref q8) (ty := .array .int) (C := R_Rc) (T := F_Rc) (N := 11) hx hb hts i_Rc t_Rc t_Rc_ok n_Rc hown hok.1 hP hD hS 0 rfl rfl 0 (by decide) (hts _ k_fl_Rc_11) (fun _ h9 => h9) rfl hin rfl (by decide +kernel) rfl rfl (Nat.le_of_ble_eq_true rfl) d_Rc_init_10 (fun H locs hP hD hS => ?_)
  have hP : va_P D classes [(o, .inr (0, [.ref q8, .null, .null, .int 0, .null, .null, .int 0, .int 0, .int 0, .null, .null])), (q8, .inl (cI, 8224, .inl (fun _ => 0)))] H := hP
  have hD : va_D A [(o, .inr (0, [.ref q8, .null, .null, .int 0, .null, .null, .int 0, .int 0, .int 0, .null, .null])), (q8, .inl (cI, 8224, .inl (fun _ => 0)))] := hD
  refine lv_aload_n hx hb d_Rc_init_13 rfl (lv_at hl 0 rfl) ?_
  refine lv_sipush (v := (1028 : Int32)) hx hb d_Rc_init_14 (by decide) ?_
  refine r_newi 1028 S hok hP hD hS hA rfl (by decide) (by decide) (by decide) d_Rc_init_17 (fun q17 H hP hD hS => ?_)
  have hP : va_P D classes [(o, .inr (0, [.ref q8, .null, .null, .int 0, .null, .null, .int 0, .int 0, .int 0, .null, .null])), (q8, .inl (cI, 8224, .inl (fun _ => 0))), (q17, .inl (cI, 1028, .inl (fun _ => 0)))] H := hP
  have hD : va_D A [(o, .inr (0, [.ref q8, .null, .null, .int 0, .null, .null, .int 0, .int 0, .int 0, .null, .null])), (q8, .inl (cI, 8224, .inl (fun _ => 0))), (q17, .inl (cI, 1028, .inl (fun _ => 0)))] := hD
  refine W.eq (g2 := F0 m 19 ls [.ref q17, .ref o]) rfl ?_
  refine va_putF (D := D) (ci := 0) (v := .ref q17) (ty := .array .int) (C := R_Rc) (T := F_Rc) (N := 11) hx hb hts i_Rc t_Rc t_Rc_ok n_Rc hown hok.1 hP hD hS 0 rfl rfl 1 (by decide) (hts _ k_fl_Rc_15) (fun _ h9 => h9) rfl hin rfl (by decide +kernel) rfl rfl (Nat.le_of_ble_eq_true rfl) d_Rc_init_19 (fun H locs hP hD hS => ?_)
  have hP : va_P D classes [(o, .inr (0, [.ref q8, .ref q17, .null, .int 0, .null, .null, .int 0, .int 0, .int 0, .null, .null])), (q8, .inl (cI, 8224, .inl (fun _ => 0))), (q17, .inl (cI, 1028, .inl (fun _ => 0)))] H := hP
  have hD : va_D A [(o, .inr (0, [.ref q8, .ref q17, .null, .int 0, .null, .null, .int 0, .int 0, .int 0, .null, .null])), (q8, .inl (cI, 8224, .inl (fun _ => 0))), (q17, .inl (cI, 1028, .inl (fun _ => 0)))] := hD
  refine lv_aload_n hx hb d_Rc_init_22 rfl (lv_at hl 0 rfl) ?_
  refine lv_sipush (v := (1028 : Int32)) hx hb d_Rc_init_23 (by decide) ?_
  refine r_newi 1028 S hok hP hD hS hA rfl (by decide) (by decide) (by decide) d_Rc_init_26 (fun q26 H hP hD hS => ?_)
  have hP : va_P D classes [(o, .inr (0, [.ref q8, .ref q17, .null, .int 0, .null, .null, .int 0, .int 0, .int 0, .null, .null])), (q8, .inl (cI, 8224, .inl (fun _ => 0))), (q17, .inl (cI, 1028, .inl (fun _ => 0))), (q26, .inl (cI, 1028, .inl (fun _ => 0)))] H := hP
  have hD : va_D A [(o, .inr (0, [.ref q8, .ref q17, .null, .int 0, .null, .null, .int 0, .int 0, .int 0, .null, .null])), (q8, .inl (cI, 8224, .inl (fun _ => 0))), (q17, .inl (cI, 1028, .inl (fun _ => 0))), (q26, .inl (cI, 1028, .inl (fun _ => 0)))] := hD
  refine W.eq (g2 := F0 m 28 ls [.ref q26, .ref o]) rfl ?_
  refine va_putF (D := D) (ci := 0) (v := .ref q26) (ty := .array .int) (C := R_Rc) (T := F_Rc) (N := 11) hx hb hts i_Rc t_Rc t_Rc_ok n_Rc hown hok.1 hP hD hS 0 rfl rfl 2 (by decide) (hts _ k_fl_Rc_18) (fun _ h9 => h9) rfl hin rfl (by decide +kernel) rfl rfl (Nat.le_of_ble_eq_true rfl) d_Rc_init_28 (fun H locs hP hD hS => ?_)
  have hP : va_P D classes [(o, .inr (0, [.ref q8, .ref q17, .ref q26, .int 0, .null, .null, .int 0, .int 0, .int 0, .null, .null])), (q8, .inl (cI, 8224, .inl (fun _ => 0))), (q17, .inl (cI, 1028, .inl (fun _ => 0))), (q26, .inl (cI, 1028, .inl (fun _ => 0)))] H := hP
  have hD : va_D A [(o, .inr (0, [.ref q8, .ref q17, .ref q26, .int 0, .null, .null, .int 0, .int 0, .int 0, .null, .null])), (q8, .inl (cI, 8224, .inl (fun _ => 0))), (q17, .inl (cI, 1028, .inl (fun _ => 0))), (q26, .inl (cI, 1028, .inl (fun _ => 0)))] := hD
  refine lv_aload_n hx hb d_Rc_init_31 rfl (lv_at hl 0 rfl) ?_
  refine lv_sipush (v := (1024 : Int32)) hx hb d_Rc_init_32 (by decide) ?_
  refine r_newi 1024 S hok hP hD hS hA rfl (by decide) (by decide) (by decide) d_Rc_init_35 (fun q35 H hP hD hS => ?_)
  have hP : va_P D classes [(o, .inr (0, [.ref q8, .ref q17, .ref q26, .int 0, .null, .null, .int 0, .int 0, .int 0, .null, .null])), (q8, .inl (cI, 8224, .inl (fun _ => 0))), (q17, .inl (cI, 1028, .inl (fun _ => 0))), (q26, .inl (cI, 1028, .inl (fun _ => 0))), (q35, .inl (cI, 1024, .inl (fun _ => 0)))] H := hP
  have hD : va_D A [(o, .inr (0, [.ref q8, .ref q17, .ref q26, .int 0, .null, .null, .int 0, .int 0, .int 0, .null, .null])), (q8, .inl (cI, 8224, .inl (fun _ => 0))), (q17, .inl (cI, 1028, .inl (fun _ => 0))), (q26, .inl (cI, 1028, .inl (fun _ => 0))), (q35, .inl (cI, 1024, .inl (fun _ => 0)))] := hD
  refine W.eq (g2 := F0 m 37 ls [.ref q35, .ref o]) rfl ?_
  refine va_putF (D := D) (ci := 0) (v := .ref q35) (ty := .array .int) (C := R_Rc) (T := F_Rc) (N := 11) hx hb hts i_Rc t_Rc t_Rc_ok n_Rc hown hok.1 hP hD hS 0 rfl rfl 4 (by decide) (hts _ k_fl_Rc_21) (fun _ h9 => h9) rfl hin rfl (by decide +kernel) rfl rfl (Nat.le_of_ble_eq_true rfl) d_Rc_init_37 (fun H locs hP hD hS => ?_)
  have hP : va_P D classes [(o, .inr (0, [.ref q8, .ref q17, .ref q26, .int 0, .ref q35, .null, .int 0, .int 0, .int 0, .null, .null])), (q8, .inl (cI, 8224, .inl (fun _ => 0))), (q17, .inl (cI, 1028, .inl (fun _ => 0))), (q26, .inl (cI, 1028, .inl (fun _ => 0))), (q35, .inl (cI, 1024, .inl (fun _ => 0)))] H := hP
  have hD : va_D A [(o, .inr (0, [.ref q8, .ref q17, .ref q26, .int 0, .ref q35, .null, .int 0, .int 0, .int 0, .null, .null])), (q8, .inl (cI, 8224, .inl (fun _ => 0))), (q17, .inl (cI, 1028, .inl (fun _ => 0))), (q26, .inl (cI, 1028, .inl (fun _ => 0))), (q35, .inl (cI, 1024, .inl (fun _ => 0)))] := hD
  refine lv_aload_n hx hb d_Rc_init_40 rfl (lv_at hl 0 rfl) ?_
  refine lv_sipush (v := (1028 : Int32)) hx hb d_Rc_init_41 (by decide) ?_
  refine r_newi 1028 S hok hP hD hS hA rfl (by decide) (by decide) (by decide) d_Rc_init_44 (fun q44 H hP hD hS => ?_)
  have hP : va_P D classes [(o, .inr (0, [.ref q8, .ref q17, .ref q26, .int 0, .ref q35, .null, .int 0, .int 0, .int 0, .null, .null])), (q8, .inl (cI, 8224, .inl (fun _ => 0))), (q17, .inl (cI, 1028, .inl (fun _ => 0))), (q26, .inl (cI, 1028, .inl (fun _ => 0))), (q35, .inl (cI, 1024, .inl (fun _ => 0))), (q44, .inl (cI, 1028, .inl (fun _ => 0)))] H := hP
  have hD : va_D A [(o, .inr (0, [.ref q8, .ref q17, .ref q26, .int 0, .ref q35, .null, .int 0, .int 0, .int 0, .null, .null])), (q8, .inl (cI, 8224, .inl (fun _ => 0))), (q17, .inl (cI, 1028, .inl (fun _ => 0))), (q26, .inl (cI, 1028, .inl (fun _ => 0))), (q35, .inl (cI, 1024, .inl (fun _ => 0))), (q44, .inl (cI, 1028, .inl (fun _ => 0)))] := hD
  refine W.eq (g2 := F0 m 46 ls [.ref q44, .ref o]) rfl ?_
  refine va_putF (D := D) (ci := 0) (v := .ref q44) (ty := .array .int) (C := R_Rc) (T := F_Rc) (N := 11) hx hb hts i_Rc t_Rc t_Rc_ok n_Rc hown hok.1 hP hD hS 0 rfl rfl 5 (by decide) (hts _ k_fl_Rc_24) (fun _ h9 => h9) rfl hin rfl (by decide +kernel) rfl rfl (Nat.le_of_ble_eq_true rfl) d_Rc_init_46 (fun H locs hP hD hS => ?_)
  have hP : va_P D classes [(o, .inr (0, [.ref q8, .ref q17, .ref q26, .int 0, .ref q35, .ref q44, .int 0, .int 0, .int 0, .null, .null])), (q8, .inl (cI, 8224, .inl (fun _ => 0))), (q17, .inl (cI, 1028, .inl (fun _ => 0))), (q26, .inl (cI, 1028, .inl (fun _ => 0))), (q35, .inl (cI, 1024, .inl (fun _ => 0))), (q44, .inl (cI, 1028, .inl (fun _ => 0)))] H := hP
  have hD : va_D A [(o, .inr (0, [.ref q8, .ref q17, .ref q26, .int 0, .ref q35, .ref q44, .int 0, .int 0, .int 0, .null, .null])), (q8, .inl (cI, 8224, .inl (fun _ => 0))), (q17, .inl (cI, 1028, .inl (fun _ => 0))), (q26, .inl (cI, 1028, .inl (fun _ => 0))), (q35, .inl (cI, 1024, .inl (fun _ => 0))), (q44, .inl (cI, 1028, .inl (fun _ => 0)))] := hD
  refine lv_aload_n hx hb d_Rc_init_49 rfl (lv_at hl 0 rfl) ?_
  refine lv_sipush (v := (1028 : Int32)) hx hb d_Rc_init_50 (by decide) ?_
  refine r_newi 1028 S hok hP hD hS hA rfl (by decide) (by decide) (by decide) d_Rc_init_53 (fun q53 H hP hD hS => ?_)
  have hP : va_P D classes [(o, .inr (0, [.ref q8, .ref q17, .ref q26, .int 0, .ref q35, .ref q44, .int 0, .int 0, .int 0, .null, .null])), (q8, .inl (cI, 8224, .inl (fun _ => 0))), (q17, .inl (cI, 1028, .inl (fun _ => 0))), (q26, .inl (cI, 1028, .inl (fun _ => 0))), (q35, .inl (cI, 1024, .inl (fun _ => 0))), (q44, .inl (cI, 1028, .inl (fun _ => 0))), (q53, .inl (cI, 1028, .inl (fun _ => 0)))] H := hP
  have hD : va_D A [(o, .inr (0, [.ref q8, .ref q17, .ref q26, .int 0, .ref q35, .ref q44, .int 0, .int 0, .int 0, .null, .null])), (q8, .inl (cI, 8224, .inl (fun _ => 0))), (q17, .inl (cI, 1028, .inl (fun _ => 0))), (q26, .inl (cI, 1028, .inl (fun _ => 0))), (q35, .inl (cI, 1024, .inl (fun _ => 0))), (q44, .inl (cI, 1028, .inl (fun _ => 0))), (q53, .inl (cI, 1028, .inl (fun _ => 0)))] := hD
  refine W.eq (g2 := F0 m 55 ls [.ref q53, .ref o]) rfl ?_
  refine va_putF (D := D) (ci := 0) (v := .ref q53) (ty := .array .int) (C := R_Rc) (T := F_Rc) (N := 11) hx hb hts i_Rc t_Rc t_Rc_ok n_Rc hown hok.1 hP hD hS 0 rfl rfl 9 (by decide) (hts _ k_fl_Rc_27) (fun _ h9 => h9) rfl hin rfl (by decide +kernel) rfl rfl (Nat.le_of_ble_eq_true rfl) d_Rc_init_55 (fun H locs hP hD hS => ?_)
  have hP : va_P D classes [(o, .inr (0, [.ref q8, .ref q17, .ref q26, .int 0, .ref q35, .ref q44, .int 0, .int 0, .int 0, .ref q53, .null])), (q8, .inl (cI, 8224, .inl (fun _ => 0))), (q17, .inl (cI, 1028, .inl (fun _ => 0))), (q26, .inl (cI, 1028, .inl (fun _ => 0))), (q35, .inl (cI, 1024, .inl (fun _ => 0))), (q44, .inl (cI, 1028, .inl (fun _ => 0))), (q53, .inl (cI, 1028, .inl (fun _ => 0)))] H := hP
  have hD : va_D A [(o, .inr (0, [.ref q8, .ref q17, .ref q26, .int 0, .ref q35, .ref q44, .int 0, .int 0, .int 0, .ref q53, .null])), (q8, .inl (cI, 8224, .inl (fun _ => 0))), (q17, .inl (cI, 1028, .inl (fun _ => 0))), (q26, .inl (cI, 1028, .inl (fun _ => 0))), (q35, .inl (cI, 1024, .inl (fun _ => 0))), (q44, .inl (cI, 1028, .inl (fun _ => 0))), (q53, .inl (cI, 1028, .inl (fun _ => 0)))] := hD
  refine lv_aload_n hx hb d_Rc_init_58 rfl (lv_at hl 0 rfl) ?_
  refine lv_bipush (v := (8 : Int32)) hx hb d_Rc_init_59 (by decide) ?_
  refine r_newi 8 S hok hP hD hS hA rfl (by decide) (by decide) (by decide) d_Rc_init_61 (fun q61 H hP hD hS => ?_)
  have hP : va_P D classes [(o, .inr (0, [.ref q8, .ref q17, .ref q26, .int 0, .ref q35, .ref q44, .int 0, .int 0, .int 0, .ref q53, .null])), (q8, .inl (cI, 8224, .inl (fun _ => 0))), (q17, .inl (cI, 1028, .inl (fun _ => 0))), (q26, .inl (cI, 1028, .inl (fun _ => 0))), (q35, .inl (cI, 1024, .inl (fun _ => 0))), (q44, .inl (cI, 1028, .inl (fun _ => 0))), (q53, .inl (cI, 1028, .inl (fun _ => 0))), (q61, .inl (cI, 8, .inl (fun _ => 0)))] H := hP
  have hD : va_D A [(o, .inr (0, [.ref q8, .ref q17, .ref q26, .int 0, .ref q35, .ref q44, .int 0, .int 0, .int 0, .ref q53, .null])), (q8, .inl (cI, 8224, .inl (fun _ => 0))), (q17, .inl (cI, 1028, .inl (fun _ => 0))), (q26, .inl (cI, 1028, .inl (fun _ => 0))), (q35, .inl (cI, 1024, .inl (fun _ => 0))), (q44, .inl (cI, 1028, .inl (fun _ => 0))), (q53, .inl (cI, 1028, .inl (fun _ => 0))), (q61, .inl (cI, 8, .inl (fun _ => 0)))] := hD
  refine W.eq (g2 := F0 m 63 ls [.ref q61, .ref o]) rfl ?_
  refine va_putF (D := D) (ci := 0) (v := .ref q61) (ty := .array .int) (C := R_Rc) (T := F_Rc) (N := 11) hx hb hts i_Rc t_Rc t_Rc_ok n_Rc hown hok.1 hP hD hS 0 rfl rfl 10 (by decide) (hts _ k_fl_Rc_30) (fun _ h9 => h9) rfl hin rfl (by decide +kernel) rfl rfl (Nat.le_of_ble_eq_true rfl) d_Rc_init_63 (fun H locs hP hD hS => ?_)
  have hP : va_P D classes [(o, .inr (0, [.ref q8, .ref q17, .ref q26, .int 0, .ref q35, .ref q44, .int 0, .int 0, .int 0, .ref q53, .ref q61])), (q8, .inl (cI, 8224, .inl (fun _ => 0))), (q17, .inl (cI, 1028, .inl (fun _ => 0))), (q26, .inl (cI, 1028, .inl (fun _ => 0))), (q35, .inl (cI, 1024, .inl (fun _ => 0))), (q44, .inl (cI, 1028, .inl (fun _ => 0))), (q53, .inl (cI, 1028, .inl (fun _ => 0))), (q61, .inl (cI, 8, .inl (fun _ => 0)))] H := hP
  have hD : va_D A [(o, .inr (0, [.ref q8, .ref q17, .ref q26, .int 0, .ref q35, .ref q44, .int 0, .int 0, .int 0, .ref q53, .ref q61])), (q8, .inl (cI, 8224, .inl (fun _ => 0))), (q17, .inl (cI, 1028, .inl (fun _ => 0))), (q26, .inl (cI, 1028, .inl (fun _ => 0))), (q35, .inl (cI, 1024, .inl (fun _ => 0))), (q44, .inl (cI, 1028, .inl (fun _ => 0))), (q53, .inl (cI, 1028, .inl (fun _ => 0))), (q61, .inl (cI, 8, .inl (fun _ => 0)))] := hD
  refine lv_aload_n hx hb d_Rc_init_66 rfl (lv_at hl 0 rfl) ?_
  have hP := hP.sub (ws' := wRc cI (fun k => cond (Nat.beq k 0) o (cond (Nat.beq k 1) q8 (cond (Nat.beq k 2) q17 (cond (Nat.beq k 3) q26 (cond (Nat.beq k 4) q35 (cond (Nat.beq k 5) q44 (cond (Nat.beq k 6) q53 (q61)))))))) (fun _ => []) (fun _ _ => 0)) [0, 1, 2, 3, 4, 5, 6, 7] rfl
  have hD := hD.sub (ws' := wRc cI (fun k => cond (Nat.beq k 0) o (cond (Nat.beq k 1) q8 (cond (Nat.beq k 2) q17 (cond (Nat.beq k 3) q26 (cond (Nat.beq k 4) q35 (cond (Nat.beq k 5) q44 (cond (Nat.beq k 6) q53 (q61)))))))) (fun _ => []) (fun _ _ => 0)) [0, 1, 2, 3, 4, 5, 6, 7] (by decide) rfl
  have hF : F_Rc_empty (fun _ _ => 0) (fun _ => True) := s_Rempty (fun _ _ _ _ _ => trivial)
  refine r_callVv (As := []) (rest := []) (n := 0) (q0 := 0) S hok (c_Rc_empty l D cI (fun k => cond (Nat.beq k 0) o (cond (Nat.beq k 1) q8 (cond (Nat.beq k 2) q17 (cond (Nat.beq k 3) q26 (cond (Nat.beq k 4) q35 (cond (Nat.beq k 5) q44 (cond (Nat.beq k 6) q53 (q61)))))))) (fun _ => []) (Fx_nil _) (fun _ _ => 0) (fun _ => True) hF) k_ml_Rc_33 k_im_Rc_empty k_sel_Rc_empty k_ini_Rc k_code_Rc_empty rfl rfl (by decide +kernel) ⟨by decide, by decide⟩ rfl rfl hP hD hS hA (by decide) (by decide) hl.1 rfl rfl (Nat.le_of_ble_eq_true rfl) d_Rc_init_67 (fun τ2 H locs hq hP hD hS => ?_)
  exact W.vret hx hb hr (fun t ht hW => ⟨⟨(fun k => cond (Nat.beq k 0) o (cond (Nat.beq k 1) q8 (cond (Nat.beq k 2) q17 (cond (Nat.beq k 3) q26 (cond (Nat.beq k 4) q35 (cond (Nat.beq k 5) q44 (cond (Nat.beq k 6) q53 (q61))))))), τ2), rfl, rfl, by rw [ht]; exact hP, hD⟩, hS.F ht⟩) hS.2.2 d_Rc_init_70 hlocks
abbrev rm_Bl_init : Room := { frames := 120, cells := 10, slots := 82051, locals := 2400 }
set_option maxRecDepth 100000 in
set_option maxHeartbeats 4000000 in
theorem c_Bl_init (l : Launch) (D : va_G) (cI : ClassId) (o : Nat) : Cn l y_Bl_init (.code y_Bl_init b_Bl_init 1 none) rm_Bl_init D cI [(o, .inr (1, [.null, .null, .null, .int 0, .int 0, .int 0, .int 0]))] o (fun a τ => wBl cI a (fun _ => []) τ) (fun a τ => a 8 = o ∧ BI τ (fun _ => 0) (fun _ => 0) (fun x => x == 0) L00 (fun _ _ => 0) 2048) 10 82051 := by
  intro sz
  refine Met.ofW (cc := b_Bl_init) (maxL := 1) (ret := none) (by decide +kernel) rfl ?_
  intro p e s m args below meth c s₁ B hml hv
  obtain ⟨rfl, hsz, hP, hok, hD0⟩ := hv
  subst hsz
  have hx := B.exec
  have hb := B.bytes
  have hr := B.returns
  have hts0 := atoms_spec (ws := .code y_Bl_init b_Bl_init 1 none :: lwg) B.pre
  have hts : ∀ v ∈ lwg, v.before ([.ref o] : List Value).toArray s = true := fun v hv => hts0 v (List.mem_cons_of_mem _ hv)
  have hown : s.vm.findClass "PropertyTrie$Blocks" = some m.cls := findClass_of_methodNamed B.named
  have hlocks := B.notSynchronized
  have hin : meth.name = "<init>" := (name_of_methodNamed B.named B.method).1
  have S : CallFix p m c b_Bl_init 1 s ([.ref o] : List Value).toArray lwg "PropertyTrie$Blocks" := ⟨hx, hb, hml, hown, hts⟩
  have hD := hD0.self (sz := s.heap.size)
  generalize hAe : va_A [(o, .inr (1, [.null, .null, .null, .int 0, .int 0, .int 0, .int 0]))] s.heap.size = A at hD ⊢
  have hA : ∀ q : Nat, s.heap.size ≤ q → A q := fun q h => by rw [← hAe]; exact Or.inr h
  have hS : va_S A s.heap s.heap [] := va_S.rf
  have hP : va_P D classes [(o, .inr (1, [.null, .null, .null, .int 0, .int 0, .int 0, .int 0]))] s.heap := hP
  have hl := lv_entry ([.ref o]) (n := 1) (Nat.le_of_ble_eq_true rfl)
  rw [lg_entry_eq]
  generalize (lg_sl ([.ref o]) ++ List.replicate (1 - (lg_sl ([.ref o])).length) Slot.unset).toArray = ls at hl ⊢
  have hl : lv_has ls 1 [(0, .ref o)] := hl
  refine lv_aload_n hx hb d_Bl_init_0 rfl (lv_at hl 0 rfl) ?_
  refine W.objInit hx hb hown (hts _ k_ml_Bl_5) (hts _ k_im_Ob_init) (hts _ k_code_Ob_init) rfl (by rw [hml]; exact hl.1) rfl d_Bl_init_1 (Nat.le_of_ble_eq_true rfl) (Nat.le_of_ble_eq_true rfl) ?_
  refine W.eq (g2 := F0 m 4 ls []) rfl ?_
  refine lv_aload_n hx hb d_Bl_init_4 rfl (lv_at hl 0 rfl) ?_
  refine va_new (ci := 0) (fs := [.null, .null, .null, .int 0, .null, .null, .int 0, .int 0, .int 0, .null, .null]) (C := R_Rc) (T := F_Rc) (N := 11) hx hb hts i_Rc t_Rc t_Rc_ok hown (hts _ k_cl_Bl_11) (hts _ k_in_Rc) (hts _ k_ini_Rc) hok.1 hP hD hS hA rfl (by decide) (by decide) (by decide) d_Bl_init_5 (fun q5 H hP hD hS => ?_)
  have hP : va_P D classes [(o, .inr (1, [.null, .null, .null, .int 0, .int 0, .int 0, .int 0])), (q5, .inr (0, [.null, .null, .null, .int 0, .null, .null, .int 0, .int 0, .int 0, .null, .null]))] H := hP
  have hD : va_D A [(o, .inr (1, [.null, .null, .null, .int 0, .int 0, .int 0, .int 0])), (q5, .inr (0, [.null, .null, .null, .int 0, .null, .null, .int 0, .int 0, .int 0, .null, .null]))] := hD
  refine lv_dup hx hb d_Bl_init_8 rfl ?_
  have hPc := hP.sub (ws' := [(q5, .inr (0, [.null, .null, .null, .int 0, .null, .null, .int 0, .int 0, .int 0, .null, .null]))]) [1] rfl
  have hDc := hD.sub (ws' := [(q5, .inr (0, [.null, .null, .null, .int 0, .null, .null, .int 0, .int 0, .int 0, .null, .null]))]) [1] (by decide) rfl
  have hFc := va_free (wc := [(q5, .inr (0, [.null, .null, .null, .int 0, .null, .null, .int 0, .int 0, .int 0, .null, .null]))]) hD hS hA [1] rfl
  refine va_callv (va_runI (As := []) (rest := [.ref q5, .ref o]) S (c_Rc_init l D cI q5 H.size) (cwI 0 hts (lwg_G k_code_Rc_init) rfl rfl rfl (hts _ k_ini_Rc) (hts _ k_ml_Bl_13) (hts _ k_im_Rc_init) rfl (by decide +kernel) ⟨by decide, by decide⟩) ⟨fun a U g mk q => by obtain ⟨q0, q1, qP, qK, qD⟩ := q; exact ⟨q0, q1, qP, qK.calling g mk a, qD⟩, fun U hU hW => ⟨rfl, by rw [hU], by rw [hU]; exact hPc, hok.warm hW, hDc.weaken (fun _ _ _ _ => trivial)⟩⟩ rfl rfl hl.1 rfl (lv_room (Nat.le_of_ble_eq_true rfl)) d_Bl_init_9 ⟨by decide, by decide⟩) hS (fun q _ h => hFc q h) hFc (fun u t H1 locs ht hvm h5 hB hz1 hk1 hS => ?_)
  obtain ⟨a, τ⟩ := u
  have ha : a 0 = q5 := h5
  subst ha
  obtain ⟨hP1, hD1⟩ := hB
  rw [ht] at hP1
  obtain ⟨hP2, hD2⟩ := va_join (wr := [(o, .inr (1, [.null, .null, .null, .int 0, .int 0, .int 0, .int 0]))]) (w1 := wRc cI a (fun _ => []) τ) hP hD [1] [0] rfl rfl (by decide) (by decide) hk1 hFc hP1 hD1
  clear hP hD
  have hP := hP2
  have hD := hD2
  clear hP2 hP1
  generalize H1 = H at hP hS ⊢
  have hP : va_P D classes [(o, .inr (1, [.null, .null, .null, .int 0, .int 0, .int 0, .int 0])), (a 0, .inr (0, [.ref (a 1), .ref (a 2), .ref (a 3), .int (τ 7 0), .ref (a 4), .ref (a 5), .int (τ 8 0), .int (τ 9 0), .int (τ 10 0), .ref (a 6), .ref (a 7)])), (a 1, .inl (cI, 8224, .inl (τ 0))), (a 2, .inl (cI, 1028, .inl (τ 1))), (a 3, .inl (cI, 1028, .inl (τ 2))), (a 4, .inl (cI, 1024, .inl (τ 3))), (a 5, .inl (cI, 1028, .inl (τ 4))), (a 6, .inl (cI, 1028, .inl (τ 5))), (a 7, .inl (cI, 8, .inl (τ 6)))] H := hP
  have hD : va_D A [(o, .inr (1, [.null, .null, .null, .int 0, .int 0, .int 0, .int 0])), (a 0, .inr (0, [.ref (a 1), .ref (a 2), .ref (a 3), .int (τ 7 0), .ref (a 4), .ref (a 5), .int (τ 8 0), .int (τ 9 0), .int (τ 10 0), .ref (a 6), .ref (a 7)])), (a 1, .inl (cI, 8224, .inl (τ 0))), (a 2, .inl (cI, 1028, .inl (τ 1))), (a 3, .inl (cI, 1028, .inl (τ 2))), (a 4, .inl (cI, 1024, .inl (τ 3))), (a 5, .inl (cI, 1028, .inl (τ 4))), (a 6, .inl (cI, 1028, .inl (τ 5))), (a 7, .inl (cI, 8, .inl (τ 6)))] := hD
  refine W.eq (g2 := F0 m 12 ls [.ref (a 0), .ref o]) rfl ?_
  refine va_putF (D := D) (ci := 1) (v := .ref (a 0)) (ty := .object "PropertyTrie$Records") (C := R_Bl) (T := F_Bl) (N := 7) hx hb hts i_Bl t_Bl t_Bl_ok n_Bl hown hok.1 hP hD hS 0 rfl rfl 0 (by decide) (hts _ k_fl_Bl_14) (fun _ h9 => h9) rfl hin rfl (by decide +kernel) rfl rfl (Nat.le_of_ble_eq_true rfl) d_Bl_init_12 (fun H locs hP hD hS => ?_)
  have hP : va_P D classes [(o, .inr (1, [.ref (a 0), .null, .null, .int 0, .int 0, .int 0, .int 0])), (a 0, .inr (0, [.ref (a 1), .ref (a 2), .ref (a 3), .int (τ 7 0), .ref (a 4), .ref (a 5), .int (τ 8 0), .int (τ 9 0), .int (τ 10 0), .ref (a 6), .ref (a 7)])), (a 1, .inl (cI, 8224, .inl (τ 0))), (a 2, .inl (cI, 1028, .inl (τ 1))), (a 3, .inl (cI, 1028, .inl (τ 2))), (a 4, .inl (cI, 1024, .inl (τ 3))), (a 5, .inl (cI, 1028, .inl (τ 4))), (a 6, .inl (cI, 1028, .inl (τ 5))), (a 7, .inl (cI, 8, .inl (τ 6)))] H := hP
  have hD : va_D A [(o, .inr (1, [.ref (a 0), .null, .null, .int 0, .int 0, .int 0, .int 0])), (a 0, .inr (0, [.ref (a 1), .ref (a 2), .ref (a 3), .int (τ 7 0), .ref (a 4), .ref (a 5), .int (τ 8 0), .int (τ 9 0), .int (τ 10 0), .ref (a 6), .ref (a 7)])), (a 1, .inl (cI, 8224, .inl (τ 0))), (a 2, .inl (cI, 1028, .inl (τ 1))), (a 3, .inl (cI, 1028, .inl (τ 2))), (a 4, .inl (cI, 1024, .inl (τ 3))), (a 5, .inl (cI, 1028, .inl (τ 4))), (a 6, .inl (cI, 1028, .inl (τ 5))), (a 7, .inl (cI, 8, .inl (τ 6)))] := hD
  refine lv_aload_n hx hb d_Bl_init_15 rfl (lv_at hl 0 rfl) ?_
  refine lv_ldc (v := (66624 : Int32)) hx hb hown (hts _ k_cst_Bl_18) d_Bl_init_16 ?_
  refine r_newi 66624 S hok hP hD hS hA rfl (by decide) (by decide) (by decide) d_Bl_init_18 (fun q18 H hP hD hS => ?_)
  have hP : va_P D classes [(o, .inr (1, [.ref (a 0), .null, .null, .int 0, .int 0, .int 0, .int 0])), (a 0, .inr (0, [.ref (a 1), .ref (a 2), .ref (a 3), .int (τ 7 0), .ref (a 4), .ref (a 5), .int (τ 8 0), .int (τ 9 0), .int (τ 10 0), .ref (a 6), .ref (a 7)])), (a 1, .inl (cI, 8224, .inl (τ 0))), (a 2, .inl (cI, 1028, .inl (τ 1))), (a 3, .inl (cI, 1028, .inl (τ 2))), (a 4, .inl (cI, 1024, .inl (τ 3))), (a 5, .inl (cI, 1028, .inl (τ 4))), (a 6, .inl (cI, 1028, .inl (τ 5))), (a 7, .inl (cI, 8, .inl (τ 6))), (q18, .inl (cI, 66624, .inl (fun _ => 0)))] H := hP
  have hD : va_D A [(o, .inr (1, [.ref (a 0), .null, .null, .int 0, .int 0, .int 0, .int 0])), (a 0, .inr (0, [.ref (a 1), .ref (a 2), .ref (a 3), .int (τ 7 0), .ref (a 4), .ref (a 5), .int (τ 8 0), .int (τ 9 0), .int (τ 10 0), .ref (a 6), .ref (a 7)])), (a 1, .inl (cI, 8224, .inl (τ 0))), (a 2, .inl (cI, 1028, .inl (τ 1))), (a 3, .inl (cI, 1028, .inl (τ 2))), (a 4, .inl (cI, 1024, .inl (τ 3))), (a 5, .inl (cI, 1028, .inl (τ 4))), (a 6, .inl (cI, 1028, .inl (τ 5))), (a 7, .inl (cI, 8, .inl (τ 6))), (q18, .inl (cI, 66624, .inl (fun _ => 0)))] := hD
  refine W.eq (g2 := F0 m 20 ls [.ref q18, .ref o]) rfl ?_
  refine va_putF (D := D) (ci := 1) (v := .ref q18) (ty := .array .int) (C := R_Bl) (T := F_Bl) (N := 7) hx hb hts i_Bl t_Bl t_Bl_ok n_Bl hown hok.1 hP hD hS 0 rfl rfl 1 (by decide) (hts _ k_fl_Bl_19) (fun _ h9 => h9) rfl hin rfl (by decide +kernel) rfl rfl (Nat.le_of_ble_eq_true rfl) d_Bl_init_20 (fun H locs hP hD hS => ?_)
  have hP : va_P D classes [(o, .inr (1, [.ref (a 0), .ref q18, .null, .int 0, .int 0, .int 0, .int 0])), (a 0, .inr (0, [.ref (a 1), .ref (a 2), .ref (a 3), .int (τ 7 0), .ref (a 4), .ref (a 5), .int (τ 8 0), .int (τ 9 0), .int (τ 10 0), .ref (a 6), .ref (a 7)])), (a 1, .inl (cI, 8224, .inl (τ 0))), (a 2, .inl (cI, 1028, .inl (τ 1))), (a 3, .inl (cI, 1028, .inl (τ 2))), (a 4, .inl (cI, 1024, .inl (τ 3))), (a 5, .inl (cI, 1028, .inl (τ 4))), (a 6, .inl (cI, 1028, .inl (τ 5))), (a 7, .inl (cI, 8, .inl (τ 6))), (q18, .inl (cI, 66624, .inl (fun _ => 0)))] H := hP
  have hD : va_D A [(o, .inr (1, [.ref (a 0), .ref q18, .null, .int 0, .int 0, .int 0, .int 0])), (a 0, .inr (0, [.ref (a 1), .ref (a 2), .ref (a 3), .int (τ 7 0), .ref (a 4), .ref (a 5), .int (τ 8 0), .int (τ 9 0), .int (τ 10 0), .ref (a 6), .ref (a 7)])), (a 1, .inl (cI, 8224, .inl (τ 0))), (a 2, .inl (cI, 1028, .inl (τ 1))), (a 3, .inl (cI, 1028, .inl (τ 2))), (a 4, .inl (cI, 1024, .inl (τ 3))), (a 5, .inl (cI, 1028, .inl (τ 4))), (a 6, .inl (cI, 1028, .inl (τ 5))), (a 7, .inl (cI, 8, .inl (τ 6))), (q18, .inl (cI, 66624, .inl (fun _ => 0)))] := hD
  refine lv_aload_n hx hb d_Bl_init_23 rfl (lv_at hl 0 rfl) ?_
  refine lv_sipush (v := (2048 : Int32)) hx hb d_Bl_init_24 (by decide) ?_
  refine r_newi 2048 S hok hP hD hS hA rfl (by decide) (by decide) (by decide) d_Bl_init_27 (fun q27 H hP hD hS => ?_)
  have hP : va_P D classes [(o, .inr (1, [.ref (a 0), .ref q18, .null, .int 0, .int 0, .int 0, .int 0])), (a 0, .inr (0, [.ref (a 1), .ref (a 2), .ref (a 3), .int (τ 7 0), .ref (a 4), .ref (a 5), .int (τ 8 0), .int (τ 9 0), .int (τ 10 0), .ref (a 6), .ref (a 7)])), (a 1, .inl (cI, 8224, .inl (τ 0))), (a 2, .inl (cI, 1028, .inl (τ 1))), (a 3, .inl (cI, 1028, .inl (τ 2))), (a 4, .inl (cI, 1024, .inl (τ 3))), (a 5, .inl (cI, 1028, .inl (τ 4))), (a 6, .inl (cI, 1028, .inl (τ 5))), (a 7, .inl (cI, 8, .inl (τ 6))), (q18, .inl (cI, 66624, .inl (fun _ => 0))), (q27, .inl (cI, 2048, .inl (fun _ => 0)))] H := hP
  have hD : va_D A [(o, .inr (1, [.ref (a 0), .ref q18, .null, .int 0, .int 0, .int 0, .int 0])), (a 0, .inr (0, [.ref (a 1), .ref (a 2), .ref (a 3), .int (τ 7 0), .ref (a 4), .ref (a 5), .int (τ 8 0), .int (τ 9 0), .int (τ 10 0), .ref (a 6), .ref (a 7)])), (a 1, .inl (cI, 8224, .inl (τ 0))), (a 2, .inl (cI, 1028, .inl (τ 1))), (a 3, .inl (cI, 1028, .inl (τ 2))), (a 4, .inl (cI, 1024, .inl (τ 3))), (a 5, .inl (cI, 1028, .inl (τ 4))), (a 6, .inl (cI, 1028, .inl (τ 5))), (a 7, .inl (cI, 8, .inl (τ 6))), (q18, .inl (cI, 66624, .inl (fun _ => 0))), (q27, .inl (cI, 2048, .inl (fun _ => 0)))] := hD
  refine W.eq (g2 := F0 m 29 ls [.ref q27, .ref o]) rfl ?_
  refine va_putF (D := D) (ci := 1) (v := .ref q27) (ty := .array .int) (C := R_Bl) (T := F_Bl) (N := 7) hx hb hts i_Bl t_Bl t_Bl_ok n_Bl hown hok.1 hP hD hS 0 rfl rfl 2 (by decide) (hts _ k_fl_Bl_23) (fun _ h9 => h9) rfl hin rfl (by decide +kernel) rfl rfl (Nat.le_of_ble_eq_true rfl) d_Bl_init_29 (fun H locs hP hD hS => ?_)
  have hP : va_P D classes [(o, .inr (1, [.ref (a 0), .ref q18, .ref q27, .int 0, .int 0, .int 0, .int 0])), (a 0, .inr (0, [.ref (a 1), .ref (a 2), .ref (a 3), .int (τ 7 0), .ref (a 4), .ref (a 5), .int (τ 8 0), .int (τ 9 0), .int (τ 10 0), .ref (a 6), .ref (a 7)])), (a 1, .inl (cI, 8224, .inl (τ 0))), (a 2, .inl (cI, 1028, .inl (τ 1))), (a 3, .inl (cI, 1028, .inl (τ 2))), (a 4, .inl (cI, 1024, .inl (τ 3))), (a 5, .inl (cI, 1028, .inl (τ 4))), (a 6, .inl (cI, 1028, .inl (τ 5))), (a 7, .inl (cI, 8, .inl (τ 6))), (q18, .inl (cI, 66624, .inl (fun _ => 0))), (q27, .inl (cI, 2048, .inl (fun _ => 0)))] H := hP
  have hD : va_D A [(o, .inr (1, [.ref (a 0), .ref q18, .ref q27, .int 0, .int 0, .int 0, .int 0])), (a 0, .inr (0, [.ref (a 1), .ref (a 2), .ref (a 3), .int (τ 7 0), .ref (a 4), .ref (a 5), .int (τ 8 0), .int (τ 9 0), .int (τ 10 0), .ref (a 6), .ref (a 7)])), (a 1, .inl (cI, 8224, .inl (τ 0))), (a 2, .inl (cI, 1028, .inl (τ 1))), (a 3, .inl (cI, 1028, .inl (τ 2))), (a 4, .inl (cI, 1024, .inl (τ 3))), (a 5, .inl (cI, 1028, .inl (τ 4))), (a 6, .inl (cI, 1028, .inl (τ 5))), (a 7, .inl (cI, 8, .inl (τ 6))), (q18, .inl (cI, 66624, .inl (fun _ => 0))), (q27, .inl (cI, 2048, .inl (fun _ => 0)))] := hD
  refine lv_aload_n hx hb d_Bl_init_32 rfl (lv_at hl 0 rfl) ?_
  have hP := hP.sub (ws' := wBl cI (fun k => cond (Nat.ble k 7) (a k) (cond (Nat.beq k 8) o (cond (Nat.beq k 9) q18 q27))) (fun _ => []) (fun k => cond (Nat.ble k 10) (τ k) (fun _ => 0))) [1, 2, 3, 4, 5, 6, 7, 8, 0, 9, 10] rfl
  have hD := hD.sub (ws' := wBl cI (fun k => cond (Nat.ble k 7) (a k) (cond (Nat.beq k 8) o (cond (Nat.beq k 9) q18 q27))) (fun _ => []) (fun k => cond (Nat.ble k 10) (τ k) (fun _ => 0))) [1, 2, 3, 4, 5, 6, 7, 8, 0, 9, 10] (by decide) rfl
  have hF : F_Bl_empty (fun k => cond (Nat.ble k 10) (τ k) (fun _ => 0)) (fun τ => BI τ (fun _ => 0) (fun _ => 0) (fun x => x == 0) L00 (fun _ _ => 0) 2048) := s_Bempty (fun _ h _ => h)
  refine r_callVv (As := []) (rest := []) (n := 0) (q0 := 8) S hok (c_Bl_empty l D cI (fun k => cond (Nat.ble k 7) (a k) (cond (Nat.beq k 8) o (cond (Nat.beq k 9) q18 q27))) (fun _ => []) (Fx_nil _) (fun k => cond (Nat.ble k 10) (τ k) (fun _ => 0)) (fun τ => BI τ (fun _ => 0) (fun _ => 0) (fun x => x == 0) L00 (fun _ _ => 0) 2048) hF) k_ml_Bl_26 k_im_Bl_empty k_sel_Bl_empty k_ini_Bl k_code_Bl_empty rfl rfl (by decide +kernel) ⟨by decide, by decide⟩ rfl rfl hP hD hS hA (by decide) (by decide) hl.1 rfl rfl (Nat.le_of_ble_eq_true rfl) d_Bl_init_33 (fun τ2 H locs hq hP hD hS => ?_)
  exact W.vret hx hb hr (fun t ht hW => ⟨⟨(fun k => cond (Nat.ble k 7) (a k) (cond (Nat.beq k 8) o (cond (Nat.beq k 9) q18 q27)), τ2), rfl, ⟨rfl, hq⟩, by rw [ht]; exact hP, hD⟩, hS.F ht⟩) hS.2.2 d_Bl_init_36 hlocks
abbrev rm_Pt_init : Room := { frames := 130, cells := 11, slots := 82058, locals := 2600 }
set_option maxRecDepth 100000 in
set_option maxHeartbeats 4000000 in
theorem c_Pt_init (l : Launch) (D : va_G) (cI : ClassId) (o : Nat) : Cn l y_Pt_init (.code y_Pt_init b_Pt_init 1 none) rm_Pt_init D cI [(o, .inr (2, [.null]))] o (fun a τ => wPt cI a (fun _ => []) τ) (fun a τ => a 11 = o ∧ BI τ (fun _ => 0) (fun _ => 0) (fun x => x == 0) L00 (fun _ _ => 0) 2048) 11 82058 := by
  intro sz
  refine Met.ofW (cc := b_Pt_init) (maxL := 1) (ret := none) (by decide +kernel) rfl ?_
  intro p e s m args below meth c s₁ B hml hv
  obtain ⟨rfl, hsz, hP, hok, hD0⟩ := hv
  subst hsz
  have hx := B.exec
  have hb := B.bytes
  have hr := B.returns
  have hts0 := atoms_spec (ws := .code y_Pt_init b_Pt_init 1 none :: lwg) B.pre
  have hts : ∀ v ∈ lwg, v.before ([.ref o] : List Value).toArray s = true := fun v hv => hts0 v (List.mem_cons_of_mem _ hv)
  have hown : s.vm.findClass "PropertyTrie" = some m.cls := findClass_of_methodNamed B.named
  have hlocks := B.notSynchronized
  have hin : meth.name = "<init>" := (name_of_methodNamed B.named B.method).1
  have S : CallFix p m c b_Pt_init 1 s ([.ref o] : List Value).toArray lwg "PropertyTrie" := ⟨hx, hb, hml, hown, hts⟩
  have hD := hD0.self (sz := s.heap.size)
  generalize hAe : va_A [(o, .inr (2, [.null]))] s.heap.size = A at hD ⊢
  have hA : ∀ q : Nat, s.heap.size ≤ q → A q := fun q h => by rw [← hAe]; exact Or.inr h
  have hS : va_S A s.heap s.heap [] := va_S.rf
  have hP : va_P D classes [(o, .inr (2, [.null]))] s.heap := hP
  have hl := lv_entry ([.ref o]) (n := 1) (Nat.le_of_ble_eq_true rfl)
  rw [lg_entry_eq]
  generalize (lg_sl ([.ref o]) ++ List.replicate (1 - (lg_sl ([.ref o])).length) Slot.unset).toArray = ls at hl ⊢
  have hl : lv_has ls 1 [(0, .ref o)] := hl
  refine lv_aload_n hx hb d_Pt_init_0 rfl (lv_at hl 0 rfl) ?_
  refine W.objInit hx hb hown (hts _ k_ml_Pt_3) (hts _ k_im_Ob_init) (hts _ k_code_Ob_init) rfl (by rw [hml]; exact hl.1) rfl d_Pt_init_1 (Nat.le_of_ble_eq_true rfl) (Nat.le_of_ble_eq_true rfl) ?_
  refine W.eq (g2 := F0 m 4 ls []) rfl ?_
  refine lv_aload_n hx hb d_Pt_init_4 rfl (lv_at hl 0 rfl) ?_
  refine va_new (ci := 1) (fs := [.null, .null, .null, .int 0, .int 0, .int 0, .int 0]) (C := R_Bl) (T := F_Bl) (N := 7) hx hb hts i_Bl t_Bl t_Bl_ok hown (hts _ k_cl_Pt_9) (hts _ k_in_Bl) (hts _ k_ini_Bl) hok.1 hP hD hS hA rfl (by decide) (by decide) (by decide) d_Pt_init_5 (fun q5 H hP hD hS => ?_)
  have hP : va_P D classes [(o, .inr (2, [.null])), (q5, .inr (1, [.null, .null, .null, .int 0, .int 0, .int 0, .int 0]))] H := hP
  have hD : va_D A [(o, .inr (2, [.null])), (q5, .inr (1, [.null, .null, .null, .int 0, .int 0, .int 0, .int 0]))] := hD
  refine lv_dup hx hb d_Pt_init_8 rfl ?_
  have hPc := hP.sub (ws' := [(q5, .inr (1, [.null, .null, .null, .int 0, .int 0, .int 0, .int 0]))]) [1] rfl
  have hDc := hD.sub (ws' := [(q5, .inr (1, [.null, .null, .null, .int 0, .int 0, .int 0, .int 0]))]) [1] (by decide) rfl
  have hFc := va_free (wc := [(q5, .inr (1, [.null, .null, .null, .int 0, .int 0, .int 0, .int 0]))]) hD hS hA [1] rfl
  refine va_callv (va_runI (As := []) (rest := [.ref q5, .ref o]) S (c_Bl_init l D cI q5 H.size) (cwI 0 hts (lwg_G k_code_Bl_init) rfl rfl rfl (hts _ k_ini_Bl) (hts _ k_ml_Pt_11) (hts _ k_im_Bl_init) rfl (by decide +kernel) ⟨by decide, by decide⟩) ⟨fun a U g mk q => by obtain ⟨q0, q1, qP, qK, qD⟩ := q; exact ⟨q0, q1, qP, qK.calling g mk a, qD⟩, fun U hU hW => ⟨rfl, by rw [hU], by rw [hU]; exact hPc, hok.warm hW, hDc.weaken (fun _ _ _ _ => trivial)⟩⟩ rfl rfl hl.1 rfl (lv_room (Nat.le_of_ble_eq_true rfl)) d_Pt_init_9 ⟨by decide, by decide⟩) hS (fun q _ h => hFc q h) hFc (fun u t H1 locs ht hvm h5 hB hz1 hk1 hS => ?_)
  obtain ⟨a, τ⟩ := u
  have ha : a 8 = q5 := h5.1
  subst ha
  obtain ⟨hP1, hD1⟩ := hB
  rw [ht] at hP1
  obtain ⟨hP2, hD2⟩ := va_join (wr := [(o, .inr (2, [.null]))]) (w1 := wBl cI a (fun _ => []) τ) hP hD [1] [0] rfl rfl (by decide) (by decide) hk1 hFc hP1 hD1
  clear hP hD
  have hP := hP2
  have hD := hD2
  clear hP2 hP1
  generalize H1 = H at hP hS ⊢
  have hP : va_P D classes [(o, .inr (2, [.null])), (a 0, .inr (0, [.ref (a 1), .ref (a 2), .ref (a 3), .int (τ 7 0), .ref (a 4), .ref (a 5), .int (τ 8 0), .int (τ 9 0), .int (τ 10 0), .ref (a 6), .ref (a 7)])), (a 1, .inl (cI, 8224, .inl (τ 0))), (a 2, .inl (cI, 1028, .inl (τ 1))), (a 3, .inl (cI, 1028, .inl (τ 2))), (a 4, .inl (cI, 1024, .inl (τ 3))), (a 5, .inl (cI, 1028, .inl (τ 4))), (a 6, .inl (cI, 1028, .inl (τ 5))), (a 7, .inl (cI, 8, .inl (τ 6))), (a 8, .inr (1, [.ref (a 0), .ref (a 9), .ref (a 10), .int (τ 13 0), .int (τ 14 0), .int (τ 15 0), .int (τ 16 0)])), (a 9, .inl (cI, 66624, .inl (τ 11))), (a 10, .inl (cI, 2048, .inl (τ 12)))] H := hP
  have hD : va_D A [(o, .inr (2, [.null])), (a 0, .inr (0, [.ref (a 1), .ref (a 2), .ref (a 3), .int (τ 7 0), .ref (a 4), .ref (a 5), .int (τ 8 0), .int (τ 9 0), .int (τ 10 0), .ref (a 6), .ref (a 7)])), (a 1, .inl (cI, 8224, .inl (τ 0))), (a 2, .inl (cI, 1028, .inl (τ 1))), (a 3, .inl (cI, 1028, .inl (τ 2))), (a 4, .inl (cI, 1024, .inl (τ 3))), (a 5, .inl (cI, 1028, .inl (τ 4))), (a 6, .inl (cI, 1028, .inl (τ 5))), (a 7, .inl (cI, 8, .inl (τ 6))), (a 8, .inr (1, [.ref (a 0), .ref (a 9), .ref (a 10), .int (τ 13 0), .int (τ 14 0), .int (τ 15 0), .int (τ 16 0)])), (a 9, .inl (cI, 66624, .inl (τ 11))), (a 10, .inl (cI, 2048, .inl (τ 12)))] := hD
  refine W.eq (g2 := F0 m 12 ls [.ref (a 8), .ref o]) rfl ?_
  refine va_putF (D := D) (ci := 2) (v := .ref (a 8)) (ty := .object "PropertyTrie$Blocks") (C := R_Pt) (T := F_Pt) (N := 1) hx hb hts i_Pt t_Pt t_Pt_ok n_Pt hown hok.1 hP hD hS 0 rfl rfl 0 (by decide) (hts _ k_fl_Pt_12) (fun _ h9 => h9) rfl hin rfl (by decide +kernel) rfl rfl (Nat.le_of_ble_eq_true rfl) d_Pt_init_12 (fun H locs hP hD hS => ?_)
  have hP : va_P D classes [(o, .inr (2, [.ref (a 8)])), (a 0, .inr (0, [.ref (a 1), .ref (a 2), .ref (a 3), .int (τ 7 0), .ref (a 4), .ref (a 5), .int (τ 8 0), .int (τ 9 0), .int (τ 10 0), .ref (a 6), .ref (a 7)])), (a 1, .inl (cI, 8224, .inl (τ 0))), (a 2, .inl (cI, 1028, .inl (τ 1))), (a 3, .inl (cI, 1028, .inl (τ 2))), (a 4, .inl (cI, 1024, .inl (τ 3))), (a 5, .inl (cI, 1028, .inl (τ 4))), (a 6, .inl (cI, 1028, .inl (τ 5))), (a 7, .inl (cI, 8, .inl (τ 6))), (a 8, .inr (1, [.ref (a 0), .ref (a 9), .ref (a 10), .int (τ 13 0), .int (τ 14 0), .int (τ 15 0), .int (τ 16 0)])), (a 9, .inl (cI, 66624, .inl (τ 11))), (a 10, .inl (cI, 2048, .inl (τ 12)))] H := hP
  have hD : va_D A [(o, .inr (2, [.ref (a 8)])), (a 0, .inr (0, [.ref (a 1), .ref (a 2), .ref (a 3), .int (τ 7 0), .ref (a 4), .ref (a 5), .int (τ 8 0), .int (τ 9 0), .int (τ 10 0), .ref (a 6), .ref (a 7)])), (a 1, .inl (cI, 8224, .inl (τ 0))), (a 2, .inl (cI, 1028, .inl (τ 1))), (a 3, .inl (cI, 1028, .inl (τ 2))), (a 4, .inl (cI, 1024, .inl (τ 3))), (a 5, .inl (cI, 1028, .inl (τ 4))), (a 6, .inl (cI, 1028, .inl (τ 5))), (a 7, .inl (cI, 8, .inl (τ 6))), (a 8, .inr (1, [.ref (a 0), .ref (a 9), .ref (a 10), .int (τ 13 0), .int (τ 14 0), .int (τ 15 0), .int (τ 16 0)])), (a 9, .inl (cI, 66624, .inl (τ 11))), (a 10, .inl (cI, 2048, .inl (τ 12)))] := hD
  have hP := hP.sub (ws' := wPt cI (fun k => cond (Nat.ble k 10) (a k) o) (fun _ => []) τ) [1, 2, 3, 4, 5, 6, 7, 8, 9, 10, 11, 0] rfl
  have hD := hD.sub (ws' := wPt cI (fun k => cond (Nat.ble k 10) (a k) o) (fun _ => []) τ) [1, 2, 3, 4, 5, 6, 7, 8, 9, 10, 11, 0] (by decide) rfl
  exact W.vret hx hb hr (fun t ht hW => ⟨⟨(fun k => cond (Nat.ble k 10) (a k) o, τ), rfl, ⟨rfl, h5.2⟩, by rw [ht]; exact hP, hD⟩, hS.F ht⟩) hS.2.2 d_Pt_init_15 hlocks
abbrev rm_Mo_init : Room := { frames := 20, cells := 2, slots := 81000, locals := 400 }
set_option maxRecDepth 100000 in
set_option maxHeartbeats 4000000 in
theorem c_Mo_init (l : Launch) (D : va_G) (cI : ClassId) (o : Nat) : Cn l y_Mo_init (.code y_Mo_init b_Mo_init 1 none) rm_Mo_init D cI [(o, .inr (3, [.int 0, .int 0, .null, .null]))] o (fun a τ => WMo cI a τ ++ []) (fun a τ => a 12 = o ∧ MS τ (fun _ => 0) 1 ∧ MV τ (fun _ => 0) 1 (fun _ _ => 0) ∧ τ 19 0 = 0) 2 81000 := by
  intro sz
  refine Met.ofW (cc := b_Mo_init) (maxL := 1) (ret := none) (by decide +kernel) rfl ?_
  intro p e s m args below meth c s₁ B hml hv
  obtain ⟨rfl, hsz, hP, hok, hD0⟩ := hv
  subst hsz
  have hx := B.exec
  have hb := B.bytes
  have hr := B.returns
  have hts0 := atoms_spec (ws := .code y_Mo_init b_Mo_init 1 none :: lwg) B.pre
  have hts : ∀ v ∈ lwg, v.before ([.ref o] : List Value).toArray s = true := fun v hv => hts0 v (List.mem_cons_of_mem _ hv)
  have hown : s.vm.findClass "PropertyTrieModel" = some m.cls := findClass_of_methodNamed B.named
  have hlocks := B.notSynchronized
  have hin : meth.name = "<init>" := (name_of_methodNamed B.named B.method).1
  have S : CallFix p m c b_Mo_init 1 s ([.ref o] : List Value).toArray lwg "PropertyTrieModel" := ⟨hx, hb, hml, hown, hts⟩
  have hD := hD0.self (sz := s.heap.size)
  generalize hAe : va_A [(o, .inr (3, [.int 0, .int 0, .null, .null]))] s.heap.size = A at hD ⊢
  have hA : ∀ q : Nat, s.heap.size ≤ q → A q := fun q h => by rw [← hAe]; exact Or.inr h
  have hS : va_S A s.heap s.heap [] := va_S.rf
  have hP : va_P D classes [(o, .inr (3, [.int 0, .int 0, .null, .null]))] s.heap := hP
  have hl := lv_entry ([.ref o]) (n := 1) (Nat.le_of_ble_eq_true rfl)
  rw [lg_entry_eq]
  generalize (lg_sl ([.ref o]) ++ List.replicate (1 - (lg_sl ([.ref o])).length) Slot.unset).toArray = ls at hl ⊢
  have hl : lv_has ls 1 [(0, .ref o)] := hl
  refine lv_aload_n hx hb d_Mo_init_0 rfl (lv_at hl 0 rfl) ?_
  refine W.objInit hx hb hown (hts _ k_ml_Mo_1) (hts _ k_im_Ob_init) (hts _ k_code_Ob_init) rfl (by rw [hml]; exact hl.1) rfl d_Mo_init_1 (Nat.le_of_ble_eq_true rfl) (Nat.le_of_ble_eq_true rfl) ?_
  refine W.eq (g2 := F0 m 4 ls []) rfl ?_
  refine lv_aload_n hx hb d_Mo_init_4 rfl (lv_at hl 0 rfl) ?_
  refine lv_iconst (v := (1 : Int32)) hx hb d_Mo_init_5 (by decide) ?_
  refine va_put (D := D) (ci := 3) (v := .int (1 : Int32)) (ty := .int) (C := R_Mo) (T := F_Mo) (N := 4) hx hb hts i_Mo t_Mo t_Mo_ok n_Mo hown hok.1 hP hD hS 0 rfl rfl 1 (by decide) (hts _ k_fl_Mo_7) (fun _ h9 => h9) rfl (by decide +kernel) rfl rfl (Nat.le_of_ble_eq_true rfl) d_Mo_init_6 (fun H locs hP hD hS => ?_)
  have hP : va_P D classes [(o, .inr (3, [.int 0, .int (1 : Int32), .null, .null]))] H := hP
  have hD : va_D A [(o, .inr (3, [.int 0, .int (1 : Int32), .null, .null]))] := hD
  refine lv_aload_n hx hb d_Mo_init_9 rfl (lv_at hl 0 rfl) ?_
  refine lv_sipush (v := (9000 : Int32)) hx hb d_Mo_init_10 (by decide) ?_
  refine r_newi 9000 S hok hP hD hS hA rfl (by decide) (by decide) (by decide) d_Mo_init_13 (fun q13 H hP hD hS => ?_)
  have hP : va_P D classes [(o, .inr (3, [.int 0, .int (1 : Int32), .null, .null])), (q13, .inl (cI, 9000, .inl (fun _ => 0)))] H := hP
  have hD : va_D A [(o, .inr (3, [.int 0, .int (1 : Int32), .null, .null])), (q13, .inl (cI, 9000, .inl (fun _ => 0)))] := hD
  refine W.eq (g2 := F0 m 15 ls [.ref q13, .ref o]) rfl ?_
  refine va_putF (D := D) (ci := 3) (v := .ref q13) (ty := .array .int) (C := R_Mo) (T := F_Mo) (N := 4) hx hb hts i_Mo t_Mo t_Mo_ok n_Mo hown hok.1 hP hD hS 0 rfl rfl 2 (by decide) (hts _ k_fl_Mo_13) (fun _ h9 => h9) rfl hin rfl (by decide +kernel) rfl rfl (Nat.le_of_ble_eq_true rfl) d_Mo_init_15 (fun H locs hP hD hS => ?_)
  have hP : va_P D classes [(o, .inr (3, [.int 0, .int (1 : Int32), .ref q13, .null])), (q13, .inl (cI, 9000, .inl (fun _ => 0)))] H := hP
  have hD : va_D A [(o, .inr (3, [.int 0, .int (1 : Int32), .ref q13, .null])), (q13, .inl (cI, 9000, .inl (fun _ => 0)))] := hD
  refine lv_aload_n hx hb d_Mo_init_18 rfl (lv_at hl 0 rfl) ?_
  refine lv_ldc (v := (72000 : Int32)) hx hb hown (hts _ k_cst_Mo_17) d_Mo_init_19 ?_
  refine r_newi 72000 S hok hP hD hS hA rfl (by decide) (by decide) (by decide) d_Mo_init_21 (fun q21 H hP hD hS => ?_)
  have hP : va_P D classes [(o, .inr (3, [.int 0, .int (1 : Int32), .ref q13, .null])), (q13, .inl (cI, 9000, .inl (fun _ => 0))), (q21, .inl (cI, 72000, .inl (fun _ => 0)))] H := hP
  have hD : va_D A [(o, .inr (3, [.int 0, .int (1 : Int32), .ref q13, .null])), (q13, .inl (cI, 9000, .inl (fun _ => 0))), (q21, .inl (cI, 72000, .inl (fun _ => 0)))] := hD
  refine W.eq (g2 := F0 m 23 ls [.ref q21, .ref o]) rfl ?_
  refine va_putF (D := D) (ci := 3) (v := .ref q21) (ty := .array .int) (C := R_Mo) (T := F_Mo) (N := 4) hx hb hts i_Mo t_Mo t_Mo_ok n_Mo hown hok.1 hP hD hS 0 rfl rfl 3 (by decide) (hts _ k_fl_Mo_18) (fun _ h9 => h9) rfl hin rfl (by decide +kernel) rfl rfl (Nat.le_of_ble_eq_true rfl) d_Mo_init_23 (fun H locs hP hD hS => ?_)
  have hP : va_P D classes [(o, .inr (3, [.int 0, .int (1 : Int32), .ref q13, .ref q21])), (q13, .inl (cI, 9000, .inl (fun _ => 0))), (q21, .inl (cI, 72000, .inl (fun _ => 0)))] H := hP
  have hD : va_D A [(o, .inr (3, [.int 0, .int (1 : Int32), .ref q13, .ref q21])), (q13, .inl (cI, 9000, .inl (fun _ => 0))), (q21, .inl (cI, 72000, .inl (fun _ => 0)))] := hD
  have hP := hP.sub (ws' := WMo cI (fun k => cond (Nat.beq k 12) o (cond (Nat.beq k 13) q13 q21)) (fun k => cond (Nat.beq k 20) (fun _ => 1) (fun _ => 0)) ++ []) [0, 1, 2] rfl
  have hD := hD.sub (ws' := WMo cI (fun k => cond (Nat.beq k 12) o (cond (Nat.beq k 13) q13 q21)) (fun k => cond (Nat.beq k 20) (fun _ => 1) (fun _ => 0)) ++ []) [0, 1, 2] (by decide) rfl
  exact W.vret hx hb hr (fun t ht hW => ⟨⟨(fun k => cond (Nat.beq k 12) o (cond (Nat.beq k 13) q13 q21), fun k => cond (Nat.beq k 20) (fun _ => 1) (fun _ => 0)), rfl, ⟨rfl, MS_new, MV_new, rfl⟩, by rw [ht]; exact hP, hD⟩, hS.F ht⟩) hS.2.2 d_Mo_init_26 hlocks
