abbrev rm_Rc_chainOf_values : Room := { frames := 10, cells := 0, slots := 0, locals := 200 }
set_option maxRecDepth 100000 in
set_option maxHeartbeats 4000000 in
theorem c_Rc_chainOf_values (l : Launch) (D : va_G) (cI : ClassId) (a : Nat → Nat) (wr : St → va_W) (hwr : Fx 11 wr) (x1 : Int32) (σ : St) (Q : Int32 → St → Prop) (hf : F_Rc_chainOf_values x1 σ Q) : Ci l y_Rc_chainOf (.code y_Rc_chainOf b_Rc_chainOf 4 (some .int)) rm_Rc_chainOf_values D cI [.ref (a 1), .int x1] (wRc cI a wr) σ Q := by
  refine Ci.of (by decide +kernel) (Nat.le_of_ble_eq_true rfl) ?_
  intro p e s m below meth c ls A Z hx hb hml hown hts hok hP hD hA hl hend
  have S : CallFix p m c b_Rc_chainOf 4 s ([.ref (a 1), .int x1] : List Value).toArray lwg "PropertyTrie$Records" := ⟨hx, hb, hml, hown, hts⟩
  have hS : va_S A s.heap s.heap [] := va_S.rf
  have hl : lv_has ls 4 [(0, .ref (a 1)), (1, .int x1)] := hl
  unfold F_Rc_chainOf_values at hf
  have lab4 : ∀ (v1 v2 v3 : Int32) (σ : St) (H : Heap) (locs : List Loc) (ls : Array Slot), F_Rc_chainOf_values_L4 v1 v2 v3 σ Q → va_P D classes (wRc cI a wr σ) H → va_D A (wRc cI a wr σ) → va_S A s.heap H locs → lv_has ls 4 [(0, .ref (a 1)), (1, .int v1), (2, .int v2), (3, .int v3)] → W p l e rm_Rc_chainOf_values s m ([.ref (a 1), .int x1] : List Value).toArray below meth c H locs 0 0 Z (F0 m 4 ls []) := by
    intro v1 v2 v3 σ H locs ls hf hP hD hS hl
    unfold F_Rc_chainOf_values_L4 at hf
    obtain ⟨I4, m4, h0, hst4⟩ := hf
    have lp4 : ∀ (n : Nat) (v2 v3 : Int32) (σ : St) (H : Heap) (locs : List Loc) (ls : Array Slot), m4 v2 v3 σ = n → I4 v2 v3 σ → va_P D classes (wRc cI a wr σ) H → va_D A (wRc cI a wr σ) → va_S A s.heap H locs → lv_has ls 4 [(0, .ref (a 1)), (1, .int v1), (2, .int v2), (3, .int v3)] → W p l e rm_Rc_chainOf_values s m ([.ref (a 1), .int x1] : List Value).toArray below meth c H locs 0 0 Z (F0 m 4 ls []) := by
      intro n4
      induction n4 using Nat.strongRecOn with
      | _ n4 ih4 =>
        intro v2 v3 σ H locs ls hn hI hP hD hS hl
        have hf := hst4 v2 v3 σ n4 hI hn
        refine lv_iload_n hx hb d_Rc_chainOf_4 rfl (lv_at hl 3 rfl) ?_
        refine lv_iload_n hx hb d_Rc_chainOf_5 rfl (lv_at hl 1 rfl) ?_
        refine lv_bipush (v := (8 : Int32)) hx hb d_Rc_chainOf_6 (by decide) ?_
        refine lv_iadd hx hb d_Rc_chainOf_8 ?_
        refine lv_icmp_ge hx hb d_Rc_chainOf_9 rfl (fun hc => ?_) (fun hc => ?_)
        · have hf := hf.1 hc
          refine lv_iload_n hx hb d_Rc_chainOf_27 rfl (lv_at hl 2 rfl) ?_
          refine lv_iload_n hx hb d_Rc_chainOf_28 rfl (lv_at hl 2 rfl) ?_
          refine lv_bipush (v := (20 : Int32)) hx hb d_Rc_chainOf_29 (by decide) ?_
          refine lv_iushr hx hb d_Rc_chainOf_31 rfl ?_
          refine lv_iload_n hx hb d_Rc_chainOf_32 rfl (lv_at hl 2 rfl) ?_
          refine lv_bipush (v := (10 : Int32)) hx hb d_Rc_chainOf_33 (by decide) ?_
          refine lv_iushr hx hb d_Rc_chainOf_35 rfl ?_
          refine lv_ixor hx hb d_Rc_chainOf_36 ?_
          refine lv_ixor hx hb d_Rc_chainOf_37 ?_
          refine lv_topi (fun z1 hz1 => ?_)
          have hf := hf z1 hz1
          refine lv_istore_n hx hb d_Rc_chainOf_38 rfl hl (by decide) rfl (fun ls hl => ?_)
          have hl : lv_has ls 4 [(2, .int z1), (0, .ref (a 1)), (1, .int v1), (3, .int v3)] := hl
          refine lv_iload_n hx hb d_Rc_chainOf_39 rfl (lv_at hl 0 rfl) ?_
          refine lv_sipush (v := (1023 : Int32)) hx hb d_Rc_chainOf_40 (by decide) ?_
          refine lv_iand hx hb d_Rc_chainOf_43 ?_
          exact hend _ _ _ _ _ _ d_Rc_chainOf_44 rfl hf hP hD hS
        · have hf := hf.2 hc
          refine lv_bipush (v := (31 : Int32)) hx hb d_Rc_chainOf_12 (by decide) ?_
          refine lv_iload_n hx hb d_Rc_chainOf_14 rfl (lv_at hl 2 rfl) ?_
          refine lv_imul hx hb d_Rc_chainOf_15 ?_
          refine lv_aload_n hx hb d_Rc_chainOf_16 rfl (lv_at hl 0 rfl) ?_
          refine lv_iload_n hx hb d_Rc_chainOf_17 rfl (lv_at hl 3 rfl) ?_
          obtain ⟨hin, hf⟩ := hf
          refine rl_Rc_values S hok hP hin d_Rc_chainOf_18 ?_
          refine lv_iadd hx hb d_Rc_chainOf_19 ?_
          refine lv_topi (fun z2 hz2 => ?_)
          have hf := hf z2 hz2
          refine lv_istore_n hx hb d_Rc_chainOf_20 rfl hl (by decide) rfl (fun ls hl => ?_)
          have hl : lv_has ls 4 [(2, .int z2), (0, .ref (a 1)), (1, .int v1), (3, .int v3)] := hl
          obtain ⟨z3, hz3⟩ : ∃ z3 : Int32, z3 = v3 + (1 : Int32) := ⟨_, rfl⟩
          have hf := hf z3 hz3
          refine lv_iinc (k := 3) (v := z3) hx hb d_Rc_chainOf_21 hl rfl (by rw [hz3]; rfl) (by decide) rfl (fun ls hl => ?_)
          have hl : lv_has ls 4 [(3, .int z3), (2, .int z2), (0, .ref (a 1)), (1, .int v1)] := hl
          refine lv_goto hx hb d_Rc_chainOf_24 rfl ?_
          exact ih4 _ hf.2 _ _ _ _ _ _ rfl hf.1 hP hD hS (lv_sub hl [2, 3, 1, 0] rfl)
    exact lp4 _ v2 v3 σ H locs ls rfl h0 hP hD hS hl
  refine lv_iconst (v := (0 : Int32)) hx hb d_Rc_chainOf_0 (by decide) ?_
  refine lv_topi (fun z4 hz4 => ?_)
  have hf := hf z4 hz4
  refine lv_istore_n hx hb d_Rc_chainOf_1 rfl hl (by decide) rfl (fun ls hl => ?_)
  have hl : lv_has ls 4 [(2, .int z4), (0, .ref (a 1)), (1, .int x1)] := hl
  refine lv_iload_n hx hb d_Rc_chainOf_2 rfl (lv_at hl 2 rfl) ?_
  refine lv_istore_n hx hb d_Rc_chainOf_3 rfl hl (by decide) rfl (fun ls hl => ?_)
  have hl : lv_has ls 4 [(3, .int x1), (2, .int z4), (0, .ref (a 1)), (1, .int x1)] := hl
  exact lab4 _ _ _ _ _ _ _ hf hP hD hS (lv_sub hl [2, 3, 1, 0] rfl)
abbrev rm_Rc_chainOf_wanted : Room := { frames := 10, cells := 0, slots := 0, locals := 200 }
set_option maxRecDepth 100000 in
set_option maxHeartbeats 4000000 in
theorem c_Rc_chainOf_wanted (l : Launch) (D : va_G) (cI : ClassId) (a : Nat → Nat) (wr : St → va_W) (hwr : Fx 11 wr) (x1 : Int32) (σ : St) (Q : Int32 → St → Prop) (hf : F_Rc_chainOf_wanted x1 σ Q) : Ci l y_Rc_chainOf (.code y_Rc_chainOf b_Rc_chainOf 4 (some .int)) rm_Rc_chainOf_wanted D cI [.ref (a 7), .int x1] (wRc cI a wr) σ Q := by
  refine Ci.of (by decide +kernel) (Nat.le_of_ble_eq_true rfl) ?_
  intro p e s m below meth c ls A Z hx hb hml hown hts hok hP hD hA hl hend
  have S : CallFix p m c b_Rc_chainOf 4 s ([.ref (a 7), .int x1] : List Value).toArray lwg "PropertyTrie$Records" := ⟨hx, hb, hml, hown, hts⟩
  have hS : va_S A s.heap s.heap [] := va_S.rf
  have hl : lv_has ls 4 [(0, .ref (a 7)), (1, .int x1)] := hl
  unfold F_Rc_chainOf_wanted at hf
  have lab4 : ∀ (v1 v2 v3 : Int32) (σ : St) (H : Heap) (locs : List Loc) (ls : Array Slot), F_Rc_chainOf_wanted_L4 v1 v2 v3 σ Q → va_P D classes (wRc cI a wr σ) H → va_D A (wRc cI a wr σ) → va_S A s.heap H locs → lv_has ls 4 [(0, .ref (a 7)), (1, .int v1), (2, .int v2), (3, .int v3)] → W p l e rm_Rc_chainOf_wanted s m ([.ref (a 7), .int x1] : List Value).toArray below meth c H locs 0 0 Z (F0 m 4 ls []) := by
    intro v1 v2 v3 σ H locs ls hf hP hD hS hl
    unfold F_Rc_chainOf_wanted_L4 at hf
    obtain ⟨I4, m4, h0, hst4⟩ := hf
    have lp4 : ∀ (n : Nat) (v2 v3 : Int32) (σ : St) (H : Heap) (locs : List Loc) (ls : Array Slot), m4 v2 v3 σ = n → I4 v2 v3 σ → va_P D classes (wRc cI a wr σ) H → va_D A (wRc cI a wr σ) → va_S A s.heap H locs → lv_has ls 4 [(0, .ref (a 7)), (1, .int v1), (2, .int v2), (3, .int v3)] → W p l e rm_Rc_chainOf_wanted s m ([.ref (a 7), .int x1] : List Value).toArray below meth c H locs 0 0 Z (F0 m 4 ls []) := by
      intro n4
      induction n4 using Nat.strongRecOn with
      | _ n4 ih4 =>
        intro v2 v3 σ H locs ls hn hI hP hD hS hl
        have hf := hst4 v2 v3 σ n4 hI hn
        refine lv_iload_n hx hb d_Rc_chainOf_4 rfl (lv_at hl 3 rfl) ?_
        refine lv_iload_n hx hb d_Rc_chainOf_5 rfl (lv_at hl 1 rfl) ?_
        refine lv_bipush (v := (8 : Int32)) hx hb d_Rc_chainOf_6 (by decide) ?_
        refine lv_iadd hx hb d_Rc_chainOf_8 ?_
        refine lv_icmp_ge hx hb d_Rc_chainOf_9 rfl (fun hc => ?_) (fun hc => ?_)
        · have hf := hf.1 hc
          refine lv_iload_n hx hb d_Rc_chainOf_27 rfl (lv_at hl 2 rfl) ?_
          refine lv_iload_n hx hb d_Rc_chainOf_28 rfl (lv_at hl 2 rfl) ?_
          refine lv_bipush (v := (20 : Int32)) hx hb d_Rc_chainOf_29 (by decide) ?_
          refine lv_iushr hx hb d_Rc_chainOf_31 rfl ?_
          refine lv_iload_n hx hb d_Rc_chainOf_32 rfl (lv_at hl 2 rfl) ?_
          refine lv_bipush (v := (10 : Int32)) hx hb d_Rc_chainOf_33 (by decide) ?_
          refine lv_iushr hx hb d_Rc_chainOf_35 rfl ?_
          refine lv_ixor hx hb d_Rc_chainOf_36 ?_
          refine lv_ixor hx hb d_Rc_chainOf_37 ?_
          refine lv_topi (fun z1 hz1 => ?_)
          have hf := hf z1 hz1
          refine lv_istore_n hx hb d_Rc_chainOf_38 rfl hl (by decide) rfl (fun ls hl => ?_)
          have hl : lv_has ls 4 [(2, .int z1), (0, .ref (a 7)), (1, .int v1), (3, .int v3)] := hl
          refine lv_iload_n hx hb d_Rc_chainOf_39 rfl (lv_at hl 0 rfl) ?_
          refine lv_sipush (v := (1023 : Int32)) hx hb d_Rc_chainOf_40 (by decide) ?_
          refine lv_iand hx hb d_Rc_chainOf_43 ?_
          exact hend _ _ _ _ _ _ d_Rc_chainOf_44 rfl hf hP hD hS
        · have hf := hf.2 hc
          refine lv_bipush (v := (31 : Int32)) hx hb d_Rc_chainOf_12 (by decide) ?_
          refine lv_iload_n hx hb d_Rc_chainOf_14 rfl (lv_at hl 2 rfl) ?_
          refine lv_imul hx hb d_Rc_chainOf_15 ?_
          refine lv_aload_n hx hb d_Rc_chainOf_16 rfl (lv_at hl 0 rfl) ?_
          refine lv_iload_n hx hb d_Rc_chainOf_17 rfl (lv_at hl 3 rfl) ?_
          obtain ⟨hin, hf⟩ := hf
          refine rl_Rc_wanted S hok hP hin d_Rc_chainOf_18 ?_
          refine lv_iadd hx hb d_Rc_chainOf_19 ?_
          refine lv_topi (fun z2 hz2 => ?_)
          have hf := hf z2 hz2
          refine lv_istore_n hx hb d_Rc_chainOf_20 rfl hl (by decide) rfl (fun ls hl => ?_)
          have hl : lv_has ls 4 [(2, .int z2), (0, .ref (a 7)), (1, .int v1), (3, .int v3)] := hl
          obtain ⟨z3, hz3⟩ : ∃ z3 : Int32, z3 = v3 + (1 : Int32) := ⟨_, rfl⟩
          have hf := hf z3 hz3
          refine lv_iinc (k := 3) (v := z3) hx hb d_Rc_chainOf_21 hl rfl (by rw [hz3]; rfl) (by decide) rfl (fun ls hl => ?_)
          have hl : lv_has ls 4 [(3, .int z3), (2, .int z2), (0, .ref (a 7)), (1, .int v1)] := hl
          refine lv_goto hx hb d_Rc_chainOf_24 rfl ?_
          exact ih4 _ hf.2 _ _ _ _ _ _ rfl hf.1 hP hD hS (lv_sub hl [2, 3, 1, 0] rfl)
    exact lp4 _ v2 v3 σ H locs ls rfl h0 hP hD hS hl
  refine lv_iconst (v := (0 : Int32)) hx hb d_Rc_chainOf_0 (by decide) ?_
  refine lv_topi (fun z4 hz4 => ?_)
  have hf := hf z4 hz4
  refine lv_istore_n hx hb d_Rc_chainOf_1 rfl hl (by decide) rfl (fun ls hl => ?_)
  have hl : lv_has ls 4 [(2, .int z4), (0, .ref (a 7)), (1, .int x1)] := hl
  refine lv_iload_n hx hb d_Rc_chainOf_2 rfl (lv_at hl 2 rfl) ?_
  refine lv_istore_n hx hb d_Rc_chainOf_3 rfl hl (by decide) rfl (fun ls hl => ?_)
  have hl : lv_has ls 4 [(3, .int x1), (2, .int z4), (0, .ref (a 7)), (1, .int x1)] := hl
  exact lab4 _ _ _ _ _ _ _ hf hP hD hS (lv_sub hl [2, 3, 1, 0] rfl)
abbrev rm_Rc_value : Room := { frames := 10, cells := 0, slots := 0, locals := 200 }
set_option maxRecDepth 100000 in
set_option maxHeartbeats 4000000 in
theorem c_Rc_value (l : Launch) (D : va_G) (cI : ClassId) (a : Nat → Nat) (wr : St → va_W) (hwr : Fx 11 wr) (x1 : Int32) (x2 : Int32) (σ : St) (Q : Int32 → St → Prop) (hf : F_Rc_value x1 x2 σ Q) : Ci l y_Rc_value (.code y_Rc_value b_Rc_value 3 (some .int)) rm_Rc_value D cI [.ref (a 0), .int x1, .int x2] (wRc cI a wr) σ Q := by
  refine Ci.of (by decide +kernel) (Nat.le_of_ble_eq_true rfl) ?_
  intro p e s m below meth c ls A Z hx hb hml hown hts hok hP hD hA hl hend
  have S : CallFix p m c b_Rc_value 3 s ([.ref (a 0), .int x1, .int x2] : List Value).toArray lwg "PropertyTrie$Records" := ⟨hx, hb, hml, hown, hts⟩
  have hS : va_S A s.heap s.heap [] := va_S.rf
  have hl : lv_has ls 3 [(0, .ref (a 0)), (1, .int x1), (2, .int x2)] := hl
  unfold F_Rc_value at hf
  refine lv_aload_n hx hb d_Rc_value_0 rfl (lv_at hl 0 rfl) ?_
  refine rg_Rc_values S hok hP (hts _ k_fl_Rc_11) d_Rc_value_1 ?_
  refine lv_iload_n hx hb d_Rc_value_4 rfl (lv_at hl 1 rfl) ?_
  refine lv_bipush (v := (8 : Int32)) hx hb d_Rc_value_5 (by decide) ?_
  refine lv_imul hx hb d_Rc_value_7 ?_
  refine lv_iload_n hx hb d_Rc_value_8 rfl (lv_at hl 2 rfl) ?_
  refine lv_iadd hx hb d_Rc_value_9 ?_
  obtain ⟨hin, hf⟩ := hf
  refine rl_Rc_values S hok hP hin d_Rc_value_10 ?_
  exact hend _ _ _ _ _ _ d_Rc_value_11 rfl hf hP hD hS
abbrev rm_Rc_hold : Room := { frames := 10, cells := 0, slots := 0, locals := 200 }
set_option maxRecDepth 100000 in
set_option maxHeartbeats 4000000 in
theorem c_Rc_hold (l : Launch) (D : va_G) (cI : ClassId) (a : Nat → Nat) (wr : St → va_W) (hwr : Fx 11 wr) (x1 : Int32) (x2 : Int32) (σ : St) (Q : St → Prop) (hf : F_Rc_hold x1 x2 σ Q) : Cv l y_Rc_hold (.code y_Rc_hold b_Rc_hold 3 none) rm_Rc_hold D cI [.ref (a 0), .int x1, .int x2] (wRc cI a wr) σ Q := by
  refine Cv.of (by decide +kernel) (Nat.le_of_ble_eq_true rfl) ?_
  intro p e s m below meth c ls A Z hx hb hml hown hts hok hP hD hA hl hend
  have S : CallFix p m c b_Rc_hold 3 s ([.ref (a 0), .int x1, .int x2] : List Value).toArray lwg "PropertyTrie$Records" := ⟨hx, hb, hml, hown, hts⟩
  have hS : va_S A s.heap s.heap [] := va_S.rf
  have hl : lv_has ls 3 [(0, .ref (a 0)), (1, .int x1), (2, .int x2)] := hl
  unfold F_Rc_hold at hf
  refine lv_aload_n hx hb d_Rc_hold_0 rfl (lv_at hl 0 rfl) ?_
  refine rg_Rc_holders S hok hP (hts _ k_fl_Rc_15) d_Rc_hold_1 ?_
  refine lv_iload_n hx hb d_Rc_hold_4 rfl (lv_at hl 1 rfl) ?_
  refine lv_dup2_11 hx hb d_Rc_hold_5 rfl rfl ?_
  obtain ⟨hin, hf⟩ := hf
  refine rl_Rc_holders S hok hP hin d_Rc_hold_6 ?_
  refine lv_iload_n hx hb d_Rc_hold_7 rfl (lv_at hl 2 rfl) ?_
  refine lv_iadd hx hb d_Rc_hold_8 ?_
  obtain ⟨hin, hf⟩ := hf
  refine rs_Rc_holders S hok hwr hP hD hS hin d_Rc_hold_9 (fun σ1 H locs hσ1 hP hD hS => ?_)
  have hf := hf σ1 hσ1
  exact hend _ _ _ _ _ d_Rc_hold_10 hf hP hD hS
abbrev rm_Rc_isWanted : Room := { frames := 10, cells := 0, slots := 0, locals := 200 }
set_option maxRecDepth 100000 in
set_option maxHeartbeats 4000000 in
theorem c_Rc_isWanted (l : Launch) (D : va_G) (cI : ClassId) (a : Nat → Nat) (wr : St → va_W) (hwr : Fx 11 wr) (x1 : Int32) (σ : St) (Q : Int32 → St → Prop) (hf : F_Rc_isWanted x1 σ Q) : Ci l y_Rc_isWanted (.code y_Rc_isWanted b_Rc_isWanted 3 (some .boolean)) rm_Rc_isWanted D cI [.ref (a 0), .int x1] (wRc cI a wr) σ Q := by
  refine Ci.of (by decide +kernel) (Nat.le_of_ble_eq_true rfl) ?_
  intro p e s m below meth c ls A Z hx hb hml hown hts hok hP hD hA hl hend
  have S : CallFix p m c b_Rc_isWanted 3 s ([.ref (a 0), .int x1] : List Value).toArray lwg "PropertyTrie$Records" := ⟨hx, hb, hml, hown, hts⟩
  have hS : va_S A s.heap s.heap [] := va_S.rf
  have hl : lv_has ls 3 [(0, .ref (a 0)), (1, .int x1)] := hl
  unfold F_Rc_isWanted at hf
  have lab2 : ∀ (v1 v2 : Int32) (σ : St) (H : Heap) (locs : List Loc) (ls : Array Slot), F_Rc_isWanted_L2 v1 v2 σ Q → va_P D classes (wRc cI a wr σ) H → va_D A (wRc cI a wr σ) → va_S A s.heap H locs → lv_has ls 3 [(0, .ref (a 0)), (1, .int v1), (2, .int v2)] → W p l e rm_Rc_isWanted s m ([.ref (a 0), .int x1] : List Value).toArray below meth c H locs 0 0 Z (F0 m 2 ls []) := by
    intro v1 v2 σ H locs ls hf hP hD hS hl
    unfold F_Rc_isWanted_L2 at hf
    obtain ⟨I2, m2, h0, hst2⟩ := hf
    have lp2 : ∀ (n : Nat) (v2 : Int32) (σ : St) (H : Heap) (locs : List Loc) (ls : Array Slot), m2 v2 σ = n → I2 v2 σ → va_P D classes (wRc cI a wr σ) H → va_D A (wRc cI a wr σ) → va_S A s.heap H locs → lv_has ls 3 [(0, .ref (a 0)), (1, .int v1), (2, .int v2)] → W p l e rm_Rc_isWanted s m ([.ref (a 0), .int x1] : List Value).toArray below meth c H locs 0 0 Z (F0 m 2 ls []) := by
      intro n2
      induction n2 using Nat.strongRecOn with
      | _ n2 ih2 =>
        intro v2 σ H locs ls hn hI hP hD hS hl
        have hf := hst2 v2 σ n2 hI hn
        refine lv_iload_n hx hb d_Rc_isWanted_2 rfl (lv_at hl 2 rfl) ?_
        refine lv_bipush (v := (8 : Int32)) hx hb d_Rc_isWanted_3 (by decide) ?_
        refine lv_icmp_ge hx hb d_Rc_isWanted_5 rfl (fun hc => ?_) (fun hc => ?_)
        · have hf := hf.1 hc
          refine lv_iconst (v := (1 : Int32)) hx hb d_Rc_isWanted_36 (by decide) ?_
          exact hend _ _ _ _ _ _ d_Rc_isWanted_37 rfl hf hP hD hS
        · have hf := hf.2 hc
          refine lv_aload_n hx hb d_Rc_isWanted_8 rfl (lv_at hl 0 rfl) ?_
          refine rg_Rc_values S hok hP (hts _ k_fl_Rc_11) d_Rc_isWanted_9 ?_
          refine lv_iload_n hx hb d_Rc_isWanted_12 rfl (lv_at hl 1 rfl) ?_
          refine lv_bipush (v := (8 : Int32)) hx hb d_Rc_isWanted_13 (by decide) ?_
          refine lv_imul hx hb d_Rc_isWanted_15 ?_
          refine lv_iload_n hx hb d_Rc_isWanted_16 rfl (lv_at hl 2 rfl) ?_
          refine lv_iadd hx hb d_Rc_isWanted_17 ?_
          obtain ⟨hin, hf⟩ := hf
          refine rl_Rc_values S hok hP hin d_Rc_isWanted_18 ?_
          refine lv_aload_n hx hb d_Rc_isWanted_19 rfl (lv_at hl 0 rfl) ?_
          refine rg_Rc_wanted S hok hP (hts _ k_fl_Rc_30) d_Rc_isWanted_20 ?_
          refine lv_iload_n hx hb d_Rc_isWanted_23 rfl (lv_at hl 2 rfl) ?_
          obtain ⟨hin, hf⟩ := hf
          refine rl_Rc_wanted S hok hP hin d_Rc_isWanted_24 ?_
          refine lv_icmp_eq hx hb d_Rc_isWanted_25 rfl (fun hc => ?_) (fun hc => ?_)
          · have hf := hf.1 hc
            obtain ⟨z1, hz1⟩ : ∃ z1 : Int32, z1 = v2 + (1 : Int32) := ⟨_, rfl⟩
            have hf := hf z1 hz1
            refine lv_iinc (k := 2) (v := z1) hx hb d_Rc_isWanted_30 hl rfl (by rw [hz1]; rfl) (by decide) rfl (fun ls hl => ?_)
            have hl : lv_has ls 3 [(2, .int z1), (0, .ref (a 0)), (1, .int v1)] := hl
            refine lv_goto hx hb d_Rc_isWanted_33 rfl ?_
            exact ih2 _ hf.2 _ _ _ _ _ rfl hf.1 hP hD hS (lv_sub hl [1, 2, 0] rfl)
          · have hf := hf.2 hc
            refine lv_iconst (v := (0 : Int32)) hx hb d_Rc_isWanted_28 (by decide) ?_
            exact hend _ _ _ _ _ _ d_Rc_isWanted_29 rfl hf hP hD hS
    exact lp2 _ v2 σ H locs ls rfl h0 hP hD hS hl
  refine lv_iconst (v := (0 : Int32)) hx hb d_Rc_isWanted_0 (by decide) ?_
  refine lv_topi (fun z2 hz2 => ?_)
  have hf := hf z2 hz2
  refine lv_istore_n hx hb d_Rc_isWanted_1 rfl hl (by decide) rfl (fun ls hl => ?_)
  have hl : lv_has ls 3 [(2, .int z2), (0, .ref (a 0)), (1, .int x1)] := hl
  exact lab2 _ _ _ _ _ _ hf hP hD hS (lv_sub hl [1, 2, 0] rfl)
abbrev rm_Rc_findWanted : Room := { frames := 20, cells := 0, slots := 0, locals := 400 }
set_option maxRecDepth 100000 in
set_option maxHeartbeats 4000000 in
theorem c_Rc_findWanted (l : Launch) (D : va_G) (cI : ClassId) (a : Nat → Nat) (wr : St → va_W) (hwr : Fx 11 wr) (x1 : Int32) (σ : St) (Q : Int32 → St → Prop) (hf : F_Rc_findWanted x1 σ Q) : Ci l y_Rc_findWanted (.code y_Rc_findWanted b_Rc_findWanted 4 (some .int)) rm_Rc_findWanted D cI [.ref (a 0), .int x1] (wRc cI a wr) σ Q := by
  refine Ci.of (by decide +kernel) (Nat.le_of_ble_eq_true rfl) ?_
  intro p e s m below meth c ls A Z hx hb hml hown hts hok hP hD hA hl hend
  have S : CallFix p m c b_Rc_findWanted 4 s ([.ref (a 0), .int x1] : List Value).toArray lwg "PropertyTrie$Records" := ⟨hx, hb, hml, hown, hts⟩
  have hS : va_S A s.heap s.heap [] := va_S.rf
  have hl : lv_has ls 4 [(0, .ref (a 0)), (1, .int x1)] := hl
  unfold F_Rc_findWanted at hf
  have lab9 : ∀ (v2 v3 : Int32) (σ : St) (H : Heap) (locs : List Loc) (ls : Array Slot), F_Rc_findWanted_L9 v2 v3 σ Q → va_P D classes (wRc cI a wr σ) H → va_D A (wRc cI a wr σ) → va_S A s.heap H locs → lv_has ls 4 [(0, .ref (a 0)), (2, .int v2), (3, .int v3)] → W p l e rm_Rc_findWanted s m ([.ref (a 0), .int x1] : List Value).toArray below meth c H locs 0 0 Z (F0 m 9 ls []) := by
    intro v2 v3 σ H locs ls hf hP hD hS hl
    unfold F_Rc_findWanted_L9 at hf
    obtain ⟨I9, m9, h0, hst9⟩ := hf
    have lp9 : ∀ (n : Nat) (v2 v3 : Int32) (σ : St) (H : Heap) (locs : List Loc) (ls : Array Slot), m9 v2 v3 σ = n → I9 v2 v3 σ → va_P D classes (wRc cI a wr σ) H → va_D A (wRc cI a wr σ) → va_S A s.heap H locs → lv_has ls 4 [(0, .ref (a 0)), (2, .int v2), (3, .int v3)] → W p l e rm_Rc_findWanted s m ([.ref (a 0), .int x1] : List Value).toArray below meth c H locs 0 0 Z (F0 m 9 ls []) := by
      intro n9
      induction n9 using Nat.strongRecOn with
      | _ n9 ih9 =>
        intro v2 v3 σ H locs ls hn hI hP hD hS hl
        have hf := hst9 v2 v3 σ n9 hI hn
        refine lv_iload_n hx hb d_Rc_findWanted_9 rfl (lv_at hl 2 rfl) ?_
        refine lv_sipush (v := (1028 : Int32)) hx hb d_Rc_findWanted_10 (by decide) ?_
        refine lv_icmp_ge hx hb d_Rc_findWanted_13 rfl (fun hc => ?_) (fun hc => ?_)
        · have hf := hf.1 hc
          refine lv_iconst (v := (-1 : Int32)) hx hb d_Rc_findWanted_44 (by decide) ?_
          exact hend _ _ _ _ _ _ d_Rc_findWanted_45 rfl hf hP hD hS
        · have hf := hf.2 hc
          refine lv_iload_n hx hb d_Rc_findWanted_16 rfl (lv_at hl 1 rfl) ?_
          refine lv_iconst (v := (-1 : Int32)) hx hb d_Rc_findWanted_17 (by decide) ?_
          refine lv_icmp_eq hx hb d_Rc_findWanted_18 rfl (fun hc => ?_) (fun hc => ?_)
          · have hf := hf.1 hc
            refine lv_iconst (v := (-1 : Int32)) hx hb d_Rc_findWanted_44 (by decide) ?_
            exact hend _ _ _ _ _ _ d_Rc_findWanted_45 rfl hf hP hD hS
          · have hf := hf.2 hc
            refine lv_aload_n hx hb d_Rc_findWanted_21 rfl (lv_at hl 0 rfl) ?_
            refine lv_iload_n hx hb d_Rc_findWanted_22 rfl (lv_at hl 1 rfl) ?_
            refine r_callVi (As := [.int v2]) (rest := []) (n := 1) (q0 := 0) S hok (c_Rc_isWanted l D cI a wr hwr _ _ _ hf) k_ml_Rc_80 k_im_Rc_isWanted k_sel_Rc_isWanted k_ini_Rc k_code_Rc_isWanted rfl rfl (by decide +kernel) ⟨by decide, by decide⟩ rfl rfl hP hD hS hA (Nat.zero_le _) (Nat.zero_le _) hl.1 rfl rfl (Nat.le_of_ble_eq_true rfl) d_Rc_findWanted_23 (fun r2 σ1 H locs hf hP hD hS => ?_)
            have hP : va_P D classes (wRc cI a wr σ1) H := hP
            have hD : va_D A (wRc cI a wr σ1) := hD
            refine lv_if_eq hx hb d_Rc_findWanted_26 rfl (fun hc => ?_) (fun hc => ?_)
            · have hf := hf.1 hc
              refine lv_aload_n hx hb d_Rc_findWanted_31 rfl (lv_at hl 0 rfl) ?_
              refine rg_Rc_behind S hok hP (hts _ k_fl_Rc_24) d_Rc_findWanted_32 ?_
              refine lv_iload_n hx hb d_Rc_findWanted_35 rfl (lv_at hl 1 rfl) ?_
              obtain ⟨hin, hf⟩ := hf
              refine rl_Rc_behind S hok hP hin d_Rc_findWanted_36 ?_
              refine lv_topi (fun z3 hz3 => ?_)
              have hf := hf z3 hz3
              refine lv_istore_n hx hb d_Rc_findWanted_37 rfl hl (by decide) rfl (fun ls hl => ?_)
              have hl : lv_has ls 4 [(2, .int z3), (0, .ref (a 0)), (3, .int v3)] := hl
              obtain ⟨z4, hz4⟩ : ∃ z4 : Int32, z4 = v3 + (1 : Int32) := ⟨_, rfl⟩
              have hf := hf z4 hz4
              refine lv_iinc (k := 2) (v := z4) hx hb d_Rc_findWanted_38 hl rfl (by rw [hz4]; rfl) (by decide) rfl (fun ls hl => ?_)
              have hl : lv_has ls 4 [(3, .int z4), (2, .int z3), (0, .ref (a 0))] := hl
              refine lv_goto hx hb d_Rc_findWanted_41 rfl ?_
              exact ih9 _ hf.2 _ _ _ _ _ _ rfl hf.1 hP hD hS (lv_sub hl [2, 1, 0] rfl)
            · have hf := hf.2 hc
              refine lv_iload_n hx hb d_Rc_findWanted_29 rfl (lv_at hl 1 rfl) ?_
              exact hend _ _ _ _ _ _ d_Rc_findWanted_30 rfl hf hP hD hS
    exact lp9 _ v2 v3 σ H locs ls rfl h0 hP hD hS hl
  refine lv_aload_n hx hb d_Rc_findWanted_0 rfl (lv_at hl 0 rfl) ?_
  refine rg_Rc_heads S hok hP (hts _ k_fl_Rc_21) d_Rc_findWanted_1 ?_
  refine lv_iload_n hx hb d_Rc_findWanted_4 rfl (lv_at hl 1 rfl) ?_
  obtain ⟨hin, hf⟩ := hf
  refine rl_Rc_heads S hok hP hin d_Rc_findWanted_5 ?_
  refine lv_topi (fun z5 hz5 => ?_)
  have hf := hf z5 hz5
  refine lv_istore_n hx hb d_Rc_findWanted_6 rfl hl (by decide) rfl (fun ls hl => ?_)
  have hl : lv_has ls 4 [(2, .int z5), (0, .ref (a 0)), (1, .int x1)] := hl
  refine lv_iconst (v := (0 : Int32)) hx hb d_Rc_findWanted_7 (by decide) ?_
  refine lv_topi (fun z6 hz6 => ?_)
  have hf := hf z6 hz6
  refine lv_istore_n hx hb d_Rc_findWanted_8 rfl hl (by decide) rfl (fun ls hl => ?_)
  have hl : lv_has ls 4 [(3, .int z6), (2, .int z5), (0, .ref (a 0)), (1, .int x1)] := hl
  exact lab9 _ _ _ _ _ _ hf hP hD hS (lv_sub hl [2, 1, 0] rfl)
abbrev rm_Rc_keepWanted : Room := { frames := 10, cells := 0, slots := 0, locals := 200 }
set_option maxRecDepth 100000 in
set_option maxHeartbeats 4000000 in
theorem c_Rc_keepWanted (l : Launch) (D : va_G) (cI : ClassId) (a : Nat → Nat) (wr : St → va_W) (hwr : Fx 11 wr) (x1 : Int32) (σ : St) (Q : Int32 → St → Prop) (hf : F_Rc_keepWanted x1 σ Q) : Ci l y_Rc_keepWanted (.code y_Rc_keepWanted b_Rc_keepWanted 3 (some .int)) rm_Rc_keepWanted D cI [.ref (a 0), .int x1] (wRc cI a wr) σ Q := by
  refine Ci.of (by decide +kernel) (Nat.le_of_ble_eq_true rfl) ?_
  intro p e s m below meth c ls A Z hx hb hml hown hts hok hP hD hA hl hend
  have S : CallFix p m c b_Rc_keepWanted 3 s ([.ref (a 0), .int x1] : List Value).toArray lwg "PropertyTrie$Records" := ⟨hx, hb, hml, hown, hts⟩
  have hS : va_S A s.heap s.heap [] := va_S.rf
  have hl : lv_has ls 3 [(0, .ref (a 0)), (1, .int x1)] := hl
  unfold F_Rc_keepWanted at hf
  refine lv_aload_n hx hb d_Rc_keepWanted_0 rfl (lv_at hl 0 rfl) ?_
  refine lv_dup hx hb d_Rc_keepWanted_1 rfl ?_
  refine rg_Rc_spares S hok hP (hts _ k_fl_Rc_42) d_Rc_keepWanted_2 ?_
  refine lv_iconst (v := (1 : Int32)) hx hb d_Rc_keepWanted_5 (by decide) ?_
  refine lv_isub hx hb d_Rc_keepWanted_6 ?_
  refine rp_Rc_spares S hok hwr hP hD hS (hts _ k_fl_Rc_42) d_Rc_keepWanted_7 (fun σ1 H locs hσ1 hP hD hS => ?_)
  have hf := hf σ1 hσ1
  refine lv_aload_n hx hb d_Rc_keepWanted_10 rfl (lv_at hl 0 rfl) ?_
  refine rg_Rc_spareRecords S hok hP (hts _ k_fl_Rc_18) d_Rc_keepWanted_11 ?_
  refine lv_aload_n hx hb d_Rc_keepWanted_14 rfl (lv_at hl 0 rfl) ?_
  refine rg_Rc_spares S hok hP (hts _ k_fl_Rc_42) d_Rc_keepWanted_15 ?_
  obtain ⟨hin, hf⟩ := hf
  refine rl_Rc_spareRecords S hok hP hin d_Rc_keepWanted_18 ?_
  refine lv_topi (fun z2 hz2 => ?_)
  have hf := hf z2 hz2
  refine lv_istore_n hx hb d_Rc_keepWanted_19 rfl hl (by decide) rfl (fun ls hl => ?_)
  have hl : lv_has ls 3 [(2, .int z2), (0, .ref (a 0)), (1, .int x1)] := hl
  refine lv_aload_n hx hb d_Rc_keepWanted_20 rfl (lv_at hl 1 rfl) ?_
  refine rg_Rc_wanted S hok hP (hts _ k_fl_Rc_30) d_Rc_keepWanted_21 ?_
  refine lv_iconst (v := (0 : Int32)) hx hb d_Rc_keepWanted_24 (by decide) ?_
  refine lv_aload_n hx hb d_Rc_keepWanted_25 rfl (lv_at hl 1 rfl) ?_
  refine rg_Rc_values S hok hP (hts _ k_fl_Rc_11) d_Rc_keepWanted_26 ?_
  refine lv_iload_n hx hb d_Rc_keepWanted_29 rfl (lv_at hl 0 rfl) ?_
  refine lv_bipush (v := (8 : Int32)) hx hb d_Rc_keepWanted_30 (by decide) ?_
  refine lv_imul hx hb d_Rc_keepWanted_32 ?_
  refine lv_bipush (v := (8 : Int32)) hx hb d_Rc_keepWanted_33 (by decide) ?_
  obtain ⟨h1, h2, h3, h4, h5, hf⟩ := hf
  refine rc_Rc_wanted_values S hok hwr hP hD hS (hts _ k_ml_Rc_71) (hml.trans hl.1.symm) h1 h2 h3 h4 h5 (Nat.le_of_ble_eq_true rfl) (Nat.le_of_ble_eq_true rfl) d_Rc_keepWanted_35 (fun σ3 H locs hσ3 hP hD hS => ?_)
  have hf := hf σ3 hσ3
  refine lv_aload_n hx hb d_Rc_keepWanted_38 rfl (lv_at hl 1 rfl) ?_
  refine rg_Rc_behind S hok hP (hts _ k_fl_Rc_24) d_Rc_keepWanted_39 ?_
  refine lv_iload_n hx hb d_Rc_keepWanted_42 rfl (lv_at hl 0 rfl) ?_
  refine lv_aload_n hx hb d_Rc_keepWanted_43 rfl (lv_at hl 1 rfl) ?_
  refine rg_Rc_heads S hok hP (hts _ k_fl_Rc_21) d_Rc_keepWanted_44 ?_
  refine lv_iload_n hx hb d_Rc_keepWanted_47 rfl (lv_at hl 2 rfl) ?_
  obtain ⟨hin, hf⟩ := hf
  refine rl_Rc_heads S hok hP hin d_Rc_keepWanted_48 ?_
  obtain ⟨hin, hf⟩ := hf
  refine rs_Rc_behind S hok hwr hP hD hS hin d_Rc_keepWanted_49 (fun σ4 H locs hσ4 hP hD hS => ?_)
  have hf := hf σ4 hσ4
  refine lv_aload_n hx hb d_Rc_keepWanted_50 rfl (lv_at hl 1 rfl) ?_
  refine rg_Rc_heads S hok hP (hts _ k_fl_Rc_21) d_Rc_keepWanted_51 ?_
  refine lv_iload_n hx hb d_Rc_keepWanted_54 rfl (lv_at hl 2 rfl) ?_
  refine lv_iload_n hx hb d_Rc_keepWanted_55 rfl (lv_at hl 0 rfl) ?_
  obtain ⟨hin, hf⟩ := hf
  refine rs_Rc_heads S hok hwr hP hD hS hin d_Rc_keepWanted_56 (fun σ5 H locs hσ5 hP hD hS => ?_)
  have hf := hf σ5 hσ5
  refine lv_iload_n hx hb d_Rc_keepWanted_57 rfl (lv_at hl 0 rfl) ?_
  exact hend _ _ _ _ _ _ d_Rc_keepWanted_58 rfl hf hP hD hS
abbrev rm_Rc_drop : Room := { frames := 20, cells := 0, slots := 0, locals := 400 }
set_option maxRecDepth 100000 in
set_option maxHeartbeats 4000000 in
theorem c_Rc_drop (l : Launch) (D : va_G) (cI : ClassId) (a : Nat → Nat) (wr : St → va_W) (hwr : Fx 11 wr) (x1 : Int32) (σ : St) (Q : St → Prop) (hf : F_Rc_drop x1 σ Q) : Cv l y_Rc_drop (.code y_Rc_drop b_Rc_drop 6 none) rm_Rc_drop D cI [.ref (a 0), .int x1] (wRc cI a wr) σ Q := by
  refine Cv.of (by decide +kernel) (Nat.le_of_ble_eq_true rfl) ?_
  intro p e s m below meth c ls A Z hx hb hml hown hts hok hP hD hA hl hend
  have S : CallFix p m c b_Rc_drop 6 s ([.ref (a 0), .int x1] : List Value).toArray lwg "PropertyTrie$Records" := ⟨hx, hb, hml, hown, hts⟩
  have hS : va_S A s.heap s.heap [] := va_S.rf
  have hl : lv_has ls 6 [(0, .ref (a 0)), (1, .int x1)] := hl
  unfold F_Rc_drop at hf
  have lab95 : ∀ (v1 : Int32) (σ : St) (H : Heap) (locs : List Loc) (ls : Array Slot), F_Rc_drop_J95 v1 σ Q → va_P D classes (wRc cI a wr σ) H → va_D A (wRc cI a wr σ) → va_S A s.heap H locs → lv_has ls 6 [(0, .ref (a 0)), (1, .int v1)] → W p l e rm_Rc_drop s m ([.ref (a 0), .int x1] : List Value).toArray below meth c H locs 0 0 Z (F0 m 95 ls []) := by
    intro v1 σ H locs ls hf hP hD hS hl
    unfold F_Rc_drop_J95 at hf
    refine lv_aload_n hx hb d_Rc_drop_95 rfl (lv_at hl 0 rfl) ?_
    refine rg_Rc_spareRecords S hok hP (hts _ k_fl_Rc_18) d_Rc_drop_96 ?_
    refine lv_aload_n hx hb d_Rc_drop_99 rfl (lv_at hl 0 rfl) ?_
    refine rg_Rc_spares S hok hP (hts _ k_fl_Rc_42) d_Rc_drop_100 ?_
    refine lv_iload_n hx hb d_Rc_drop_103 rfl (lv_at hl 1 rfl) ?_
    obtain ⟨hin, hf⟩ := hf
    refine rs_Rc_spareRecords S hok hwr hP hD hS hin d_Rc_drop_104 (fun σ1 H locs hσ1 hP hD hS => ?_)
    have hf := hf σ1 hσ1
    refine lv_aload_n hx hb d_Rc_drop_105 rfl (lv_at hl 0 rfl) ?_
    refine lv_dup hx hb d_Rc_drop_106 rfl ?_
    refine rg_Rc_spares S hok hP (hts _ k_fl_Rc_42) d_Rc_drop_107 ?_
    refine lv_iconst (v := (1 : Int32)) hx hb d_Rc_drop_110 (by decide) ?_
    refine lv_iadd hx hb d_Rc_drop_111 ?_
    refine rp_Rc_spares S hok hwr hP hD hS (hts _ k_fl_Rc_42) d_Rc_drop_112 (fun σ2 H locs hσ2 hP hD hS => ?_)
    have hf := hf σ2 hσ2
    exact hend _ _ _ _ _ d_Rc_drop_115 hf hP hD hS
  have lab63 : ∀ (v1 v2 v3 : Int32) (σ : St) (H : Heap) (locs : List Loc) (ls : Array Slot), F_Rc_drop_J63 v1 v2 v3 σ Q → va_P D classes (wRc cI a wr σ) H → va_D A (wRc cI a wr σ) → va_S A s.heap H locs → lv_has ls 6 [(0, .ref (a 0)), (1, .int v1), (2, .int v2), (3, .int v3)] → W p l e rm_Rc_drop s m ([.ref (a 0), .int x1] : List Value).toArray below meth c H locs 0 0 Z (F0 m 63 ls []) := by
    intro v1 v2 v3 σ H locs ls hf hP hD hS hl
    unfold F_Rc_drop_J63 at hf
    refine lv_iload_n hx hb d_Rc_drop_63 rfl (lv_at hl 3 rfl) ?_
    refine lv_iconst (v := (-1 : Int32)) hx hb d_Rc_drop_64 (by decide) ?_
    refine lv_icmp_ne hx hb d_Rc_drop_65 rfl (fun hc => ?_) (fun hc => ?_)
    · have hf := hf.2 hc
      refine lv_aload_n hx hb d_Rc_drop_83 rfl (lv_at hl 0 rfl) ?_
      refine rg_Rc_behind S hok hP (hts _ k_fl_Rc_24) d_Rc_drop_84 ?_
      refine lv_iload_n hx hb d_Rc_drop_87 rfl (lv_at hl 3 rfl) ?_
      refine lv_aload_n hx hb d_Rc_drop_88 rfl (lv_at hl 0 rfl) ?_
      refine rg_Rc_behind S hok hP (hts _ k_fl_Rc_24) d_Rc_drop_89 ?_
      refine lv_iload_n hx hb d_Rc_drop_92 rfl (lv_at hl 1 rfl) ?_
      obtain ⟨hin, hf⟩ := hf
      refine rl_Rc_behind S hok hP hin d_Rc_drop_93 ?_
      obtain ⟨hin, hf⟩ := hf
      refine rs_Rc_behind S hok hwr hP hD hS hin d_Rc_drop_94 (fun σ3 H locs hσ3 hP hD hS => ?_)
      have hf := hf σ3 hσ3
      exact lab95 _ _ _ _ _ hf hP hD hS (lv_sub hl [0, 1] rfl)
    · have hf := hf.1 hc
      refine lv_aload_n hx hb d_Rc_drop_68 rfl (lv_at hl 0 rfl) ?_
      refine rg_Rc_heads S hok hP (hts _ k_fl_Rc_21) d_Rc_drop_69 ?_
      refine lv_iload_n hx hb d_Rc_drop_72 rfl (lv_at hl 2 rfl) ?_
      refine lv_aload_n hx hb d_Rc_drop_73 rfl (lv_at hl 0 rfl) ?_
      refine rg_Rc_behind S hok hP (hts _ k_fl_Rc_24) d_Rc_drop_74 ?_
      refine lv_iload_n hx hb d_Rc_drop_77 rfl (lv_at hl 1 rfl) ?_
      obtain ⟨hin, hf⟩ := hf
      refine rl_Rc_behind S hok hP hin d_Rc_drop_78 ?_
      obtain ⟨hin, hf⟩ := hf
      refine rs_Rc_heads S hok hwr hP hD hS hin d_Rc_drop_79 (fun σ4 H locs hσ4 hP hD hS => ?_)
      have hf := hf σ4 hσ4
      refine lv_goto hx hb d_Rc_drop_80 rfl ?_
      exact lab95 _ _ _ _ _ hf hP hD hS (lv_sub hl [0, 1] rfl)
  have lab25 : ∀ (v1 v2 v3 v4 v5 : Int32) (σ : St) (H : Heap) (locs : List Loc) (ls : Array Slot), F_Rc_drop_L25 v1 v2 v3 v4 v5 σ Q → va_P D classes (wRc cI a wr σ) H → va_D A (wRc cI a wr σ) → va_S A s.heap H locs → lv_has ls 6 [(0, .ref (a 0)), (1, .int v1), (2, .int v2), (3, .int v3), (4, .int v4), (5, .int v5)] → W p l e rm_Rc_drop s m ([.ref (a 0), .int x1] : List Value).toArray below meth c H locs 0 0 Z (F0 m 25 ls []) := by
    intro v1 v2 v3 v4 v5 σ H locs ls hf hP hD hS hl
    unfold F_Rc_drop_L25 at hf
    obtain ⟨I25, m25, h0, hst25⟩ := hf
    have lp25 : ∀ (n : Nat) (v3 v4 v5 : Int32) (σ : St) (H : Heap) (locs : List Loc) (ls : Array Slot), m25 v3 v4 v5 σ = n → I25 v3 v4 v5 σ → va_P D classes (wRc cI a wr σ) H → va_D A (wRc cI a wr σ) → va_S A s.heap H locs → lv_has ls 6 [(0, .ref (a 0)), (1, .int v1), (2, .int v2), (3, .int v3), (4, .int v4), (5, .int v5)] → W p l e rm_Rc_drop s m ([.ref (a 0), .int x1] : List Value).toArray below meth c H locs 0 0 Z (F0 m 25 ls []) := by
      intro n25
      induction n25 using Nat.strongRecOn with
      | _ n25 ih25 =>
        intro v3 v4 v5 σ H locs ls hn hI hP hD hS hl
        have hf := hst25 v3 v4 v5 σ n25 hI hn
        refine lv_iload hx hb d_Rc_drop_25 (lv_at hl 5 rfl) ?_
        refine lv_sipush (v := (1028 : Int32)) hx hb d_Rc_drop_27 (by decide) ?_
        refine lv_icmp_ge hx hb d_Rc_drop_30 rfl (fun hc => ?_) (fun hc => ?_)
        · have hf := hf.1 hc
          exact lab63 _ _ _ _ _ _ _ hf hP hD hS (lv_sub hl [0, 1, 2, 3] rfl)
        · have hf := hf.2 hc
          refine lv_iload hx hb d_Rc_drop_33 (lv_at hl 4 rfl) ?_
          refine lv_iconst (v := (-1 : Int32)) hx hb d_Rc_drop_35 (by decide) ?_
          refine lv_icmp_eq hx hb d_Rc_drop_36 rfl (fun hc => ?_) (fun hc => ?_)
          · have hf := hf.1 hc
            exact lab63 _ _ _ _ _ _ _ hf hP hD hS (lv_sub hl [0, 1, 2, 3] rfl)
          · have hf := hf.2 hc
            refine lv_iload hx hb d_Rc_drop_39 (lv_at hl 4 rfl) ?_
            refine lv_iload_n hx hb d_Rc_drop_41 rfl (lv_at hl 1 rfl) ?_
            refine lv_icmp_eq hx hb d_Rc_drop_42 rfl (fun hc => ?_) (fun hc => ?_)
            · have hf := hf.1 hc
              exact lab63 _ _ _ _ _ _ _ hf hP hD hS (lv_sub hl [0, 1, 2, 3] rfl)
            · have hf := hf.2 hc
              refine lv_iload hx hb d_Rc_drop_45 (lv_at hl 4 rfl) ?_
              refine lv_istore_n hx hb d_Rc_drop_47 rfl hl (by decide) rfl (fun ls hl => ?_)
              have hl : lv_has ls 6 [(3, .int v4), (0, .ref (a 0)), (1, .int v1), (2, .int v2), (4, .int v4), (5, .int v5)] := hl
              refine lv_aload_n hx hb d_Rc_drop_48 rfl (lv_at hl 1 rfl) ?_
              refine rg_Rc_behind S hok hP (hts _ k_fl_Rc_24) d_Rc_drop_49 ?_
              refine lv_iload hx hb d_Rc_drop_52 (lv_at hl 4 rfl) ?_
              obtain ⟨hin, hf⟩ := hf
              refine rl_Rc_behind S hok hP hin d_Rc_drop_54 ?_
              refine lv_topi (fun z5 hz5 => ?_)
              have hf := hf z5 hz5
              refine lv_istore hx hb d_Rc_drop_55 hl (by decide) rfl (fun ls hl => ?_)
              have hl : lv_has ls 6 [(4, .int z5), (3, .int v4), (0, .ref (a 0)), (1, .int v1), (2, .int v2), (5, .int v5)] := hl
              obtain ⟨z6, hz6⟩ : ∃ z6 : Int32, z6 = v5 + (1 : Int32) := ⟨_, rfl⟩
              have hf := hf z6 hz6
              refine lv_iinc (k := 5) (v := z6) hx hb d_Rc_drop_57 hl rfl (by rw [hz6]; rfl) (by decide) rfl (fun ls hl => ?_)
              have hl : lv_has ls 6 [(5, .int z6), (4, .int z5), (3, .int v4), (0, .ref (a 0)), (1, .int v1), (2, .int v2)] := hl
              refine lv_goto hx hb d_Rc_drop_60 rfl ?_
              exact ih25 _ hf.2 _ _ _ _ _ _ _ rfl hf.1 hP hD hS (lv_sub hl [3, 4, 5, 2, 1, 0] rfl)
    exact lp25 _ v3 v4 v5 σ H locs ls rfl h0 hP hD hS hl
  refine lv_aload_n hx hb d_Rc_drop_0 rfl (lv_at hl 0 rfl) ?_
  refine rg_Rc_values S hok hP (hts _ k_fl_Rc_11) d_Rc_drop_1 ?_
  refine lv_iload_n hx hb d_Rc_drop_4 rfl (lv_at hl 1 rfl) ?_
  refine lv_bipush (v := (8 : Int32)) hx hb d_Rc_drop_5 (by decide) ?_
  refine lv_imul hx hb d_Rc_drop_7 ?_
  refine r_callSi (As := [.ref (a 1), .int (x1 * (8 : Int32))]) (rest := []) (n := 2) S hok (c_Rc_chainOf_values l D cI a wr hwr _ _ _ hf) k_ml_Rc_46 k_st_Rc_chainOf k_ini_Rc k_code_Rc_chainOf rfl rfl (by decide +kernel) ⟨by decide, by decide⟩ hP hD hS hA (Nat.zero_le _) (Nat.zero_le _) hl.1 rfl rfl (Nat.le_of_ble_eq_true rfl) d_Rc_drop_8 (fun r8 σ7 H locs hf hP hD hS => ?_)
  have hP : va_P D classes (wRc cI a wr σ7) H := hP
  have hD : va_D A (wRc cI a wr σ7) := hD
  refine lv_istore_n hx hb d_Rc_drop_11 rfl hl (by decide) rfl (fun ls hl => ?_)
  have hl : lv_has ls 6 [(2, .int r8), (0, .ref (a 0)), (1, .int x1)] := hl
  refine lv_iconst (v := (-1 : Int32)) hx hb d_Rc_drop_12 (by decide) ?_
  refine lv_topi (fun z9 hz9 => ?_)
  have hf := hf z9 hz9
  refine lv_istore_n hx hb d_Rc_drop_13 rfl hl (by decide) rfl (fun ls hl => ?_)
  have hl : lv_has ls 6 [(3, .int z9), (2, .int r8), (0, .ref (a 0)), (1, .int x1)] := hl
  refine lv_aload_n hx hb d_Rc_drop_14 rfl (lv_at hl 2 rfl) ?_
  refine rg_Rc_heads S hok hP (hts _ k_fl_Rc_21) d_Rc_drop_15 ?_
  refine lv_iload_n hx hb d_Rc_drop_18 rfl (lv_at hl 1 rfl) ?_
  obtain ⟨hin, hf⟩ := hf
  refine rl_Rc_heads S hok hP hin d_Rc_drop_19 ?_
  refine lv_topi (fun z10 hz10 => ?_)
  have hf := hf z10 hz10
  refine lv_istore hx hb d_Rc_drop_20 hl (by decide) rfl (fun ls hl => ?_)
  have hl : lv_has ls 6 [(4, .int z10), (3, .int z9), (2, .int r8), (0, .ref (a 0)), (1, .int x1)] := hl
  refine lv_iconst (v := (0 : Int32)) hx hb d_Rc_drop_22 (by decide) ?_
  refine lv_topi (fun z11 hz11 => ?_)
  have hf := hf z11 hz11
  refine lv_istore hx hb d_Rc_drop_23 hl (by decide) rfl (fun ls hl => ?_)
  have hl : lv_has ls 6 [(5, .int z11), (4, .int z10), (3, .int z9), (2, .int r8), (0, .ref (a 0)), (1, .int x1)] := hl
  exact lab25 _ _ _ _ _ _ _ _ _ hf hP hD hS (lv_sub hl [4, 5, 3, 2, 1, 0] rfl)
abbrev rm_Rc_release : Room := { frames := 30, cells := 0, slots := 0, locals := 600 }
set_option maxRecDepth 100000 in
set_option maxHeartbeats 4000000 in
theorem c_Rc_release (l : Launch) (D : va_G) (cI : ClassId) (a : Nat → Nat) (wr : St → va_W) (hwr : Fx 11 wr) (x1 : Int32) (x2 : Int32) (σ : St) (Q : St → Prop) (hf : F_Rc_release x1 x2 σ Q) : Cv l y_Rc_release (.code y_Rc_release b_Rc_release 3 none) rm_Rc_release D cI [.ref (a 0), .int x1, .int x2] (wRc cI a wr) σ Q := by
  refine Cv.of (by decide +kernel) (Nat.le_of_ble_eq_true rfl) ?_
  intro p e s m below meth c ls A Z hx hb hml hown hts hok hP hD hA hl hend
  have S : CallFix p m c b_Rc_release 3 s ([.ref (a 0), .int x1, .int x2] : List Value).toArray lwg "PropertyTrie$Records" := ⟨hx, hb, hml, hown, hts⟩
  have hS : va_S A s.heap s.heap [] := va_S.rf
  have hl : lv_has ls 3 [(0, .ref (a 0)), (1, .int x1), (2, .int x2)] := hl
  unfold F_Rc_release at hf
  refine lv_aload_n hx hb d_Rc_release_0 rfl (lv_at hl 0 rfl) ?_
  refine rg_Rc_holders S hok hP (hts _ k_fl_Rc_15) d_Rc_release_1 ?_
  refine lv_iload_n hx hb d_Rc_release_4 rfl (lv_at hl 1 rfl) ?_
  refine lv_dup2_11 hx hb d_Rc_release_5 rfl rfl ?_
  obtain ⟨hin, hf⟩ := hf
  refine rl_Rc_holders S hok hP hin d_Rc_release_6 ?_
  refine lv_iload_n hx hb d_Rc_release_7 rfl (lv_at hl 2 rfl) ?_
  refine lv_isub hx hb d_Rc_release_8 ?_
  obtain ⟨hin, hf⟩ := hf
  refine rs_Rc_holders S hok hwr hP hD hS hin d_Rc_release_9 (fun σ1 H locs hσ1 hP hD hS => ?_)
  have hf := hf σ1 hσ1
  refine lv_aload_n hx hb d_Rc_release_10 rfl (lv_at hl 0 rfl) ?_
  refine rg_Rc_holders S hok hP (hts _ k_fl_Rc_15) d_Rc_release_11 ?_
  refine lv_iload_n hx hb d_Rc_release_14 rfl (lv_at hl 1 rfl) ?_
  obtain ⟨hin, hf⟩ := hf
  refine rl_Rc_holders S hok hP hin d_Rc_release_15 ?_
  refine lv_if_ne hx hb d_Rc_release_16 rfl (fun hc => ?_) (fun hc => ?_)
  · have hf := hf.2 hc
    exact hend _ _ _ _ _ d_Rc_release_24 hf hP hD hS
  · have hf := hf.1 hc
    refine lv_aload_n hx hb d_Rc_release_19 rfl (lv_at hl 0 rfl) ?_
    refine lv_iload_n hx hb d_Rc_release_20 rfl (lv_at hl 1 rfl) ?_
    refine r_callVv (As := [.int x1]) (rest := []) (n := 1) (q0 := 0) S hok (c_Rc_drop l D cI a wr hwr _ _ _ hf) k_ml_Rc_58 k_im_Rc_drop k_sel_Rc_drop k_ini_Rc k_code_Rc_drop rfl rfl (by decide +kernel) ⟨by decide, by decide⟩ rfl rfl hP hD hS hA (Nat.zero_le _) (Nat.zero_le _) hl.1 rfl rfl (Nat.le_of_ble_eq_true rfl) d_Rc_release_21 (fun σ2 H locs hf hP hD hS => ?_)
    have hP : va_P D classes (wRc cI a wr σ2) H := hP
    have hD : va_D A (wRc cI a wr σ2) := hD
    exact hend _ _ _ _ _ d_Rc_release_24 hf hP hD hS
abbrev rm_Rc_begin : Room := { frames := 20, cells := 0, slots := 0, locals := 400 }
set_option maxRecDepth 100000 in
set_option maxHeartbeats 4000000 in
theorem c_Rc_begin (l : Launch) (D : va_G) (cI : ClassId) (a : Nat → Nat) (wr : St → va_W) (hwr : Fx 11 wr) (x1 : Int32) (x2 : Int32) (x3 : Int32) (σ : St) (Q : St → Prop) (hf : F_Rc_begin x1 x2 x3 σ Q) : Cv l y_Rc_begin (.code y_Rc_begin b_Rc_begin 4 none) rm_Rc_begin D cI [.ref (a 0), .int x1, .int x2, .int x3] (wRc cI a wr) σ Q := by
  refine Cv.of (by decide +kernel) (Nat.le_of_ble_eq_true rfl) ?_
  intro p e s m below meth c ls A Z hx hb hml hown hts hok hP hD hA hl hend
  have S : CallFix p m c b_Rc_begin 4 s ([.ref (a 0), .int x1, .int x2, .int x3] : List Value).toArray lwg "PropertyTrie$Records" := ⟨hx, hb, hml, hown, hts⟩
  have hS : va_S A s.heap s.heap [] := va_S.rf
  have hl : lv_has ls 4 [(0, .ref (a 0)), (1, .int x1), (2, .int x2), (3, .int x3)] := hl
  unfold F_Rc_begin at hf
  refine lv_aload_n hx hb d_Rc_begin_0 rfl (lv_at hl 0 rfl) ?_
  refine lv_iload_n hx hb d_Rc_begin_1 rfl (lv_at hl 1 rfl) ?_
  refine rp_Rc_field S hok hwr hP hD hS (hts _ k_fl_Rc_62) d_Rc_begin_2 (fun σ1 H locs hσ1 hP hD hS => ?_)
  have hf := hf σ1 hσ1
  refine lv_aload_n hx hb d_Rc_begin_5 rfl (lv_at hl 0 rfl) ?_
  refine lv_iload_n hx hb d_Rc_begin_6 rfl (lv_at hl 2 rfl) ?_
  refine rp_Rc_v S hok hwr hP hD hS (hts _ k_fl_Rc_65) d_Rc_begin_7 (fun σ2 H locs hσ2 hP hD hS => ?_)
  have hf := hf σ2 hσ2
  refine lv_aload_n hx hb d_Rc_begin_10 rfl (lv_at hl 0 rfl) ?_
  refine lv_iload_n hx hb d_Rc_begin_11 rfl (lv_at hl 3 rfl) ?_
  refine rp_Rc_kept S hok hwr hP hD hS (hts _ k_fl_Rc_68) d_Rc_begin_12 (fun σ3 H locs hσ3 hP hD hS => ?_)
  have hf := hf σ3 hσ3
  refine lv_aload_n hx hb d_Rc_begin_15 rfl (lv_at hl 0 rfl) ?_
  refine rg_Rc_outcome S hok hP (hts _ k_fl_Rc_27) d_Rc_begin_16 ?_
  refine lv_iconst (v := (-1 : Int32)) hx hb d_Rc_begin_19 (by decide) ?_
  refine r_callSv (As := [.ref (a 6), .int (-1 : Int32)]) (rest := []) (n := 2) S hok (c_Ar_fill2_outcome l D cI a wr hwr _ _ _ hf) k_ml_Rc_36 k_st_Ar_fill2 k_ini_Ar k_code_Ar_fill2 rfl rfl (by decide +kernel) ⟨by decide, by decide⟩ hP hD hS hA (Nat.zero_le _) (Nat.zero_le _) hl.1 rfl rfl (Nat.le_of_ble_eq_true rfl) d_Rc_begin_20 (fun σ4 H locs hf hP hD hS => ?_)
  have hP : va_P D classes (wRc cI a wr σ4) H := hP
  have hD : va_D A (wRc cI a wr σ4) := hD
  exact hend _ _ _ _ _ d_Rc_begin_23 hf hP hD hS
abbrev rm_Rc_altered : Room := { frames := 30, cells := 0, slots := 0, locals := 600 }
set_option maxRecDepth 100000 in
set_option maxHeartbeats 4000000 in
theorem c_Rc_altered (l : Launch) (D : va_G) (cI : ClassId) (a : Nat → Nat) (wr : St → va_W) (hwr : Fx 11 wr) (x1 : Int32) (σ : St) (Q : Int32 → St → Prop) (hf : F_Rc_altered x1 σ Q) : Ci l y_Rc_altered (.code y_Rc_altered b_Rc_altered 4 (some .int)) rm_Rc_altered D cI [.ref (a 0), .int x1] (wRc cI a wr) σ Q := by
  refine Ci.of (by decide +kernel) (Nat.le_of_ble_eq_true rfl) ?_
  intro p e s m below meth c ls A Z hx hb hml hown hts hok hP hD hA hl hend
  have S : CallFix p m c b_Rc_altered 4 s ([.ref (a 0), .int x1] : List Value).toArray lwg "PropertyTrie$Records" := ⟨hx, hb, hml, hown, hts⟩
  have hS : va_S A s.heap s.heap [] := va_S.rf
  have hl : lv_has ls 4 [(0, .ref (a 0)), (1, .int x1)] := hl
  unfold F_Rc_altered at hf
  have lab93 : ∀ (v1 v3 : Int32) (σ : St) (H : Heap) (locs : List Loc) (ls : Array Slot), F_Rc_altered_J93 v1 v3 σ Q → va_P D classes (wRc cI a wr σ) H → va_D A (wRc cI a wr σ) → va_S A s.heap H locs → lv_has ls 4 [(0, .ref (a 0)), (1, .int v1), (3, .int v3)] → W p l e rm_Rc_altered s m ([.ref (a 0), .int x1] : List Value).toArray below meth c H locs 0 0 Z (F0 m 93 ls []) := by
    intro v1 v3 σ H locs ls hf hP hD hS hl
    unfold F_Rc_altered_J93 at hf
    refine lv_aload_n hx hb d_Rc_altered_93 rfl (lv_at hl 0 rfl) ?_
    refine rg_Rc_outcome S hok hP (hts _ k_fl_Rc_27) d_Rc_altered_94 ?_
    refine lv_iload_n hx hb d_Rc_altered_97 rfl (lv_at hl 1 rfl) ?_
    refine lv_iload_n hx hb d_Rc_altered_98 rfl (lv_at hl 2 rfl) ?_
    obtain ⟨hin, hf⟩ := hf
    refine rs_Rc_outcome S hok hwr hP hD hS hin d_Rc_altered_99 (fun σ1 H locs hσ1 hP hD hS => ?_)
    have hf := hf σ1 hσ1
    refine lv_aload_n hx hb d_Rc_altered_100 rfl (lv_at hl 0 rfl) ?_
    refine rg_Rc_outcome S hok hP (hts _ k_fl_Rc_27) d_Rc_altered_101 ?_
    refine lv_iload_n hx hb d_Rc_altered_104 rfl (lv_at hl 1 rfl) ?_
    obtain ⟨hin, hf⟩ := hf
    refine rl_Rc_outcome S hok hP hin d_Rc_altered_105 ?_
    exact hend _ _ _ _ _ _ d_Rc_altered_106 rfl hf hP hD hS
  refine lv_aload_n hx hb d_Rc_altered_0 rfl (lv_at hl 0 rfl) ?_
  refine rg_Rc_outcome S hok hP (hts _ k_fl_Rc_27) d_Rc_altered_1 ?_
  refine lv_iload_n hx hb d_Rc_altered_4 rfl (lv_at hl 1 rfl) ?_
  obtain ⟨hin, hf⟩ := hf
  refine rl_Rc_outcome S hok hP hin d_Rc_altered_5 ?_
  refine lv_iconst (v := (-1 : Int32)) hx hb d_Rc_altered_6 (by decide) ?_
  refine lv_icmp_ne hx hb d_Rc_altered_7 rfl (fun hc => ?_) (fun hc => ?_)
  · have hf := hf.2 hc
    refine lv_aload_n hx hb d_Rc_altered_100 rfl (lv_at hl 0 rfl) ?_
    refine rg_Rc_outcome S hok hP (hts _ k_fl_Rc_27) d_Rc_altered_101 ?_
    refine lv_iload_n hx hb d_Rc_altered_104 rfl (lv_at hl 1 rfl) ?_
    obtain ⟨hin, hf⟩ := hf
    refine rl_Rc_outcome S hok hP hin d_Rc_altered_105 ?_
    exact hend _ _ _ _ _ _ d_Rc_altered_106 rfl hf hP hD hS
  · have hf := hf.1 hc
    refine lv_aload_n hx hb d_Rc_altered_10 rfl (lv_at hl 0 rfl) ?_
    refine rg_Rc_values S hok hP (hts _ k_fl_Rc_11) d_Rc_altered_11 ?_
    refine lv_iload_n hx hb d_Rc_altered_14 rfl (lv_at hl 1 rfl) ?_
    refine lv_bipush (v := (8 : Int32)) hx hb d_Rc_altered_15 (by decide) ?_
    refine lv_imul hx hb d_Rc_altered_17 ?_
    refine lv_aload_n hx hb d_Rc_altered_18 rfl (lv_at hl 0 rfl) ?_
    refine rg_Rc_wanted S hok hP (hts _ k_fl_Rc_30) d_Rc_altered_19 ?_
    refine lv_iconst (v := (0 : Int32)) hx hb d_Rc_altered_22 (by decide) ?_
    refine lv_bipush (v := (8 : Int32)) hx hb d_Rc_altered_23 (by decide) ?_
    obtain ⟨h1, h2, h3, h4, h5, hf⟩ := hf
    refine rc_Rc_values_wanted S hok hwr hP hD hS (hts _ k_ml_Rc_71) (hml.trans hl.1.symm) h1 h2 h3 h4 h5 (Nat.le_of_ble_eq_true rfl) (Nat.le_of_ble_eq_true rfl) d_Rc_altered_25 (fun σ2 H locs hσ2 hP hD hS => ?_)
    have hf := hf σ2 hσ2
    refine lv_aload_n hx hb d_Rc_altered_28 rfl (lv_at hl 0 rfl) ?_
    refine rg_Rc_wanted S hok hP (hts _ k_fl_Rc_30) d_Rc_altered_29 ?_
    refine lv_aload_n hx hb d_Rc_altered_32 rfl (lv_at hl 0 rfl) ?_
    refine rg_Rc_field S hok hP (hts _ k_fl_Rc_62) d_Rc_altered_33 ?_
    refine lv_aload_n hx hb d_Rc_altered_36 rfl (lv_at hl 0 rfl) ?_
    refine rg_Rc_wanted S hok hP (hts _ k_fl_Rc_30) d_Rc_altered_37 ?_
    refine lv_aload_n hx hb d_Rc_altered_40 rfl (lv_at hl 0 rfl) ?_
    refine rg_Rc_field S hok hP (hts _ k_fl_Rc_62) d_Rc_altered_41 ?_
    obtain ⟨hin, hf⟩ := hf
    refine rl_Rc_wanted S hok hP hin d_Rc_altered_44 ?_
    refine lv_aload_n hx hb d_Rc_altered_45 rfl (lv_at hl 0 rfl) ?_
    refine rg_Rc_kept S hok hP (hts _ k_fl_Rc_68) d_Rc_altered_46 ?_
    refine lv_iand hx hb d_Rc_altered_49 ?_
    refine lv_aload_n hx hb d_Rc_altered_50 rfl (lv_at hl 0 rfl) ?_
    refine rg_Rc_v S hok hP (hts _ k_fl_Rc_65) d_Rc_altered_51 ?_
    refine lv_ior hx hb d_Rc_altered_54 ?_
    obtain ⟨hin, hf⟩ := hf
    refine rs_Rc_wanted S hok hwr hP hD hS hin d_Rc_altered_55 (fun σ3 H locs hσ3 hP hD hS => ?_)
    have hf := hf σ3 hσ3
    refine lv_aload_n hx hb d_Rc_altered_56 rfl (lv_at hl 0 rfl) ?_
    refine rg_Rc_wanted S hok hP (hts _ k_fl_Rc_30) d_Rc_altered_57 ?_
    refine lv_iconst (v := (0 : Int32)) hx hb d_Rc_altered_60 (by decide) ?_
    refine r_callSi (As := [.ref (a 7), .int (0 : Int32)]) (rest := []) (n := 2) S hok (c_Rc_chainOf_wanted l D cI a wr hwr _ _ _ hf) k_ml_Rc_46 k_st_Rc_chainOf k_ini_Rc k_code_Rc_chainOf rfl rfl (by decide +kernel) ⟨by decide, by decide⟩ hP hD hS hA (Nat.zero_le _) (Nat.zero_le _) hl.1 rfl rfl (Nat.le_of_ble_eq_true rfl) d_Rc_altered_61 (fun r5 σ4 H locs hf hP hD hS => ?_)
    have hP : va_P D classes (wRc cI a wr σ4) H := hP
    have hD : va_D A (wRc cI a wr σ4) := hD
    refine lv_istore_n hx hb d_Rc_altered_64 rfl hl (by decide) rfl (fun ls hl => ?_)
    have hl : lv_has ls 4 [(2, .int r5), (0, .ref (a 0)), (1, .int x1)] := hl
    refine lv_aload_n hx hb d_Rc_altered_65 rfl (lv_at hl 1 rfl) ?_
    refine lv_iload_n hx hb d_Rc_altered_66 rfl (lv_at hl 0 rfl) ?_
    refine r_callVi (As := [.int r5]) (rest := []) (n := 1) (q0 := 0) S hok (c_Rc_findWanted l D cI a wr hwr _ _ _ hf) k_ml_Rc_77 k_im_Rc_findWanted k_sel_Rc_findWanted k_ini_Rc k_code_Rc_findWanted rfl rfl (by decide +kernel) ⟨by decide, by decide⟩ rfl rfl hP hD hS hA (Nat.zero_le _) (Nat.zero_le _) hl.1 rfl rfl (Nat.le_of_ble_eq_true rfl) d_Rc_altered_67 (fun r7 σ6 H locs hf hP hD hS => ?_)
    have hP : va_P D classes (wRc cI a wr σ6) H := hP
    have hD : va_D A (wRc cI a wr σ6) := hD
    refine lv_istore_n hx hb d_Rc_altered_70 rfl hl (by decide) rfl (fun ls hl => ?_)
    have hl : lv_has ls 4 [(3, .int r7), (2, .int r5), (0, .ref (a 0)), (1, .int x1)] := hl
    refine lv_iload_n hx hb d_Rc_altered_71 rfl (lv_at hl 0 rfl) ?_
    refine lv_iconst (v := (-1 : Int32)) hx hb d_Rc_altered_72 (by decide) ?_
    refine lv_icmp_ne hx hb d_Rc_altered_73 rfl (fun hc => ?_) (fun hc => ?_)
    · have hf := hf.2 hc
      exact lab93 _ _ _ _ _ _ hf hP hD hS (lv_sub hl [2, 3, 0] rfl)
    · have hf := hf.1 hc
      refine lv_aload_n hx hb d_Rc_altered_76 rfl (lv_at hl 2 rfl) ?_
      refine rg_Rc_spares S hok hP (hts _ k_fl_Rc_42) d_Rc_altered_77 ?_
      refine lv_if_le hx hb d_Rc_altered_80 rfl (fun hc => ?_) (fun hc => ?_)
      · have hf := hf.1 hc
        refine lv_iload_n hx hb d_Rc_altered_91 rfl (lv_at hl 3 rfl) ?_
        refine lv_istore_n hx hb d_Rc_altered_92 rfl hl (by decide) rfl (fun ls hl => ?_)
        have hl : lv_has ls 4 [(3, .int x1), (2, .int r5), (0, .ref (a 0)), (1, .int x1)] := hl
        exact lab93 _ _ _ _ _ _ hf hP hD hS (lv_sub hl [2, 3, 0] rfl)
      · have hf := hf.2 hc
        refine lv_aload_n hx hb d_Rc_altered_83 rfl (lv_at hl 2 rfl) ?_
        refine lv_iload_n hx hb d_Rc_altered_84 rfl (lv_at hl 1 rfl) ?_
        refine r_callVi (As := [.int r5]) (rest := []) (n := 1) (q0 := 0) S hok (c_Rc_keepWanted l D cI a wr hwr _ _ _ hf) k_ml_Rc_50 k_im_Rc_keepWanted k_sel_Rc_keepWanted k_ini_Rc k_code_Rc_keepWanted rfl rfl (by decide +kernel) ⟨by decide, by decide⟩ rfl rfl hP hD hS hA (Nat.zero_le _) (Nat.zero_le _) hl.1 rfl rfl (Nat.le_of_ble_eq_true rfl) d_Rc_altered_85 (fun r9 σ8 H locs hf hP hD hS => ?_)
        have hP : va_P D classes (wRc cI a wr σ8) H := hP
        have hD : va_D A (wRc cI a wr σ8) := hD
        refine lv_goto hx hb d_Rc_altered_88 rfl ?_
        refine lv_istore_n hx hb d_Rc_altered_92 rfl hl (by decide) rfl (fun ls hl => ?_)
        have hl : lv_has ls 4 [(3, .int r9), (2, .int r5), (0, .ref (a 0)), (1, .int x1)] := hl
        exact lab93 _ _ _ _ _ _ hf hP hD hS (lv_sub hl [2, 3, 0] rfl)
abbrev rm_Rc_empty : Room := { frames := 20, cells := 0, slots := 0, locals := 400 }
set_option maxRecDepth 100000 in
set_option maxHeartbeats 4000000 in
theorem c_Rc_empty (l : Launch) (D : va_G) (cI : ClassId) (a : Nat → Nat) (wr : St → va_W) (hwr : Fx 11 wr) (σ : St) (Q : St → Prop) (hf : F_Rc_empty σ Q) : Cv l y_Rc_empty (.code y_Rc_empty b_Rc_empty 2 none) rm_Rc_empty D cI [.ref (a 0)] (wRc cI a wr) σ Q := by
  refine Cv.of (by decide +kernel) (Nat.le_of_ble_eq_true rfl) ?_
  intro p e s m below meth c ls A Z hx hb hml hown hts hok hP hD hA hl hend
  have S : CallFix p m c b_Rc_empty 2 s ([.ref (a 0)] : List Value).toArray lwg "PropertyTrie$Records" := ⟨hx, hb, hml, hown, hts⟩
  have hS : va_S A s.heap s.heap [] := va_S.rf
  have hl : lv_has ls 2 [(0, .ref (a 0))] := hl
  unfold F_Rc_empty at hf
  have lab18 : ∀ (v1 : Int32) (σ : St) (H : Heap) (locs : List Loc) (ls : Array Slot), F_Rc_empty_L18 v1 σ Q → va_P D classes (wRc cI a wr σ) H → va_D A (wRc cI a wr σ) → va_S A s.heap H locs → lv_has ls 2 [(0, .ref (a 0)), (1, .int v1)] → W p l e rm_Rc_empty s m ([.ref (a 0)] : List Value).toArray below meth c H locs 0 0 Z (F0 m 18 ls []) := by
    intro v1 σ H locs ls hf hP hD hS hl
    unfold F_Rc_empty_L18 at hf
    obtain ⟨I18, m18, h0, hst18⟩ := hf
    have lp18 : ∀ (n : Nat) (v1 : Int32) (σ : St) (H : Heap) (locs : List Loc) (ls : Array Slot), m18 v1 σ = n → I18 v1 σ → va_P D classes (wRc cI a wr σ) H → va_D A (wRc cI a wr σ) → va_S A s.heap H locs → lv_has ls 2 [(0, .ref (a 0)), (1, .int v1)] → W p l e rm_Rc_empty s m ([.ref (a 0)] : List Value).toArray below meth c H locs 0 0 Z (F0 m 18 ls []) := by
      intro n18
      induction n18 using Nat.strongRecOn with
      | _ n18 ih18 =>
        intro v1 σ H locs ls hn hI hP hD hS hl
        have hf := hst18 v1 σ n18 hI hn
        refine lv_iload_n hx hb d_Rc_empty_18 rfl (lv_at hl 1 rfl) ?_
        refine lv_sipush (v := (1028 : Int32)) hx hb d_Rc_empty_19 (by decide) ?_
        refine lv_icmp_ge hx hb d_Rc_empty_22 rfl (fun hc => ?_) (fun hc => ?_)
        · have hf := hf.1 hc
          refine lv_aload_n hx hb d_Rc_empty_42 rfl (lv_at hl 0 rfl) ?_
          refine lv_sipush (v := (1028 : Int32)) hx hb d_Rc_empty_43 (by decide) ?_
          refine rp_Rc_spares S hok hwr hP hD hS (hts _ k_fl_Rc_42) d_Rc_empty_46 (fun σ1 H locs hσ1 hP hD hS => ?_)
          have hf := hf σ1 hσ1
          refine lv_aload_n hx hb d_Rc_empty_49 rfl (lv_at hl 0 rfl) ?_
          refine rg_Rc_wanted S hok hP (hts _ k_fl_Rc_30) d_Rc_empty_50 ?_
          refine lv_iconst (v := (0 : Int32)) hx hb d_Rc_empty_53 (by decide) ?_
          refine r_callSv (As := [.ref (a 7), .int (0 : Int32)]) (rest := []) (n := 2) S hok (c_Ar_fill2_wanted l D cI a wr hwr _ _ _ hf) k_ml_Rc_36 k_st_Ar_fill2 k_ini_Ar k_code_Ar_fill2 rfl rfl (by decide +kernel) ⟨by decide, by decide⟩ hP hD hS hA (Nat.zero_le _) (Nat.zero_le _) hl.1 rfl rfl (Nat.le_of_ble_eq_true rfl) d_Rc_empty_54 (fun σ2 H locs hf hP hD hS => ?_)
          have hP : va_P D classes (wRc cI a wr σ2) H := hP
          have hD : va_D A (wRc cI a wr σ2) := hD
          refine lv_aload_n hx hb d_Rc_empty_57 rfl (lv_at hl 0 rfl) ?_
          refine lv_aload_n hx hb d_Rc_empty_58 rfl (lv_at hl 0 rfl) ?_
          refine lv_aload_n hx hb d_Rc_empty_59 rfl (lv_at hl 0 rfl) ?_
          refine rg_Rc_wanted S hok hP (hts _ k_fl_Rc_30) d_Rc_empty_60 ?_
          refine lv_iconst (v := (0 : Int32)) hx hb d_Rc_empty_63 (by decide) ?_
          refine r_callSi (As := [.ref (a 7), .int (0 : Int32)]) (rest := [.ref (a 0), .ref (a 0)]) (n := 2) S hok (c_Rc_chainOf_wanted l D cI a wr hwr _ _ _ hf) k_ml_Rc_46 k_st_Rc_chainOf k_ini_Rc k_code_Rc_chainOf rfl rfl (by decide +kernel) ⟨by decide, by decide⟩ hP hD hS hA (Nat.zero_le _) (Nat.zero_le _) hl.1 rfl rfl (Nat.le_of_ble_eq_true rfl) d_Rc_empty_64 (fun r4 σ3 H locs hf hP hD hS => ?_)
          have hP : va_P D classes (wRc cI a wr σ3) H := hP
          have hD : va_D A (wRc cI a wr σ3) := hD
          refine r_callVi (As := [.int r4]) (rest := [.ref (a 0)]) (n := 1) (q0 := 0) S hok (c_Rc_keepWanted l D cI a wr hwr _ _ _ hf) k_ml_Rc_50 k_im_Rc_keepWanted k_sel_Rc_keepWanted k_ini_Rc k_code_Rc_keepWanted rfl rfl (by decide +kernel) ⟨by decide, by decide⟩ rfl rfl hP hD hS hA (Nat.zero_le _) (Nat.zero_le _) hl.1 rfl rfl (Nat.le_of_ble_eq_true rfl) d_Rc_empty_67 (fun r6 σ5 H locs hf hP hD hS => ?_)
          have hP : va_P D classes (wRc cI a wr σ5) H := hP
          have hD : va_D A (wRc cI a wr σ5) := hD
          refine lv_iconst (v := (1 : Int32)) hx hb d_Rc_empty_70 (by decide) ?_
          refine r_callVv (As := [.int r6, .int (1 : Int32)]) (rest := []) (n := 2) (q0 := 0) S hok (c_Rc_hold l D cI a wr hwr _ _ _ _ hf) k_ml_Rc_54 k_im_Rc_hold k_sel_Rc_hold k_ini_Rc k_code_Rc_hold rfl rfl (by decide +kernel) ⟨by decide, by decide⟩ rfl rfl hP hD hS hA (Nat.zero_le _) (Nat.zero_le _) hl.1 rfl rfl (Nat.le_of_ble_eq_true rfl) d_Rc_empty_71 (fun σ7 H locs hf hP hD hS => ?_)
          have hP : va_P D classes (wRc cI a wr σ7) H := hP
          have hD : va_D A (wRc cI a wr σ7) := hD
          exact hend _ _ _ _ _ d_Rc_empty_74 hf hP hD hS
        · have hf := hf.2 hc
          refine lv_aload_n hx hb d_Rc_empty_25 rfl (lv_at hl 0 rfl) ?_
          refine rg_Rc_spareRecords S hok hP (hts _ k_fl_Rc_18) d_Rc_empty_26 ?_
          refine lv_iload_n hx hb d_Rc_empty_29 rfl (lv_at hl 1 rfl) ?_
          refine lv_sipush (v := (1027 : Int32)) hx hb d_Rc_empty_30 (by decide) ?_
          refine lv_iload_n hx hb d_Rc_empty_33 rfl (lv_at hl 1 rfl) ?_
          refine lv_isub hx hb d_Rc_empty_34 ?_
          obtain ⟨hin, hf⟩ := hf
          refine rs_Rc_spareRecords S hok hwr hP hD hS hin d_Rc_empty_35 (fun σ8 H locs hσ8 hP hD hS => ?_)
          have hf := hf σ8 hσ8
          obtain ⟨z9, hz9⟩ : ∃ z9 : Int32, z9 = v1 + (1 : Int32) := ⟨_, rfl⟩
          have hf := hf z9 hz9
          refine lv_iinc (k := 1) (v := z9) hx hb d_Rc_empty_36 hl rfl (by rw [hz9]; rfl) (by decide) rfl (fun ls hl => ?_)
          have hl : lv_has ls 2 [(1, .int z9), (0, .ref (a 0))] := hl
          refine lv_goto hx hb d_Rc_empty_39 rfl ?_
          exact ih18 _ hf.2 _ _ _ _ _ rfl hf.1 hP hD hS (lv_sub hl [1, 0] rfl)
    exact lp18 _ v1 σ H locs ls rfl h0 hP hD hS hl
  refine lv_aload_n hx hb d_Rc_empty_0 rfl (lv_at hl 0 rfl) ?_
  refine rg_Rc_heads S hok hP (hts _ k_fl_Rc_21) d_Rc_empty_1 ?_
  refine lv_iconst (v := (-1 : Int32)) hx hb d_Rc_empty_4 (by decide) ?_
  refine r_callSv (As := [.ref (a 4), .int (-1 : Int32)]) (rest := []) (n := 2) S hok (c_Ar_fill2_heads l D cI a wr hwr _ _ _ hf) k_ml_Rc_36 k_st_Ar_fill2 k_ini_Ar k_code_Ar_fill2 rfl rfl (by decide +kernel) ⟨by decide, by decide⟩ hP hD hS hA (Nat.zero_le _) (Nat.zero_le _) hl.1 rfl rfl (Nat.le_of_ble_eq_true rfl) d_Rc_empty_5 (fun σ10 H locs hf hP hD hS => ?_)
  have hP : va_P D classes (wRc cI a wr σ10) H := hP
  have hD : va_D A (wRc cI a wr σ10) := hD
  refine lv_aload_n hx hb d_Rc_empty_8 rfl (lv_at hl 0 rfl) ?_
  refine rg_Rc_holders S hok hP (hts _ k_fl_Rc_15) d_Rc_empty_9 ?_
  refine lv_iconst (v := (0 : Int32)) hx hb d_Rc_empty_12 (by decide) ?_
  refine r_callSv (As := [.ref (a 2), .int (0 : Int32)]) (rest := []) (n := 2) S hok (c_Ar_fill2_holders l D cI a wr hwr _ _ _ hf) k_ml_Rc_36 k_st_Ar_fill2 k_ini_Ar k_code_Ar_fill2 rfl rfl (by decide +kernel) ⟨by decide, by decide⟩ hP hD hS hA (Nat.zero_le _) (Nat.zero_le _) hl.1 rfl rfl (Nat.le_of_ble_eq_true rfl) d_Rc_empty_13 (fun σ11 H locs hf hP hD hS => ?_)
  have hP : va_P D classes (wRc cI a wr σ11) H := hP
  have hD : va_D A (wRc cI a wr σ11) := hD
  refine lv_iconst (v := (0 : Int32)) hx hb d_Rc_empty_16 (by decide) ?_
  refine lv_topi (fun z12 hz12 => ?_)
  have hf := hf z12 hz12
  refine lv_istore_n hx hb d_Rc_empty_17 rfl hl (by decide) rfl (fun ls hl => ?_)
  have hl : lv_has ls 2 [(1, .int z12), (0, .ref (a 0))] := hl
  exact lab18 _ _ _ _ _ hf hP hD hS (lv_sub hl [1, 0] rfl)
