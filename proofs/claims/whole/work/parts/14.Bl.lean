abbrev rm_Bl_find : Room := { frames := 10, cells := 0, slots := 0, locals := 200 }
set_option maxRecDepth 100000 in
set_option maxHeartbeats 4000000 in
theorem c_Bl_find (l : Launch) (D : va_G) (cI : ClassId) (a : Nat → Nat) (wr : St → va_W) (hwr : Fx 17 wr) (x1 : Int32) (σ : St) (Q : St → Prop) (hf : F_Bl_find x1 σ Q) : Cv l y_Bl_find (.code y_Bl_find b_Bl_find 4 none) rm_Bl_find D cI [.ref (a 8), .int x1] (wBl cI a wr) σ Q := by
  refine Cv.of (by decide +kernel) (Nat.le_of_ble_eq_true rfl) ?_
  intro p e s m below meth c ls A Z hx hb hml hown hts hok hP hD hA hl hend
  have S : CallFix p m c b_Bl_find 4 s ([.ref (a 8), .int x1] : List Value).toArray lwg "PropertyTrie$Blocks" := ⟨hx, hb, hml, hown, hts⟩
  have hS : va_S A s.heap s.heap [] := va_S.rf
  have hl : lv_has ls 4 [(0, .ref (a 8)), (1, .int x1)] := hl
  unfold F_Bl_find at hf
  have lab53 : ∀ (v1 v2 : Int32) (σ : St) (H : Heap) (locs : List Loc) (ls : Array Slot), F_Bl_find_J53 v1 v2 σ Q → va_P D classes (wBl cI a wr σ) H → va_D A (wBl cI a wr σ) → va_S A s.heap H locs → lv_has ls 4 [(0, .ref (a 8)), (1, .int v1), (2, .int v2)] → W p l e rm_Bl_find s m ([.ref (a 8), .int x1] : List Value).toArray below meth c H locs 0 0 Z (F0 m 53 ls []) := by
    intro v1 v2 σ H locs ls hf hP hD hS hl
    unfold F_Bl_find_J53 at hf
    refine lv_iconst (v := (1 : Int32)) hx hb d_Bl_find_53 (by decide) ?_
    refine lv_iload_n hx hb d_Bl_find_54 rfl (lv_at hl 2 rfl) ?_
    refine lv_ishl hx hb d_Bl_find_55 ?_
    refine lv_iconst (v := (1 : Int32)) hx hb d_Bl_find_56 (by decide) ?_
    refine lv_isub hx hb d_Bl_find_57 ?_
    refine lv_topi (fun z1 hz1 => ?_)
    have hf := hf z1 hz1
    refine lv_istore_n hx hb d_Bl_find_58 rfl hl (by decide) rfl (fun ls hl => ?_)
    have hl : lv_has ls 4 [(3, .int z1), (0, .ref (a 8)), (1, .int v1), (2, .int v2)] := hl
    refine lv_aload_n hx hb d_Bl_find_59 rfl (lv_at hl 1 rfl) ?_
    refine lv_iload_n hx hb d_Bl_find_60 rfl (lv_at hl 2 rfl) ?_
    refine lv_iload_n hx hb d_Bl_find_61 rfl (lv_at hl 0 rfl) ?_
    refine lv_iconst (v := (-1 : Int32)) hx hb d_Bl_find_62 (by decide) ?_
    refine lv_ixor hx hb d_Bl_find_63 ?_
    refine lv_iand hx hb d_Bl_find_64 ?_
    refine rp_Bl_foundFirst S hok hwr hP hD hS (hts _ k_fl_Bl_51) d_Bl_find_65 (fun σ2 H locs hσ2 hP hD hS => ?_)
    have hf := hf σ2 hσ2
    refine lv_aload_n hx hb d_Bl_find_68 rfl (lv_at hl 1 rfl) ?_
    refine lv_iload_n hx hb d_Bl_find_69 rfl (lv_at hl 2 rfl) ?_
    refine lv_iload_n hx hb d_Bl_find_70 rfl (lv_at hl 0 rfl) ?_
    refine lv_ior hx hb d_Bl_find_71 ?_
    refine rp_Bl_foundLast S hok hwr hP hD hS (hts _ k_fl_Bl_54) d_Bl_find_72 (fun σ3 H locs hσ3 hP hD hS => ?_)
    have hf := hf σ3 hσ3
    exact hend _ _ _ _ _ d_Bl_find_75 hf hP hD hS
  have lab10 : ∀ (v1 v2 : Int32) (σ : St) (H : Heap) (locs : List Loc) (ls : Array Slot), F_Bl_find_L10 v1 v2 σ Q → va_P D classes (wBl cI a wr σ) H → va_D A (wBl cI a wr σ) → va_S A s.heap H locs → lv_has ls 4 [(0, .ref (a 8)), (1, .int v1), (2, .int v2)] → W p l e rm_Bl_find s m ([.ref (a 8), .int x1] : List Value).toArray below meth c H locs 0 0 Z (F0 m 10 ls []) := by
    intro v1 v2 σ H locs ls hf hP hD hS hl
    unfold F_Bl_find_L10 at hf
    obtain ⟨I10, m10, h0, hst10⟩ := hf
    have lp10 : ∀ (n : Nat) (v2 : Int32) (σ : St) (H : Heap) (locs : List Loc) (ls : Array Slot), m10 v2 σ = n → I10 v2 σ → va_P D classes (wBl cI a wr σ) H → va_D A (wBl cI a wr σ) → va_S A s.heap H locs → lv_has ls 4 [(0, .ref (a 8)), (1, .int v1), (2, .int v2)] → W p l e rm_Bl_find s m ([.ref (a 8), .int x1] : List Value).toArray below meth c H locs 0 0 Z (F0 m 10 ls []) := by
      intro n10
      induction n10 using Nat.strongRecOn with
      | _ n10 ih10 =>
        intro v2 σ H locs ls hn hI hP hD hS hl
        have hf := hst10 v2 σ n10 hI hn
        refine lv_iload_n hx hb d_Bl_find_10 rfl (lv_at hl 2 rfl) ?_
        refine lv_if_le hx hb d_Bl_find_11 rfl (fun hc => ?_) (fun hc => ?_)
        · have hf := hf.1 hc
          exact lab53 _ _ _ _ _ _ hf hP hD hS (lv_sub hl [0, 1, 2] rfl)
        · have hf := hf.2 hc
          refine lv_aload_n hx hb d_Bl_find_14 rfl (lv_at hl 0 rfl) ?_
          refine rg_Bl_cells S hok hP (hts _ k_fl_Bl_19) d_Bl_find_15 ?_
          refine lv_aload_n hx hb d_Bl_find_18 rfl (lv_at hl 0 rfl) ?_
          refine rg_Bl_found S hok hP (hts _ k_fl_Bl_48) d_Bl_find_19 ?_
          obtain ⟨hin, hf⟩ := hf
          refine rl_Bl_cells S hok hP hin d_Bl_find_22 ?_
          refine lv_if_ge hx hb d_Bl_find_23 rfl (fun hc => ?_) (fun hc => ?_)
          · have hf := hf.1 hc
            exact lab53 _ _ _ _ _ _ hf hP hD hS (lv_sub hl [0, 1, 2] rfl)
          · have hf := hf.2 hc
            obtain ⟨z4, hz4⟩ : ∃ z4 : Int32, z4 = v2 + (-5 : Int32) := ⟨_, rfl⟩
            have hf := hf z4 hz4
            refine lv_iinc (k := 2) (v := z4) hx hb d_Bl_find_26 hl rfl (by rw [hz4]; rfl) (by decide) rfl (fun ls hl => ?_)
            have hl : lv_has ls 4 [(2, .int z4), (0, .ref (a 8)), (1, .int v1)] := hl
            refine lv_aload_n hx hb d_Bl_find_29 rfl (lv_at hl 1 rfl) ?_
            refine lv_aload_n hx hb d_Bl_find_30 rfl (lv_at hl 1 rfl) ?_
            refine rg_Bl_cells S hok hP (hts _ k_fl_Bl_19) d_Bl_find_31 ?_
            refine lv_aload_n hx hb d_Bl_find_34 rfl (lv_at hl 1 rfl) ?_
            refine rg_Bl_found S hok hP (hts _ k_fl_Bl_48) d_Bl_find_35 ?_
            obtain ⟨hin, hf⟩ := hf
            refine rl_Bl_cells S hok hP hin d_Bl_find_38 ?_
            refine lv_ineg hx hb d_Bl_find_39 ?_
            refine lv_iload_n hx hb d_Bl_find_40 rfl (lv_at hl 2 rfl) ?_
            refine lv_iload_n hx hb d_Bl_find_41 rfl (lv_at hl 0 rfl) ?_
            refine lv_ishr hx hb d_Bl_find_42 ?_
            refine lv_bipush (v := (31 : Int32)) hx hb d_Bl_find_43 (by decide) ?_
            refine lv_iand hx hb d_Bl_find_45 ?_
            refine lv_iadd hx hb d_Bl_find_46 ?_
            refine rp_Bl_found S hok hwr hP hD hS (hts _ k_fl_Bl_48) d_Bl_find_47 (fun σ5 H locs hσ5 hP hD hS => ?_)
            have hf := hf σ5 hσ5
            refine lv_goto hx hb d_Bl_find_50 rfl ?_
            exact ih10 _ hf.2 _ _ _ _ _ rfl hf.1 hP hD hS (lv_sub hl [1, 2, 0] rfl)
    exact lp10 _ v2 σ H locs ls rfl h0 hP hD hS hl
  refine lv_bipush (v := (10 : Int32)) hx hb d_Bl_find_0 (by decide) ?_
  refine lv_topi (fun z6 hz6 => ?_)
  have hf := hf z6 hz6
  refine lv_istore_n hx hb d_Bl_find_2 rfl hl (by decide) rfl (fun ls hl => ?_)
  have hl : lv_has ls 4 [(2, .int z6), (0, .ref (a 8)), (1, .int x1)] := hl
  refine lv_aload_n hx hb d_Bl_find_3 rfl (lv_at hl 1 rfl) ?_
  refine lv_iload_n hx hb d_Bl_find_4 rfl (lv_at hl 2 rfl) ?_
  refine lv_iload_n hx hb d_Bl_find_5 rfl (lv_at hl 0 rfl) ?_
  refine lv_ishr hx hb d_Bl_find_6 ?_
  refine rp_Bl_found S hok hwr hP hD hS (hts _ k_fl_Bl_48) d_Bl_find_7 (fun σ7 H locs hσ7 hP hD hS => ?_)
  have hf := hf σ7 hσ7
  exact lab10 _ _ _ _ _ _ hf hP hD hS (lv_sub hl [1, 2, 0] rfl)
abbrev rm_Bl_recordOf : Room := { frames := 20, cells := 0, slots := 0, locals := 400 }
set_option maxRecDepth 100000 in
set_option maxHeartbeats 4000000 in
theorem c_Bl_recordOf (l : Launch) (D : va_G) (cI : ClassId) (a : Nat → Nat) (wr : St → va_W) (hwr : Fx 17 wr) (x1 : Int32) (σ : St) (Q : Int32 → St → Prop) (hf : F_Bl_recordOf x1 σ Q) : Ci l y_Bl_recordOf (.code y_Bl_recordOf b_Bl_recordOf 2 (some .int)) rm_Bl_recordOf D cI [.ref (a 8), .int x1] (wBl cI a wr) σ Q := by
  refine Ci.of (by decide +kernel) (Nat.le_of_ble_eq_true rfl) ?_
  intro p e s m below meth c ls A Z hx hb hml hown hts hok hP hD hA hl hend
  have S : CallFix p m c b_Bl_recordOf 2 s ([.ref (a 8), .int x1] : List Value).toArray lwg "PropertyTrie$Blocks" := ⟨hx, hb, hml, hown, hts⟩
  have hS : va_S A s.heap s.heap [] := va_S.rf
  have hl : lv_has ls 2 [(0, .ref (a 8)), (1, .int x1)] := hl
  unfold F_Bl_recordOf at hf
  refine lv_aload_n hx hb d_Bl_recordOf_0 rfl (lv_at hl 0 rfl) ?_
  refine lv_iload_n hx hb d_Bl_recordOf_1 rfl (lv_at hl 1 rfl) ?_
  refine r_callVv (As := [.int x1]) (rest := []) (n := 1) (q0 := 8) S hok (c_Bl_find l D cI a wr hwr _ _ _ hf) k_ml_Bl_44 k_im_Bl_find k_sel_Bl_find k_ini_Bl k_code_Bl_find rfl rfl (by decide +kernel) ⟨by decide, by decide⟩ rfl rfl hP hD hS hA (Nat.zero_le _) (Nat.zero_le _) hl.1 rfl rfl (Nat.le_of_ble_eq_true rfl) d_Bl_recordOf_2 (fun σ1 H locs hf hP hD hS => ?_)
  have hP : va_P D classes (wBl cI a wr σ1) H := hP
  have hD : va_D A (wBl cI a wr σ1) := hD
  refine lv_aload_n hx hb d_Bl_recordOf_5 rfl (lv_at hl 0 rfl) ?_
  refine rg_Bl_cells S hok hP (hts _ k_fl_Bl_19) d_Bl_recordOf_6 ?_
  refine lv_aload_n hx hb d_Bl_recordOf_9 rfl (lv_at hl 0 rfl) ?_
  refine rg_Bl_found S hok hP (hts _ k_fl_Bl_48) d_Bl_recordOf_10 ?_
  obtain ⟨hin, hf⟩ := hf
  refine rl_Bl_cells S hok hP hin d_Bl_recordOf_13 ?_
  exact hend _ _ _ _ _ _ d_Bl_recordOf_14 rfl hf hP hD hS
abbrev rm_Bl_split : Room := { frames := 30, cells := 0, slots := 0, locals := 600 }
set_option maxRecDepth 100000 in
set_option maxHeartbeats 4000000 in
theorem c_Bl_split (l : Launch) (D : va_G) (cI : ClassId) (a : Nat → Nat) (wr : St → va_W) (hwr : Fx 17 wr) (x1 : Int32) (σ : St) (Q : St → Prop) (hf : F_Bl_split x1 σ Q) : Cv l y_Bl_split (.code y_Bl_split b_Bl_split 4 none) rm_Bl_split D cI [.ref (a 8), .int x1] (wBl cI a wr) σ Q := by
  refine Cv.of (by decide +kernel) (Nat.le_of_ble_eq_true rfl) ?_
  intro p e s m below meth c ls A Z hx hb hml hown hts hok hP hD hA hl hend
  have S : CallFix p m c b_Bl_split 4 s ([.ref (a 8), .int x1] : List Value).toArray lwg "PropertyTrie$Blocks" := ⟨hx, hb, hml, hown, hts⟩
  have hS : va_S A s.heap s.heap [] := va_S.rf
  have hl : lv_has ls 4 [(0, .ref (a 8)), (1, .int x1)] := hl
  unfold F_Bl_split at hf
  refine lv_aload_n hx hb d_Bl_split_0 rfl (lv_at hl 0 rfl) ?_
  refine rg_Bl_spares S hok hP (hts _ k_fl_Bl_40) d_Bl_split_1 ?_
  refine lv_if_le hx hb d_Bl_split_4 rfl (fun hc => ?_) (fun hc => ?_)
  · have hf := hf.1 hc
    exact hend _ _ _ _ _ d_Bl_split_65 hf hP hD hS
  · have hf := hf.2 hc
    refine lv_aload_n hx hb d_Bl_split_7 rfl (lv_at hl 0 rfl) ?_
    refine lv_dup hx hb d_Bl_split_8 rfl ?_
    refine rg_Bl_spares S hok hP (hts _ k_fl_Bl_40) d_Bl_split_9 ?_
    refine lv_iconst (v := (1 : Int32)) hx hb d_Bl_split_12 (by decide) ?_
    refine lv_isub hx hb d_Bl_split_13 ?_
    refine rp_Bl_spares S hok hwr hP hD hS (hts _ k_fl_Bl_40) d_Bl_split_14 (fun σ1 H locs hσ1 hP hD hS => ?_)
    have hf := hf σ1 hσ1
    refine lv_aload_n hx hb d_Bl_split_17 rfl (lv_at hl 0 rfl) ?_
    refine rg_Bl_spareRows S hok hP (hts _ k_fl_Bl_23) d_Bl_split_18 ?_
    refine lv_aload_n hx hb d_Bl_split_21 rfl (lv_at hl 0 rfl) ?_
    refine rg_Bl_spares S hok hP (hts _ k_fl_Bl_40) d_Bl_split_22 ?_
    obtain ⟨hin, hf⟩ := hf
    refine rl_Bl_spareRows S hok hP hin d_Bl_split_25 ?_
    refine lv_topi (fun z2 hz2 => ?_)
    have hf := hf z2 hz2
    refine lv_istore_n hx hb d_Bl_split_26 rfl hl (by decide) rfl (fun ls hl => ?_)
    have hl : lv_has ls 4 [(2, .int z2), (0, .ref (a 8)), (1, .int x1)] := hl
    refine lv_aload_n hx hb d_Bl_split_27 rfl (lv_at hl 1 rfl) ?_
    refine rg_Bl_cells S hok hP (hts _ k_fl_Bl_19) d_Bl_split_28 ?_
    refine lv_iload_n hx hb d_Bl_split_31 rfl (lv_at hl 2 rfl) ?_
    obtain ⟨hin, hf⟩ := hf
    refine rl_Bl_cells S hok hP hin d_Bl_split_32 ?_
    refine lv_topi (fun z3 hz3 => ?_)
    have hf := hf z3 hz3
    refine lv_istore_n hx hb d_Bl_split_33 rfl hl (by decide) rfl (fun ls hl => ?_)
    have hl : lv_has ls 4 [(3, .int z3), (2, .int z2), (0, .ref (a 8)), (1, .int x1)] := hl
    refine lv_aload_n hx hb d_Bl_split_34 rfl (lv_at hl 2 rfl) ?_
    refine rg_Bl_cells S hok hP (hts _ k_fl_Bl_19) d_Bl_split_35 ?_
    refine lv_iload_n hx hb d_Bl_split_38 rfl (lv_at hl 1 rfl) ?_
    refine lv_iload_n hx hb d_Bl_split_39 rfl (lv_at hl 1 rfl) ?_
    refine lv_bipush (v := (32 : Int32)) hx hb d_Bl_split_40 (by decide) ?_
    refine lv_iadd hx hb d_Bl_split_42 ?_
    refine lv_iload_n hx hb d_Bl_split_43 rfl (lv_at hl 0 rfl) ?_
    refine r_callSv (As := [.ref (a 9), .int z2, .int (z2 + (32 : Int32)), .int z3]) (rest := []) (n := 4) S hok (c_Ar_fill4_cells l D cI a wr hwr _ _ _ _ _ hf) k_ml_Bl_30 k_st_Ar_fill4 k_ini_Ar k_code_Ar_fill4 rfl rfl (by decide +kernel) ⟨by decide, by decide⟩ hP hD hS hA (Nat.zero_le _) (Nat.zero_le _) hl.1 rfl rfl (Nat.le_of_ble_eq_true rfl) d_Bl_split_44 (fun σ4 H locs hf hP hD hS => ?_)
    have hP : va_P D classes (wBl cI a wr σ4) H := hP
    have hD : va_D A (wBl cI a wr σ4) := hD
    refine lv_aload_n hx hb d_Bl_split_47 rfl (lv_at hl 2 rfl) ?_
    refine rg_Bl_records S hok hP (hts _ k_fl_Bl_14) d_Bl_split_48 ?_
    refine lv_iload_n hx hb d_Bl_split_51 rfl (lv_at hl 0 rfl) ?_
    refine lv_bipush (v := (31 : Int32)) hx hb d_Bl_split_52 (by decide) ?_
    refine r_callVv (As := [.int z3, .int (31 : Int32)]) (rest := []) (n := 2) (q0 := 0) S hok (c_Rc_hold l D cI a (wrB cI a wr) (Fx_B hwr) _ _ _ _ hf) k_ml_Bl_36 k_im_Rc_hold k_sel_Rc_hold k_ini_Rc k_code_Rc_hold rfl rfl (by decide +kernel) ⟨by decide, by decide⟩ rfl rfl hP hD hS hA (Nat.zero_le _) (Nat.zero_le _) hl.1 rfl rfl (Nat.le_of_ble_eq_true rfl) d_Bl_split_54 (fun σ5 H locs hf hP hD hS => ?_)
    have hP : va_P D classes (wBl cI a wr σ5) H := hP
    have hD : va_D A (wBl cI a wr σ5) := hD
    refine lv_aload_n hx hb d_Bl_split_57 rfl (lv_at hl 2 rfl) ?_
    refine rg_Bl_cells S hok hP (hts _ k_fl_Bl_19) d_Bl_split_58 ?_
    refine lv_iload_n hx hb d_Bl_split_61 rfl (lv_at hl 3 rfl) ?_
    refine lv_iload_n hx hb d_Bl_split_62 rfl (lv_at hl 1 rfl) ?_
    refine lv_ineg hx hb d_Bl_split_63 ?_
    obtain ⟨hin, hf⟩ := hf
    refine rs_Bl_cells S hok hwr hP hD hS hin d_Bl_split_64 (fun σ6 H locs hσ6 hP hD hS => ?_)
    have hf := hf σ6 hσ6
    exact hend _ _ _ _ _ d_Bl_split_65 hf hP hD hS
abbrev rm_Bl_splitBefore : Room := { frames := 40, cells := 0, slots := 0, locals := 800 }
set_option maxRecDepth 100000 in
set_option maxHeartbeats 4000000 in
theorem c_Bl_splitBefore (l : Launch) (D : va_G) (cI : ClassId) (a : Nat → Nat) (wr : St → va_W) (hwr : Fx 17 wr) (x1 : Int32) (σ : St) (Q : St → Prop) (hf : F_Bl_splitBefore x1 σ Q) : Cv l y_Bl_splitBefore (.code y_Bl_splitBefore b_Bl_splitBefore 3 none) rm_Bl_splitBefore D cI [.ref (a 8), .int x1] (wBl cI a wr) σ Q := by
  refine Cv.of (by decide +kernel) (Nat.le_of_ble_eq_true rfl) ?_
  intro p e s m below meth c ls A Z hx hb hml hown hts hok hP hD hA hl hend
  have S : CallFix p m c b_Bl_splitBefore 3 s ([.ref (a 8), .int x1] : List Value).toArray lwg "PropertyTrie$Blocks" := ⟨hx, hb, hml, hown, hts⟩
  have hS : va_S A s.heap s.heap [] := va_S.rf
  have hl : lv_has ls 3 [(0, .ref (a 8)), (1, .int x1)] := hl
  unfold F_Bl_splitBefore at hf
  have lab8 : ∀ (v1 v2 : Int32) (σ : St) (H : Heap) (locs : List Loc) (ls : Array Slot), F_Bl_splitBefore_L8 v1 v2 σ Q → va_P D classes (wBl cI a wr σ) H → va_D A (wBl cI a wr σ) → va_S A s.heap H locs → lv_has ls 3 [(0, .ref (a 8)), (1, .int v1), (2, .int v2)] → W p l e rm_Bl_splitBefore s m ([.ref (a 8), .int x1] : List Value).toArray below meth c H locs 0 0 Z (F0 m 8 ls []) := by
    intro v1 v2 σ H locs ls hf hP hD hS hl
    unfold F_Bl_splitBefore_L8 at hf
    obtain ⟨I8, m8, h0, hst8⟩ := hf
    have lp8 : ∀ (n : Nat) (v2 : Int32) (σ : St) (H : Heap) (locs : List Loc) (ls : Array Slot), m8 v2 σ = n → I8 v2 σ → va_P D classes (wBl cI a wr σ) H → va_D A (wBl cI a wr σ) → va_S A s.heap H locs → lv_has ls 3 [(0, .ref (a 8)), (1, .int v1), (2, .int v2)] → W p l e rm_Bl_splitBefore s m ([.ref (a 8), .int x1] : List Value).toArray below meth c H locs 0 0 Z (F0 m 8 ls []) := by
      intro n8
      induction n8 using Nat.strongRecOn with
      | _ n8 ih8 =>
        intro v2 σ H locs ls hn hI hP hD hS hl
        have hf := hst8 v2 σ n8 hI hn
        refine lv_iload_n hx hb d_Bl_splitBefore_8 rfl (lv_at hl 2 rfl) ?_
        refine lv_if_le hx hb d_Bl_splitBefore_9 rfl (fun hc => ?_) (fun hc => ?_)
        · have hf := hf.1 hc
          exact hend _ _ _ _ _ d_Bl_splitBefore_39 hf hP hD hS
        · have hf := hf.2 hc
          refine lv_aload_n hx hb d_Bl_splitBefore_12 rfl (lv_at hl 0 rfl) ?_
          refine rg_Bl_foundFirst S hok hP (hts _ k_fl_Bl_51) d_Bl_splitBefore_13 ?_
          refine lv_iload_n hx hb d_Bl_splitBefore_16 rfl (lv_at hl 1 rfl) ?_
          refine lv_icmp_ge hx hb d_Bl_splitBefore_17 rfl (fun hc => ?_) (fun hc => ?_)
          · have hf := hf.1 hc
            exact hend _ _ _ _ _ d_Bl_splitBefore_39 hf hP hD hS
          · have hf := hf.2 hc
            refine lv_aload_n hx hb d_Bl_splitBefore_20 rfl (lv_at hl 0 rfl) ?_
            refine lv_aload_n hx hb d_Bl_splitBefore_21 rfl (lv_at hl 0 rfl) ?_
            refine rg_Bl_found S hok hP (hts _ k_fl_Bl_48) d_Bl_splitBefore_22 ?_
            refine r_callVv (As := [.int (σ 14 0)]) (rest := []) (n := 1) (q0 := 8) S hok (c_Bl_split l D cI a wr hwr _ _ _ hf) k_ml_Bl_73 k_im_Bl_split k_sel_Bl_split k_ini_Bl k_code_Bl_split rfl rfl (by decide +kernel) ⟨by decide, by decide⟩ rfl rfl hP hD hS hA (Nat.zero_le _) (Nat.zero_le _) hl.1 rfl rfl (Nat.le_of_ble_eq_true rfl) d_Bl_splitBefore_25 (fun σ1 H locs hf hP hD hS => ?_)
            have hP : va_P D classes (wBl cI a wr σ1) H := hP
            have hD : va_D A (wBl cI a wr σ1) := hD
            refine lv_aload_n hx hb d_Bl_splitBefore_28 rfl (lv_at hl 0 rfl) ?_
            refine lv_iload_n hx hb d_Bl_splitBefore_29 rfl (lv_at hl 1 rfl) ?_
            refine r_callVv (As := [.int v1]) (rest := []) (n := 1) (q0 := 8) S hok (c_Bl_find l D cI a wr hwr _ _ _ hf) k_ml_Bl_44 k_im_Bl_find k_sel_Bl_find k_ini_Bl k_code_Bl_find rfl rfl (by decide +kernel) ⟨by decide, by decide⟩ rfl rfl hP hD hS hA (Nat.zero_le _) (Nat.zero_le _) hl.1 rfl rfl (Nat.le_of_ble_eq_true rfl) d_Bl_splitBefore_30 (fun σ2 H locs hf hP hD hS => ?_)
            have hP : va_P D classes (wBl cI a wr σ2) H := hP
            have hD : va_D A (wBl cI a wr σ2) := hD
            obtain ⟨z3, hz3⟩ : ∃ z3 : Int32, z3 = v2 + (-5 : Int32) := ⟨_, rfl⟩
            have hf := hf z3 hz3
            refine lv_iinc (k := 2) (v := z3) hx hb d_Bl_splitBefore_33 hl rfl (by rw [hz3]; rfl) (by decide) rfl (fun ls hl => ?_)
            have hl : lv_has ls 3 [(2, .int z3), (0, .ref (a 8)), (1, .int v1)] := hl
            refine lv_goto hx hb d_Bl_splitBefore_36 rfl ?_
            exact ih8 _ hf.2 _ _ _ _ _ rfl hf.1 hP hD hS (lv_sub hl [1, 2, 0] rfl)
    exact lp8 _ v2 σ H locs ls rfl h0 hP hD hS hl
  refine lv_aload_n hx hb d_Bl_splitBefore_0 rfl (lv_at hl 0 rfl) ?_
  refine lv_iload_n hx hb d_Bl_splitBefore_1 rfl (lv_at hl 1 rfl) ?_
  refine r_callVv (As := [.int x1]) (rest := []) (n := 1) (q0 := 8) S hok (c_Bl_find l D cI a wr hwr _ _ _ hf) k_ml_Bl_44 k_im_Bl_find k_sel_Bl_find k_ini_Bl k_code_Bl_find rfl rfl (by decide +kernel) ⟨by decide, by decide⟩ rfl rfl hP hD hS hA (Nat.zero_le _) (Nat.zero_le _) hl.1 rfl rfl (Nat.le_of_ble_eq_true rfl) d_Bl_splitBefore_2 (fun σ4 H locs hf hP hD hS => ?_)
  have hP : va_P D classes (wBl cI a wr σ4) H := hP
  have hD : va_D A (wBl cI a wr σ4) := hD
  refine lv_bipush (v := (10 : Int32)) hx hb d_Bl_splitBefore_5 (by decide) ?_
  refine lv_topi (fun z5 hz5 => ?_)
  have hf := hf z5 hz5
  refine lv_istore_n hx hb d_Bl_splitBefore_7 rfl hl (by decide) rfl (fun ls hl => ?_)
  have hl : lv_has ls 3 [(2, .int z5), (0, .ref (a 8)), (1, .int x1)] := hl
  exact lab8 _ _ _ _ _ _ hf hP hD hS (lv_sub hl [1, 2, 0] rfl)
abbrev rm_Bl_replace : Room := { frames := 40, cells := 0, slots := 0, locals := 800 }
set_option maxRecDepth 100000 in
set_option maxHeartbeats 4000000 in
theorem c_Bl_replace (l : Launch) (D : va_G) (cI : ClassId) (a : Nat → Nat) (wr : St → va_W) (hwr : Fx 17 wr) (x1 : Int32) (σ : St) (Q : St → Prop) (hf : F_Bl_replace x1 σ Q) : Cv l y_Bl_replace (.code y_Bl_replace b_Bl_replace 4 none) rm_Bl_replace D cI [.ref (a 8), .int x1] (wBl cI a wr) σ Q := by
  refine Cv.of (by decide +kernel) (Nat.le_of_ble_eq_true rfl) ?_
  intro p e s m below meth c ls A Z hx hb hml hown hts hok hP hD hA hl hend
  have S : CallFix p m c b_Bl_replace 4 s ([.ref (a 8), .int x1] : List Value).toArray lwg "PropertyTrie$Blocks" := ⟨hx, hb, hml, hown, hts⟩
  have hS : va_S A s.heap s.heap [] := va_S.rf
  have hl : lv_has ls 4 [(0, .ref (a 8)), (1, .int x1)] := hl
  unfold F_Bl_replace at hf
  refine lv_aload_n hx hb d_Bl_replace_0 rfl (lv_at hl 0 rfl) ?_
  refine rg_Bl_cells S hok hP (hts _ k_fl_Bl_19) d_Bl_replace_1 ?_
  refine lv_iload_n hx hb d_Bl_replace_4 rfl (lv_at hl 1 rfl) ?_
  obtain ⟨hin, hf⟩ := hf
  refine rl_Bl_cells S hok hP hin d_Bl_replace_5 ?_
  refine lv_topi (fun z1 hz1 => ?_)
  have hf := hf z1 hz1
  refine lv_istore_n hx hb d_Bl_replace_6 rfl hl (by decide) rfl (fun ls hl => ?_)
  have hl : lv_has ls 4 [(2, .int z1), (0, .ref (a 8)), (1, .int x1)] := hl
  refine lv_aload_n hx hb d_Bl_replace_7 rfl (lv_at hl 1 rfl) ?_
  refine rg_Bl_records S hok hP (hts _ k_fl_Bl_14) d_Bl_replace_8 ?_
  refine lv_iload_n hx hb d_Bl_replace_11 rfl (lv_at hl 0 rfl) ?_
  refine r_callVi (As := [.int z1]) (rest := []) (n := 1) (q0 := 0) S hok (c_Rc_altered l D cI a (wrB cI a wr) (Fx_B hwr) _ _ _ hf) k_ml_Bl_76 k_im_Rc_altered k_sel_Rc_altered k_ini_Rc k_code_Rc_altered rfl rfl (by decide +kernel) ⟨by decide, by decide⟩ rfl rfl hP hD hS hA (Nat.zero_le _) (Nat.zero_le _) hl.1 rfl rfl (Nat.le_of_ble_eq_true rfl) d_Bl_replace_12 (fun r3 σ2 H locs hf hP hD hS => ?_)
  have hP : va_P D classes (wBl cI a wr σ2) H := hP
  have hD : va_D A (wBl cI a wr σ2) := hD
  refine lv_istore_n hx hb d_Bl_replace_15 rfl hl (by decide) rfl (fun ls hl => ?_)
  have hl : lv_has ls 4 [(3, .int r3), (2, .int z1), (0, .ref (a 8)), (1, .int x1)] := hl
  refine lv_iload_n hx hb d_Bl_replace_16 rfl (lv_at hl 0 rfl) ?_
  refine lv_iload_n hx hb d_Bl_replace_17 rfl (lv_at hl 1 rfl) ?_
  refine lv_icmp_eq hx hb d_Bl_replace_18 rfl (fun hc => ?_) (fun hc => ?_)
  · have hf := hf.1 hc
    exact hend _ _ _ _ _ d_Bl_replace_46 hf hP hD hS
  · have hf := hf.2 hc
    refine lv_aload_n hx hb d_Bl_replace_21 rfl (lv_at hl 2 rfl) ?_
    refine rg_Bl_cells S hok hP (hts _ k_fl_Bl_19) d_Bl_replace_22 ?_
    refine lv_iload_n hx hb d_Bl_replace_25 rfl (lv_at hl 3 rfl) ?_
    refine lv_iload_n hx hb d_Bl_replace_26 rfl (lv_at hl 0 rfl) ?_
    obtain ⟨hin, hf⟩ := hf
    refine rs_Bl_cells S hok hwr hP hD hS hin d_Bl_replace_27 (fun σ4 H locs hσ4 hP hD hS => ?_)
    have hf := hf σ4 hσ4
    refine lv_aload_n hx hb d_Bl_replace_28 rfl (lv_at hl 2 rfl) ?_
    refine rg_Bl_records S hok hP (hts _ k_fl_Bl_14) d_Bl_replace_29 ?_
    refine lv_iload_n hx hb d_Bl_replace_32 rfl (lv_at hl 0 rfl) ?_
    refine lv_iconst (v := (1 : Int32)) hx hb d_Bl_replace_33 (by decide) ?_
    refine r_callVv (As := [.int r3, .int (1 : Int32)]) (rest := []) (n := 2) (q0 := 0) S hok (c_Rc_hold l D cI a (wrB cI a wr) (Fx_B hwr) _ _ _ _ hf) k_ml_Bl_36 k_im_Rc_hold k_sel_Rc_hold k_ini_Rc k_code_Rc_hold rfl rfl (by decide +kernel) ⟨by decide, by decide⟩ rfl rfl hP hD hS hA (Nat.zero_le _) (Nat.zero_le _) hl.1 rfl rfl (Nat.le_of_ble_eq_true rfl) d_Bl_replace_34 (fun σ5 H locs hf hP hD hS => ?_)
    have hP : va_P D classes (wBl cI a wr σ5) H := hP
    have hD : va_D A (wBl cI a wr σ5) := hD
    refine lv_aload_n hx hb d_Bl_replace_37 rfl (lv_at hl 2 rfl) ?_
    refine rg_Bl_records S hok hP (hts _ k_fl_Bl_14) d_Bl_replace_38 ?_
    refine lv_iload_n hx hb d_Bl_replace_41 rfl (lv_at hl 1 rfl) ?_
    refine lv_iconst (v := (1 : Int32)) hx hb d_Bl_replace_42 (by decide) ?_
    refine r_callVv (As := [.int z1, .int (1 : Int32)]) (rest := []) (n := 2) (q0 := 0) S hok (c_Rc_release l D cI a (wrB cI a wr) (Fx_B hwr) _ _ _ _ hf) k_ml_Bl_80 k_im_Rc_release k_sel_Rc_release k_ini_Rc k_code_Rc_release rfl rfl (by decide +kernel) ⟨by decide, by decide⟩ rfl rfl hP hD hS hA (Nat.zero_le _) (Nat.zero_le _) hl.1 rfl rfl (Nat.le_of_ble_eq_true rfl) d_Bl_replace_43 (fun σ6 H locs hf hP hD hS => ?_)
    have hP : va_P D classes (wBl cI a wr σ6) H := hP
    have hD : va_D A (wBl cI a wr σ6) := hD
    exact hend _ _ _ _ _ d_Bl_replace_46 hf hP hD hS
abbrev rm_Bl_isAllAlike : Room := { frames := 10, cells := 0, slots := 0, locals := 200 }
set_option maxRecDepth 100000 in
set_option maxHeartbeats 4000000 in
theorem c_Bl_isAllAlike (l : Launch) (D : va_G) (cI : ClassId) (a : Nat → Nat) (wr : St → va_W) (hwr : Fx 17 wr) (x1 : Int32) (σ : St) (Q : Int32 → St → Prop) (hf : F_Bl_isAllAlike x1 σ Q) : Ci l y_Bl_isAllAlike (.code y_Bl_isAllAlike b_Bl_isAllAlike 4 (some .boolean)) rm_Bl_isAllAlike D cI [.ref (a 8), .int x1] (wBl cI a wr) σ Q := by
  refine Ci.of (by decide +kernel) (Nat.le_of_ble_eq_true rfl) ?_
  intro p e s m below meth c ls A Z hx hb hml hown hts hok hP hD hA hl hend
  have S : CallFix p m c b_Bl_isAllAlike 4 s ([.ref (a 8), .int x1] : List Value).toArray lwg "PropertyTrie$Blocks" := ⟨hx, hb, hml, hown, hts⟩
  have hS : va_S A s.heap s.heap [] := va_S.rf
  have hl : lv_has ls 4 [(0, .ref (a 8)), (1, .int x1)] := hl
  unfold F_Bl_isAllAlike at hf
  have lab15 : ∀ (v1 v2 v3 : Int32) (σ : St) (H : Heap) (locs : List Loc) (ls : Array Slot), F_Bl_isAllAlike_L15 v1 v2 v3 σ Q → va_P D classes (wBl cI a wr σ) H → va_D A (wBl cI a wr σ) → va_S A s.heap H locs → lv_has ls 4 [(0, .ref (a 8)), (1, .int v1), (2, .int v2), (3, .int v3)] → W p l e rm_Bl_isAllAlike s m ([.ref (a 8), .int x1] : List Value).toArray below meth c H locs 0 0 Z (F0 m 15 ls []) := by
    intro v1 v2 v3 σ H locs ls hf hP hD hS hl
    unfold F_Bl_isAllAlike_L15 at hf
    obtain ⟨I15, m15, h0, hst15⟩ := hf
    have lp15 : ∀ (n : Nat) (v3 : Int32) (σ : St) (H : Heap) (locs : List Loc) (ls : Array Slot), m15 v3 σ = n → I15 v3 σ → va_P D classes (wBl cI a wr σ) H → va_D A (wBl cI a wr σ) → va_S A s.heap H locs → lv_has ls 4 [(0, .ref (a 8)), (1, .int v1), (2, .int v2), (3, .int v3)] → W p l e rm_Bl_isAllAlike s m ([.ref (a 8), .int x1] : List Value).toArray below meth c H locs 0 0 Z (F0 m 15 ls []) := by
      intro n15
      induction n15 using Nat.strongRecOn with
      | _ n15 ih15 =>
        intro v3 σ H locs ls hn hI hP hD hS hl
        have hf := hst15 v3 σ n15 hI hn
        refine lv_iload_n hx hb d_Bl_isAllAlike_15 rfl (lv_at hl 3 rfl) ?_
        refine lv_bipush (v := (32 : Int32)) hx hb d_Bl_isAllAlike_16 (by decide) ?_
        refine lv_icmp_ge hx hb d_Bl_isAllAlike_18 rfl (fun hc => ?_) (fun hc => ?_)
        · have hf := hf.1 hc
          refine lv_iconst (v := (1 : Int32)) hx hb d_Bl_isAllAlike_41 (by decide) ?_
          exact hend _ _ _ _ _ _ d_Bl_isAllAlike_42 rfl hf hP hD hS
        · have hf := hf.2 hc
          refine lv_aload_n hx hb d_Bl_isAllAlike_21 rfl (lv_at hl 0 rfl) ?_
          refine rg_Bl_cells S hok hP (hts _ k_fl_Bl_19) d_Bl_isAllAlike_22 ?_
          refine lv_iload_n hx hb d_Bl_isAllAlike_25 rfl (lv_at hl 1 rfl) ?_
          refine lv_iload_n hx hb d_Bl_isAllAlike_26 rfl (lv_at hl 3 rfl) ?_
          refine lv_iadd hx hb d_Bl_isAllAlike_27 ?_
          obtain ⟨hin, hf⟩ := hf
          refine rl_Bl_cells S hok hP hin d_Bl_isAllAlike_28 ?_
          refine lv_iload_n hx hb d_Bl_isAllAlike_29 rfl (lv_at hl 2 rfl) ?_
          refine lv_icmp_eq hx hb d_Bl_isAllAlike_30 rfl (fun hc => ?_) (fun hc => ?_)
          · have hf := hf.1 hc
            obtain ⟨z1, hz1⟩ : ∃ z1 : Int32, z1 = v3 + (1 : Int32) := ⟨_, rfl⟩
            have hf := hf z1 hz1
            refine lv_iinc (k := 3) (v := z1) hx hb d_Bl_isAllAlike_35 hl rfl (by rw [hz1]; rfl) (by decide) rfl (fun ls hl => ?_)
            have hl : lv_has ls 4 [(3, .int z1), (0, .ref (a 8)), (1, .int v1), (2, .int v2)] := hl
            refine lv_goto hx hb d_Bl_isAllAlike_38 rfl ?_
            exact ih15 _ hf.2 _ _ _ _ _ rfl hf.1 hP hD hS (lv_sub hl [1, 2, 3, 0] rfl)
          · have hf := hf.2 hc
            refine lv_iconst (v := (0 : Int32)) hx hb d_Bl_isAllAlike_33 (by decide) ?_
            exact hend _ _ _ _ _ _ d_Bl_isAllAlike_34 rfl hf hP hD hS
    exact lp15 _ v3 σ H locs ls rfl h0 hP hD hS hl
  refine lv_aload_n hx hb d_Bl_isAllAlike_0 rfl (lv_at hl 0 rfl) ?_
  refine rg_Bl_cells S hok hP (hts _ k_fl_Bl_19) d_Bl_isAllAlike_1 ?_
  refine lv_iload_n hx hb d_Bl_isAllAlike_4 rfl (lv_at hl 1 rfl) ?_
  obtain ⟨hin, hf⟩ := hf
  refine rl_Bl_cells S hok hP hin d_Bl_isAllAlike_5 ?_
  refine lv_topi (fun z2 hz2 => ?_)
  have hf := hf z2 hz2
  refine lv_istore_n hx hb d_Bl_isAllAlike_6 rfl hl (by decide) rfl (fun ls hl => ?_)
  have hl : lv_has ls 4 [(2, .int z2), (0, .ref (a 8)), (1, .int x1)] := hl
  refine lv_iload_n hx hb d_Bl_isAllAlike_7 rfl (lv_at hl 0 rfl) ?_
  refine lv_if_ge hx hb d_Bl_isAllAlike_8 rfl (fun hc => ?_) (fun hc => ?_)
  · have hf := hf.1 hc
    refine lv_iconst (v := (1 : Int32)) hx hb d_Bl_isAllAlike_13 (by decide) ?_
    refine lv_topi (fun z3 hz3 => ?_)
    have hf := hf z3 hz3
    refine lv_istore_n hx hb d_Bl_isAllAlike_14 rfl hl (by decide) rfl (fun ls hl => ?_)
    have hl : lv_has ls 4 [(3, .int z3), (2, .int z2), (0, .ref (a 8)), (1, .int x1)] := hl
    exact lab15 _ _ _ _ _ _ _ hf hP hD hS (lv_sub hl [2, 3, 1, 0] rfl)
  · have hf := hf.2 hc
    refine lv_iconst (v := (0 : Int32)) hx hb d_Bl_isAllAlike_11 (by decide) ?_
    exact hend _ _ _ _ _ _ d_Bl_isAllAlike_12 rfl hf hP hD hS
abbrev rm_Bl_join : Room := { frames := 40, cells := 0, slots := 0, locals := 800 }
set_option maxRecDepth 100000 in
set_option maxHeartbeats 4000000 in
theorem c_Bl_join (l : Launch) (D : va_G) (cI : ClassId) (a : Nat → Nat) (wr : St → va_W) (hwr : Fx 17 wr) (x1 : Int32) (σ : St) (Q : St → Prop) (hf : F_Bl_join x1 σ Q) : Cv l y_Bl_join (.code y_Bl_join b_Bl_join 4 none) rm_Bl_join D cI [.ref (a 8), .int x1] (wBl cI a wr) σ Q := by
  refine Cv.of (by decide +kernel) (Nat.le_of_ble_eq_true rfl) ?_
  intro p e s m below meth c ls A Z hx hb hml hown hts hok hP hD hA hl hend
  have S : CallFix p m c b_Bl_join 4 s ([.ref (a 8), .int x1] : List Value).toArray lwg "PropertyTrie$Blocks" := ⟨hx, hb, hml, hown, hts⟩
  have hS : va_S A s.heap s.heap [] := va_S.rf
  have hl : lv_has ls 4 [(0, .ref (a 8)), (1, .int x1)] := hl
  unfold F_Bl_join at hf
  refine lv_aload_n hx hb d_Bl_join_0 rfl (lv_at hl 0 rfl) ?_
  refine rg_Bl_cells S hok hP (hts _ k_fl_Bl_19) d_Bl_join_1 ?_
  refine lv_iload_n hx hb d_Bl_join_4 rfl (lv_at hl 1 rfl) ?_
  obtain ⟨hin, hf⟩ := hf
  refine rl_Bl_cells S hok hP hin d_Bl_join_5 ?_
  refine lv_ineg hx hb d_Bl_join_6 ?_
  refine lv_topi (fun z1 hz1 => ?_)
  have hf := hf z1 hz1
  refine lv_istore_n hx hb d_Bl_join_7 rfl hl (by decide) rfl (fun ls hl => ?_)
  have hl : lv_has ls 4 [(2, .int z1), (0, .ref (a 8)), (1, .int x1)] := hl
  refine lv_iload_n hx hb d_Bl_join_8 rfl (lv_at hl 0 rfl) ?_
  refine lv_if_le hx hb d_Bl_join_9 rfl (fun hc => ?_) (fun hc => ?_)
  · have hf := hf.1 hc
    exact hend _ _ _ _ _ d_Bl_join_64 hf hP hD hS
  · have hf := hf.2 hc
    refine lv_aload_n hx hb d_Bl_join_12 rfl (lv_at hl 1 rfl) ?_
    refine lv_iload_n hx hb d_Bl_join_13 rfl (lv_at hl 0 rfl) ?_
    refine r_callVi (As := [.int z1]) (rest := []) (n := 1) (q0 := 8) S hok (c_Bl_isAllAlike l D cI a wr hwr _ _ _ hf) k_ml_Bl_86 k_im_Bl_isAllAlike k_sel_Bl_isAllAlike k_ini_Bl k_code_Bl_isAllAlike rfl rfl (by decide +kernel) ⟨by decide, by decide⟩ rfl rfl hP hD hS hA (Nat.zero_le _) (Nat.zero_le _) hl.1 rfl rfl (Nat.le_of_ble_eq_true rfl) d_Bl_join_14 (fun r3 σ2 H locs hf hP hD hS => ?_)
    have hP : va_P D classes (wBl cI a wr σ2) H := hP
    have hD : va_D A (wBl cI a wr σ2) := hD
    refine lv_if_eq hx hb d_Bl_join_17 rfl (fun hc => ?_) (fun hc => ?_)
    · have hf := hf.1 hc
      exact hend _ _ _ _ _ d_Bl_join_64 hf hP hD hS
    · have hf := hf.2 hc
      refine lv_aload_n hx hb d_Bl_join_20 rfl (lv_at hl 1 rfl) ?_
      refine rg_Bl_cells S hok hP (hts _ k_fl_Bl_19) d_Bl_join_21 ?_
      refine lv_iload_n hx hb d_Bl_join_24 rfl (lv_at hl 0 rfl) ?_
      obtain ⟨hin, hf⟩ := hf
      refine rl_Bl_cells S hok hP hin d_Bl_join_25 ?_
      refine lv_topi (fun z4 hz4 => ?_)
      have hf := hf z4 hz4
      refine lv_istore_n hx hb d_Bl_join_26 rfl hl (by decide) rfl (fun ls hl => ?_)
      have hl : lv_has ls 4 [(3, .int z4), (2, .int z1), (0, .ref (a 8)), (1, .int x1)] := hl
      refine lv_aload_n hx hb d_Bl_join_27 rfl (lv_at hl 2 rfl) ?_
      refine rg_Bl_cells S hok hP (hts _ k_fl_Bl_19) d_Bl_join_28 ?_
      refine lv_iload_n hx hb d_Bl_join_31 rfl (lv_at hl 3 rfl) ?_
      refine lv_iload_n hx hb d_Bl_join_32 rfl (lv_at hl 0 rfl) ?_
      obtain ⟨hin, hf⟩ := hf
      refine rs_Bl_cells S hok hwr hP hD hS hin d_Bl_join_33 (fun σ5 H locs hσ5 hP hD hS => ?_)
      have hf := hf σ5 hσ5
      refine lv_aload_n hx hb d_Bl_join_34 rfl (lv_at hl 2 rfl) ?_
      refine rg_Bl_records S hok hP (hts _ k_fl_Bl_14) d_Bl_join_35 ?_
      refine lv_iload_n hx hb d_Bl_join_38 rfl (lv_at hl 0 rfl) ?_
      refine lv_bipush (v := (31 : Int32)) hx hb d_Bl_join_39 (by decide) ?_
      refine r_callVv (As := [.int z4, .int (31 : Int32)]) (rest := []) (n := 2) (q0 := 0) S hok (c_Rc_release l D cI a (wrB cI a wr) (Fx_B hwr) _ _ _ _ hf) k_ml_Bl_80 k_im_Rc_release k_sel_Rc_release k_ini_Rc k_code_Rc_release rfl rfl (by decide +kernel) ⟨by decide, by decide⟩ rfl rfl hP hD hS hA (Nat.zero_le _) (Nat.zero_le _) hl.1 rfl rfl (Nat.le_of_ble_eq_true rfl) d_Bl_join_41 (fun σ6 H locs hf hP hD hS => ?_)
      have hP : va_P D classes (wBl cI a wr σ6) H := hP
      have hD : va_D A (wBl cI a wr σ6) := hD
      refine lv_aload_n hx hb d_Bl_join_44 rfl (lv_at hl 2 rfl) ?_
      refine rg_Bl_spareRows S hok hP (hts _ k_fl_Bl_23) d_Bl_join_45 ?_
      refine lv_aload_n hx hb d_Bl_join_48 rfl (lv_at hl 2 rfl) ?_
      refine rg_Bl_spares S hok hP (hts _ k_fl_Bl_40) d_Bl_join_49 ?_
      refine lv_iload_n hx hb d_Bl_join_52 rfl (lv_at hl 1 rfl) ?_
      obtain ⟨hin, hf⟩ := hf
      refine rs_Bl_spareRows S hok hwr hP hD hS hin d_Bl_join_53 (fun σ7 H locs hσ7 hP hD hS => ?_)
      have hf := hf σ7 hσ7
      refine lv_aload_n hx hb d_Bl_join_54 rfl (lv_at hl 2 rfl) ?_
      refine lv_dup hx hb d_Bl_join_55 rfl ?_
      refine rg_Bl_spares S hok hP (hts _ k_fl_Bl_40) d_Bl_join_56 ?_
      refine lv_iconst (v := (1 : Int32)) hx hb d_Bl_join_59 (by decide) ?_
      refine lv_iadd hx hb d_Bl_join_60 ?_
      refine rp_Bl_spares S hok hwr hP hD hS (hts _ k_fl_Bl_40) d_Bl_join_61 (fun σ8 H locs hσ8 hP hD hS => ?_)
      have hf := hf σ8 hσ8
      exact hend _ _ _ _ _ d_Bl_join_64 hf hP hD hS
abbrev rm_Bl_joinBelow : Room := { frames := 50, cells := 0, slots := 0, locals := 1000 }
set_option maxRecDepth 100000 in
set_option maxHeartbeats 4000000 in
theorem c_Bl_joinBelow (l : Launch) (D : va_G) (cI : ClassId) (a : Nat → Nat) (wr : St → va_W) (hwr : Fx 17 wr) (x1 : Int32) (σ : St) (Q : St → Prop) (hf : F_Bl_joinBelow x1 σ Q) : Cv l y_Bl_joinBelow (.code y_Bl_joinBelow b_Bl_joinBelow 4 none) rm_Bl_joinBelow D cI [.ref (a 8), .int x1] (wBl cI a wr) σ Q := by
  refine Cv.of (by decide +kernel) (Nat.le_of_ble_eq_true rfl) ?_
  intro p e s m below meth c ls A Z hx hb hml hown hts hok hP hD hA hl hend
  have S : CallFix p m c b_Bl_joinBelow 4 s ([.ref (a 8), .int x1] : List Value).toArray lwg "PropertyTrie$Blocks" := ⟨hx, hb, hml, hown, hts⟩
  have hS : va_S A s.heap s.heap [] := va_S.rf
  have hl : lv_has ls 4 [(0, .ref (a 8)), (1, .int x1)] := hl
  unfold F_Bl_joinBelow at hf
  have lab14 : ∀ (v1 v2 v3 : Int32) (σ : St) (H : Heap) (locs : List Loc) (ls : Array Slot), F_Bl_joinBelow_L14 v1 v2 v3 σ Q → va_P D classes (wBl cI a wr σ) H → va_D A (wBl cI a wr σ) → va_S A s.heap H locs → lv_has ls 4 [(0, .ref (a 8)), (1, .int v1), (2, .int v2), (3, .int v3)] → W p l e rm_Bl_joinBelow s m ([.ref (a 8), .int x1] : List Value).toArray below meth c H locs 0 0 Z (F0 m 14 ls []) := by
    intro v1 v2 v3 σ H locs ls hf hP hD hS hl
    unfold F_Bl_joinBelow_L14 at hf
    obtain ⟨I14, m14, h0, hst14⟩ := hf
    have lp14 : ∀ (n : Nat) (v3 : Int32) (σ : St) (H : Heap) (locs : List Loc) (ls : Array Slot), m14 v3 σ = n → I14 v3 σ → va_P D classes (wBl cI a wr σ) H → va_D A (wBl cI a wr σ) → va_S A s.heap H locs → lv_has ls 4 [(0, .ref (a 8)), (1, .int v1), (2, .int v2), (3, .int v3)] → W p l e rm_Bl_joinBelow s m ([.ref (a 8), .int x1] : List Value).toArray below meth c H locs 0 0 Z (F0 m 14 ls []) := by
      intro n14
      induction n14 using Nat.strongRecOn with
      | _ n14 ih14 =>
        intro v3 σ H locs ls hn hI hP hD hS hl
        have hf := hst14 v3 σ n14 hI hn
        refine lv_iload_n hx hb d_Bl_joinBelow_14 rfl (lv_at hl 3 rfl) ?_
        refine lv_bipush (v := (32 : Int32)) hx hb d_Bl_joinBelow_15 (by decide) ?_
        refine lv_icmp_ge hx hb d_Bl_joinBelow_17 rfl (fun hc => ?_) (fun hc => ?_)
        · have hf := hf.1 hc
          refine lv_aload_n hx hb d_Bl_joinBelow_33 rfl (lv_at hl 0 rfl) ?_
          refine lv_iload_n hx hb d_Bl_joinBelow_34 rfl (lv_at hl 1 rfl) ?_
          refine r_callVv (As := [.int v1]) (rest := []) (n := 1) (q0 := 8) S hok (c_Bl_join l D cI a wr hwr _ _ _ hf) k_ml_Bl_83 k_im_Bl_join k_sel_Bl_join k_ini_Bl k_code_Bl_join rfl rfl (by decide +kernel) ⟨by decide, by decide⟩ rfl rfl hP hD hS hA (Nat.zero_le _) (Nat.zero_le _) hl.1 rfl rfl (Nat.le_of_ble_eq_true rfl) d_Bl_joinBelow_35 (fun σ1 H locs hf hP hD hS => ?_)
          have hP : va_P D classes (wBl cI a wr σ1) H := hP
          have hD : va_D A (wBl cI a wr σ1) := hD
          exact hend _ _ _ _ _ d_Bl_joinBelow_38 hf hP hD hS
        · have hf := hf.2 hc
          refine lv_aload_n hx hb d_Bl_joinBelow_20 rfl (lv_at hl 0 rfl) ?_
          refine lv_iload_n hx hb d_Bl_joinBelow_21 rfl (lv_at hl 2 rfl) ?_
          refine lv_iload_n hx hb d_Bl_joinBelow_22 rfl (lv_at hl 3 rfl) ?_
          refine lv_iadd hx hb d_Bl_joinBelow_23 ?_
          refine r_callVv (As := [.int (v2 + v3)]) (rest := []) (n := 1) (q0 := 8) S hok (c_Bl_join l D cI a wr hwr _ _ _ hf) k_ml_Bl_83 k_im_Bl_join k_sel_Bl_join k_ini_Bl k_code_Bl_join rfl rfl (by decide +kernel) ⟨by decide, by decide⟩ rfl rfl hP hD hS hA (Nat.zero_le _) (Nat.zero_le _) hl.1 rfl rfl (Nat.le_of_ble_eq_true rfl) d_Bl_joinBelow_24 (fun σ2 H locs hf hP hD hS => ?_)
          have hP : va_P D classes (wBl cI a wr σ2) H := hP
          have hD : va_D A (wBl cI a wr σ2) := hD
          obtain ⟨z3, hz3⟩ : ∃ z3 : Int32, z3 = v3 + (1 : Int32) := ⟨_, rfl⟩
          have hf := hf z3 hz3
          refine lv_iinc (k := 3) (v := z3) hx hb d_Bl_joinBelow_27 hl rfl (by rw [hz3]; rfl) (by decide) rfl (fun ls hl => ?_)
          have hl : lv_has ls 4 [(3, .int z3), (0, .ref (a 8)), (1, .int v1), (2, .int v2)] := hl
          refine lv_goto hx hb d_Bl_joinBelow_30 rfl ?_
          exact ih14 _ hf.2 _ _ _ _ _ rfl hf.1 hP hD hS (lv_sub hl [1, 2, 3, 0] rfl)
    exact lp14 _ v3 σ H locs ls rfl h0 hP hD hS hl
  refine lv_aload_n hx hb d_Bl_joinBelow_0 rfl (lv_at hl 0 rfl) ?_
  refine rg_Bl_cells S hok hP (hts _ k_fl_Bl_19) d_Bl_joinBelow_1 ?_
  refine lv_iload_n hx hb d_Bl_joinBelow_4 rfl (lv_at hl 1 rfl) ?_
  obtain ⟨hin, hf⟩ := hf
  refine rl_Bl_cells S hok hP hin d_Bl_joinBelow_5 ?_
  refine lv_ineg hx hb d_Bl_joinBelow_6 ?_
  refine lv_topi (fun z4 hz4 => ?_)
  have hf := hf z4 hz4
  refine lv_istore_n hx hb d_Bl_joinBelow_7 rfl hl (by decide) rfl (fun ls hl => ?_)
  have hl : lv_has ls 4 [(2, .int z4), (0, .ref (a 8)), (1, .int x1)] := hl
  refine lv_iload_n hx hb d_Bl_joinBelow_8 rfl (lv_at hl 0 rfl) ?_
  refine lv_if_le hx hb d_Bl_joinBelow_9 rfl (fun hc => ?_) (fun hc => ?_)
  · have hf := hf.1 hc
    exact hend _ _ _ _ _ d_Bl_joinBelow_38 hf hP hD hS
  · have hf := hf.2 hc
    refine lv_iconst (v := (0 : Int32)) hx hb d_Bl_joinBelow_12 (by decide) ?_
    refine lv_topi (fun z5 hz5 => ?_)
    have hf := hf z5 hz5
    refine lv_istore_n hx hb d_Bl_joinBelow_13 rfl hl (by decide) rfl (fun ls hl => ?_)
    have hl : lv_has ls 4 [(3, .int z5), (2, .int z4), (0, .ref (a 8)), (1, .int x1)] := hl
    exact lab14 _ _ _ _ _ _ _ hf hP hD hS (lv_sub hl [2, 3, 1, 0] rfl)
abbrev rm_Bl_alter : Room := { frames := 60, cells := 0, slots := 0, locals := 1200 }
set_option maxRecDepth 100000 in
set_option maxHeartbeats 4000000 in
theorem c_Bl_alter (l : Launch) (D : va_G) (cI : ClassId) (a : Nat → Nat) (wr : St → va_W) (hwr : Fx 17 wr) (x1 : Int32) (x2 : Int32) (σ : St) (Q : St → Prop) (hf : F_Bl_alter x1 x2 σ Q) : Cv l y_Bl_alter (.code y_Bl_alter b_Bl_alter 5 none) rm_Bl_alter D cI [.ref (a 8), .int x1, .int x2] (wBl cI a wr) σ Q := by
  refine Cv.of (by decide +kernel) (Nat.le_of_ble_eq_true rfl) ?_
  intro p e s m below meth c ls A Z hx hb hml hown hts hok hP hD hA hl hend
  have S : CallFix p m c b_Bl_alter 5 s ([.ref (a 8), .int x1, .int x2] : List Value).toArray lwg "PropertyTrie$Blocks" := ⟨hx, hb, hml, hown, hts⟩
  have hS : va_S A s.heap s.heap [] := va_S.rf
  have hl : lv_has ls 5 [(0, .ref (a 8)), (1, .int x1), (2, .int x2)] := hl
  unfold F_Bl_alter at hf
  have lab67 : ∀ (v2 v4 : Int32) (σ : St) (H : Heap) (locs : List Loc) (ls : Array Slot), F_Bl_alter_L67 v2 v4 σ Q → va_P D classes (wBl cI a wr σ) H → va_D A (wBl cI a wr σ) → va_S A s.heap H locs → lv_has ls 5 [(0, .ref (a 8)), (2, .int v2), (4, .int v4)] → W p l e rm_Bl_alter s m ([.ref (a 8), .int x1, .int x2] : List Value).toArray below meth c H locs 0 0 Z (F0 m 67 ls []) := by
    intro v2 v4 σ H locs ls hf hP hD hS hl
    unfold F_Bl_alter_L67 at hf
    obtain ⟨I67, m67, h0, hst67⟩ := hf
    have lp67 : ∀ (n : Nat) (v4 : Int32) (σ : St) (H : Heap) (locs : List Loc) (ls : Array Slot), m67 v4 σ = n → I67 v4 σ → va_P D classes (wBl cI a wr σ) H → va_D A (wBl cI a wr σ) → va_S A s.heap H locs → lv_has ls 5 [(0, .ref (a 8)), (2, .int v2), (4, .int v4)] → W p l e rm_Bl_alter s m ([.ref (a 8), .int x1, .int x2] : List Value).toArray below meth c H locs 0 0 Z (F0 m 67 ls []) := by
      intro n67
      induction n67 using Nat.strongRecOn with
      | _ n67 ih67 =>
        intro v4 σ H locs ls hn hI hP hD hS hl
        have hf := hst67 v4 σ n67 hI hn
        refine lv_iload hx hb d_Bl_alter_67 (lv_at hl 2 rfl) ?_
        refine lv_iload_n hx hb d_Bl_alter_69 rfl (lv_at hl 1 rfl) ?_
        refine lv_bipush (v := (10 : Int32)) hx hb d_Bl_alter_70 (by decide) ?_
        refine lv_ishr hx hb d_Bl_alter_72 ?_
        refine lv_icmp_gt hx hb d_Bl_alter_73 rfl (fun hc => ?_) (fun hc => ?_)
        · have hf := hf.1 hc
          exact hend _ _ _ _ _ d_Bl_alter_88 hf hP hD hS
        · have hf := hf.2 hc
          refine lv_aload_n hx hb d_Bl_alter_76 rfl (lv_at hl 0 rfl) ?_
          refine lv_iload hx hb d_Bl_alter_77 (lv_at hl 2 rfl) ?_
          refine r_callVv (As := [.int v4]) (rest := []) (n := 1) (q0 := 8) S hok (c_Bl_joinBelow l D cI a wr hwr _ _ _ hf) k_ml_Bl_70 k_im_Bl_joinBelow k_sel_Bl_joinBelow k_ini_Bl k_code_Bl_joinBelow rfl rfl (by decide +kernel) ⟨by decide, by decide⟩ rfl rfl hP hD hS hA (Nat.zero_le _) (Nat.zero_le _) hl.1 rfl rfl (Nat.le_of_ble_eq_true rfl) d_Bl_alter_79 (fun σ1 H locs hf hP hD hS => ?_)
          have hP : va_P D classes (wBl cI a wr σ1) H := hP
          have hD : va_D A (wBl cI a wr σ1) := hD
          obtain ⟨z2, hz2⟩ : ∃ z2 : Int32, z2 = v4 + (1 : Int32) := ⟨_, rfl⟩
          have hf := hf z2 hz2
          refine lv_iinc (k := 2) (v := z2) hx hb d_Bl_alter_82 hl rfl (by rw [hz2]; rfl) (by decide) rfl (fun ls hl => ?_)
          have hl : lv_has ls 5 [(4, .int z2), (0, .ref (a 8)), (2, .int v2)] := hl
          refine lv_goto hx hb d_Bl_alter_85 rfl ?_
          exact ih67 _ hf.2 _ _ _ _ _ rfl hf.1 hP hD hS (lv_sub hl [1, 2, 0] rfl)
    exact lp67 _ v4 σ H locs ls rfl h0 hP hD hS hl
  have lab29 : ∀ (v1 v2 v3 : Int32) (σ : St) (H : Heap) (locs : List Loc) (ls : Array Slot), F_Bl_alter_L29 v1 v2 v3 σ Q → va_P D classes (wBl cI a wr σ) H → va_D A (wBl cI a wr σ) → va_S A s.heap H locs → lv_has ls 5 [(0, .ref (a 8)), (1, .int v1), (2, .int v2), (3, .int v3)] → W p l e rm_Bl_alter s m ([.ref (a 8), .int x1, .int x2] : List Value).toArray below meth c H locs 0 0 Z (F0 m 29 ls []) := by
    intro v1 v2 v3 σ H locs ls hf hP hD hS hl
    unfold F_Bl_alter_L29 at hf
    obtain ⟨I29, m29, h0, hst29⟩ := hf
    have lp29 : ∀ (n : Nat) (v3 : Int32) (σ : St) (H : Heap) (locs : List Loc) (ls : Array Slot), m29 v3 σ = n → I29 v3 σ → va_P D classes (wBl cI a wr σ) H → va_D A (wBl cI a wr σ) → va_S A s.heap H locs → lv_has ls 5 [(0, .ref (a 8)), (1, .int v1), (2, .int v2), (3, .int v3)] → W p l e rm_Bl_alter s m ([.ref (a 8), .int x1, .int x2] : List Value).toArray below meth c H locs 0 0 Z (F0 m 29 ls []) := by
      intro n29
      induction n29 using Nat.strongRecOn with
      | _ n29 ih29 =>
        intro v3 σ H locs ls hn hI hP hD hS hl
        have hf := hst29 v3 σ n29 hI hn
        refine lv_iload_n hx hb d_Bl_alter_29 rfl (lv_at hl 3 rfl) ?_
        refine lv_iload_n hx hb d_Bl_alter_30 rfl (lv_at hl 2 rfl) ?_
        refine lv_icmp_gt hx hb d_Bl_alter_31 rfl (fun hc => ?_) (fun hc => ?_)
        · have hf := hf.1 hc
          refine lv_iload_n hx hb d_Bl_alter_61 rfl (lv_at hl 1 rfl) ?_
          refine lv_bipush (v := (10 : Int32)) hx hb d_Bl_alter_62 (by decide) ?_
          refine lv_ishr hx hb d_Bl_alter_64 ?_
          refine lv_topi (fun z3 hz3 => ?_)
          have hf := hf z3 hz3
          refine lv_istore hx hb d_Bl_alter_65 hl (by decide) rfl (fun ls hl => ?_)
          have hl : lv_has ls 5 [(4, .int z3), (0, .ref (a 8)), (1, .int v1), (2, .int v2), (3, .int v3)] := hl
          exact lab67 _ _ _ _ _ _ hf hP hD hS (lv_sub hl [1, 3, 0] rfl)
        · have hf := hf.2 hc
          refine lv_aload_n hx hb d_Bl_alter_34 rfl (lv_at hl 0 rfl) ?_
          refine lv_iload_n hx hb d_Bl_alter_35 rfl (lv_at hl 3 rfl) ?_
          refine r_callVv (As := [.int v3]) (rest := []) (n := 1) (q0 := 8) S hok (c_Bl_find l D cI a wr hwr _ _ _ hf) k_ml_Bl_44 k_im_Bl_find k_sel_Bl_find k_ini_Bl k_code_Bl_find rfl rfl (by decide +kernel) ⟨by decide, by decide⟩ rfl rfl hP hD hS hA (Nat.zero_le _) (Nat.zero_le _) hl.1 rfl rfl (Nat.le_of_ble_eq_true rfl) d_Bl_alter_36 (fun σ4 H locs hf hP hD hS => ?_)
          have hP : va_P D classes (wBl cI a wr σ4) H := hP
          have hD : va_D A (wBl cI a wr σ4) := hD
          refine lv_aload_n hx hb d_Bl_alter_39 rfl (lv_at hl 0 rfl) ?_
          refine lv_aload_n hx hb d_Bl_alter_40 rfl (lv_at hl 0 rfl) ?_
          refine rg_Bl_found S hok hP (hts _ k_fl_Bl_48) d_Bl_alter_41 ?_
          refine r_callVv (As := [.int (σ4 14 0)]) (rest := []) (n := 1) (q0 := 8) S hok (c_Bl_replace l D cI a wr hwr _ _ _ hf) k_ml_Bl_61 k_im_Bl_replace k_sel_Bl_replace k_ini_Bl k_code_Bl_replace rfl rfl (by decide +kernel) ⟨by decide, by decide⟩ rfl rfl hP hD hS hA (Nat.zero_le _) (Nat.zero_le _) hl.1 rfl rfl (Nat.le_of_ble_eq_true rfl) d_Bl_alter_44 (fun σ5 H locs hf hP hD hS => ?_)
          have hP : va_P D classes (wBl cI a wr σ5) H := hP
          have hD : va_D A (wBl cI a wr σ5) := hD
          refine lv_iload_n hx hb d_Bl_alter_47 rfl (lv_at hl 3 rfl) ?_
          refine lv_aload_n hx hb d_Bl_alter_48 rfl (lv_at hl 0 rfl) ?_
          refine rg_Bl_foundLast S hok hP (hts _ k_fl_Bl_54) d_Bl_alter_49 ?_
          refine va_mmax hx hb (hml.trans hl.1.symm) hown (hts _ k_ml_Bl_64) (hts _ k_st_Mt_max) (hts _ k_ini_Mt) (hts _ k_code_Mt_max) (by decide) (by decide) (Nat.zero_le _) (Nat.zero_le _) d_Bl_alter_52 ?_
          refine lv_iconst (v := (1 : Int32)) hx hb d_Bl_alter_55 (by decide) ?_
          refine lv_iadd hx hb d_Bl_alter_56 ?_
          refine lv_topi (fun z6 hz6 => ?_)
          have hf := hf z6 hz6
          refine lv_istore_n hx hb d_Bl_alter_57 rfl hl (by decide) rfl (fun ls hl => ?_)
          have hl : lv_has ls 5 [(3, .int z6), (0, .ref (a 8)), (1, .int v1), (2, .int v2)] := hl
          refine lv_goto hx hb d_Bl_alter_58 rfl ?_
          exact ih29 _ hf.2 _ _ _ _ _ rfl hf.1 hP hD hS (lv_sub hl [1, 2, 3, 0] rfl)
    exact lp29 _ v3 σ H locs ls rfl h0 hP hD hS hl
  refine lv_aload_n hx hb d_Bl_alter_0 rfl (lv_at hl 0 rfl) ?_
  refine rg_Bl_spares S hok hP (hts _ k_fl_Bl_40) d_Bl_alter_1 ?_
  refine lv_iconst (v := (4 : Int32)) hx hb d_Bl_alter_4 (by decide) ?_
  refine lv_icmp_ge hx hb d_Bl_alter_5 rfl (fun hc => ?_) (fun hc => ?_)
  · have hf := hf.1 hc
    refine lv_aload_n hx hb d_Bl_alter_9 rfl (lv_at hl 0 rfl) ?_
    refine lv_iload_n hx hb d_Bl_alter_10 rfl (lv_at hl 1 rfl) ?_
    refine r_callVv (As := [.int x1]) (rest := []) (n := 1) (q0 := 8) S hok (c_Bl_splitBefore l D cI a wr hwr _ _ _ hf) k_ml_Bl_57 k_im_Bl_splitBefore k_sel_Bl_splitBefore k_ini_Bl k_code_Bl_splitBefore rfl rfl (by decide +kernel) ⟨by decide, by decide⟩ rfl rfl hP hD hS hA (Nat.zero_le _) (Nat.zero_le _) hl.1 rfl rfl (Nat.le_of_ble_eq_true rfl) d_Bl_alter_11 (fun σ7 H locs hf hP hD hS => ?_)
    have hP : va_P D classes (wBl cI a wr σ7) H := hP
    have hD : va_D A (wBl cI a wr σ7) := hD
    refine lv_iload_n hx hb d_Bl_alter_14 rfl (lv_at hl 2 rfl) ?_
    refine lv_ldc (v := (1114111 : Int32)) hx hb hown (hts _ k_cst_Bl_60) d_Bl_alter_15 ?_
    refine lv_icmp_ge hx hb d_Bl_alter_17 rfl (fun hc => ?_) (fun hc => ?_)
    · have hf := hf.1 hc
      refine lv_iload_n hx hb d_Bl_alter_27 rfl (lv_at hl 1 rfl) ?_
      refine lv_istore_n hx hb d_Bl_alter_28 rfl hl (by decide) rfl (fun ls hl => ?_)
      have hl : lv_has ls 5 [(3, .int x1), (0, .ref (a 8)), (1, .int x1), (2, .int x2)] := hl
      exact lab29 _ _ _ _ _ _ _ hf hP hD hS (lv_sub hl [1, 2, 3, 0] rfl)
    · have hf := hf.2 hc
      refine lv_aload_n hx hb d_Bl_alter_20 rfl (lv_at hl 0 rfl) ?_
      refine lv_iload_n hx hb d_Bl_alter_21 rfl (lv_at hl 2 rfl) ?_
      refine lv_iconst (v := (1 : Int32)) hx hb d_Bl_alter_22 (by decide) ?_
      refine lv_iadd hx hb d_Bl_alter_23 ?_
      refine r_callVv (As := [.int (x2 + (1 : Int32))]) (rest := []) (n := 1) (q0 := 8) S hok (c_Bl_splitBefore l D cI a wr hwr _ _ _ hf) k_ml_Bl_57 k_im_Bl_splitBefore k_sel_Bl_splitBefore k_ini_Bl k_code_Bl_splitBefore rfl rfl (by decide +kernel) ⟨by decide, by decide⟩ rfl rfl hP hD hS hA (Nat.zero_le _) (Nat.zero_le _) hl.1 rfl rfl (Nat.le_of_ble_eq_true rfl) d_Bl_alter_24 (fun σ8 H locs hf hP hD hS => ?_)
      have hP : va_P D classes (wBl cI a wr σ8) H := hP
      have hD : va_D A (wBl cI a wr σ8) := hD
      refine lv_iload_n hx hb d_Bl_alter_27 rfl (lv_at hl 1 rfl) ?_
      refine lv_istore_n hx hb d_Bl_alter_28 rfl hl (by decide) rfl (fun ls hl => ?_)
      have hl : lv_has ls 5 [(3, .int x1), (0, .ref (a 8)), (1, .int x1), (2, .int x2)] := hl
      exact lab29 _ _ _ _ _ _ _ hf hP hD hS (lv_sub hl [1, 2, 3, 0] rfl)
  · have hf := hf.2 hc
    exact hend _ _ _ _ _ d_Bl_alter_8 hf hP hD hS
abbrev rm_Bl_empty : Room := { frames := 30, cells := 0, slots := 0, locals := 600 }
set_option maxRecDepth 100000 in
set_option maxHeartbeats 4000000 in
theorem c_Bl_empty (l : Launch) (D : va_G) (cI : ClassId) (a : Nat → Nat) (wr : St → va_W) (hwr : Fx 17 wr) (σ : St) (Q : St → Prop) (hf : F_Bl_empty σ Q) : Cv l y_Bl_empty (.code y_Bl_empty b_Bl_empty 2 none) rm_Bl_empty D cI [.ref (a 8)] (wBl cI a wr) σ Q := by
  refine Cv.of (by decide +kernel) (Nat.le_of_ble_eq_true rfl) ?_
  intro p e s m below meth c ls A Z hx hb hml hown hts hok hP hD hA hl hend
  have S : CallFix p m c b_Bl_empty 2 s ([.ref (a 8)] : List Value).toArray lwg "PropertyTrie$Blocks" := ⟨hx, hb, hml, hown, hts⟩
  have hS : va_S A s.heap s.heap [] := va_S.rf
  have hl : lv_has ls 2 [(0, .ref (a 8))] := hl
  unfold F_Bl_empty at hf
  have lab32 : ∀ (v1 : Int32) (σ : St) (H : Heap) (locs : List Loc) (ls : Array Slot), F_Bl_empty_L32 v1 σ Q → va_P D classes (wBl cI a wr σ) H → va_D A (wBl cI a wr σ) → va_S A s.heap H locs → lv_has ls 2 [(0, .ref (a 8)), (1, .int v1)] → W p l e rm_Bl_empty s m ([.ref (a 8)] : List Value).toArray below meth c H locs 0 0 Z (F0 m 32 ls []) := by
    intro v1 σ H locs ls hf hP hD hS hl
    unfold F_Bl_empty_L32 at hf
    obtain ⟨I32, m32, h0, hst32⟩ := hf
    have lp32 : ∀ (n : Nat) (v1 : Int32) (σ : St) (H : Heap) (locs : List Loc) (ls : Array Slot), m32 v1 σ = n → I32 v1 σ → va_P D classes (wBl cI a wr σ) H → va_D A (wBl cI a wr σ) → va_S A s.heap H locs → lv_has ls 2 [(0, .ref (a 8)), (1, .int v1)] → W p l e rm_Bl_empty s m ([.ref (a 8)] : List Value).toArray below meth c H locs 0 0 Z (F0 m 32 ls []) := by
      intro n32
      induction n32 using Nat.strongRecOn with
      | _ n32 ih32 =>
        intro v1 σ H locs ls hn hI hP hD hS hl
        have hf := hst32 v1 σ n32 hI hn
        refine lv_iload_n hx hb d_Bl_empty_32 rfl (lv_at hl 1 rfl) ?_
        refine lv_sipush (v := (2048 : Int32)) hx hb d_Bl_empty_33 (by decide) ?_
        refine lv_icmp_ge hx hb d_Bl_empty_36 rfl (fun hc => ?_) (fun hc => ?_)
        · have hf := hf.1 hc
          refine lv_aload_n hx hb d_Bl_empty_59 rfl (lv_at hl 0 rfl) ?_
          refine lv_sipush (v := (2048 : Int32)) hx hb d_Bl_empty_60 (by decide) ?_
          refine rp_Bl_spares S hok hwr hP hD hS (hts _ k_fl_Bl_40) d_Bl_empty_63 (fun σ1 H locs hσ1 hP hD hS => ?_)
          have hf := hf σ1 hσ1
          exact hend _ _ _ _ _ d_Bl_empty_66 hf hP hD hS
        · have hf := hf.2 hc
          refine lv_aload_n hx hb d_Bl_empty_39 rfl (lv_at hl 0 rfl) ?_
          refine rg_Bl_spareRows S hok hP (hts _ k_fl_Bl_23) d_Bl_empty_40 ?_
          refine lv_iload_n hx hb d_Bl_empty_43 rfl (lv_at hl 1 rfl) ?_
          refine lv_sipush (v := (1088 : Int32)) hx hb d_Bl_empty_44 (by decide) ?_
          refine lv_iload_n hx hb d_Bl_empty_47 rfl (lv_at hl 1 rfl) ?_
          refine lv_bipush (v := (32 : Int32)) hx hb d_Bl_empty_48 (by decide) ?_
          refine lv_imul hx hb d_Bl_empty_50 ?_
          refine lv_iadd hx hb d_Bl_empty_51 ?_
          obtain ⟨hin, hf⟩ := hf
          refine rs_Bl_spareRows S hok hwr hP hD hS hin d_Bl_empty_52 (fun σ2 H locs hσ2 hP hD hS => ?_)
          have hf := hf σ2 hσ2
          obtain ⟨z3, hz3⟩ : ∃ z3 : Int32, z3 = v1 + (1 : Int32) := ⟨_, rfl⟩
          have hf := hf z3 hz3
          refine lv_iinc (k := 1) (v := z3) hx hb d_Bl_empty_53 hl rfl (by rw [hz3]; rfl) (by decide) rfl (fun ls hl => ?_)
          have hl : lv_has ls 2 [(1, .int z3), (0, .ref (a 8))] := hl
          refine lv_goto hx hb d_Bl_empty_56 rfl ?_
          exact ih32 _ hf.2 _ _ _ _ _ rfl hf.1 hP hD hS (lv_sub hl [1, 0] rfl)
    exact lp32 _ v1 σ H locs ls rfl h0 hP hD hS hl
  refine lv_aload_n hx hb d_Bl_empty_0 rfl (lv_at hl 0 rfl) ?_
  refine rg_Bl_records S hok hP (hts _ k_fl_Bl_14) d_Bl_empty_1 ?_
  refine r_callVv (As := []) (rest := []) (n := 0) (q0 := 0) S hok (c_Rc_empty l D cI a (wrB cI a wr) (Fx_B hwr)  _ _ hf) k_ml_Bl_29 k_im_Rc_empty k_sel_Rc_empty k_ini_Rc k_code_Rc_empty rfl rfl (by decide +kernel) ⟨by decide, by decide⟩ rfl rfl hP hD hS hA (Nat.zero_le _) (Nat.zero_le _) hl.1 rfl rfl (Nat.le_of_ble_eq_true rfl) d_Bl_empty_4 (fun σ4 H locs hf hP hD hS => ?_)
  have hP : va_P D classes (wBl cI a wr σ4) H := hP
  have hD : va_D A (wBl cI a wr σ4) := hD
  refine lv_aload_n hx hb d_Bl_empty_7 rfl (lv_at hl 0 rfl) ?_
  refine rg_Bl_cells S hok hP (hts _ k_fl_Bl_19) d_Bl_empty_8 ?_
  refine lv_iconst (v := (0 : Int32)) hx hb d_Bl_empty_11 (by decide) ?_
  refine lv_sipush (v := (1088 : Int32)) hx hb d_Bl_empty_12 (by decide) ?_
  refine lv_iconst (v := (0 : Int32)) hx hb d_Bl_empty_15 (by decide) ?_
  refine r_callSv (As := [.ref (a 9), .int (0 : Int32), .int (1088 : Int32), .int (0 : Int32)]) (rest := []) (n := 4) S hok (c_Ar_fill4_cells l D cI a wr hwr _ _ _ _ _ hf) k_ml_Bl_30 k_st_Ar_fill4 k_ini_Ar k_code_Ar_fill4 rfl rfl (by decide +kernel) ⟨by decide, by decide⟩ hP hD hS hA (Nat.zero_le _) (Nat.zero_le _) hl.1 rfl rfl (Nat.le_of_ble_eq_true rfl) d_Bl_empty_16 (fun σ5 H locs hf hP hD hS => ?_)
  have hP : va_P D classes (wBl cI a wr σ5) H := hP
  have hD : va_D A (wBl cI a wr σ5) := hD
  refine lv_aload_n hx hb d_Bl_empty_19 rfl (lv_at hl 0 rfl) ?_
  refine rg_Bl_records S hok hP (hts _ k_fl_Bl_14) d_Bl_empty_20 ?_
  refine lv_iconst (v := (0 : Int32)) hx hb d_Bl_empty_23 (by decide) ?_
  refine lv_sipush (v := (1088 : Int32)) hx hb d_Bl_empty_24 (by decide) ?_
  refine r_callVv (As := [.int (0 : Int32), .int (1088 : Int32)]) (rest := []) (n := 2) (q0 := 0) S hok (c_Rc_hold l D cI a (wrB cI a wr) (Fx_B hwr) _ _ _ _ hf) k_ml_Bl_36 k_im_Rc_hold k_sel_Rc_hold k_ini_Rc k_code_Rc_hold rfl rfl (by decide +kernel) ⟨by decide, by decide⟩ rfl rfl hP hD hS hA (Nat.zero_le _) (Nat.zero_le _) hl.1 rfl rfl (Nat.le_of_ble_eq_true rfl) d_Bl_empty_27 (fun σ6 H locs hf hP hD hS => ?_)
  have hP : va_P D classes (wBl cI a wr σ6) H := hP
  have hD : va_D A (wBl cI a wr σ6) := hD
  refine lv_iconst (v := (0 : Int32)) hx hb d_Bl_empty_30 (by decide) ?_
  refine lv_topi (fun z7 hz7 => ?_)
  have hf := hf z7 hz7
  refine lv_istore_n hx hb d_Bl_empty_31 rfl hl (by decide) rfl (fun ls hl => ?_)
  have hl : lv_has ls 2 [(1, .int z7), (0, .ref (a 8))] := hl
  exact lab32 _ _ _ _ _ hf hP hD hS (lv_sub hl [1, 0] rfl)
