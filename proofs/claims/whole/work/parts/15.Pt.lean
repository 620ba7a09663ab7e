abbrev rm_Pt_valueAt : Room := { frames := 30, cells := 0, slots := 0, locals := 600 }
set_option maxRecDepth 100000 in
set_option maxHeartbeats 4000000 in
theorem c_Pt_valueAt (l : Launch) (D : va_G) (cI : ClassId) (a : Nat → Nat) (wr : St → va_W) (hwr : Fx 17 wr) (x1 : Int32) (x2 : Int32) (σ : St) (Q : Int32 → St → Prop) (hf : F_Pt_valueAt x1 x2 σ Q) : Ci l y_Pt_valueAt (.code y_Pt_valueAt b_Pt_valueAt 3 (some .int)) rm_Pt_valueAt D cI [.ref (a 11), .int x1, .int x2] (wPt cI a wr) σ Q := by
  refine Ci.of (by decide +kernel) (Nat.le_of_ble_eq_true rfl) ?_
  intro p e s m below meth c ls A Z hx hb hml hown hts hok hP hD hA hl hend
  have S : CallFix p m c b_Pt_valueAt 3 s ([.ref (a 11), .int x1, .int x2] : List Value).toArray lwg "PropertyTrie" := ⟨hx, hb, hml, hown, hts⟩
  have hS : va_S A s.heap s.heap [] := va_S.rf
  have hl : lv_has ls 3 [(0, .ref (a 11)), (1, .int x1), (2, .int x2)] := hl
  unfold F_Pt_valueAt at hf
  refine lv_aload_n hx hb d_Pt_valueAt_0 rfl (lv_at hl 0 rfl) ?_
  refine rg_Pt_blocks S hok hP (hts _ k_fl_Pt_12) d_Pt_valueAt_1 ?_
  refine rgN_Bl_records S hok hP (va_Nw.use rfl (hok.2 _ kn_fl_Pt_28)) d_Pt_valueAt_4 ?_
  refine lv_aload_n hx hb d_Pt_valueAt_7 rfl (lv_at hl 0 rfl) ?_
  refine rg_Pt_blocks S hok hP (hts _ k_fl_Pt_12) d_Pt_valueAt_8 ?_
  refine lv_iload_n hx hb d_Pt_valueAt_11 rfl (lv_at hl 1 rfl) ?_
  refine r_callVi (As := [.int x1]) (rest := [.ref (a 0)]) (n := 1) (q0 := 8) S hok (c_Bl_recordOf l D cI a (wrT a wr) (Fx_T hwr) _ _ _ hf) k_ml_Pt_58 k_im_Bl_recordOf k_sel_Bl_recordOf k_ini_Bl k_code_Bl_recordOf rfl rfl (by decide +kernel) ⟨by decide, by decide⟩ rfl rfl hP hD hS hA (Nat.zero_le _) (Nat.zero_le _) hl.1 rfl rfl (Nat.le_of_ble_eq_true rfl) d_Pt_valueAt_12 (fun r2 σ1 H locs hf hP hD hS => ?_)
  have hP : va_P D classes (wPt cI a wr σ1) H := hP
  have hD : va_D A (wPt cI a wr σ1) := hD
  refine lv_iload_n hx hb d_Pt_valueAt_15 rfl (lv_at hl 2 rfl) ?_
  refine r_callVi (As := [.int r2, .int x2]) (rest := []) (n := 2) (q0 := 0) S hok (c_Rc_value l D cI a (wrB cI a (wrT a wr)) (Fx_B (Fx_T hwr)) _ _ _ _ hf) k_ml_Pt_68 k_im_Rc_value k_sel_Rc_value k_ini_Rc k_code_Rc_value rfl rfl (by decide +kernel) ⟨by decide, by decide⟩ rfl rfl hP hD hS hA (Nat.zero_le _) (Nat.zero_le _) hl.1 rfl rfl (Nat.le_of_ble_eq_true rfl) d_Pt_valueAt_16 (fun r4 σ3 H locs hf hP hD hS => ?_)
  have hP : va_P D classes (wPt cI a wr σ3) H := hP
  have hD : va_D A (wPt cI a wr σ3) := hD
  exact hend _ _ _ _ _ _ d_Pt_valueAt_19 rfl hf hP hD hS
abbrev rm_Pt_clear : Room := { frames := 40, cells := 0, slots := 0, locals := 800 }
set_option maxRecDepth 100000 in
set_option maxHeartbeats 4000000 in
theorem c_Pt_clear (l : Launch) (D : va_G) (cI : ClassId) (a : Nat → Nat) (wr : St → va_W) (hwr : Fx 17 wr) (σ : St) (Q : Int32 → St → Prop) (hf : F_Pt_clear σ Q) : Ci l y_Pt_clear (.code y_Pt_clear b_Pt_clear 5 (some .int)) rm_Pt_clear D cI [.ref (a 11)] (wPt cI a wr) σ Q := by
  refine Ci.of (by decide +kernel) (Nat.le_of_ble_eq_true rfl) ?_
  intro p e s m below meth c ls A Z hx hb hml hown hts hok hP hD hA hl hend
  have S : CallFix p m c b_Pt_clear 5 s ([.ref (a 11)] : List Value).toArray lwg "PropertyTrie" := ⟨hx, hb, hml, hown, hts⟩
  have hS : va_S A s.heap s.heap [] := va_S.rf
  have hl : lv_has ls 5 [(0, .ref (a 11))] := hl
  unfold F_Pt_clear at hf
  have lab4 : ∀ (v1 v2 : Int32) (σ : St) (H : Heap) (locs : List Loc) (ls : Array Slot), F_Pt_clear_L4 v1 v2 σ Q → va_P D classes (wPt cI a wr σ) H → va_D A (wPt cI a wr σ) → va_S A s.heap H locs → lv_has ls 5 [(0, .ref (a 11)), (1, .int v1), (2, .int v2)] → W p l e rm_Pt_clear s m ([.ref (a 11)] : List Value).toArray below meth c H locs 0 0 Z (F0 m 4 ls []) := by
    intro v1 v2 σ H locs ls hf hP hD hS hl
    unfold F_Pt_clear_L4 at hf
    obtain ⟨I4, m4, h0, hst4⟩ := hf
    have lp4 : ∀ (n : Nat) (v1 v2 : Int32) (σ : St) (H : Heap) (locs : List Loc) (ls : Array Slot), m4 v1 v2 σ = n → I4 v1 v2 σ → va_P D classes (wPt cI a wr σ) H → va_D A (wPt cI a wr σ) → va_S A s.heap H locs → lv_has ls 5 [(0, .ref (a 11)), (1, .int v1), (2, .int v2)] → W p l e rm_Pt_clear s m ([.ref (a 11)] : List Value).toArray below meth c H locs 0 0 Z (F0 m 4 ls []) := by
      intro n4
      induction n4 using Nat.strongRecOn with
      | _ n4 ih4 =>
        intro v1 v2 σ H locs ls hn hI hP hD hS hl
        have hf := hst4 v1 v2 σ n4 hI hn
        refine lv_iload_n hx hb d_Pt_clear_4 rfl (lv_at hl 2 rfl) ?_
        refine lv_sipush (v := (1024 : Int32)) hx hb d_Pt_clear_5 (by decide) ?_
        refine lv_icmp_ge hx hb d_Pt_clear_8 rfl (fun hc => ?_) (fun hc => ?_)
        · have hf := hf.1 hc
          refine lv_aload_n hx hb d_Pt_clear_60 rfl (lv_at hl 0 rfl) ?_
          refine rg_Pt_blocks S hok hP (hts _ k_fl_Pt_12) d_Pt_clear_61 ?_
          refine r_callVv (As := []) (rest := []) (n := 0) (q0 := 8) S hok (c_Bl_empty l D cI a (wrT a wr) (Fx_T hwr)  _ _ hf) k_ml_Pt_65 k_im_Bl_empty k_sel_Bl_empty k_ini_Bl k_code_Bl_empty rfl rfl (by decide +kernel) ⟨by decide, by decide⟩ rfl rfl hP hD hS hA (Nat.zero_le _) (Nat.zero_le _) hl.1 rfl rfl (Nat.le_of_ble_eq_true rfl) d_Pt_clear_64 (fun σ1 H locs hf hP hD hS => ?_)
          have hP : va_P D classes (wPt cI a wr σ1) H := hP
          have hD : va_D A (wPt cI a wr σ1) := hD
          refine lv_iload_n hx hb d_Pt_clear_67 rfl (lv_at hl 1 rfl) ?_
          exact hend _ _ _ _ _ _ d_Pt_clear_68 rfl hf hP hD hS
        · have hf := hf.2 hc
          refine lv_aload_n hx hb d_Pt_clear_11 rfl (lv_at hl 0 rfl) ?_
          refine rg_Pt_blocks S hok hP (hts _ k_fl_Pt_12) d_Pt_clear_12 ?_
          refine lv_iload_n hx hb d_Pt_clear_15 rfl (lv_at hl 2 rfl) ?_
          refine r_callVi (As := [.int v2]) (rest := []) (n := 1) (q0 := 8) S hok (c_Bl_recordOf l D cI a (wrT a wr) (Fx_T hwr) _ _ _ hf) k_ml_Pt_58 k_im_Bl_recordOf k_sel_Bl_recordOf k_ini_Bl k_code_Bl_recordOf rfl rfl (by decide +kernel) ⟨by decide, by decide⟩ rfl rfl hP hD hS hA (Nat.zero_le _) (Nat.zero_le _) hl.1 rfl rfl (Nat.le_of_ble_eq_true rfl) d_Pt_clear_16 (fun r3 σ2 H locs hf hP hD hS => ?_)
          have hP : va_P D classes (wPt cI a wr σ2) H := hP
          have hD : va_D A (wPt cI a wr σ2) := hD
          refine lv_if_ne hx hb d_Pt_clear_19 rfl (fun hc => ?_) (fun hc => ?_)
          · have hf := hf.2 hc
            refine lv_iconst (v := (0 : Int32)) hx hb d_Pt_clear_26 (by decide) ?_
            refine lv_topi (fun z4 hz4 => ?_)
            have hf := hf z4 hz4
            refine lv_istore_n hx hb d_Pt_clear_27 rfl hl (by decide) rfl (fun ls hl => ?_)
            have hl : lv_has ls 5 [(3, .int z4), (0, .ref (a 11)), (1, .int v1), (2, .int v2)] := hl
            refine lv_iload_n hx hb d_Pt_clear_28 rfl (lv_at hl 3 rfl) ?_
            refine lv_aload_n hx hb d_Pt_clear_29 rfl (lv_at hl 1 rfl) ?_
            refine rg_Pt_blocks S hok hP (hts _ k_fl_Pt_12) d_Pt_clear_30 ?_
            refine rgN_Bl_foundLast S hok hP (va_Nw.use rfl (hok.2 _ kn_fl_Pt_49)) d_Pt_clear_33 ?_
            refine va_mmax hx hb (hml.trans hl.1.symm) hown (hts _ k_ml_Pt_53) (hts _ k_st_Mt_max) (hts _ k_ini_Mt) (hts _ k_code_Mt_max) (by decide) (by decide) (Nat.zero_le _) (Nat.zero_le _) d_Pt_clear_36 ?_
            refine lv_iconst (v := (1 : Int32)) hx hb d_Pt_clear_39 (by decide) ?_
            refine lv_iadd hx hb d_Pt_clear_40 ?_
            refine lv_topi (fun z5 hz5 => ?_)
            have hf := hf z5 hz5
            refine lv_istore hx hb d_Pt_clear_41 hl (by decide) rfl (fun ls hl => ?_)
            have hl : lv_has ls 5 [(4, .int z5), (3, .int z4), (0, .ref (a 11)), (1, .int v1), (2, .int v2)] := hl
            refine lv_iload_n hx hb d_Pt_clear_43 rfl (lv_at hl 1 rfl) ?_
            refine lv_if_ne hx hb d_Pt_clear_44 rfl (fun hc => ?_) (fun hc => ?_)
            · have hf := hf.2 hc
              refine lv_iload hx hb d_Pt_clear_54 (lv_at hl 0 rfl) ?_
              refine lv_istore_n hx hb d_Pt_clear_56 rfl hl (by decide) rfl (fun ls hl => ?_)
              have hl : lv_has ls 5 [(2, .int z5), (4, .int z5), (3, .int z4), (0, .ref (a 11)), (1, .int v1)] := hl
              refine lv_goto hx hb d_Pt_clear_57 rfl ?_
              exact ih4 _ hf.2 _ _ _ _ _ _ rfl hf.1 hP hD hS (lv_sub hl [3, 4, 0] rfl)
            · have hf := hf.1 hc
              refine lv_iload_n hx hb d_Pt_clear_47 rfl (lv_at hl 3 rfl) ?_
              refine lv_iload hx hb d_Pt_clear_48 (lv_at hl 0 rfl) ?_
              refine lv_iload_n hx hb d_Pt_clear_50 rfl (lv_at hl 4 rfl) ?_
              refine lv_isub hx hb d_Pt_clear_51 ?_
              refine lv_iadd hx hb d_Pt_clear_52 ?_
              refine lv_topi (fun z6 hz6 => ?_)
              have hf := hf z6 hz6
              refine lv_istore_n hx hb d_Pt_clear_53 rfl hl (by decide) rfl (fun ls hl => ?_)
              have hl : lv_has ls 5 [(1, .int z6), (4, .int z5), (3, .int z4), (0, .ref (a 11)), (2, .int v2)] := hl
              refine lv_iload hx hb d_Pt_clear_54 (lv_at hl 1 rfl) ?_
              refine lv_istore_n hx hb d_Pt_clear_56 rfl hl (by decide) rfl (fun ls hl => ?_)
              have hl : lv_has ls 5 [(2, .int z5), (1, .int z6), (4, .int z5), (3, .int z4), (0, .ref (a 11))] := hl
              refine lv_goto hx hb d_Pt_clear_57 rfl ?_
              exact ih4 _ hf.2 _ _ _ _ _ _ rfl hf.1 hP hD hS (lv_sub hl [4, 1, 0] rfl)
          · have hf := hf.1 hc
            refine lv_iconst (v := (1 : Int32)) hx hb d_Pt_clear_22 (by decide) ?_
            refine lv_goto hx hb d_Pt_clear_23 rfl ?_
            refine lv_topi (fun z7 hz7 => ?_)
            have hf := hf z7 hz7
            refine lv_istore_n hx hb d_Pt_clear_27 rfl hl (by decide) rfl (fun ls hl => ?_)
            have hl : lv_has ls 5 [(3, .int z7), (0, .ref (a 11)), (1, .int v1), (2, .int v2)] := hl
            refine lv_iload_n hx hb d_Pt_clear_28 rfl (lv_at hl 3 rfl) ?_
            refine lv_aload_n hx hb d_Pt_clear_29 rfl (lv_at hl 1 rfl) ?_
            refine rg_Pt_blocks S hok hP (hts _ k_fl_Pt_12) d_Pt_clear_30 ?_
            refine rgN_Bl_foundLast S hok hP (va_Nw.use rfl (hok.2 _ kn_fl_Pt_49)) d_Pt_clear_33 ?_
            refine va_mmax hx hb (hml.trans hl.1.symm) hown (hts _ k_ml_Pt_53) (hts _ k_st_Mt_max) (hts _ k_ini_Mt) (hts _ k_code_Mt_max) (by decide) (by decide) (Nat.zero_le _) (Nat.zero_le _) d_Pt_clear_36 ?_
            refine lv_iconst (v := (1 : Int32)) hx hb d_Pt_clear_39 (by decide) ?_
            refine lv_iadd hx hb d_Pt_clear_40 ?_
            refine lv_topi (fun z8 hz8 => ?_)
            have hf := hf z8 hz8
            refine lv_istore hx hb d_Pt_clear_41 hl (by decide) rfl (fun ls hl => ?_)
            have hl : lv_has ls 5 [(4, .int z8), (3, .int z7), (0, .ref (a 11)), (1, .int v1), (2, .int v2)] := hl
            refine lv_iload_n hx hb d_Pt_clear_43 rfl (lv_at hl 1 rfl) ?_
            refine lv_if_ne hx hb d_Pt_clear_44 rfl (fun hc => ?_) (fun hc => ?_)
            · have hf := hf.2 hc
              refine lv_iload hx hb d_Pt_clear_54 (lv_at hl 0 rfl) ?_
              refine lv_istore_n hx hb d_Pt_clear_56 rfl hl (by decide) rfl (fun ls hl => ?_)
              have hl : lv_has ls 5 [(2, .int z8), (4, .int z8), (3, .int z7), (0, .ref (a 11)), (1, .int v1)] := hl
              refine lv_goto hx hb d_Pt_clear_57 rfl ?_
              exact ih4 _ hf.2 _ _ _ _ _ _ rfl hf.1 hP hD hS (lv_sub hl [3, 4, 0] rfl)
            · have hf := hf.1 hc
              refine lv_iload_n hx hb d_Pt_clear_47 rfl (lv_at hl 3 rfl) ?_
              refine lv_iload hx hb d_Pt_clear_48 (lv_at hl 0 rfl) ?_
              refine lv_iload_n hx hb d_Pt_clear_50 rfl (lv_at hl 4 rfl) ?_
              refine lv_isub hx hb d_Pt_clear_51 ?_
              refine lv_iadd hx hb d_Pt_clear_52 ?_
              refine lv_topi (fun z9 hz9 => ?_)
              have hf := hf z9 hz9
              refine lv_istore_n hx hb d_Pt_clear_53 rfl hl (by decide) rfl (fun ls hl => ?_)
              have hl : lv_has ls 5 [(1, .int z9), (4, .int z8), (3, .int z7), (0, .ref (a 11)), (2, .int v2)] := hl
              refine lv_iload hx hb d_Pt_clear_54 (lv_at hl 1 rfl) ?_
              refine lv_istore_n hx hb d_Pt_clear_56 rfl hl (by decide) rfl (fun ls hl => ?_)
              have hl : lv_has ls 5 [(2, .int z8), (1, .int z9), (4, .int z8), (3, .int z7), (0, .ref (a 11))] := hl
              refine lv_goto hx hb d_Pt_clear_57 rfl ?_
              exact ih4 _ hf.2 _ _ _ _ _ _ rfl hf.1 hP hD hS (lv_sub hl [4, 1, 0] rfl)
    exact lp4 _ v1 v2 σ H locs ls rfl h0 hP hD hS hl
  refine lv_iconst (v := (0 : Int32)) hx hb d_Pt_clear_0 (by decide) ?_
  refine lv_topi (fun z10 hz10 => ?_)
  have hf := hf z10 hz10
  refine lv_istore_n hx hb d_Pt_clear_1 rfl hl (by decide) rfl (fun ls hl => ?_)
  have hl : lv_has ls 5 [(1, .int z10), (0, .ref (a 11))] := hl
  refine lv_iconst (v := (0 : Int32)) hx hb d_Pt_clear_2 (by decide) ?_
  refine lv_topi (fun z11 hz11 => ?_)
  have hf := hf z11 hz11
  refine lv_istore_n hx hb d_Pt_clear_3 rfl hl (by decide) rfl (fun ls hl => ?_)
  have hl : lv_has ls 5 [(2, .int z11), (1, .int z10), (0, .ref (a 11))] := hl
  exact lab4 _ _ _ _ _ _ hf hP hD hS (lv_sub hl [2, 1, 0] rfl)
abbrev rm_Pt_checkPoint : Room := { frames := 10, cells := 0, slots := 0, locals := 200 }
set_option maxRecDepth 100000 in
set_option maxHeartbeats 4000000 in
theorem c_Pt_checkPoint (l : Launch) (D : va_G) (cI : ClassId) (a : Nat → Nat) (wr : St → va_W) (hwr : Fx 17 wr) (x0 : Int32) (σ : St) (Q : St → Prop) (hf : F_Pt_checkPoint x0 σ Q) : Cv l y_Pt_checkPoint (.code y_Pt_checkPoint b_Pt_checkPoint 1 none) rm_Pt_checkPoint D cI [.int x0] (wPt cI a wr) σ Q := by
  refine Cv.of (by decide +kernel) (Nat.le_of_ble_eq_true rfl) ?_
  intro p e s m below meth c ls A Z hx hb hml hown hts hok hP hD hA hl hend
  have S : CallFix p m c b_Pt_checkPoint 1 s ([.int x0] : List Value).toArray lwg "PropertyTrie" := ⟨hx, hb, hml, hown, hts⟩
  have hS : va_S A s.heap s.heap [] := va_S.rf
  have hl : lv_has ls 1 [(0, .int x0)] := hl
  unfold F_Pt_checkPoint at hf
  refine lv_iload_n hx hb d_Pt_checkPoint_0 rfl (lv_at hl 0 rfl) ?_
  refine lv_if_lt hx hb d_Pt_checkPoint_1 rfl (fun hc => ?_) (fun hc => ?_)
  · have hf := hf.1 hc
    exact hf.elim
  · have hf := hf.2 hc
    refine lv_iload_n hx hb d_Pt_checkPoint_4 rfl (lv_at hl 0 rfl) ?_
    refine lv_ldc (v := (1114111 : Int32)) hx hb hown (hts _ k_cst_Pt_48) d_Pt_checkPoint_5 ?_
    refine lv_icmp_le hx hb d_Pt_checkPoint_7 rfl (fun hc => ?_) (fun hc => ?_)
    · have hf := hf.1 hc
      exact hend _ _ _ _ _ d_Pt_checkPoint_20 hf hP hD hS
    · have hf := hf.2 hc
      exact hf.elim
abbrev rm_Pt_checkRange : Room := { frames := 10, cells := 0, slots := 0, locals := 200 }
set_option maxRecDepth 100000 in
set_option maxHeartbeats 4000000 in
theorem c_Pt_checkRange (l : Launch) (D : va_G) (cI : ClassId) (a : Nat → Nat) (wr : St → va_W) (hwr : Fx 17 wr) (x0 : Int32) (x1 : Int32) (σ : St) (Q : St → Prop) (hf : F_Pt_checkRange x0 x1 σ Q) : Cv l y_Pt_checkRange (.code y_Pt_checkRange b_Pt_checkRange 2 none) rm_Pt_checkRange D cI [.int x0, .int x1] (wPt cI a wr) σ Q := by
  refine Cv.of (by decide +kernel) (Nat.le_of_ble_eq_true rfl) ?_
  intro p e s m below meth c ls A Z hx hb hml hown hts hok hP hD hA hl hend
  have S : CallFix p m c b_Pt_checkRange 2 s ([.int x0, .int x1] : List Value).toArray lwg "PropertyTrie" := ⟨hx, hb, hml, hown, hts⟩
  have hS : va_S A s.heap s.heap [] := va_S.rf
  have hl : lv_has ls 2 [(0, .int x0), (1, .int x1)] := hl
  unfold F_Pt_checkRange at hf
  refine lv_iload_n hx hb d_Pt_checkRange_0 rfl (lv_at hl 0 rfl) ?_
  refine lv_if_lt hx hb d_Pt_checkRange_1 rfl (fun hc => ?_) (fun hc => ?_)
  · have hf := hf.1 hc
    exact hf.elim
  · have hf := hf.2 hc
    refine lv_iload_n hx hb d_Pt_checkRange_4 rfl (lv_at hl 0 rfl) ?_
    refine lv_iload_n hx hb d_Pt_checkRange_5 rfl (lv_at hl 1 rfl) ?_
    refine lv_icmp_gt hx hb d_Pt_checkRange_6 rfl (fun hc => ?_) (fun hc => ?_)
    · have hf := hf.1 hc
      exact hf.elim
    · have hf := hf.2 hc
      refine lv_iload_n hx hb d_Pt_checkRange_9 rfl (lv_at hl 1 rfl) ?_
      refine lv_ldc (v := (1114111 : Int32)) hx hb hown (hts _ k_cst_Pt_48) d_Pt_checkRange_10 ?_
      refine lv_icmp_le hx hb d_Pt_checkRange_12 rfl (fun hc => ?_) (fun hc => ?_)
      · have hf := hf.1 hc
        exact hend _ _ _ _ _ d_Pt_checkRange_25 hf hP hD hS
      · have hf := hf.2 hc
        exact hf.elim
abbrev rm_Pt_checkField : Room := { frames := 10, cells := 0, slots := 0, locals := 200 }
set_option maxRecDepth 100000 in
set_option maxHeartbeats 4000000 in
theorem c_Pt_checkField (l : Launch) (D : va_G) (cI : ClassId) (a : Nat → Nat) (wr : St → va_W) (hwr : Fx 17 wr) (x0 : Int32) (σ : St) (Q : St → Prop) (hf : F_Pt_checkField x0 σ Q) : Cv l y_Pt_checkField (.code y_Pt_checkField b_Pt_checkField 1 none) rm_Pt_checkField D cI [.int x0] (wPt cI a wr) σ Q := by
  refine Cv.of (by decide +kernel) (Nat.le_of_ble_eq_true rfl) ?_
  intro p e s m below meth c ls A Z hx hb hml hown hts hok hP hD hA hl hend
  have S : CallFix p m c b_Pt_checkField 1 s ([.int x0] : List Value).toArray lwg "PropertyTrie" := ⟨hx, hb, hml, hown, hts⟩
  have hS : va_S A s.heap s.heap [] := va_S.rf
  have hl : lv_has ls 1 [(0, .int x0)] := hl
  unfold F_Pt_checkField at hf
  refine lv_iload_n hx hb d_Pt_checkField_0 rfl (lv_at hl 0 rfl) ?_
  refine lv_if_lt hx hb d_Pt_checkField_1 rfl (fun hc => ?_) (fun hc => ?_)
  · have hf := hf.1 hc
    exact hf.elim
  · have hf := hf.2 hc
    refine lv_iload_n hx hb d_Pt_checkField_4 rfl (lv_at hl 0 rfl) ?_
    refine lv_bipush (v := (8 : Int32)) hx hb d_Pt_checkField_5 (by decide) ?_
    refine lv_icmp_lt hx hb d_Pt_checkField_7 rfl (fun hc => ?_) (fun hc => ?_)
    · have hf := hf.1 hc
      exact hend _ _ _ _ _ d_Pt_checkField_20 hf hP hD hS
    · have hf := hf.2 hc
      exact hf.elim
abbrev rm_Pt_checkLength : Room := { frames := 10, cells := 0, slots := 0, locals := 200 }
set_option maxRecDepth 100000 in
set_option maxHeartbeats 4000000 in
theorem c_Pt_checkLength (l : Launch) (D : va_G) (cI : ClassId) (a : Nat → Nat) (wr : St → va_W) (hwr : Fx 17 wr) (x0 : Int32) (σ : St) (Q : St → Prop) (hf : F_Pt_checkLength x0 σ Q) : Cv l y_Pt_checkLength (.code y_Pt_checkLength b_Pt_checkLength 1 none) rm_Pt_checkLength D cI [.int x0] (wPt cI a wr) σ Q := by
  refine Cv.of (by decide +kernel) (Nat.le_of_ble_eq_true rfl) ?_
  intro p e s m below meth c ls A Z hx hb hml hown hts hok hP hD hA hl hend
  have S : CallFix p m c b_Pt_checkLength 1 s ([.int x0] : List Value).toArray lwg "PropertyTrie" := ⟨hx, hb, hml, hown, hts⟩
  have hS : va_S A s.heap s.heap [] := va_S.rf
  have hl : lv_has ls 1 [(0, .int x0)] := hl
  unfold F_Pt_checkLength at hf
  refine lv_iload_n hx hb d_Pt_checkLength_0 rfl (lv_at hl 0 rfl) ?_
  refine lv_sipush (v := (4000 : Int32)) hx hb d_Pt_checkLength_1 (by decide) ?_
  refine lv_icmp_le hx hb d_Pt_checkLength_4 rfl (fun hc => ?_) (fun hc => ?_)
  · have hf := hf.1 hc
    exact hend _ _ _ _ _ d_Pt_checkLength_17 hf hP hD hS
  · have hf := hf.2 hc
    exact hf.elim
abbrev rm_Pt_get : Room := { frames := 40, cells := 0, slots := 0, locals := 800 }
set_option maxRecDepth 100000 in
set_option maxHeartbeats 4000000 in
theorem c_Pt_get (l : Launch) (D : va_G) (cI : ClassId) (a : Nat → Nat) (wr : St → va_W) (hwr : Fx 17 wr) (x1 : Int32) (x2 : Int32) (σ : St) (Q : Int32 → St → Prop) (hf : F_Pt_get x1 x2 σ Q) : Ci l y_Pt_get (.code y_Pt_get b_Pt_get 3 (some .int)) rm_Pt_get D cI [.ref (a 11), .int x1, .int x2] (wPt cI a wr) σ Q := by
  refine Ci.of (by decide +kernel) (Nat.le_of_ble_eq_true rfl) ?_
  intro p e s m below meth c ls A Z hx hb hml hown hts hok hP hD hA hl hend
  have S : CallFix p m c b_Pt_get 3 s ([.ref (a 11), .int x1, .int x2] : List Value).toArray lwg "PropertyTrie" := ⟨hx, hb, hml, hown, hts⟩
  have hS : va_S A s.heap s.heap [] := va_S.rf
  have hl : lv_has ls 3 [(0, .ref (a 11)), (1, .int x1), (2, .int x2)] := hl
  unfold F_Pt_get at hf
  refine lv_iload_n hx hb d_Pt_get_0 rfl (lv_at hl 1 rfl) ?_
  refine r_callSv (As := [.int x1]) (rest := []) (n := 1) S hok (c_Pt_checkPoint l D cI a wr hwr _ _ _ hf) k_ml_Pt_41 k_st_Pt_checkPoint k_ini_Pt k_code_Pt_checkPoint rfl rfl (by decide +kernel) ⟨by decide, by decide⟩ hP hD hS hA (Nat.zero_le _) (Nat.zero_le _) hl.1 rfl rfl (Nat.le_of_ble_eq_true rfl) d_Pt_get_1 (fun σ1 H locs hf hP hD hS => ?_)
  have hP : va_P D classes (wPt cI a wr σ1) H := hP
  have hD : va_D A (wPt cI a wr σ1) := hD
  refine lv_iload_n hx hb d_Pt_get_4 rfl (lv_at hl 2 rfl) ?_
  refine r_callSv (As := [.int x2]) (rest := []) (n := 1) S hok (c_Pt_checkField l D cI a wr hwr _ _ _ hf) k_ml_Pt_24 k_st_Pt_checkField k_ini_Pt k_code_Pt_checkField rfl rfl (by decide +kernel) ⟨by decide, by decide⟩ hP hD hS hA (Nat.zero_le _) (Nat.zero_le _) hl.1 rfl rfl (Nat.le_of_ble_eq_true rfl) d_Pt_get_5 (fun σ2 H locs hf hP hD hS => ?_)
  have hP : va_P D classes (wPt cI a wr σ2) H := hP
  have hD : va_D A (wPt cI a wr σ2) := hD
  refine lv_aload_n hx hb d_Pt_get_8 rfl (lv_at hl 0 rfl) ?_
  refine lv_iload_n hx hb d_Pt_get_9 rfl (lv_at hl 1 rfl) ?_
  refine lv_iload_n hx hb d_Pt_get_10 rfl (lv_at hl 2 rfl) ?_
  refine r_callVi (As := [.int x1, .int x2]) (rest := []) (n := 2) (q0 := 11) S hok (c_Pt_valueAt l D cI a wr hwr _ _ _ _ hf) k_ml_Pt_44 k_im_Pt_valueAt k_sel_Pt_valueAt k_ini_Pt k_code_Pt_valueAt rfl rfl (by decide +kernel) ⟨by decide, by decide⟩ rfl rfl hP hD hS hA (Nat.zero_le _) (Nat.zero_le _) hl.1 rfl rfl (Nat.le_of_ble_eq_true rfl) d_Pt_get_11 (fun r4 σ3 H locs hf hP hD hS => ?_)
  have hP : va_P D classes (wPt cI a wr σ3) H := hP
  have hD : va_D A (wPt cI a wr σ3) := hD
  exact hend _ _ _ _ _ _ d_Pt_get_14 rfl hf hP hD hS
abbrev rm_Pt_change : Room := { frames := 40, cells := 0, slots := 0, locals := 800 }
set_option maxRecDepth 100000 in
set_option maxHeartbeats 4000000 in
theorem c_Pt_change (l : Launch) (D : va_G) (cI : ClassId) (a : Nat → Nat) (wr : St → va_W) (hwr : Fx 17 wr) (x1 : Int32) (x2 : Int32) (σ : St) (Q : Int32 → St → Prop) (hf : F_Pt_change x1 x2 σ Q) : Ci l y_Pt_change (.code y_Pt_change b_Pt_change 5 (some .int)) rm_Pt_change D cI [.ref (a 11), .int x1, .int x2] (wPt cI a wr) σ Q := by
  refine Ci.of (by decide +kernel) (Nat.le_of_ble_eq_true rfl) ?_
  intro p e s m below meth c ls A Z hx hb hml hown hts hok hP hD hA hl hend
  have S : CallFix p m c b_Pt_change 5 s ([.ref (a 11), .int x1, .int x2] : List Value).toArray lwg "PropertyTrie" := ⟨hx, hb, hml, hown, hts⟩
  have hS : va_S A s.heap s.heap [] := va_S.rf
  have hl : lv_has ls 5 [(0, .ref (a 11)), (1, .int x1), (2, .int x2)] := hl
  unfold F_Pt_change at hf
  have lab18 : ∀ (v2 v3 v4 : Int32) (σ : St) (H : Heap) (locs : List Loc) (ls : Array Slot), F_Pt_change_L18 v2 v3 v4 σ Q → va_P D classes (wPt cI a wr σ) H → va_D A (wPt cI a wr σ) → va_S A s.heap H locs → lv_has ls 5 [(0, .ref (a 11)), (2, .int v2), (3, .int v3), (4, .int v4)] → W p l e rm_Pt_change s m ([.ref (a 11), .int x1, .int x2] : List Value).toArray below meth c H locs 0 0 Z (F0 m 18 ls []) := by
    intro v2 v3 v4 σ H locs ls hf hP hD hS hl
    unfold F_Pt_change_L18 at hf
    obtain ⟨I18, m18, h0, hst18⟩ := hf
    have lp18 : ∀ (n : Nat) (v4 : Int32) (σ : St) (H : Heap) (locs : List Loc) (ls : Array Slot), m18 v4 σ = n → I18 v4 σ → va_P D classes (wPt cI a wr σ) H → va_D A (wPt cI a wr σ) → va_S A s.heap H locs → lv_has ls 5 [(0, .ref (a 11)), (2, .int v2), (3, .int v3), (4, .int v4)] → W p l e rm_Pt_change s m ([.ref (a 11), .int x1, .int x2] : List Value).toArray below meth c H locs 0 0 Z (F0 m 18 ls []) := by
      intro n18
      induction n18 using Nat.strongRecOn with
      | _ n18 ih18 =>
        intro v4 σ H locs ls hn hI hP hD hS hl
        have hf := hst18 v4 σ n18 hI hn
        refine lv_iload hx hb d_Pt_change_18 (lv_at hl 3 rfl) ?_
        refine lv_ldc (v := (1114111 : Int32)) hx hb hown (hts _ k_cst_Pt_48) d_Pt_change_20 ?_
        refine lv_icmp_gt hx hb d_Pt_change_22 rfl (fun hc => ?_) (fun hc => ?_)
        · have hf := hf.1 hc
          refine lv_iconst (v := (-1 : Int32)) hx hb d_Pt_change_58 (by decide) ?_
          exact hend _ _ _ _ _ _ d_Pt_change_59 rfl hf hP hD hS
        · have hf := hf.2 hc
          refine lv_aload_n hx hb d_Pt_change_25 rfl (lv_at hl 0 rfl) ?_
          refine lv_iload hx hb d_Pt_change_26 (lv_at hl 3 rfl) ?_
          refine lv_iload_n hx hb d_Pt_change_28 rfl (lv_at hl 1 rfl) ?_
          refine r_callVi (As := [.int v4, .int v2]) (rest := []) (n := 2) (q0 := 11) S hok (c_Pt_valueAt l D cI a wr hwr _ _ _ _ hf) k_ml_Pt_44 k_im_Pt_valueAt k_sel_Pt_valueAt k_ini_Pt k_code_Pt_valueAt rfl rfl (by decide +kernel) ⟨by decide, by decide⟩ rfl rfl hP hD hS hA (Nat.zero_le _) (Nat.zero_le _) hl.1 rfl rfl (Nat.le_of_ble_eq_true rfl) d_Pt_change_29 (fun r2 σ1 H locs hf hP hD hS => ?_)
          have hP : va_P D classes (wPt cI a wr σ1) H := hP
          have hD : va_D A (wPt cI a wr σ1) := hD
          refine lv_iload_n hx hb d_Pt_change_32 rfl (lv_at hl 2 rfl) ?_
          refine lv_icmp_eq hx hb d_Pt_change_33 rfl (fun hc => ?_) (fun hc => ?_)
          · have hf := hf.1 hc
            refine lv_iload hx hb d_Pt_change_39 (lv_at hl 3 rfl) ?_
            refine lv_aload_n hx hb d_Pt_change_41 rfl (lv_at hl 0 rfl) ?_
            refine rg_Pt_blocks S hok hP (hts _ k_fl_Pt_12) d_Pt_change_42 ?_
            refine rgN_Bl_foundLast S hok hP (va_Nw.use rfl (hok.2 _ kn_fl_Pt_49)) d_Pt_change_45 ?_
            refine va_mmax hx hb (hml.trans hl.1.symm) hown (hts _ k_ml_Pt_53) (hts _ k_st_Mt_max) (hts _ k_ini_Mt) (hts _ k_code_Mt_max) (by decide) (by decide) (Nat.zero_le _) (Nat.zero_le _) d_Pt_change_48 ?_
            refine lv_iconst (v := (1 : Int32)) hx hb d_Pt_change_51 (by decide) ?_
            refine lv_iadd hx hb d_Pt_change_52 ?_
            refine lv_topi (fun z3 hz3 => ?_)
            have hf := hf z3 hz3
            refine lv_istore hx hb d_Pt_change_53 hl (by decide) rfl (fun ls hl => ?_)
            have hl : lv_has ls 5 [(4, .int z3), (0, .ref (a 11)), (2, .int v2), (3, .int v3)] := hl
            refine lv_goto hx hb d_Pt_change_55 rfl ?_
            exact ih18 _ hf.2 _ _ _ _ _ rfl hf.1 hP hD hS (lv_sub hl [1, 2, 3, 0] rfl)
          · have hf := hf.2 hc
            refine lv_iload hx hb d_Pt_change_36 (lv_at hl 3 rfl) ?_
            exact hend _ _ _ _ _ _ d_Pt_change_38 rfl hf hP hD hS
    exact lp18 _ v4 σ H locs ls rfl h0 hP hD hS hl
  refine lv_iload_n hx hb d_Pt_change_0 rfl (lv_at hl 1 rfl) ?_
  refine r_callSv (As := [.int x1]) (rest := []) (n := 1) S hok (c_Pt_checkPoint l D cI a wr hwr _ _ _ hf) k_ml_Pt_41 k_st_Pt_checkPoint k_ini_Pt k_code_Pt_checkPoint rfl rfl (by decide +kernel) ⟨by decide, by decide⟩ hP hD hS hA (Nat.zero_le _) (Nat.zero_le _) hl.1 rfl rfl (Nat.le_of_ble_eq_true rfl) d_Pt_change_1 (fun σ4 H locs hf hP hD hS => ?_)
  have hP : va_P D classes (wPt cI a wr σ4) H := hP
  have hD : va_D A (wPt cI a wr σ4) := hD
  refine lv_iload_n hx hb d_Pt_change_4 rfl (lv_at hl 2 rfl) ?_
  refine r_callSv (As := [.int x2]) (rest := []) (n := 1) S hok (c_Pt_checkField l D cI a wr hwr _ _ _ hf) k_ml_Pt_24 k_st_Pt_checkField k_ini_Pt k_code_Pt_checkField rfl rfl (by decide +kernel) ⟨by decide, by decide⟩ hP hD hS hA (Nat.zero_le _) (Nat.zero_le _) hl.1 rfl rfl (Nat.le_of_ble_eq_true rfl) d_Pt_change_5 (fun σ5 H locs hf hP hD hS => ?_)
  have hP : va_P D classes (wPt cI a wr σ5) H := hP
  have hD : va_D A (wPt cI a wr σ5) := hD
  refine lv_aload_n hx hb d_Pt_change_8 rfl (lv_at hl 0 rfl) ?_
  refine lv_iload_n hx hb d_Pt_change_9 rfl (lv_at hl 1 rfl) ?_
  refine lv_iload_n hx hb d_Pt_change_10 rfl (lv_at hl 2 rfl) ?_
  refine r_callVi (As := [.int x1, .int x2]) (rest := []) (n := 2) (q0 := 11) S hok (c_Pt_valueAt l D cI a wr hwr _ _ _ _ hf) k_ml_Pt_44 k_im_Pt_valueAt k_sel_Pt_valueAt k_ini_Pt k_code_Pt_valueAt rfl rfl (by decide +kernel) ⟨by decide, by decide⟩ rfl rfl hP hD hS hA (Nat.zero_le _) (Nat.zero_le _) hl.1 rfl rfl (Nat.le_of_ble_eq_true rfl) d_Pt_change_11 (fun r7 σ6 H locs hf hP hD hS => ?_)
  have hP : va_P D classes (wPt cI a wr σ6) H := hP
  have hD : va_D A (wPt cI a wr σ6) := hD
  refine lv_istore_n hx hb d_Pt_change_14 rfl hl (by decide) rfl (fun ls hl => ?_)
  have hl : lv_has ls 5 [(3, .int r7), (0, .ref (a 11)), (1, .int x1), (2, .int x2)] := hl
  refine lv_iload_n hx hb d_Pt_change_15 rfl (lv_at hl 2 rfl) ?_
  refine lv_istore hx hb d_Pt_change_16 hl (by decide) rfl (fun ls hl => ?_)
  have hl : lv_has ls 5 [(4, .int x1), (3, .int r7), (0, .ref (a 11)), (1, .int x1), (2, .int x2)] := hl
  exact lab18 _ _ _ _ _ _ _ hf hP hD hS (lv_sub hl [2, 4, 1, 0] rfl)
abbrev rm_Pt_alike : Room := { frames := 30, cells := 0, slots := 0, locals := 600 }
set_option maxRecDepth 100000 in
set_option maxHeartbeats 4000000 in
theorem c_Pt_alike (l : Launch) (D : va_G) (cI : ClassId) (a : Nat → Nat) (wr : St → va_W) (hwr : Fx 17 wr) (x1 : Int32) (x2 : Int32) (σ : St) (Q : Int32 → St → Prop) (hf : F_Pt_alike x1 x2 σ Q) : Ci l y_Pt_alike (.code y_Pt_alike b_Pt_alike 3 (some .boolean)) rm_Pt_alike D cI [.ref (a 11), .int x1, .int x2] (wPt cI a wr) σ Q := by
  refine Ci.of (by decide +kernel) (Nat.le_of_ble_eq_true rfl) ?_
  intro p e s m below meth c ls A Z hx hb hml hown hts hok hP hD hA hl hend
  have S : CallFix p m c b_Pt_alike 3 s ([.ref (a 11), .int x1, .int x2] : List Value).toArray lwg "PropertyTrie" := ⟨hx, hb, hml, hown, hts⟩
  have hS : va_S A s.heap s.heap [] := va_S.rf
  have hl : lv_has ls 3 [(0, .ref (a 11)), (1, .int x1), (2, .int x2)] := hl
  unfold F_Pt_alike at hf
  refine lv_iload_n hx hb d_Pt_alike_0 rfl (lv_at hl 1 rfl) ?_
  refine r_callSv (As := [.int x1]) (rest := []) (n := 1) S hok (c_Pt_checkPoint l D cI a wr hwr _ _ _ hf) k_ml_Pt_41 k_st_Pt_checkPoint k_ini_Pt k_code_Pt_checkPoint rfl rfl (by decide +kernel) ⟨by decide, by decide⟩ hP hD hS hA (Nat.zero_le _) (Nat.zero_le _) hl.1 rfl rfl (Nat.le_of_ble_eq_true rfl) d_Pt_alike_1 (fun σ1 H locs hf hP hD hS => ?_)
  have hP : va_P D classes (wPt cI a wr σ1) H := hP
  have hD : va_D A (wPt cI a wr σ1) := hD
  refine lv_iload_n hx hb d_Pt_alike_4 rfl (lv_at hl 2 rfl) ?_
  refine r_callSv (As := [.int x2]) (rest := []) (n := 1) S hok (c_Pt_checkPoint l D cI a wr hwr _ _ _ hf) k_ml_Pt_41 k_st_Pt_checkPoint k_ini_Pt k_code_Pt_checkPoint rfl rfl (by decide +kernel) ⟨by decide, by decide⟩ hP hD hS hA (Nat.zero_le _) (Nat.zero_le _) hl.1 rfl rfl (Nat.le_of_ble_eq_true rfl) d_Pt_alike_5 (fun σ2 H locs hf hP hD hS => ?_)
  have hP : va_P D classes (wPt cI a wr σ2) H := hP
  have hD : va_D A (wPt cI a wr σ2) := hD
  refine lv_aload_n hx hb d_Pt_alike_8 rfl (lv_at hl 0 rfl) ?_
  refine rg_Pt_blocks S hok hP (hts _ k_fl_Pt_12) d_Pt_alike_9 ?_
  refine lv_iload_n hx hb d_Pt_alike_12 rfl (lv_at hl 1 rfl) ?_
  refine r_callVi (As := [.int x1]) (rest := []) (n := 1) (q0 := 8) S hok (c_Bl_recordOf l D cI a (wrT a wr) (Fx_T hwr) _ _ _ hf) k_ml_Pt_58 k_im_Bl_recordOf k_sel_Bl_recordOf k_ini_Bl k_code_Bl_recordOf rfl rfl (by decide +kernel) ⟨by decide, by decide⟩ rfl rfl hP hD hS hA (Nat.zero_le _) (Nat.zero_le _) hl.1 rfl rfl (Nat.le_of_ble_eq_true rfl) d_Pt_alike_13 (fun r4 σ3 H locs hf hP hD hS => ?_)
  have hP : va_P D classes (wPt cI a wr σ3) H := hP
  have hD : va_D A (wPt cI a wr σ3) := hD
  refine lv_aload_n hx hb d_Pt_alike_16 rfl (lv_at hl 0 rfl) ?_
  refine rg_Pt_blocks S hok hP (hts _ k_fl_Pt_12) d_Pt_alike_17 ?_
  refine lv_iload_n hx hb d_Pt_alike_20 rfl (lv_at hl 2 rfl) ?_
  refine r_callVi (As := [.int x2]) (rest := [.int r4]) (n := 1) (q0 := 8) S hok (c_Bl_recordOf l D cI a (wrT a wr) (Fx_T hwr) _ _ _ hf) k_ml_Pt_58 k_im_Bl_recordOf k_sel_Bl_recordOf k_ini_Bl k_code_Bl_recordOf rfl rfl (by decide +kernel) ⟨by decide, by decide⟩ rfl rfl hP hD hS hA (Nat.zero_le _) (Nat.zero_le _) hl.1 rfl rfl (Nat.le_of_ble_eq_true rfl) d_Pt_alike_21 (fun r6 σ5 H locs hf hP hD hS => ?_)
  have hP : va_P D classes (wPt cI a wr σ5) H := hP
  have hD : va_D A (wPt cI a wr σ5) := hD
  refine lv_icmp_ne hx hb d_Pt_alike_24 rfl (fun hc => ?_) (fun hc => ?_)
  · have hf := hf.2 hc
    refine lv_iconst (v := (0 : Int32)) hx hb d_Pt_alike_31 (by decide) ?_
    exact hend _ _ _ _ _ _ d_Pt_alike_32 rfl hf hP hD hS
  · have hf := hf.1 hc
    refine lv_iconst (v := (1 : Int32)) hx hb d_Pt_alike_27 (by decide) ?_
    refine lv_goto hx hb d_Pt_alike_28 rfl ?_
    exact hend _ _ _ _ _ _ d_Pt_alike_32 rfl hf hP hD hS
abbrev rm_Pt_hash : Room := { frames := 40, cells := 0, slots := 0, locals := 800 }
set_option maxRecDepth 100000 in
set_option maxHeartbeats 4000000 in
theorem c_Pt_hash (l : Launch) (D : va_G) (cI : ClassId) (a : Nat → Nat) (wr : St → va_W) (hwr : Fx 17 wr) (x1 : Int32) (x2 : Int32) (x3 : Int32) (σ : St) (Q : Int32 → St → Prop) (hf : F_Pt_hash x1 x2 x3 σ Q) : Ci l y_Pt_hash (.code y_Pt_hash b_Pt_hash 8 (some .int)) rm_Pt_hash D cI [.ref (a 11), .int x1, .int x2, .int x3] (wPt cI a wr) σ Q := by
  refine Ci.of (by decide +kernel) (Nat.le_of_ble_eq_true rfl) ?_
  intro p e s m below meth c ls A Z hx hb hml hown hts hok hP hD hA hl hend
  have S : CallFix p m c b_Pt_hash 8 s ([.ref (a 11), .int x1, .int x2, .int x3] : List Value).toArray lwg "PropertyTrie" := ⟨hx, hb, hml, hown, hts⟩
  have hS : va_S A s.heap s.heap [] := va_S.rf
  have hl : lv_has ls 8 [(0, .ref (a 11)), (1, .int x1), (2, .int x2), (3, .int x3)] := hl
  unfold F_Pt_hash at hf
  have lab29 : ∀ (v2 v3 v4 v5 v6 v7 : Int32) (σ : St) (H : Heap) (locs : List Loc) (ls : Array Slot), F_Pt_hash_L29 v2 v3 v4 v5 v6 v7 σ Q → va_P D classes (wPt cI a wr σ) H → va_D A (wPt cI a wr σ) → va_S A s.heap H locs → lv_has ls 8 [(0, .ref (a 11)), (2, .int v2), (3, .int v3), (4, .int v4), (5, .int v5), (6, .int v6), (7, .int v7)] → W p l e rm_Pt_hash s m ([.ref (a 11), .int x1, .int x2, .int x3] : List Value).toArray below meth c H locs 0 0 Z (F0 m 29 ls []) := by
    intro v2 v3 v4 v5 v6 v7 σ H locs ls hf hP hD hS hl
    unfold F_Pt_hash_L29 at hf
    obtain ⟨I29, m29, h0, hst29⟩ := hf
    have lp29 : ∀ (n : Nat) (v4 v5 v6 v7 : Int32) (σ : St) (H : Heap) (locs : List Loc) (ls : Array Slot), m29 v4 v5 v6 v7 σ = n → I29 v4 v5 v6 v7 σ → va_P D classes (wPt cI a wr σ) H → va_D A (wPt cI a wr σ) → va_S A s.heap H locs → lv_has ls 8 [(0, .ref (a 11)), (2, .int v2), (3, .int v3), (4, .int v4), (5, .int v5), (6, .int v6), (7, .int v7)] → W p l e rm_Pt_hash s m ([.ref (a 11), .int x1, .int x2, .int x3] : List Value).toArray below meth c H locs 0 0 Z (F0 m 29 ls []) := by
      intro n29
      induction n29 using Nat.strongRecOn with
      | _ n29 ih29 =>
        intro v4 v5 v6 v7 σ H locs ls hn hI hP hD hS hl
        have hf := hst29 v4 v5 v6 v7 σ n29 hI hn
        have lab60 : ∀ (v4 v5 v6 v7 : Int32) (σ : St) (H : Heap) (locs : List Loc) (ls : Array Slot), F_Pt_hash_J60 v2 v3 v4 v5 v6 v7 σ (fun b4 b5 b6 b7 τ => I29 b4 b5 b6 b7 τ ∧ m29 b4 b5 b6 b7 τ < n29) Q → va_P D classes (wPt cI a wr σ) H → va_D A (wPt cI a wr σ) → va_S A s.heap H locs → lv_has ls 8 [(0, .ref (a 11)), (2, .int v2), (3, .int v3), (4, .int v4), (5, .int v5), (6, .int v6), (7, .int v7)] → W p l e rm_Pt_hash s m ([.ref (a 11), .int x1, .int x2, .int x3] : List Value).toArray below meth c H locs 0 0 Z (F0 m 60 ls []) := by
          intro v4 v5 v6 v7 σ H locs ls hf hP hD hS hl
          unfold F_Pt_hash_J60 at hf
          refine lv_bipush (v := (31 : Int32)) hx hb d_Pt_hash_60 (by decide) ?_
          refine lv_iload hx hb d_Pt_hash_62 (lv_at hl 3 rfl) ?_
          refine lv_imul hx hb d_Pt_hash_64 ?_
          refine lv_iload hx hb d_Pt_hash_65 (lv_at hl 4 rfl) ?_
          refine lv_iadd hx hb d_Pt_hash_67 ?_
          refine lv_topi (fun z1 hz1 => ?_)
          have hf := hf z1 hz1
          refine lv_istore hx hb d_Pt_hash_68 hl (by decide) rfl (fun ls hl => ?_)
          have hl : lv_has ls 8 [(4, .int z1), (0, .ref (a 11)), (2, .int v2), (3, .int v3), (5, .int v5), (6, .int v6), (7, .int v7)] := hl
          obtain ⟨z2, hz2⟩ : ∃ z2 : Int32, z2 = v7 + (1 : Int32) := ⟨_, rfl⟩
          have hf := hf z2 hz2
          refine lv_iinc (k := 6) (v := z2) hx hb d_Pt_hash_70 hl rfl (by rw [hz2]; rfl) (by decide) rfl (fun ls hl => ?_)
          have hl : lv_has ls 8 [(7, .int z2), (4, .int z1), (0, .ref (a 11)), (2, .int v2), (3, .int v3), (5, .int v5), (6, .int v6)] := hl
          refine lv_goto hx hb d_Pt_hash_73 rfl ?_
          exact ih29 _ hf.2 _ _ _ _ _ _ _ _ rfl hf.1 hP hD hS (lv_sub hl [2, 3, 4, 1, 5, 6, 0] rfl)
        refine lv_iload hx hb d_Pt_hash_29 (lv_at hl 6 rfl) ?_
        refine lv_iload_n hx hb d_Pt_hash_31 rfl (lv_at hl 1 rfl) ?_
        refine lv_icmp_gt hx hb d_Pt_hash_32 rfl (fun hc => ?_) (fun hc => ?_)
        · have hf := hf.1 hc
          refine lv_iload hx hb d_Pt_hash_76 (lv_at hl 3 rfl) ?_
          exact hend _ _ _ _ _ _ d_Pt_hash_78 rfl hf hP hD hS
        · have hf := hf.2 hc
          refine lv_iload hx hb d_Pt_hash_35 (lv_at hl 6 rfl) ?_
          refine lv_iload hx hb d_Pt_hash_37 (lv_at hl 5 rfl) ?_
          refine lv_icmp_le hx hb d_Pt_hash_39 rfl (fun hc => ?_) (fun hc => ?_)
          · have hf := hf.1 hc
            exact lab60 _ _ _ _ _ _ _ _ hf hP hD hS (lv_sub hl [0, 1, 2, 3, 4, 5, 6] rfl)
          · have hf := hf.2 hc
            refine lv_aload_n hx hb d_Pt_hash_42 rfl (lv_at hl 0 rfl) ?_
            refine lv_iload hx hb d_Pt_hash_43 (lv_at hl 6 rfl) ?_
            refine lv_iload_n hx hb d_Pt_hash_45 rfl (lv_at hl 2 rfl) ?_
            refine r_callVi (As := [.int v7, .int v3]) (rest := []) (n := 2) (q0 := 11) S hok (c_Pt_valueAt l D cI a wr hwr _ _ _ _ hf) k_ml_Pt_44 k_im_Pt_valueAt k_sel_Pt_valueAt k_ini_Pt k_code_Pt_valueAt rfl rfl (by decide +kernel) ⟨by decide, by decide⟩ rfl rfl hP hD hS hA (Nat.zero_le _) (Nat.zero_le _) hl.1 rfl rfl (Nat.le_of_ble_eq_true rfl) d_Pt_hash_46 (fun r4 σ3 H locs hf hP hD hS => ?_)
            have hP : va_P D classes (wPt cI a wr σ3) H := hP
            have hD : va_D A (wPt cI a wr σ3) := hD
            refine lv_istore hx hb d_Pt_hash_49 hl (by decide) rfl (fun ls hl => ?_)
            have hl : lv_has ls 8 [(5, .int r4), (0, .ref (a 11)), (2, .int v2), (3, .int v3), (4, .int v4), (6, .int v6), (7, .int v7)] := hl
            refine lv_aload_n hx hb d_Pt_hash_51 rfl (lv_at hl 1 rfl) ?_
            refine rg_Pt_blocks S hok hP (hts _ k_fl_Pt_12) d_Pt_hash_52 ?_
            refine rgN_Bl_foundLast S hok hP (va_Nw.use rfl (hok.2 _ kn_fl_Pt_49)) d_Pt_hash_55 ?_
            refine lv_topi (fun z5 hz5 => ?_)
            have hf := hf z5 hz5
            refine lv_istore hx hb d_Pt_hash_58 hl (by decide) rfl (fun ls hl => ?_)
            have hl : lv_has ls 8 [(6, .int z5), (5, .int r4), (0, .ref (a 11)), (2, .int v2), (3, .int v3), (4, .int v4), (7, .int v7)] := hl
            exact lab60 _ _ _ _ _ _ _ _ hf hP hD hS (lv_sub hl [2, 3, 4, 5, 1, 0, 6] rfl)
    exact lp29 _ v4 v5 v6 v7 σ H locs ls rfl h0 hP hD hS hl
  refine lv_iload_n hx hb d_Pt_hash_0 rfl (lv_at hl 1 rfl) ?_
  refine lv_iload_n hx hb d_Pt_hash_1 rfl (lv_at hl 2 rfl) ?_
  refine r_callSv (As := [.int x1, .int x2]) (rest := []) (n := 2) S hok (c_Pt_checkRange l D cI a wr hwr _ _ _ _ hf) k_ml_Pt_20 k_st_Pt_checkRange k_ini_Pt k_code_Pt_checkRange rfl rfl (by decide +kernel) ⟨by decide, by decide⟩ hP hD hS hA (Nat.zero_le _) (Nat.zero_le _) hl.1 rfl rfl (Nat.le_of_ble_eq_true rfl) d_Pt_hash_2 (fun σ6 H locs hf hP hD hS => ?_)
  have hP : va_P D classes (wPt cI a wr σ6) H := hP
  have hD : va_D A (wPt cI a wr σ6) := hD
  refine lv_iload_n hx hb d_Pt_hash_5 rfl (lv_at hl 2 rfl) ?_
  refine lv_iload_n hx hb d_Pt_hash_6 rfl (lv_at hl 1 rfl) ?_
  refine lv_isub hx hb d_Pt_hash_7 ?_
  refine lv_iconst (v := (1 : Int32)) hx hb d_Pt_hash_8 (by decide) ?_
  refine lv_iadd hx hb d_Pt_hash_9 ?_
  refine r_callSv (As := [.int ((x2 - x1) + (1 : Int32))]) (rest := []) (n := 1) S hok (c_Pt_checkLength l D cI a wr hwr _ _ _ hf) k_ml_Pt_62 k_st_Pt_checkLength k_ini_Pt k_code_Pt_checkLength rfl rfl (by decide +kernel) ⟨by decide, by decide⟩ hP hD hS hA (Nat.zero_le _) (Nat.zero_le _) hl.1 rfl rfl (Nat.le_of_ble_eq_true rfl) d_Pt_hash_10 (fun σ7 H locs hf hP hD hS => ?_)
  have hP : va_P D classes (wPt cI a wr σ7) H := hP
  have hD : va_D A (wPt cI a wr σ7) := hD
  refine lv_iload_n hx hb d_Pt_hash_13 rfl (lv_at hl 3 rfl) ?_
  refine r_callSv (As := [.int x3]) (rest := []) (n := 1) S hok (c_Pt_checkField l D cI a wr hwr _ _ _ hf) k_ml_Pt_24 k_st_Pt_checkField k_ini_Pt k_code_Pt_checkField rfl rfl (by decide +kernel) ⟨by decide, by decide⟩ hP hD hS hA (Nat.zero_le _) (Nat.zero_le _) hl.1 rfl rfl (Nat.le_of_ble_eq_true rfl) d_Pt_hash_14 (fun σ8 H locs hf hP hD hS => ?_)
  have hP : va_P D classes (wPt cI a wr σ8) H := hP
  have hD : va_D A (wPt cI a wr σ8) := hD
  refine lv_iconst (v := (1 : Int32)) hx hb d_Pt_hash_17 (by decide) ?_
  refine lv_topi (fun z9 hz9 => ?_)
  have hf := hf z9 hz9
  refine lv_istore hx hb d_Pt_hash_18 hl (by decide) rfl (fun ls hl => ?_)
  have hl : lv_has ls 8 [(4, .int z9), (0, .ref (a 11)), (1, .int x1), (2, .int x2), (3, .int x3)] := hl
  refine lv_iconst (v := (0 : Int32)) hx hb d_Pt_hash_20 (by decide) ?_
  refine lv_topi (fun z10 hz10 => ?_)
  have hf := hf z10 hz10
  refine lv_istore hx hb d_Pt_hash_21 hl (by decide) rfl (fun ls hl => ?_)
  have hl : lv_has ls 8 [(5, .int z10), (4, .int z9), (0, .ref (a 11)), (1, .int x1), (2, .int x2), (3, .int x3)] := hl
  refine lv_iconst (v := (-1 : Int32)) hx hb d_Pt_hash_23 (by decide) ?_
  refine lv_topi (fun z11 hz11 => ?_)
  have hf := hf z11 hz11
  refine lv_istore hx hb d_Pt_hash_24 hl (by decide) rfl (fun ls hl => ?_)
  have hl : lv_has ls 8 [(6, .int z11), (5, .int z10), (4, .int z9), (0, .ref (a 11)), (1, .int x1), (2, .int x2), (3, .int x3)] := hl
  refine lv_iload_n hx hb d_Pt_hash_26 rfl (lv_at hl 4 rfl) ?_
  refine lv_istore hx hb d_Pt_hash_27 hl (by decide) rfl (fun ls hl => ?_)
  have hl : lv_has ls 8 [(7, .int x1), (6, .int z11), (5, .int z10), (4, .int z9), (0, .ref (a 11)), (1, .int x1), (2, .int x2), (3, .int x3)] := hl
  exact lab29 _ _ _ _ _ _ _ _ _ _ hf hP hD hS (lv_sub hl [4, 6, 7, 3, 2, 1, 0] rfl)
abbrev rm_Pt_mark : Room := { frames := 70, cells := 0, slots := 0, locals := 1400 }
set_option maxRecDepth 100000 in
set_option maxHeartbeats 4000000 in
theorem c_Pt_mark (l : Launch) (D : va_G) (cI : ClassId) (a : Nat → Nat) (wr : St → va_W) (hwr : Fx 17 wr) (x1 : Int32) (x2 : Int32) (x3 : Int32) (x4 : Int32) (x5 : Int32) (σ : St) (Q : Int32 → St → Prop) (hf : F_Pt_mark x1 x2 x3 x4 x5 σ Q) : Ci l y_Pt_mark (.code y_Pt_mark b_Pt_mark 6 (some .int)) rm_Pt_mark D cI [.ref (a 11), .int x1, .int x2, .int x3, .int x4, .int x5] (wPt cI a wr) σ Q := by
  refine Ci.of (by decide +kernel) (Nat.le_of_ble_eq_true rfl) ?_
  intro p e s m below meth c ls A Z hx hb hml hown hts hok hP hD hA hl hend
  have S : CallFix p m c b_Pt_mark 6 s ([.ref (a 11), .int x1, .int x2, .int x3, .int x4, .int x5] : List Value).toArray lwg "PropertyTrie" := ⟨hx, hb, hml, hown, hts⟩
  have hS : va_S A s.heap s.heap [] := va_S.rf
  have hl : lv_has ls 6 [(0, .ref (a 11)), (1, .int x1), (2, .int x2), (3, .int x3), (4, .int x4), (5, .int x5)] := hl
  unfold F_Pt_mark at hf
  refine lv_iload_n hx hb d_Pt_mark_0 rfl (lv_at hl 1 rfl) ?_
  refine lv_iload_n hx hb d_Pt_mark_1 rfl (lv_at hl 2 rfl) ?_
  refine r_callSv (As := [.int x1, .int x2]) (rest := []) (n := 2) S hok (c_Pt_checkRange l D cI a wr hwr _ _ _ _ hf) k_ml_Pt_20 k_st_Pt_checkRange k_ini_Pt k_code_Pt_checkRange rfl rfl (by decide +kernel) ⟨by decide, by decide⟩ hP hD hS hA (Nat.zero_le _) (Nat.zero_le _) hl.1 rfl rfl (Nat.le_of_ble_eq_true rfl) d_Pt_mark_2 (fun σ1 H locs hf hP hD hS => ?_)
  have hP : va_P D classes (wPt cI a wr σ1) H := hP
  have hD : va_D A (wPt cI a wr σ1) := hD
  refine lv_iload_n hx hb d_Pt_mark_5 rfl (lv_at hl 3 rfl) ?_
  refine r_callSv (As := [.int x3]) (rest := []) (n := 1) S hok (c_Pt_checkField l D cI a wr hwr _ _ _ hf) k_ml_Pt_24 k_st_Pt_checkField k_ini_Pt k_code_Pt_checkField rfl rfl (by decide +kernel) ⟨by decide, by decide⟩ hP hD hS hA (Nat.zero_le _) (Nat.zero_le _) hl.1 rfl rfl (Nat.le_of_ble_eq_true rfl) d_Pt_mark_6 (fun σ2 H locs hf hP hD hS => ?_)
  have hP : va_P D classes (wPt cI a wr σ2) H := hP
  have hD : va_D A (wPt cI a wr σ2) := hD
  refine lv_aload_n hx hb d_Pt_mark_9 rfl (lv_at hl 0 rfl) ?_
  refine rg_Pt_blocks S hok hP (hts _ k_fl_Pt_12) d_Pt_mark_10 ?_
  refine rgN_Bl_records S hok hP (va_Nw.use rfl (hok.2 _ kn_fl_Pt_28)) d_Pt_mark_13 ?_
  refine lv_iload_n hx hb d_Pt_mark_16 rfl (lv_at hl 3 rfl) ?_
  refine lv_iload hx hb d_Pt_mark_17 (lv_at hl 4 rfl) ?_
  refine lv_iload hx hb d_Pt_mark_19 (lv_at hl 5 rfl) ?_
  refine r_callVv (As := [.int x3, .int x4, .int x5]) (rest := []) (n := 3) (q0 := 0) S hok (c_Rc_begin l D cI a (wrB cI a (wrT a wr)) (Fx_B (Fx_T hwr)) _ _ _ _ _ hf) k_ml_Pt_32 k_im_Rc_begin k_sel_Rc_begin k_ini_Rc k_code_Rc_begin rfl rfl (by decide +kernel) ⟨by decide, by decide⟩ rfl rfl hP hD hS hA (Nat.zero_le _) (Nat.zero_le _) hl.1 rfl rfl (Nat.le_of_ble_eq_true rfl) d_Pt_mark_21 (fun σ3 H locs hf hP hD hS => ?_)
  have hP : va_P D classes (wPt cI a wr σ3) H := hP
  have hD : va_D A (wPt cI a wr σ3) := hD
  refine lv_aload_n hx hb d_Pt_mark_24 rfl (lv_at hl 0 rfl) ?_
  refine rg_Pt_blocks S hok hP (hts _ k_fl_Pt_12) d_Pt_mark_25 ?_
  refine lv_iload_n hx hb d_Pt_mark_28 rfl (lv_at hl 1 rfl) ?_
  refine lv_iload_n hx hb d_Pt_mark_29 rfl (lv_at hl 2 rfl) ?_
  refine r_callVv (As := [.int x1, .int x2]) (rest := []) (n := 2) (q0 := 8) S hok (c_Bl_alter l D cI a (wrT a wr) (Fx_T hwr) _ _ _ _ hf) k_ml_Pt_38 k_im_Bl_alter k_sel_Bl_alter k_ini_Bl k_code_Bl_alter rfl rfl (by decide +kernel) ⟨by decide, by decide⟩ rfl rfl hP hD hS hA (Nat.zero_le _) (Nat.zero_le _) hl.1 rfl rfl (Nat.le_of_ble_eq_true rfl) d_Pt_mark_30 (fun σ4 H locs hf hP hD hS => ?_)
  have hP : va_P D classes (wPt cI a wr σ4) H := hP
  have hD : va_D A (wPt cI a wr σ4) := hD
  refine lv_iload_n hx hb d_Pt_mark_33 rfl (lv_at hl 2 rfl) ?_
  refine lv_iload_n hx hb d_Pt_mark_34 rfl (lv_at hl 1 rfl) ?_
  refine lv_isub hx hb d_Pt_mark_35 ?_
  refine lv_iconst (v := (1 : Int32)) hx hb d_Pt_mark_36 (by decide) ?_
  refine lv_iadd hx hb d_Pt_mark_37 ?_
  exact hend _ _ _ _ _ _ d_Pt_mark_38 rfl hf hP hD hS
abbrev rm_Pt_set : Room := { frames := 80, cells := 0, slots := 0, locals := 1600 }
set_option maxRecDepth 100000 in
set_option maxHeartbeats 4000000 in
theorem c_Pt_set (l : Launch) (D : va_G) (cI : ClassId) (a : Nat → Nat) (wr : St → va_W) (hwr : Fx 17 wr) (x1 : Int32) (x2 : Int32) (x3 : Int32) (x4 : Int32) (σ : St) (Q : Int32 → St → Prop) (hf : F_Pt_set x1 x2 x3 x4 σ Q) : Ci l y_Pt_set (.code y_Pt_set b_Pt_set 5 (some .int)) rm_Pt_set D cI [.ref (a 11), .int x1, .int x2, .int x3, .int x4] (wPt cI a wr) σ Q := by
  refine Ci.of (by decide +kernel) (Nat.le_of_ble_eq_true rfl) ?_
  intro p e s m below meth c ls A Z hx hb hml hown hts hok hP hD hA hl hend
  have S : CallFix p m c b_Pt_set 5 s ([.ref (a 11), .int x1, .int x2, .int x3, .int x4] : List Value).toArray lwg "PropertyTrie" := ⟨hx, hb, hml, hown, hts⟩
  have hS : va_S A s.heap s.heap [] := va_S.rf
  have hl : lv_has ls 5 [(0, .ref (a 11)), (1, .int x1), (2, .int x2), (3, .int x3), (4, .int x4)] := hl
  unfold F_Pt_set at hf
  refine lv_aload_n hx hb d_Pt_set_0 rfl (lv_at hl 0 rfl) ?_
  refine lv_iload_n hx hb d_Pt_set_1 rfl (lv_at hl 1 rfl) ?_
  refine lv_iload_n hx hb d_Pt_set_2 rfl (lv_at hl 2 rfl) ?_
  refine lv_iload_n hx hb d_Pt_set_3 rfl (lv_at hl 3 rfl) ?_
  refine lv_iload hx hb d_Pt_set_4 (lv_at hl 4 rfl) ?_
  refine lv_iconst (v := (0 : Int32)) hx hb d_Pt_set_6 (by decide) ?_
  refine r_callVi (As := [.int x1, .int x2, .int x3, .int x4, .int (0 : Int32)]) (rest := []) (n := 5) (q0 := 11) S hok (c_Pt_mark l D cI a wr hwr _ _ _ _ _ _ _ hf) k_ml_Pt_16 k_im_Pt_mark k_sel_Pt_mark k_ini_Pt k_code_Pt_mark rfl rfl (by decide +kernel) ⟨by decide, by decide⟩ rfl rfl hP hD hS hA (Nat.zero_le _) (Nat.zero_le _) hl.1 rfl rfl (Nat.le_of_ble_eq_true rfl) d_Pt_set_7 (fun r2 σ1 H locs hf hP hD hS => ?_)
  have hP : va_P D classes (wPt cI a wr σ1) H := hP
  have hD : va_D A (wPt cI a wr σ1) := hD
  exact hend _ _ _ _ _ _ d_Pt_set_10 rfl hf hP hD hS
