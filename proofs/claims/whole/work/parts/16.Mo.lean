abbrev rm_Mo_thrown : Room := { frames := 10, cells := 0, slots := 0, locals := 200 }
set_option maxRecDepth 100000 in
set_option maxHeartbeats 4000000 in
theorem c_Mo_thrown (l : Launch) (D : va_G) (cI : ClassId) (a : Nat → Nat) (wr : St → va_W) (hwr : Fx 21 wr) (σ : St) (Q : Int32 → St → Prop) (hf : F_Mo_thrown σ Q) : Ci l y_Mo_thrown (.code y_Mo_thrown b_Mo_thrown 1 (some .int)) rm_Mo_thrown D cI [.ref (a 12)] (wMo cI a wr) σ Q := by
  refine Ci.of (by decide +kernel) (Nat.le_of_ble_eq_true rfl) ?_
  intro p e s m below meth c ls A Z hx hb hml hown hts hok hP hD hA hl hend
  have S : CallFix p m c b_Mo_thrown 1 s ([.ref (a 12)] : List Value).toArray lwg "PropertyTrieModel" := ⟨hx, hb, hml, hown, hts⟩
  have hS : va_S A s.heap s.heap [] := va_S.rf
  have hl : lv_has ls 1 [(0, .ref (a 12))] := hl
  unfold F_Mo_thrown at hf
  refine lv_aload_n hx hb d_Mo_thrown_0 rfl (lv_at hl 0 rfl) ?_
  refine rg_Mo_failed S hok hP (hts _ k_fl_Mo_21) d_Mo_thrown_1 ?_
  exact hend _ _ _ _ _ _ d_Mo_thrown_4 rfl hf hP hD hS
abbrev rm_Mo_fail : Room := { frames := 10, cells := 0, slots := 0, locals := 200 }
set_option maxRecDepth 100000 in
set_option maxHeartbeats 4000000 in
theorem c_Mo_fail (l : Launch) (D : va_G) (cI : ClassId) (a : Nat → Nat) (wr : St → va_W) (hwr : Fx 21 wr) (x1 : Int32) (σ : St) (Q : Int32 → St → Prop) (hf : F_Mo_fail x1 σ Q) : Ci l y_Mo_fail (.code y_Mo_fail b_Mo_fail 2 (some .int)) rm_Mo_fail D cI [.ref (a 12), .int x1] (wMo cI a wr) σ Q := by
  refine Ci.of (by decide +kernel) (Nat.le_of_ble_eq_true rfl) ?_
  intro p e s m below meth c ls A Z hx hb hml hown hts hok hP hD hA hl hend
  have S : CallFix p m c b_Mo_fail 2 s ([.ref (a 12), .int x1] : List Value).toArray lwg "PropertyTrieModel" := ⟨hx, hb, hml, hown, hts⟩
  have hS : va_S A s.heap s.heap [] := va_S.rf
  have hl : lv_has ls 2 [(0, .ref (a 12)), (1, .int x1)] := hl
  unfold F_Mo_fail at hf
  refine lv_aload_n hx hb d_Mo_fail_0 rfl (lv_at hl 0 rfl) ?_
  refine lv_iload_n hx hb d_Mo_fail_1 rfl (lv_at hl 1 rfl) ?_
  refine rp_Mo_failed S hok hwr hP hD hS (hts _ k_fl_Mo_21) d_Mo_fail_2 (fun σ1 H locs hσ1 hP hD hS => ?_)
  have hf := hf σ1 hσ1
  refine lv_iconst (v := (0 : Int32)) hx hb d_Mo_fail_5 (by decide) ?_
  exact hend _ _ _ _ _ _ d_Mo_fail_6 rfl hf hP hD hS
abbrev rm_Mo_at : Room := { frames := 10, cells := 0, slots := 0, locals := 200 }
set_option maxRecDepth 100000 in
set_option maxHeartbeats 4000000 in
theorem c_Mo_at (l : Launch) (D : va_G) (cI : ClassId) (a : Nat → Nat) (wr : St → va_W) (hwr : Fx 21 wr) (x1 : Int32) (σ : St) (Q : Int32 → St → Prop) (hf : F_Mo_at x1 σ Q) : Ci l y_Mo_at (.code y_Mo_at b_Mo_at 5 (some .int)) rm_Mo_at D cI [.ref (a 12), .int x1] (wMo cI a wr) σ Q := by
  refine Ci.of (by decide +kernel) (Nat.le_of_ble_eq_true rfl) ?_
  intro p e s m below meth c ls A Z hx hb hml hown hts hok hP hD hA hl hend
  have S : CallFix p m c b_Mo_at 5 s ([.ref (a 12), .int x1] : List Value).toArray lwg "PropertyTrieModel" := ⟨hx, hb, hml, hown, hts⟩
  have hS : va_S A s.heap s.heap [] := va_S.rf
  have hl : lv_has ls 5 [(0, .ref (a 12)), (1, .int x1)] := hl
  unfold F_Mo_at at hf
  have lab9 : ∀ (v1 v2 v3 : Int32) (σ : St) (H : Heap) (locs : List Loc) (ls : Array Slot), F_Mo_at_L9 v1 v2 v3 σ Q → va_P D classes (wMo cI a wr σ) H → va_D A (wMo cI a wr σ) → va_S A s.heap H locs → lv_has ls 5 [(0, .ref (a 12)), (1, .int v1), (2, .int v2), (3, .int v3)] → W p l e rm_Mo_at s m ([.ref (a 12), .int x1] : List Value).toArray below meth c H locs 0 0 Z (F0 m 9 ls []) := by
    intro v1 v2 v3 σ H locs ls hf hP hD hS hl
    unfold F_Mo_at_L9 at hf
    obtain ⟨I9, m9, h0, hst9⟩ := hf
    have lp9 : ∀ (n : Nat) (v2 v3 : Int32) (σ : St) (H : Heap) (locs : List Loc) (ls : Array Slot), m9 v2 v3 σ = n → I9 v2 v3 σ → va_P D classes (wMo cI a wr σ) H → va_D A (wMo cI a wr σ) → va_S A s.heap H locs → lv_has ls 5 [(0, .ref (a 12)), (1, .int v1), (2, .int v2), (3, .int v3)] → W p l e rm_Mo_at s m ([.ref (a 12), .int x1] : List Value).toArray below meth c H locs 0 0 Z (F0 m 9 ls []) := by
      intro n9
      induction n9 using Nat.strongRecOn with
      | _ n9 ih9 =>
        intro v2 v3 σ H locs ls hn hI hP hD hS hl
        have hf := hst9 v2 v3 σ n9 hI hn
        refine lv_iload_n hx hb d_Mo_at_9 rfl (lv_at hl 2 rfl) ?_
        refine lv_iload_n hx hb d_Mo_at_10 rfl (lv_at hl 3 rfl) ?_
        refine lv_icmp_ge hx hb d_Mo_at_11 rfl (fun hc => ?_) (fun hc => ?_)
        · have hf := hf.1 hc
          refine lv_iload_n hx hb d_Mo_at_48 rfl (lv_at hl 2 rfl) ?_
          exact hend _ _ _ _ _ _ d_Mo_at_49 rfl hf hP hD hS
        · have hf := hf.2 hc
          refine lv_iload_n hx hb d_Mo_at_14 rfl (lv_at hl 2 rfl) ?_
          refine lv_iload_n hx hb d_Mo_at_15 rfl (lv_at hl 3 rfl) ?_
          refine lv_iadd hx hb d_Mo_at_16 ?_
          refine lv_iconst (v := (1 : Int32)) hx hb d_Mo_at_17 (by decide) ?_
          refine lv_iadd hx hb d_Mo_at_18 ?_
          refine lv_iconst (v := (2 : Int32)) hx hb d_Mo_at_19 (by decide) ?_
          refine lv_idiv hx hb d_Mo_at_20 (by decide) ?_
          refine lv_topi (fun z1 hz1 => ?_)
          have hf := hf z1 hz1
          refine lv_istore hx hb d_Mo_at_21 hl (by decide) rfl (fun ls hl => ?_)
          have hl : lv_has ls 5 [(4, .int z1), (0, .ref (a 12)), (1, .int v1), (2, .int v2), (3, .int v3)] := hl
          refine lv_aload_n hx hb d_Mo_at_23 rfl (lv_at hl 1 rfl) ?_
          refine rg_Mo_starts S hok hP (hts _ k_fl_Mo_13) d_Mo_at_24 ?_
          refine lv_iload hx hb d_Mo_at_27 (lv_at hl 0 rfl) ?_
          obtain ⟨hin, hf⟩ := hf
          refine rl_Mo_starts S hok hP hin d_Mo_at_29 ?_
          refine lv_iload_n hx hb d_Mo_at_30 rfl (lv_at hl 2 rfl) ?_
          refine lv_icmp_gt hx hb d_Mo_at_31 rfl (fun hc => ?_) (fun hc => ?_)
          · have hf := hf.1 hc
            refine lv_iload hx hb d_Mo_at_40 (lv_at hl 0 rfl) ?_
            refine lv_iconst (v := (1 : Int32)) hx hb d_Mo_at_42 (by decide) ?_
            refine lv_isub hx hb d_Mo_at_43 ?_
            refine lv_topi (fun z2 hz2 => ?_)
            have hf := hf z2 hz2
            refine lv_istore_n hx hb d_Mo_at_44 rfl hl (by decide) rfl (fun ls hl => ?_)
            have hl : lv_has ls 5 [(3, .int z2), (4, .int z1), (0, .ref (a 12)), (1, .int v1), (2, .int v2)] := hl
            refine lv_goto hx hb d_Mo_at_45 rfl ?_
            exact ih9 _ hf.2 _ _ _ _ _ _ rfl hf.1 hP hD hS (lv_sub hl [2, 3, 4, 0] rfl)
          · have hf := hf.2 hc
            refine lv_iload hx hb d_Mo_at_34 (lv_at hl 0 rfl) ?_
            refine lv_istore_n hx hb d_Mo_at_36 rfl hl (by decide) rfl (fun ls hl => ?_)
            have hl : lv_has ls 5 [(2, .int z1), (4, .int z1), (0, .ref (a 12)), (1, .int v1), (3, .int v3)] := hl
            refine lv_goto hx hb d_Mo_at_37 rfl ?_
            refine lv_goto hx hb d_Mo_at_45 rfl ?_
            exact ih9 _ hf.2 _ _ _ _ _ _ rfl hf.1 hP hD hS (lv_sub hl [2, 3, 0, 4] rfl)
    exact lp9 _ v2 v3 σ H locs ls rfl h0 hP hD hS hl
  refine lv_iconst (v := (0 : Int32)) hx hb d_Mo_at_0 (by decide) ?_
  refine lv_topi (fun z3 hz3 => ?_)
  have hf := hf z3 hz3
  refine lv_istore_n hx hb d_Mo_at_1 rfl hl (by decide) rfl (fun ls hl => ?_)
  have hl : lv_has ls 5 [(2, .int z3), (0, .ref (a 12)), (1, .int x1)] := hl
  refine lv_aload_n hx hb d_Mo_at_2 rfl (lv_at hl 1 rfl) ?_
  refine rg_Mo_count S hok hP (hts _ k_fl_Mo_7) d_Mo_at_3 ?_
  refine lv_iconst (v := (1 : Int32)) hx hb d_Mo_at_6 (by decide) ?_
  refine lv_isub hx hb d_Mo_at_7 ?_
  refine lv_topi (fun z4 hz4 => ?_)
  have hf := hf z4 hz4
  refine lv_istore_n hx hb d_Mo_at_8 rfl hl (by decide) rfl (fun ls hl => ?_)
  have hl : lv_has ls 5 [(3, .int z4), (2, .int z3), (0, .ref (a 12)), (1, .int x1)] := hl
  exact lab9 _ _ _ _ _ _ _ hf hP hD hS (lv_sub hl [2, 3, 1, 0] rfl)
abbrev rm_Mo_out : Room := { frames := 10, cells := 0, slots := 0, locals := 200 }
set_option maxRecDepth 100000 in
set_option maxHeartbeats 4000000 in
theorem c_Mo_out (l : Launch) (D : va_G) (cI : ClassId) (a : Nat → Nat) (wr : St → va_W) (hwr : Fx 21 wr) (x1 : Int32) (σ : St) (Q : Int32 → St → Prop) (hf : F_Mo_out x1 σ Q) : Ci l y_Mo_out (.code y_Mo_out b_Mo_out 2 (some .boolean)) rm_Mo_out D cI [.ref (a 12), .int x1] (wMo cI a wr) σ Q := by
  refine Ci.of (by decide +kernel) (Nat.le_of_ble_eq_true rfl) ?_
  intro p e s m below meth c ls A Z hx hb hml hown hts hok hP hD hA hl hend
  have S : CallFix p m c b_Mo_out 2 s ([.ref (a 12), .int x1] : List Value).toArray lwg "PropertyTrieModel" := ⟨hx, hb, hml, hown, hts⟩
  have hS : va_S A s.heap s.heap [] := va_S.rf
  have hl : lv_has ls 2 [(0, .ref (a 12)), (1, .int x1)] := hl
  unfold F_Mo_out at hf
  refine lv_iload_n hx hb d_Mo_out_0 rfl (lv_at hl 1 rfl) ?_
  refine lv_if_lt hx hb d_Mo_out_1 rfl (fun hc => ?_) (fun hc => ?_)
  · have hf := hf.1 hc
    refine lv_iconst (v := (1 : Int32)) hx hb d_Mo_out_10 (by decide) ?_
    refine lv_goto hx hb d_Mo_out_11 rfl ?_
    exact hend _ _ _ _ _ _ d_Mo_out_15 rfl hf hP hD hS
  · have hf := hf.2 hc
    refine lv_iload_n hx hb d_Mo_out_4 rfl (lv_at hl 1 rfl) ?_
    refine lv_ldc (v := (1114111 : Int32)) hx hb hown (hts _ k_cst_Mo_24) d_Mo_out_5 ?_
    refine lv_icmp_le hx hb d_Mo_out_7 rfl (fun hc => ?_) (fun hc => ?_)
    · have hf := hf.1 hc
      refine lv_iconst (v := (0 : Int32)) hx hb d_Mo_out_14 (by decide) ?_
      exact hend _ _ _ _ _ _ d_Mo_out_15 rfl hf hP hD hS
    · have hf := hf.2 hc
      refine lv_iconst (v := (1 : Int32)) hx hb d_Mo_out_10 (by decide) ?_
      refine lv_goto hx hb d_Mo_out_11 rfl ?_
      exact hend _ _ _ _ _ _ d_Mo_out_15 rfl hf hP hD hS
abbrev rm_Mo_cut : Room := { frames := 20, cells := 0, slots := 0, locals := 400 }
set_option maxRecDepth 100000 in
set_option maxHeartbeats 4000000 in
theorem c_Mo_cut (l : Launch) (D : va_G) (cI : ClassId) (a : Nat → Nat) (wr : St → va_W) (hwr : Fx 21 wr) (x1 : Int32) (σ : St) (Q : St → Prop) (hf : F_Mo_cut x1 σ Q) : Cv l y_Mo_cut (.code y_Mo_cut b_Mo_cut 5 none) rm_Mo_cut D cI [.ref (a 12), .int x1] (wMo cI a wr) σ Q := by
  refine Cv.of (by decide +kernel) (Nat.le_of_ble_eq_true rfl) ?_
  intro p e s m below meth c ls A Z hx hb hml hown hts hok hP hD hA hl hend
  have S : CallFix p m c b_Mo_cut 5 s ([.ref (a 12), .int x1] : List Value).toArray lwg "PropertyTrieModel" := ⟨hx, hb, hml, hown, hts⟩
  have hS : va_S A s.heap s.heap [] := va_S.rf
  have hl : lv_has ls 5 [(0, .ref (a 12)), (1, .int x1)] := hl
  unfold F_Mo_cut at hf
  have lab110 : ∀ (v2 v3 : Int32) (σ : St) (H : Heap) (locs : List Loc) (ls : Array Slot), F_Mo_cut_L110 v2 v3 σ Q → va_P D classes (wMo cI a wr σ) H → va_D A (wMo cI a wr σ) → va_S A s.heap H locs → lv_has ls 5 [(0, .ref (a 12)), (2, .int v2), (3, .int v3)] → W p l e rm_Mo_cut s m ([.ref (a 12), .int x1] : List Value).toArray below meth c H locs 0 0 Z (F0 m 110 ls []) := by
    intro v2 v3 σ H locs ls hf hP hD hS hl
    unfold F_Mo_cut_L110 at hf
    obtain ⟨I110, m110, h0, hst110⟩ := hf
    have lp110 : ∀ (n : Nat) (v3 : Int32) (σ : St) (H : Heap) (locs : List Loc) (ls : Array Slot), m110 v3 σ = n → I110 v3 σ → va_P D classes (wMo cI a wr σ) H → va_D A (wMo cI a wr σ) → va_S A s.heap H locs → lv_has ls 5 [(0, .ref (a 12)), (2, .int v2), (3, .int v3)] → W p l e rm_Mo_cut s m ([.ref (a 12), .int x1] : List Value).toArray below meth c H locs 0 0 Z (F0 m 110 ls []) := by
      intro n110
      induction n110 using Nat.strongRecOn with
      | _ n110 ih110 =>
        intro v3 σ H locs ls hn hI hP hD hS hl
        have hf := hst110 v3 σ n110 hI hn
        refine lv_iload_n hx hb d_Mo_cut_110 rfl (lv_at hl 2 rfl) ?_
        refine lv_bipush (v := (8 : Int32)) hx hb d_Mo_cut_111 (by decide) ?_
        refine lv_icmp_ge hx hb d_Mo_cut_113 rfl (fun hc => ?_) (fun hc => ?_)
        · have hf := hf.1 hc
          refine lv_aload_n hx hb d_Mo_cut_147 rfl (lv_at hl 0 rfl) ?_
          refine lv_dup hx hb d_Mo_cut_148 rfl ?_
          refine rg_Mo_count S hok hP (hts _ k_fl_Mo_7) d_Mo_cut_149 ?_
          refine lv_iconst (v := (1 : Int32)) hx hb d_Mo_cut_152 (by decide) ?_
          refine lv_iadd hx hb d_Mo_cut_153 ?_
          refine rp_Mo_count S hok hwr hP hD hS (hts _ k_fl_Mo_7) d_Mo_cut_154 (fun σ1 H locs hσ1 hP hD hS => ?_)
          have hf := hf σ1 hσ1
          exact hend _ _ _ _ _ d_Mo_cut_157 hf hP hD hS
        · have hf := hf.2 hc
          refine lv_aload_n hx hb d_Mo_cut_116 rfl (lv_at hl 0 rfl) ?_
          refine rg_Mo_fields S hok hP (hts _ k_fl_Mo_18) d_Mo_cut_117 ?_
          refine lv_bipush (v := (8 : Int32)) hx hb d_Mo_cut_120 (by decide) ?_
          refine lv_iload_n hx hb d_Mo_cut_122 rfl (lv_at hl 1 rfl) ?_
          refine lv_imul hx hb d_Mo_cut_123 ?_
          refine lv_bipush (v := (8 : Int32)) hx hb d_Mo_cut_124 (by decide) ?_
          refine lv_iadd hx hb d_Mo_cut_126 ?_
          refine lv_iload_n hx hb d_Mo_cut_127 rfl (lv_at hl 2 rfl) ?_
          refine lv_iadd hx hb d_Mo_cut_128 ?_
          refine lv_aload_n hx hb d_Mo_cut_129 rfl (lv_at hl 0 rfl) ?_
          refine rg_Mo_fields S hok hP (hts _ k_fl_Mo_18) d_Mo_cut_130 ?_
          refine lv_bipush (v := (8 : Int32)) hx hb d_Mo_cut_133 (by decide) ?_
          refine lv_iload_n hx hb d_Mo_cut_135 rfl (lv_at hl 1 rfl) ?_
          refine lv_imul hx hb d_Mo_cut_136 ?_
          refine lv_iload_n hx hb d_Mo_cut_137 rfl (lv_at hl 2 rfl) ?_
          refine lv_iadd hx hb d_Mo_cut_138 ?_
          obtain ⟨hin, hf⟩ := hf
          refine rl_Mo_fields S hok hP hin d_Mo_cut_139 ?_
          obtain ⟨hin, hf⟩ := hf
          refine rs_Mo_fields S hok hwr hP hD hS hin d_Mo_cut_140 (fun σ2 H locs hσ2 hP hD hS => ?_)
          have hf := hf σ2 hσ2
          obtain ⟨z3, hz3⟩ : ∃ z3 : Int32, z3 = v3 + (1 : Int32) := ⟨_, rfl⟩
          have hf := hf z3 hz3
          refine lv_iinc (k := 2) (v := z3) hx hb d_Mo_cut_141 hl rfl (by rw [hz3]; rfl) (by decide) rfl (fun ls hl => ?_)
          have hl : lv_has ls 5 [(3, .int z3), (0, .ref (a 12)), (2, .int v2)] := hl
          refine lv_goto hx hb d_Mo_cut_144 rfl ?_
          exact ih110 _ hf.2 _ _ _ _ _ rfl hf.1 hP hD hS (lv_sub hl [1, 2, 0] rfl)
    exact lp110 _ v3 σ H locs ls rfl h0 hP hD hS hl
  have lab29 : ∀ (v1 v2 v3 : Int32) (σ : St) (H : Heap) (locs : List Loc) (ls : Array Slot), F_Mo_cut_L29 v1 v2 v3 σ Q → va_P D classes (wMo cI a wr σ) H → va_D A (wMo cI a wr σ) → va_S A s.heap H locs → lv_has ls 5 [(0, .ref (a 12)), (1, .int v1), (2, .int v2), (3, .int v3)] → W p l e rm_Mo_cut s m ([.ref (a 12), .int x1] : List Value).toArray below meth c H locs 0 0 Z (F0 m 29 ls []) := by
    intro v1 v2 v3 σ H locs ls hf hP hD hS hl
    unfold F_Mo_cut_L29 at hf
    obtain ⟨I29, m29, h0, hst29⟩ := hf
    have lp29 : ∀ (n : Nat) (v3 : Int32) (σ : St) (H : Heap) (locs : List Loc) (ls : Array Slot), m29 v3 σ = n → I29 v3 σ → va_P D classes (wMo cI a wr σ) H → va_D A (wMo cI a wr σ) → va_S A s.heap H locs → lv_has ls 5 [(0, .ref (a 12)), (1, .int v1), (2, .int v2), (3, .int v3)] → W p l e rm_Mo_cut s m ([.ref (a 12), .int x1] : List Value).toArray below meth c H locs 0 0 Z (F0 m 29 ls []) := by
      intro n29
      induction n29 using Nat.strongRecOn with
      | _ n29 ih29 =>
        intro v3 σ H locs ls hn hI hP hD hS hl
        have hf := hst29 v3 σ n29 hI hn
        have lab53 : ∀ (v3 v4 : Int32) (σ : St) (H : Heap) (locs : List Loc) (ls : Array Slot), F_Mo_cut_L53 v1 v2 v3 v4 σ (fun b3 τ => I29 b3 τ ∧ m29 b3 τ < n29) Q → va_P D classes (wMo cI a wr σ) H → va_D A (wMo cI a wr σ) → va_S A s.heap H locs → lv_has ls 5 [(0, .ref (a 12)), (1, .int v1), (2, .int v2), (3, .int v3), (4, .int v4)] → W p l e rm_Mo_cut s m ([.ref (a 12), .int x1] : List Value).toArray below meth c H locs 0 0 Z (F0 m 53 ls []) := by
          intro v3 v4 σ H locs ls hf hP hD hS hl
          unfold F_Mo_cut_L53 at hf
          obtain ⟨I53, m53, h0, hst53⟩ := hf
          have lp53 : ∀ (n : Nat) (v4 : Int32) (σ : St) (H : Heap) (locs : List Loc) (ls : Array Slot), m53 v4 σ = n → I53 v4 σ → va_P D classes (wMo cI a wr σ) H → va_D A (wMo cI a wr σ) → va_S A s.heap H locs → lv_has ls 5 [(0, .ref (a 12)), (1, .int v1), (2, .int v2), (3, .int v3), (4, .int v4)] → W p l e rm_Mo_cut s m ([.ref (a 12), .int x1] : List Value).toArray below meth c H locs 0 0 Z (F0 m 53 ls []) := by
            intro n53
            induction n53 using Nat.strongRecOn with
            | _ n53 ih53 =>
              intro v4 σ H locs ls hn hI hP hD hS hl
              have hf := hst53 v4 σ n53 hI hn
              refine lv_iload hx hb d_Mo_cut_53 (lv_at hl 4 rfl) ?_
              refine lv_bipush (v := (8 : Int32)) hx hb d_Mo_cut_55 (by decide) ?_
              refine lv_icmp_ge hx hb d_Mo_cut_57 rfl (fun hc => ?_) (fun hc => ?_)
              · have hf := hf.1 hc
                obtain ⟨z4, hz4⟩ : ∃ z4 : Int32, z4 = v3 + (-1 : Int32) := ⟨_, rfl⟩
                have hf := hf z4 hz4
                refine lv_iinc (k := 3) (v := z4) hx hb d_Mo_cut_93 hl rfl (by rw [hz4]; rfl) (by decide) rfl (fun ls hl => ?_)
                have hl : lv_has ls 5 [(3, .int z4), (0, .ref (a 12)), (1, .int v1), (2, .int v2), (4, .int v4)] := hl
                refine lv_goto hx hb d_Mo_cut_96 rfl ?_
                exact ih29 _ hf.2 _ _ _ _ _ rfl hf.1 hP hD hS (lv_sub hl [1, 2, 3, 0] rfl)
              · have hf := hf.2 hc
                refine lv_aload_n hx hb d_Mo_cut_60 rfl (lv_at hl 0 rfl) ?_
                refine rg_Mo_fields S hok hP (hts _ k_fl_Mo_18) d_Mo_cut_61 ?_
                refine lv_bipush (v := (8 : Int32)) hx hb d_Mo_cut_64 (by decide) ?_
                refine lv_iload_n hx hb d_Mo_cut_66 rfl (lv_at hl 3 rfl) ?_
                refine lv_imul hx hb d_Mo_cut_67 ?_
                refine lv_iload hx hb d_Mo_cut_68 (lv_at hl 4 rfl) ?_
                refine lv_iadd hx hb d_Mo_cut_70 ?_
                refine lv_aload_n hx hb d_Mo_cut_71 rfl (lv_at hl 0 rfl) ?_
                refine rg_Mo_fields S hok hP (hts _ k_fl_Mo_18) d_Mo_cut_72 ?_
                refine lv_bipush (v := (8 : Int32)) hx hb d_Mo_cut_75 (by decide) ?_
                refine lv_iload_n hx hb d_Mo_cut_77 rfl (lv_at hl 3 rfl) ?_
                refine lv_imul hx hb d_Mo_cut_78 ?_
                refine lv_bipush (v := (8 : Int32)) hx hb d_Mo_cut_79 (by decide) ?_
                refine lv_isub hx hb d_Mo_cut_81 ?_
                refine lv_iload hx hb d_Mo_cut_82 (lv_at hl 4 rfl) ?_
                refine lv_iadd hx hb d_Mo_cut_84 ?_
                obtain ⟨hin, hf⟩ := hf
                refine rl_Mo_fields S hok hP hin d_Mo_cut_85 ?_
                obtain ⟨hin, hf⟩ := hf
                refine rs_Mo_fields S hok hwr hP hD hS hin d_Mo_cut_86 (fun σ5 H locs hσ5 hP hD hS => ?_)
                have hf := hf σ5 hσ5
                obtain ⟨z6, hz6⟩ : ∃ z6 : Int32, z6 = v4 + (1 : Int32) := ⟨_, rfl⟩
                have hf := hf z6 hz6
                refine lv_iinc (k := 4) (v := z6) hx hb d_Mo_cut_87 hl rfl (by rw [hz6]; rfl) (by decide) rfl (fun ls hl => ?_)
                have hl : lv_has ls 5 [(4, .int z6), (0, .ref (a 12)), (1, .int v1), (2, .int v2), (3, .int v3)] := hl
                refine lv_goto hx hb d_Mo_cut_90 rfl ?_
                exact ih53 _ hf.2 _ _ _ _ _ rfl hf.1 hP hD hS (lv_sub hl [1, 2, 3, 4, 0] rfl)
          exact lp53 _ v4 σ H locs ls rfl h0 hP hD hS hl
        refine lv_iload_n hx hb d_Mo_cut_29 rfl (lv_at hl 3 rfl) ?_
        refine lv_iload_n hx hb d_Mo_cut_30 rfl (lv_at hl 2 rfl) ?_
        refine lv_iconst (v := (1 : Int32)) hx hb d_Mo_cut_31 (by decide) ?_
        refine lv_iadd hx hb d_Mo_cut_32 ?_
        refine lv_icmp_le hx hb d_Mo_cut_33 rfl (fun hc => ?_) (fun hc => ?_)
        · have hf := hf.1 hc
          refine lv_aload_n hx hb d_Mo_cut_99 rfl (lv_at hl 0 rfl) ?_
          refine rg_Mo_starts S hok hP (hts _ k_fl_Mo_13) d_Mo_cut_100 ?_
          refine lv_iload_n hx hb d_Mo_cut_103 rfl (lv_at hl 2 rfl) ?_
          refine lv_iconst (v := (1 : Int32)) hx hb d_Mo_cut_104 (by decide) ?_
          refine lv_iadd hx hb d_Mo_cut_105 ?_
          refine lv_iload_n hx hb d_Mo_cut_106 rfl (lv_at hl 1 rfl) ?_
          obtain ⟨hin, hf⟩ := hf
          refine rs_Mo_starts S hok hwr hP hD hS hin d_Mo_cut_107 (fun σ7 H locs hσ7 hP hD hS => ?_)
          have hf := hf σ7 hσ7
          refine lv_iconst (v := (0 : Int32)) hx hb d_Mo_cut_108 (by decide) ?_
          refine lv_topi (fun z8 hz8 => ?_)
          have hf := hf z8 hz8
          refine lv_istore_n hx hb d_Mo_cut_109 rfl hl (by decide) rfl (fun ls hl => ?_)
          have hl : lv_has ls 5 [(3, .int z8), (0, .ref (a 12)), (1, .int v1), (2, .int v2)] := hl
          exact lab110 _ _ _ _ _ _ hf hP hD hS (lv_sub hl [1, 3, 0] rfl)
        · have hf := hf.2 hc
          refine lv_aload_n hx hb d_Mo_cut_36 rfl (lv_at hl 0 rfl) ?_
          refine rg_Mo_starts S hok hP (hts _ k_fl_Mo_13) d_Mo_cut_37 ?_
          refine lv_iload_n hx hb d_Mo_cut_40 rfl (lv_at hl 3 rfl) ?_
          refine lv_aload_n hx hb d_Mo_cut_41 rfl (lv_at hl 0 rfl) ?_
          refine rg_Mo_starts S hok hP (hts _ k_fl_Mo_13) d_Mo_cut_42 ?_
          refine lv_iload_n hx hb d_Mo_cut_45 rfl (lv_at hl 3 rfl) ?_
          refine lv_iconst (v := (1 : Int32)) hx hb d_Mo_cut_46 (by decide) ?_
          refine lv_isub hx hb d_Mo_cut_47 ?_
          obtain ⟨hin, hf⟩ := hf
          refine rl_Mo_starts S hok hP hin d_Mo_cut_48 ?_
          obtain ⟨hin, hf⟩ := hf
          refine rs_Mo_starts S hok hwr hP hD hS hin d_Mo_cut_49 (fun σ9 H locs hσ9 hP hD hS => ?_)
          have hf := hf σ9 hσ9
          refine lv_iconst (v := (0 : Int32)) hx hb d_Mo_cut_50 (by decide) ?_
          refine lv_topi (fun z10 hz10 => ?_)
          have hf := hf z10 hz10
          refine lv_istore hx hb d_Mo_cut_51 hl (by decide) rfl (fun ls hl => ?_)
          have hl : lv_has ls 5 [(4, .int z10), (0, .ref (a 12)), (1, .int v1), (2, .int v2), (3, .int v3)] := hl
          exact lab53 _ _ _ _ _ _ hf hP hD hS (lv_sub hl [1, 2, 3, 4, 0] rfl)
    exact lp29 _ v3 σ H locs ls rfl h0 hP hD hS hl
  refine lv_iload_n hx hb d_Mo_cut_0 rfl (lv_at hl 1 rfl) ?_
  refine lv_ldc (v := (1114111 : Int32)) hx hb hown (hts _ k_cst_Mo_24) d_Mo_cut_1 ?_
  refine lv_icmp_le hx hb d_Mo_cut_3 rfl (fun hc => ?_) (fun hc => ?_)
  · have hf := hf.1 hc
    refine lv_aload_n hx hb d_Mo_cut_7 rfl (lv_at hl 0 rfl) ?_
    refine lv_iload_n hx hb d_Mo_cut_8 rfl (lv_at hl 1 rfl) ?_
    refine r_callVi (As := [.int x1]) (rest := []) (n := 1) (q0 := 12) S hok (c_Mo_at l D cI a wr hwr _ _ _ hf) k_ml_Mo_25 k_im_Mo_at k_sel_Mo_at k_ini_Mo k_code_Mo_at rfl rfl (by decide +kernel) ⟨by decide, by decide⟩ rfl rfl hP hD hS hA (Nat.zero_le _) (Nat.zero_le _) hl.1 rfl rfl (Nat.le_of_ble_eq_true rfl) d_Mo_cut_9 (fun r12 σ11 H locs hf hP hD hS => ?_)
    have hP : va_P D classes (wMo cI a wr σ11) H := hP
    have hD : va_D A (wMo cI a wr σ11) := hD
    refine lv_istore_n hx hb d_Mo_cut_12 rfl hl (by decide) rfl (fun ls hl => ?_)
    have hl : lv_has ls 5 [(2, .int r12), (0, .ref (a 12)), (1, .int x1)] := hl
    refine lv_aload_n hx hb d_Mo_cut_13 rfl (lv_at hl 1 rfl) ?_
    refine rg_Mo_starts S hok hP (hts _ k_fl_Mo_13) d_Mo_cut_14 ?_
    refine lv_iload_n hx hb d_Mo_cut_17 rfl (lv_at hl 0 rfl) ?_
    obtain ⟨hin, hf⟩ := hf
    refine rl_Mo_starts S hok hP hin d_Mo_cut_18 ?_
    refine lv_iload_n hx hb d_Mo_cut_19 rfl (lv_at hl 2 rfl) ?_
    refine lv_icmp_ne hx hb d_Mo_cut_20 rfl (fun hc => ?_) (fun hc => ?_)
    · have hf := hf.2 hc
      refine lv_aload_n hx hb d_Mo_cut_24 rfl (lv_at hl 1 rfl) ?_
      refine rg_Mo_count S hok hP (hts _ k_fl_Mo_7) d_Mo_cut_25 ?_
      refine lv_topi (fun z13 hz13 => ?_)
      have hf := hf z13 hz13
      refine lv_istore_n hx hb d_Mo_cut_28 rfl hl (by decide) rfl (fun ls hl => ?_)
      have hl : lv_has ls 5 [(3, .int z13), (2, .int r12), (0, .ref (a 12)), (1, .int x1)] := hl
      exact lab29 _ _ _ _ _ _ _ hf hP hD hS (lv_sub hl [2, 3, 1, 0] rfl)
    · have hf := hf.1 hc
      exact hend _ _ _ _ _ d_Mo_cut_23 hf hP hD hS
  · have hf := hf.2 hc
    exact hend _ _ _ _ _ d_Mo_cut_6 hf hP hD hS
abbrev rm_Mo_mark : Room := { frames := 30, cells := 0, slots := 0, locals := 600 }
set_option maxRecDepth 100000 in
set_option maxHeartbeats 4000000 in
theorem c_Mo_mark (l : Launch) (D : va_G) (cI : ClassId) (a : Nat → Nat) (wr : St → va_W) (hwr : Fx 21 wr) (x1 : Int32) (x2 : Int32) (x3 : Int32) (x4 : Int32) (x5 : Int32) (σ : St) (Q : Int32 → St → Prop) (hf : F_Mo_mark x1 x2 x3 x4 x5 σ Q) : Ci l y_Mo_mark (.code y_Mo_mark b_Mo_mark 7 (some .int)) rm_Mo_mark D cI [.ref (a 12), .int x1, .int x2, .int x3, .int x4, .int x5] (wMo cI a wr) σ Q := by
  refine Ci.of (by decide +kernel) (Nat.le_of_ble_eq_true rfl) ?_
  intro p e s m below meth c ls A Z hx hb hml hown hts hok hP hD hA hl hend
  have S : CallFix p m c b_Mo_mark 7 s ([.ref (a 12), .int x1, .int x2, .int x3, .int x4, .int x5] : List Value).toArray lwg "PropertyTrieModel" := ⟨hx, hb, hml, hown, hts⟩
  have hS : va_S A s.heap s.heap [] := va_S.rf
  have hl : lv_has ls 7 [(0, .ref (a 12)), (1, .int x1), (2, .int x2), (3, .int x3), (4, .int x4), (5, .int x5)] := hl
  unfold F_Mo_mark at hf
  have lab117 : ∀ (v1 v2 : Int32) (σ : St) (H : Heap) (locs : List Loc) (ls : Array Slot), F_Mo_mark_J117 v1 v2 σ Q → va_P D classes (wMo cI a wr σ) H → va_D A (wMo cI a wr σ) → va_S A s.heap H locs → lv_has ls 7 [(1, .int v1), (2, .int v2)] → W p l e rm_Mo_mark s m ([.ref (a 12), .int x1, .int x2, .int x3, .int x4, .int x5] : List Value).toArray below meth c H locs 0 0 Z (F0 m 117 ls []) := by
    intro v1 v2 σ H locs ls hf hP hD hS hl
    unfold F_Mo_mark_J117 at hf
    refine lv_iload_n hx hb d_Mo_mark_117 rfl (lv_at hl 1 rfl) ?_
    refine lv_iload_n hx hb d_Mo_mark_118 rfl (lv_at hl 0 rfl) ?_
    refine lv_isub hx hb d_Mo_mark_119 ?_
    refine lv_iconst (v := (1 : Int32)) hx hb d_Mo_mark_120 (by decide) ?_
    refine lv_iadd hx hb d_Mo_mark_121 ?_
    exact hend _ _ _ _ _ _ d_Mo_mark_122 rfl hf hP hD hS
  have lab61 : ∀ (v1 v2 v3 v4 v5 v6 : Int32) (σ : St) (H : Heap) (locs : List Loc) (ls : Array Slot), F_Mo_mark_L61 v1 v2 v3 v4 v5 v6 σ Q → va_P D classes (wMo cI a wr σ) H → va_D A (wMo cI a wr σ) → va_S A s.heap H locs → lv_has ls 7 [(0, .ref (a 12)), (1, .int v1), (2, .int v2), (3, .int v3), (4, .int v4), (5, .int v5), (6, .int v6)] → W p l e rm_Mo_mark s m ([.ref (a 12), .int x1, .int x2, .int x3, .int x4, .int x5] : List Value).toArray below meth c H locs 0 0 Z (F0 m 61 ls []) := by
    intro v1 v2 v3 v4 v5 v6 σ H locs ls hf hP hD hS hl
    unfold F_Mo_mark_L61 at hf
    obtain ⟨I61, m61, h0, hst61⟩ := hf
    have lp61 : ∀ (n : Nat) (v6 : Int32) (σ : St) (H : Heap) (locs : List Loc) (ls : Array Slot), m61 v6 σ = n → I61 v6 σ → va_P D classes (wMo cI a wr σ) H → va_D A (wMo cI a wr σ) → va_S A s.heap H locs → lv_has ls 7 [(0, .ref (a 12)), (1, .int v1), (2, .int v2), (3, .int v3), (4, .int v4), (5, .int v5), (6, .int v6)] → W p l e rm_Mo_mark s m ([.ref (a 12), .int x1, .int x2, .int x3, .int x4, .int x5] : List Value).toArray below meth c H locs 0 0 Z (F0 m 61 ls []) := by
      intro n61
      induction n61 using Nat.strongRecOn with
      | _ n61 ih61 =>
        intro v6 σ H locs ls hn hI hP hD hS hl
        have hf := hst61 v6 σ n61 hI hn
        refine lv_iload hx hb d_Mo_mark_61 (lv_at hl 6 rfl) ?_
        refine lv_aload_n hx hb d_Mo_mark_63 rfl (lv_at hl 0 rfl) ?_
        refine rg_Mo_count S hok hP (hts _ k_fl_Mo_7) d_Mo_mark_64 ?_
        refine lv_icmp_ge hx hb d_Mo_mark_67 rfl (fun hc => ?_) (fun hc => ?_)
        · have hf := hf.1 hc
          exact lab117 _ _ _ _ _ _ hf hP hD hS (lv_sub hl [1, 2] rfl)
        · have hf := hf.2 hc
          refine lv_aload_n hx hb d_Mo_mark_70 rfl (lv_at hl 0 rfl) ?_
          refine rg_Mo_starts S hok hP (hts _ k_fl_Mo_13) d_Mo_mark_71 ?_
          refine lv_iload hx hb d_Mo_mark_74 (lv_at hl 6 rfl) ?_
          obtain ⟨hin, hf⟩ := hf
          refine rl_Mo_starts S hok hP hin d_Mo_mark_76 ?_
          refine lv_iload_n hx hb d_Mo_mark_77 rfl (lv_at hl 2 rfl) ?_
          refine lv_icmp_gt hx hb d_Mo_mark_78 rfl (fun hc => ?_) (fun hc => ?_)
          · have hf := hf.1 hc
            exact lab117 _ _ _ _ _ _ hf hP hD hS (lv_sub hl [1, 2] rfl)
          · have hf := hf.2 hc
            refine lv_aload_n hx hb d_Mo_mark_81 rfl (lv_at hl 0 rfl) ?_
            refine rg_Mo_fields S hok hP (hts _ k_fl_Mo_18) d_Mo_mark_82 ?_
            refine lv_bipush (v := (8 : Int32)) hx hb d_Mo_mark_85 (by decide) ?_
            refine lv_iload hx hb d_Mo_mark_87 (lv_at hl 6 rfl) ?_
            refine lv_imul hx hb d_Mo_mark_89 ?_
            refine lv_iload_n hx hb d_Mo_mark_90 rfl (lv_at hl 3 rfl) ?_
            refine lv_iadd hx hb d_Mo_mark_91 ?_
            refine lv_aload_n hx hb d_Mo_mark_92 rfl (lv_at hl 0 rfl) ?_
            refine rg_Mo_fields S hok hP (hts _ k_fl_Mo_18) d_Mo_mark_93 ?_
            refine lv_bipush (v := (8 : Int32)) hx hb d_Mo_mark_96 (by decide) ?_
            refine lv_iload hx hb d_Mo_mark_98 (lv_at hl 6 rfl) ?_
            refine lv_imul hx hb d_Mo_mark_100 ?_
            refine lv_iload_n hx hb d_Mo_mark_101 rfl (lv_at hl 3 rfl) ?_
            refine lv_iadd hx hb d_Mo_mark_102 ?_
            obtain ⟨hin, hf⟩ := hf
            refine rl_Mo_fields S hok hP hin d_Mo_mark_103 ?_
            refine lv_iload hx hb d_Mo_mark_104 (lv_at hl 5 rfl) ?_
            refine lv_iand hx hb d_Mo_mark_106 ?_
            refine lv_iload hx hb d_Mo_mark_107 (lv_at hl 4 rfl) ?_
            refine lv_ior hx hb d_Mo_mark_109 ?_
            obtain ⟨hin, hf⟩ := hf
            refine rs_Mo_fields S hok hwr hP hD hS hin d_Mo_mark_110 (fun σ1 H locs hσ1 hP hD hS => ?_)
            have hf := hf σ1 hσ1
            obtain ⟨z2, hz2⟩ : ∃ z2 : Int32, z2 = v6 + (1 : Int32) := ⟨_, rfl⟩
            have hf := hf z2 hz2
            refine lv_iinc (k := 6) (v := z2) hx hb d_Mo_mark_111 hl rfl (by rw [hz2]; rfl) (by decide) rfl (fun ls hl => ?_)
            have hl : lv_has ls 7 [(6, .int z2), (0, .ref (a 12)), (1, .int v1), (2, .int v2), (3, .int v3), (4, .int v4), (5, .int v5)] := hl
            refine lv_goto hx hb d_Mo_mark_114 rfl ?_
            exact ih61 _ hf.2 _ _ _ _ _ rfl hf.1 hP hD hS (lv_sub hl [1, 2, 3, 4, 5, 6, 0] rfl)
    exact lp61 _ v6 σ H locs ls rfl h0 hP hD hS hl
  refine lv_aload_n hx hb d_Mo_mark_0 rfl (lv_at hl 0 rfl) ?_
  refine lv_iconst (v := (0 : Int32)) hx hb d_Mo_mark_1 (by decide) ?_
  refine rp_Mo_failed S hok hwr hP hD hS (hts _ k_fl_Mo_21) d_Mo_mark_2 (fun σ3 H locs hσ3 hP hD hS => ?_)
  have hf := hf σ3 hσ3
  refine lv_aload_n hx hb d_Mo_mark_5 rfl (lv_at hl 0 rfl) ?_
  refine lv_iload_n hx hb d_Mo_mark_6 rfl (lv_at hl 1 rfl) ?_
  refine r_callVi (As := [.int x1]) (rest := []) (n := 1) (q0 := 12) S hok (c_Mo_out l D cI a wr hwr _ _ _ hf) k_ml_Mo_33 k_im_Mo_out k_sel_Mo_out k_ini_Mo k_code_Mo_out rfl rfl (by decide +kernel) ⟨by decide, by decide⟩ rfl rfl hP hD hS hA (Nat.zero_le _) (Nat.zero_le _) hl.1 rfl rfl (Nat.le_of_ble_eq_true rfl) d_Mo_mark_7 (fun r5 σ4 H locs hf hP hD hS => ?_)
  have hP : va_P D classes (wMo cI a wr σ4) H := hP
  have hD : va_D A (wMo cI a wr σ4) := hD
  refine lv_if_ne hx hb d_Mo_mark_10 rfl (fun hc => ?_) (fun hc => ?_)
  · have hf := hf.2 hc
    refine lv_aload_n hx hb d_Mo_mark_36 rfl (lv_at hl 0 rfl) ?_
    refine lv_iconst (v := (1 : Int32)) hx hb d_Mo_mark_37 (by decide) ?_
    refine r_callVi (As := [.int (1 : Int32)]) (rest := []) (n := 1) (q0 := 12) S hok (c_Mo_fail l D cI a wr hwr _ _ _ hf) k_ml_Mo_37 k_im_Mo_fail k_sel_Mo_fail k_ini_Mo k_code_Mo_fail rfl rfl (by decide +kernel) ⟨by decide, by decide⟩ rfl rfl hP hD hS hA (Nat.zero_le _) (Nat.zero_le _) hl.1 rfl rfl (Nat.le_of_ble_eq_true rfl) d_Mo_mark_38 (fun r7 σ6 H locs hf hP hD hS => ?_)
    have hP : va_P D classes (wMo cI a wr σ6) H := hP
    have hD : va_D A (wMo cI a wr σ6) := hD
    exact hend _ _ _ _ _ _ d_Mo_mark_41 rfl hf hP hD hS
  · have hf := hf.1 hc
    refine lv_aload_n hx hb d_Mo_mark_13 rfl (lv_at hl 0 rfl) ?_
    refine lv_iload_n hx hb d_Mo_mark_14 rfl (lv_at hl 2 rfl) ?_
    refine r_callVi (As := [.int x2]) (rest := []) (n := 1) (q0 := 12) S hok (c_Mo_out l D cI a wr hwr _ _ _ hf) k_ml_Mo_33 k_im_Mo_out k_sel_Mo_out k_ini_Mo k_code_Mo_out rfl rfl (by decide +kernel) ⟨by decide, by decide⟩ rfl rfl hP hD hS hA (Nat.zero_le _) (Nat.zero_le _) hl.1 rfl rfl (Nat.le_of_ble_eq_true rfl) d_Mo_mark_15 (fun r9 σ8 H locs hf hP hD hS => ?_)
    have hP : va_P D classes (wMo cI a wr σ8) H := hP
    have hD : va_D A (wMo cI a wr σ8) := hD
    refine lv_if_ne hx hb d_Mo_mark_18 rfl (fun hc => ?_) (fun hc => ?_)
    · have hf := hf.2 hc
      refine lv_aload_n hx hb d_Mo_mark_36 rfl (lv_at hl 0 rfl) ?_
      refine lv_iconst (v := (1 : Int32)) hx hb d_Mo_mark_37 (by decide) ?_
      refine r_callVi (As := [.int (1 : Int32)]) (rest := []) (n := 1) (q0 := 12) S hok (c_Mo_fail l D cI a wr hwr _ _ _ hf) k_ml_Mo_37 k_im_Mo_fail k_sel_Mo_fail k_ini_Mo k_code_Mo_fail rfl rfl (by decide +kernel) ⟨by decide, by decide⟩ rfl rfl hP hD hS hA (Nat.zero_le _) (Nat.zero_le _) hl.1 rfl rfl (Nat.le_of_ble_eq_true rfl) d_Mo_mark_38 (fun r11 σ10 H locs hf hP hD hS => ?_)
      have hP : va_P D classes (wMo cI a wr σ10) H := hP
      have hD : va_D A (wMo cI a wr σ10) := hD
      exact hend _ _ _ _ _ _ d_Mo_mark_41 rfl hf hP hD hS
    · have hf := hf.1 hc
      refine lv_iload_n hx hb d_Mo_mark_21 rfl (lv_at hl 2 rfl) ?_
      refine lv_iload_n hx hb d_Mo_mark_22 rfl (lv_at hl 1 rfl) ?_
      refine lv_icmp_lt hx hb d_Mo_mark_23 rfl (fun hc => ?_) (fun hc => ?_)
      · have hf := hf.1 hc
        refine lv_aload_n hx hb d_Mo_mark_36 rfl (lv_at hl 0 rfl) ?_
        refine lv_iconst (v := (1 : Int32)) hx hb d_Mo_mark_37 (by decide) ?_
        refine r_callVi (As := [.int (1 : Int32)]) (rest := []) (n := 1) (q0 := 12) S hok (c_Mo_fail l D cI a wr hwr _ _ _ hf) k_ml_Mo_37 k_im_Mo_fail k_sel_Mo_fail k_ini_Mo k_code_Mo_fail rfl rfl (by decide +kernel) ⟨by decide, by decide⟩ rfl rfl hP hD hS hA (Nat.zero_le _) (Nat.zero_le _) hl.1 rfl rfl (Nat.le_of_ble_eq_true rfl) d_Mo_mark_38 (fun r13 σ12 H locs hf hP hD hS => ?_)
        have hP : va_P D classes (wMo cI a wr σ12) H := hP
        have hD : va_D A (wMo cI a wr σ12) := hD
        exact hend _ _ _ _ _ _ d_Mo_mark_41 rfl hf hP hD hS
      · have hf := hf.2 hc
        refine lv_iload_n hx hb d_Mo_mark_26 rfl (lv_at hl 3 rfl) ?_
        refine lv_if_lt hx hb d_Mo_mark_27 rfl (fun hc => ?_) (fun hc => ?_)
        · have hf := hf.1 hc
          refine lv_aload_n hx hb d_Mo_mark_36 rfl (lv_at hl 0 rfl) ?_
          refine lv_iconst (v := (1 : Int32)) hx hb d_Mo_mark_37 (by decide) ?_
          refine r_callVi (As := [.int (1 : Int32)]) (rest := []) (n := 1) (q0 := 12) S hok (c_Mo_fail l D cI a wr hwr _ _ _ hf) k_ml_Mo_37 k_im_Mo_fail k_sel_Mo_fail k_ini_Mo k_code_Mo_fail rfl rfl (by decide +kernel) ⟨by decide, by decide⟩ rfl rfl hP hD hS hA (Nat.zero_le _) (Nat.zero_le _) hl.1 rfl rfl (Nat.le_of_ble_eq_true rfl) d_Mo_mark_38 (fun r15 σ14 H locs hf hP hD hS => ?_)
          have hP : va_P D classes (wMo cI a wr σ14) H := hP
          have hD : va_D A (wMo cI a wr σ14) := hD
          exact hend _ _ _ _ _ _ d_Mo_mark_41 rfl hf hP hD hS
        · have hf := hf.2 hc
          refine lv_iload_n hx hb d_Mo_mark_30 rfl (lv_at hl 3 rfl) ?_
          refine lv_bipush (v := (7 : Int32)) hx hb d_Mo_mark_31 (by decide) ?_
          refine lv_icmp_le hx hb d_Mo_mark_33 rfl (fun hc => ?_) (fun hc => ?_)
          · have hf := hf.1 hc
            refine lv_aload_n hx hb d_Mo_mark_42 rfl (lv_at hl 0 rfl) ?_
            refine lv_iload_n hx hb d_Mo_mark_43 rfl (lv_at hl 1 rfl) ?_
            refine r_callVv (As := [.int x1]) (rest := []) (n := 1) (q0 := 12) S hok (c_Mo_cut l D cI a wr hwr _ _ _ hf) k_ml_Mo_40 k_im_Mo_cut k_sel_Mo_cut k_ini_Mo k_code_Mo_cut rfl rfl (by decide +kernel) ⟨by decide, by decide⟩ rfl rfl hP hD hS hA (Nat.zero_le _) (Nat.zero_le _) hl.1 rfl rfl (Nat.le_of_ble_eq_true rfl) d_Mo_mark_44 (fun σ16 H locs hf hP hD hS => ?_)
            have hP : va_P D classes (wMo cI a wr σ16) H := hP
            have hD : va_D A (wMo cI a wr σ16) := hD
            refine lv_aload_n hx hb d_Mo_mark_47 rfl (lv_at hl 0 rfl) ?_
            refine lv_iload_n hx hb d_Mo_mark_48 rfl (lv_at hl 2 rfl) ?_
            refine lv_iconst (v := (1 : Int32)) hx hb d_Mo_mark_49 (by decide) ?_
            refine lv_iadd hx hb d_Mo_mark_50 ?_
            refine r_callVv (As := [.int (x2 + (1 : Int32))]) (rest := []) (n := 1) (q0 := 12) S hok (c_Mo_cut l D cI a wr hwr _ _ _ hf) k_ml_Mo_40 k_im_Mo_cut k_sel_Mo_cut k_ini_Mo k_code_Mo_cut rfl rfl (by decide +kernel) ⟨by decide, by decide⟩ rfl rfl hP hD hS hA (Nat.zero_le _) (Nat.zero_le _) hl.1 rfl rfl (Nat.le_of_ble_eq_true rfl) d_Mo_mark_51 (fun σ17 H locs hf hP hD hS => ?_)
            have hP : va_P D classes (wMo cI a wr σ17) H := hP
            have hD : va_D A (wMo cI a wr σ17) := hD
            refine lv_aload_n hx hb d_Mo_mark_54 rfl (lv_at hl 0 rfl) ?_
            refine lv_iload_n hx hb d_Mo_mark_55 rfl (lv_at hl 1 rfl) ?_
            refine r_callVi (As := [.int x1]) (rest := []) (n := 1) (q0 := 12) S hok (c_Mo_at l D cI a wr hwr _ _ _ hf) k_ml_Mo_25 k_im_Mo_at k_sel_Mo_at k_ini_Mo k_code_Mo_at rfl rfl (by decide +kernel) ⟨by decide, by decide⟩ rfl rfl hP hD hS hA (Nat.zero_le _) (Nat.zero_le _) hl.1 rfl rfl (Nat.le_of_ble_eq_true rfl) d_Mo_mark_56 (fun r19 σ18 H locs hf hP hD hS => ?_)
            have hP : va_P D classes (wMo cI a wr σ18) H := hP
            have hD : va_D A (wMo cI a wr σ18) := hD
            refine lv_istore hx hb d_Mo_mark_59 hl (by decide) rfl (fun ls hl => ?_)
            have hl : lv_has ls 7 [(6, .int r19), (0, .ref (a 12)), (1, .int x1), (2, .int x2), (3, .int x3), (4, .int x4), (5, .int x5)] := hl
            exact lab61 _ _ _ _ _ _ _ _ _ _ hf hP hD hS (lv_sub hl [1, 2, 3, 4, 5, 6, 0] rfl)
          · have hf := hf.2 hc
            refine lv_aload_n hx hb d_Mo_mark_36 rfl (lv_at hl 0 rfl) ?_
            refine lv_iconst (v := (1 : Int32)) hx hb d_Mo_mark_37 (by decide) ?_
            refine r_callVi (As := [.int (1 : Int32)]) (rest := []) (n := 1) (q0 := 12) S hok (c_Mo_fail l D cI a wr hwr _ _ _ hf) k_ml_Mo_37 k_im_Mo_fail k_sel_Mo_fail k_ini_Mo k_code_Mo_fail rfl rfl (by decide +kernel) ⟨by decide, by decide⟩ rfl rfl hP hD hS hA (Nat.zero_le _) (Nat.zero_le _) hl.1 rfl rfl (Nat.le_of_ble_eq_true rfl) d_Mo_mark_38 (fun r21 σ20 H locs hf hP hD hS => ?_)
            have hP : va_P D classes (wMo cI a wr σ20) H := hP
            have hD : va_D A (wMo cI a wr σ20) := hD
            exact hend _ _ _ _ _ _ d_Mo_mark_41 rfl hf hP hD hS
abbrev rm_Mo_set : Room := { frames := 40, cells := 0, slots := 0, locals := 800 }
set_option maxRecDepth 100000 in
set_option maxHeartbeats 4000000 in
theorem c_Mo_set (l : Launch) (D : va_G) (cI : ClassId) (a : Nat → Nat) (wr : St → va_W) (hwr : Fx 21 wr) (x1 : Int32) (x2 : Int32) (x3 : Int32) (x4 : Int32) (σ : St) (Q : Int32 → St → Prop) (hf : F_Mo_set x1 x2 x3 x4 σ Q) : Ci l y_Mo_set (.code y_Mo_set b_Mo_set 5 (some .int)) rm_Mo_set D cI [.ref (a 12), .int x1, .int x2, .int x3, .int x4] (wMo cI a wr) σ Q := by
  refine Ci.of (by decide +kernel) (Nat.le_of_ble_eq_true rfl) ?_
  intro p e s m below meth c ls A Z hx hb hml hown hts hok hP hD hA hl hend
  have S : CallFix p m c b_Mo_set 5 s ([.ref (a 12), .int x1, .int x2, .int x3, .int x4] : List Value).toArray lwg "PropertyTrieModel" := ⟨hx, hb, hml, hown, hts⟩
  have hS : va_S A s.heap s.heap [] := va_S.rf
  have hl : lv_has ls 5 [(0, .ref (a 12)), (1, .int x1), (2, .int x2), (3, .int x3), (4, .int x4)] := hl
  unfold F_Mo_set at hf
  refine lv_aload_n hx hb d_Mo_set_0 rfl (lv_at hl 0 rfl) ?_
  refine lv_iload_n hx hb d_Mo_set_1 rfl (lv_at hl 1 rfl) ?_
  refine lv_iload_n hx hb d_Mo_set_2 rfl (lv_at hl 2 rfl) ?_
  refine lv_iload_n hx hb d_Mo_set_3 rfl (lv_at hl 3 rfl) ?_
  refine lv_iload hx hb d_Mo_set_4 (lv_at hl 4 rfl) ?_
  refine lv_iconst (v := (0 : Int32)) hx hb d_Mo_set_6 (by decide) ?_
  refine r_callVi (As := [.int x1, .int x2, .int x3, .int x4, .int (0 : Int32)]) (rest := []) (n := 5) (q0 := 12) S hok (c_Mo_mark l D cI a wr hwr _ _ _ _ _ _ _ hf) k_ml_Mo_29 k_im_Mo_mark k_sel_Mo_mark k_ini_Mo k_code_Mo_mark rfl rfl (by decide +kernel) ⟨by decide, by decide⟩ rfl rfl hP hD hS hA (Nat.zero_le _) (Nat.zero_le _) hl.1 rfl rfl (Nat.le_of_ble_eq_true rfl) d_Mo_set_7 (fun r2 σ1 H locs hf hP hD hS => ?_)
  have hP : va_P D classes (wMo cI a wr σ1) H := hP
  have hD : va_D A (wMo cI a wr σ1) := hD
  exact hend _ _ _ _ _ _ d_Mo_set_10 rfl hf hP hD hS
abbrev rm_Mo_get : Room := { frames := 20, cells := 0, slots := 0, locals := 400 }
set_option maxRecDepth 100000 in
set_option maxHeartbeats 4000000 in
theorem c_Mo_get (l : Launch) (D : va_G) (cI : ClassId) (a : Nat → Nat) (wr : St → va_W) (hwr : Fx 21 wr) (x1 : Int32) (x2 : Int32) (σ : St) (Q : Int32 → St → Prop) (hf : F_Mo_get x1 x2 σ Q) : Ci l y_Mo_get (.code y_Mo_get b_Mo_get 3 (some .int)) rm_Mo_get D cI [.ref (a 12), .int x1, .int x2] (wMo cI a wr) σ Q := by
  refine Ci.of (by decide +kernel) (Nat.le_of_ble_eq_true rfl) ?_
  intro p e s m below meth c ls A Z hx hb hml hown hts hok hP hD hA hl hend
  have S : CallFix p m c b_Mo_get 3 s ([.ref (a 12), .int x1, .int x2] : List Value).toArray lwg "PropertyTrieModel" := ⟨hx, hb, hml, hown, hts⟩
  have hS : va_S A s.heap s.heap [] := va_S.rf
  have hl : lv_has ls 3 [(0, .ref (a 12)), (1, .int x1), (2, .int x2)] := hl
  unfold F_Mo_get at hf
  refine lv_aload_n hx hb d_Mo_get_0 rfl (lv_at hl 0 rfl) ?_
  refine lv_iconst (v := (0 : Int32)) hx hb d_Mo_get_1 (by decide) ?_
  refine rp_Mo_failed S hok hwr hP hD hS (hts _ k_fl_Mo_21) d_Mo_get_2 (fun σ1 H locs hσ1 hP hD hS => ?_)
  have hf := hf σ1 hσ1
  refine lv_aload_n hx hb d_Mo_get_5 rfl (lv_at hl 0 rfl) ?_
  refine lv_iload_n hx hb d_Mo_get_6 rfl (lv_at hl 1 rfl) ?_
  refine r_callVi (As := [.int x1]) (rest := []) (n := 1) (q0 := 12) S hok (c_Mo_out l D cI a wr hwr _ _ _ hf) k_ml_Mo_33 k_im_Mo_out k_sel_Mo_out k_ini_Mo k_code_Mo_out rfl rfl (by decide +kernel) ⟨by decide, by decide⟩ rfl rfl hP hD hS hA (Nat.zero_le _) (Nat.zero_le _) hl.1 rfl rfl (Nat.le_of_ble_eq_true rfl) d_Mo_get_7 (fun r3 σ2 H locs hf hP hD hS => ?_)
  have hP : va_P D classes (wMo cI a wr σ2) H := hP
  have hD : va_D A (wMo cI a wr σ2) := hD
  refine lv_if_ne hx hb d_Mo_get_10 rfl (fun hc => ?_) (fun hc => ?_)
  · have hf := hf.2 hc
    refine lv_aload_n hx hb d_Mo_get_23 rfl (lv_at hl 0 rfl) ?_
    refine lv_iconst (v := (1 : Int32)) hx hb d_Mo_get_24 (by decide) ?_
    refine r_callVi (As := [.int (1 : Int32)]) (rest := []) (n := 1) (q0 := 12) S hok (c_Mo_fail l D cI a wr hwr _ _ _ hf) k_ml_Mo_37 k_im_Mo_fail k_sel_Mo_fail k_ini_Mo k_code_Mo_fail rfl rfl (by decide +kernel) ⟨by decide, by decide⟩ rfl rfl hP hD hS hA (Nat.zero_le _) (Nat.zero_le _) hl.1 rfl rfl (Nat.le_of_ble_eq_true rfl) d_Mo_get_25 (fun r5 σ4 H locs hf hP hD hS => ?_)
    have hP : va_P D classes (wMo cI a wr σ4) H := hP
    have hD : va_D A (wMo cI a wr σ4) := hD
    refine lv_goto hx hb d_Mo_get_28 rfl ?_
    exact hend _ _ _ _ _ _ d_Mo_get_46 rfl hf hP hD hS
  · have hf := hf.1 hc
    refine lv_iload_n hx hb d_Mo_get_13 rfl (lv_at hl 2 rfl) ?_
    refine lv_if_lt hx hb d_Mo_get_14 rfl (fun hc => ?_) (fun hc => ?_)
    · have hf := hf.1 hc
      refine lv_aload_n hx hb d_Mo_get_23 rfl (lv_at hl 0 rfl) ?_
      refine lv_iconst (v := (1 : Int32)) hx hb d_Mo_get_24 (by decide) ?_
      refine r_callVi (As := [.int (1 : Int32)]) (rest := []) (n := 1) (q0 := 12) S hok (c_Mo_fail l D cI a wr hwr _ _ _ hf) k_ml_Mo_37 k_im_Mo_fail k_sel_Mo_fail k_ini_Mo k_code_Mo_fail rfl rfl (by decide +kernel) ⟨by decide, by decide⟩ rfl rfl hP hD hS hA (Nat.zero_le _) (Nat.zero_le _) hl.1 rfl rfl (Nat.le_of_ble_eq_true rfl) d_Mo_get_25 (fun r7 σ6 H locs hf hP hD hS => ?_)
      have hP : va_P D classes (wMo cI a wr σ6) H := hP
      have hD : va_D A (wMo cI a wr σ6) := hD
      refine lv_goto hx hb d_Mo_get_28 rfl ?_
      exact hend _ _ _ _ _ _ d_Mo_get_46 rfl hf hP hD hS
    · have hf := hf.2 hc
      refine lv_iload_n hx hb d_Mo_get_17 rfl (lv_at hl 2 rfl) ?_
      refine lv_bipush (v := (7 : Int32)) hx hb d_Mo_get_18 (by decide) ?_
      refine lv_icmp_le hx hb d_Mo_get_20 rfl (fun hc => ?_) (fun hc => ?_)
      · have hf := hf.1 hc
        refine lv_aload_n hx hb d_Mo_get_31 rfl (lv_at hl 0 rfl) ?_
        refine rg_Mo_fields S hok hP (hts _ k_fl_Mo_18) d_Mo_get_32 ?_
        refine lv_bipush (v := (8 : Int32)) hx hb d_Mo_get_35 (by decide) ?_
        refine lv_aload_n hx hb d_Mo_get_37 rfl (lv_at hl 0 rfl) ?_
        refine lv_iload_n hx hb d_Mo_get_38 rfl (lv_at hl 1 rfl) ?_
        refine r_callVi (As := [.int x1]) (rest := [.int (8 : Int32), .ref (a 14)]) (n := 1) (q0 := 12) S hok (c_Mo_at l D cI a wr hwr _ _ _ hf) k_ml_Mo_25 k_im_Mo_at k_sel_Mo_at k_ini_Mo k_code_Mo_at rfl rfl (by decide +kernel) ⟨by decide, by decide⟩ rfl rfl hP hD hS hA (Nat.zero_le _) (Nat.zero_le _) hl.1 rfl rfl (Nat.le_of_ble_eq_true rfl) d_Mo_get_39 (fun r9 σ8 H locs hf hP hD hS => ?_)
        have hP : va_P D classes (wMo cI a wr σ8) H := hP
        have hD : va_D A (wMo cI a wr σ8) := hD
        refine lv_imul hx hb d_Mo_get_42 ?_
        refine lv_iload_n hx hb d_Mo_get_43 rfl (lv_at hl 2 rfl) ?_
        refine lv_iadd hx hb d_Mo_get_44 ?_
        obtain ⟨hin, hf⟩ := hf
        refine rl_Mo_fields S hok hP hin d_Mo_get_45 ?_
        exact hend _ _ _ _ _ _ d_Mo_get_46 rfl hf hP hD hS
      · have hf := hf.2 hc
        refine lv_aload_n hx hb d_Mo_get_23 rfl (lv_at hl 0 rfl) ?_
        refine lv_iconst (v := (1 : Int32)) hx hb d_Mo_get_24 (by decide) ?_
        refine r_callVi (As := [.int (1 : Int32)]) (rest := []) (n := 1) (q0 := 12) S hok (c_Mo_fail l D cI a wr hwr _ _ _ hf) k_ml_Mo_37 k_im_Mo_fail k_sel_Mo_fail k_ini_Mo k_code_Mo_fail rfl rfl (by decide +kernel) ⟨by decide, by decide⟩ rfl rfl hP hD hS hA (Nat.zero_le _) (Nat.zero_le _) hl.1 rfl rfl (Nat.le_of_ble_eq_true rfl) d_Mo_get_25 (fun r11 σ10 H locs hf hP hD hS => ?_)
        have hP : va_P D classes (wMo cI a wr σ10) H := hP
        have hD : va_D A (wMo cI a wr σ10) := hD
        refine lv_goto hx hb d_Mo_get_28 rfl ?_
        exact hend _ _ _ _ _ _ d_Mo_get_46 rfl hf hP hD hS
abbrev rm_Mo_change : Room := { frames := 20, cells := 0, slots := 0, locals := 400 }
set_option maxRecDepth 100000 in
set_option maxHeartbeats 4000000 in
theorem c_Mo_change (l : Launch) (D : va_G) (cI : ClassId) (a : Nat → Nat) (wr : St → va_W) (hwr : Fx 21 wr) (x1 : Int32) (x2 : Int32) (σ : St) (Q : Int32 → St → Prop) (hf : F_Mo_change x1 x2 σ Q) : Ci l y_Mo_change (.code y_Mo_change b_Mo_change 5 (some .int)) rm_Mo_change D cI [.ref (a 12), .int x1, .int x2] (wMo cI a wr) σ Q := by
  refine Ci.of (by decide +kernel) (Nat.le_of_ble_eq_true rfl) ?_
  intro p e s m below meth c ls A Z hx hb hml hown hts hok hP hD hA hl hend
  have S : CallFix p m c b_Mo_change 5 s ([.ref (a 12), .int x1, .int x2] : List Value).toArray lwg "PropertyTrieModel" := ⟨hx, hb, hml, hown, hts⟩
  have hS : va_S A s.heap s.heap [] := va_S.rf
  have hl : lv_has ls 5 [(0, .ref (a 12)), (1, .int x1), (2, .int x2)] := hl
  unfold F_Mo_change at hf
  have lab78 : ∀ (v3 : Int32) (σ : St) (H : Heap) (locs : List Loc) (ls : Array Slot), F_Mo_change_J78 v3 σ Q → va_P D classes (wMo cI a wr σ) H → va_D A (wMo cI a wr σ) → va_S A s.heap H locs → lv_has ls 5 [(0, .ref (a 12)), (3, .int v3)] → W p l e rm_Mo_change s m ([.ref (a 12), .int x1, .int x2] : List Value).toArray below meth c H locs 0 0 Z (F0 m 78 ls []) := by
    intro v3 σ H locs ls hf hP hD hS hl
    unfold F_Mo_change_J78 at hf
    refine lv_iload_n hx hb d_Mo_change_78 rfl (lv_at hl 1 rfl) ?_
    refine lv_aload_n hx hb d_Mo_change_79 rfl (lv_at hl 0 rfl) ?_
    refine rg_Mo_count S hok hP (hts _ k_fl_Mo_7) d_Mo_change_80 ?_
    refine lv_icmp_ne hx hb d_Mo_change_83 rfl (fun hc => ?_) (fun hc => ?_)
    · have hf := hf.2 hc
      refine lv_aload_n hx hb d_Mo_change_90 rfl (lv_at hl 0 rfl) ?_
      refine rg_Mo_starts S hok hP (hts _ k_fl_Mo_13) d_Mo_change_91 ?_
      refine lv_iload_n hx hb d_Mo_change_94 rfl (lv_at hl 1 rfl) ?_
      obtain ⟨hin, hf⟩ := hf
      refine rl_Mo_starts S hok hP hin d_Mo_change_95 ?_
      exact hend _ _ _ _ _ _ d_Mo_change_96 rfl hf hP hD hS
    · have hf := hf.1 hc
      refine lv_iconst (v := (-1 : Int32)) hx hb d_Mo_change_86 (by decide) ?_
      refine lv_goto hx hb d_Mo_change_87 rfl ?_
      exact hend _ _ _ _ _ _ d_Mo_change_96 rfl hf hP hD hS
  have lab48 : ∀ (v2 v3 v4 : Int32) (σ : St) (H : Heap) (locs : List Loc) (ls : Array Slot), F_Mo_change_L48 v2 v3 v4 σ Q → va_P D classes (wMo cI a wr σ) H → va_D A (wMo cI a wr σ) → va_S A s.heap H locs → lv_has ls 5 [(0, .ref (a 12)), (2, .int v2), (3, .int v3), (4, .int v4)] → W p l e rm_Mo_change s m ([.ref (a 12), .int x1, .int x2] : List Value).toArray below meth c H locs 0 0 Z (F0 m 48 ls []) := by
    intro v2 v3 v4 σ H locs ls hf hP hD hS hl
    unfold F_Mo_change_L48 at hf
    obtain ⟨I48, m48, h0, hst48⟩ := hf
    have lp48 : ∀ (n : Nat) (v3 : Int32) (σ : St) (H : Heap) (locs : List Loc) (ls : Array Slot), m48 v3 σ = n → I48 v3 σ → va_P D classes (wMo cI a wr σ) H → va_D A (wMo cI a wr σ) → va_S A s.heap H locs → lv_has ls 5 [(0, .ref (a 12)), (2, .int v2), (3, .int v3), (4, .int v4)] → W p l e rm_Mo_change s m ([.ref (a 12), .int x1, .int x2] : List Value).toArray below meth c H locs 0 0 Z (F0 m 48 ls []) := by
      intro n48
      induction n48 using Nat.strongRecOn with
      | _ n48 ih48 =>
        intro v3 σ H locs ls hn hI hP hD hS hl
        have hf := hst48 v3 σ n48 hI hn
        refine lv_iload_n hx hb d_Mo_change_48 rfl (lv_at hl 2 rfl) ?_
        refine lv_aload_n hx hb d_Mo_change_49 rfl (lv_at hl 0 rfl) ?_
        refine rg_Mo_count S hok hP (hts _ k_fl_Mo_7) d_Mo_change_50 ?_
        refine lv_icmp_ge hx hb d_Mo_change_53 rfl (fun hc => ?_) (fun hc => ?_)
        · have hf := hf.1 hc
          exact lab78 _ _ _ _ _ hf hP hD hS (lv_sub hl [0, 2] rfl)
        · have hf := hf.2 hc
          refine lv_aload_n hx hb d_Mo_change_56 rfl (lv_at hl 0 rfl) ?_
          refine rg_Mo_fields S hok hP (hts _ k_fl_Mo_18) d_Mo_change_57 ?_
          refine lv_bipush (v := (8 : Int32)) hx hb d_Mo_change_60 (by decide) ?_
          refine lv_iload_n hx hb d_Mo_change_62 rfl (lv_at hl 2 rfl) ?_
          refine lv_imul hx hb d_Mo_change_63 ?_
          refine lv_iload_n hx hb d_Mo_change_64 rfl (lv_at hl 1 rfl) ?_
          refine lv_iadd hx hb d_Mo_change_65 ?_
          obtain ⟨hin, hf⟩ := hf
          refine rl_Mo_fields S hok hP hin d_Mo_change_66 ?_
          refine lv_iload hx hb d_Mo_change_67 (lv_at hl 3 rfl) ?_
          refine lv_icmp_ne hx hb d_Mo_change_69 rfl (fun hc => ?_) (fun hc => ?_)
          · have hf := hf.2 hc
            exact lab78 _ _ _ _ _ hf hP hD hS (lv_sub hl [0, 2] rfl)
          · have hf := hf.1 hc
            obtain ⟨z1, hz1⟩ : ∃ z1 : Int32, z1 = v3 + (1 : Int32) := ⟨_, rfl⟩
            have hf := hf z1 hz1
            refine lv_iinc (k := 2) (v := z1) hx hb d_Mo_change_72 hl rfl (by rw [hz1]; rfl) (by decide) rfl (fun ls hl => ?_)
            have hl : lv_has ls 5 [(3, .int z1), (0, .ref (a 12)), (2, .int v2), (4, .int v4)] := hl
            refine lv_goto hx hb d_Mo_change_75 rfl ?_
            exact ih48 _ hf.2 _ _ _ _ _ rfl hf.1 hP hD hS (lv_sub hl [1, 2, 0, 3] rfl)
    exact lp48 _ v3 σ H locs ls rfl h0 hP hD hS hl
  refine lv_aload_n hx hb d_Mo_change_0 rfl (lv_at hl 0 rfl) ?_
  refine lv_iconst (v := (0 : Int32)) hx hb d_Mo_change_1 (by decide) ?_
  refine rp_Mo_failed S hok hwr hP hD hS (hts _ k_fl_Mo_21) d_Mo_change_2 (fun σ2 H locs hσ2 hP hD hS => ?_)
  have hf := hf σ2 hσ2
  refine lv_aload_n hx hb d_Mo_change_5 rfl (lv_at hl 0 rfl) ?_
  refine lv_iload_n hx hb d_Mo_change_6 rfl (lv_at hl 1 rfl) ?_
  refine r_callVi (As := [.int x1]) (rest := []) (n := 1) (q0 := 12) S hok (c_Mo_out l D cI a wr hwr _ _ _ hf) k_ml_Mo_33 k_im_Mo_out k_sel_Mo_out k_ini_Mo k_code_Mo_out rfl rfl (by decide +kernel) ⟨by decide, by decide⟩ rfl rfl hP hD hS hA (Nat.zero_le _) (Nat.zero_le _) hl.1 rfl rfl (Nat.le_of_ble_eq_true rfl) d_Mo_change_7 (fun r4 σ3 H locs hf hP hD hS => ?_)
  have hP : va_P D classes (wMo cI a wr σ3) H := hP
  have hD : va_D A (wMo cI a wr σ3) := hD
  refine lv_if_ne hx hb d_Mo_change_10 rfl (fun hc => ?_) (fun hc => ?_)
  · have hf := hf.2 hc
    refine lv_aload_n hx hb d_Mo_change_23 rfl (lv_at hl 0 rfl) ?_
    refine lv_iconst (v := (1 : Int32)) hx hb d_Mo_change_24 (by decide) ?_
    refine r_callVi (As := [.int (1 : Int32)]) (rest := []) (n := 1) (q0 := 12) S hok (c_Mo_fail l D cI a wr hwr _ _ _ hf) k_ml_Mo_37 k_im_Mo_fail k_sel_Mo_fail k_ini_Mo k_code_Mo_fail rfl rfl (by decide +kernel) ⟨by decide, by decide⟩ rfl rfl hP hD hS hA (Nat.zero_le _) (Nat.zero_le _) hl.1 rfl rfl (Nat.le_of_ble_eq_true rfl) d_Mo_change_25 (fun r6 σ5 H locs hf hP hD hS => ?_)
    have hP : va_P D classes (wMo cI a wr σ5) H := hP
    have hD : va_D A (wMo cI a wr σ5) := hD
    exact hend _ _ _ _ _ _ d_Mo_change_28 rfl hf hP hD hS
  · have hf := hf.1 hc
    refine lv_iload_n hx hb d_Mo_change_13 rfl (lv_at hl 2 rfl) ?_
    refine lv_if_lt hx hb d_Mo_change_14 rfl (fun hc => ?_) (fun hc => ?_)
    · have hf := hf.1 hc
      refine lv_aload_n hx hb d_Mo_change_23 rfl (lv_at hl 0 rfl) ?_
      refine lv_iconst (v := (1 : Int32)) hx hb d_Mo_change_24 (by decide) ?_
      refine r_callVi (As := [.int (1 : Int32)]) (rest := []) (n := 1) (q0 := 12) S hok (c_Mo_fail l D cI a wr hwr _ _ _ hf) k_ml_Mo_37 k_im_Mo_fail k_sel_Mo_fail k_ini_Mo k_code_Mo_fail rfl rfl (by decide +kernel) ⟨by decide, by decide⟩ rfl rfl hP hD hS hA (Nat.zero_le _) (Nat.zero_le _) hl.1 rfl rfl (Nat.le_of_ble_eq_true rfl) d_Mo_change_25 (fun r8 σ7 H locs hf hP hD hS => ?_)
      have hP : va_P D classes (wMo cI a wr σ7) H := hP
      have hD : va_D A (wMo cI a wr σ7) := hD
      exact hend _ _ _ _ _ _ d_Mo_change_28 rfl hf hP hD hS
    · have hf := hf.2 hc
      refine lv_iload_n hx hb d_Mo_change_17 rfl (lv_at hl 2 rfl) ?_
      refine lv_bipush (v := (7 : Int32)) hx hb d_Mo_change_18 (by decide) ?_
      refine lv_icmp_le hx hb d_Mo_change_20 rfl (fun hc => ?_) (fun hc => ?_)
      · have hf := hf.1 hc
        refine lv_aload_n hx hb d_Mo_change_29 rfl (lv_at hl 0 rfl) ?_
        refine lv_iload_n hx hb d_Mo_change_30 rfl (lv_at hl 1 rfl) ?_
        refine r_callVi (As := [.int x1]) (rest := []) (n := 1) (q0 := 12) S hok (c_Mo_at l D cI a wr hwr _ _ _ hf) k_ml_Mo_25 k_im_Mo_at k_sel_Mo_at k_ini_Mo k_code_Mo_at rfl rfl (by decide +kernel) ⟨by decide, by decide⟩ rfl rfl hP hD hS hA (Nat.zero_le _) (Nat.zero_le _) hl.1 rfl rfl (Nat.le_of_ble_eq_true rfl) d_Mo_change_31 (fun r10 σ9 H locs hf hP hD hS => ?_)
        have hP : va_P D classes (wMo cI a wr σ9) H := hP
        have hD : va_D A (wMo cI a wr σ9) := hD
        refine lv_istore_n hx hb d_Mo_change_34 rfl hl (by decide) rfl (fun ls hl => ?_)
        have hl : lv_has ls 5 [(3, .int r10), (0, .ref (a 12)), (1, .int x1), (2, .int x2)] := hl
        refine lv_aload_n hx hb d_Mo_change_35 rfl (lv_at hl 1 rfl) ?_
        refine rg_Mo_fields S hok hP (hts _ k_fl_Mo_18) d_Mo_change_36 ?_
        refine lv_bipush (v := (8 : Int32)) hx hb d_Mo_change_39 (by decide) ?_
        refine lv_iload_n hx hb d_Mo_change_41 rfl (lv_at hl 0 rfl) ?_
        refine lv_imul hx hb d_Mo_change_42 ?_
        refine lv_iload_n hx hb d_Mo_change_43 rfl (lv_at hl 3 rfl) ?_
        refine lv_iadd hx hb d_Mo_change_44 ?_
        obtain ⟨hin, hf⟩ := hf
        refine rl_Mo_fields S hok hP hin d_Mo_change_45 ?_
        refine lv_topi (fun z11 hz11 => ?_)
        have hf := hf z11 hz11
        refine lv_istore hx hb d_Mo_change_46 hl (by decide) rfl (fun ls hl => ?_)
        have hl : lv_has ls 5 [(4, .int z11), (3, .int r10), (0, .ref (a 12)), (1, .int x1), (2, .int x2)] := hl
        exact lab48 _ _ _ _ _ _ _ hf hP hD hS (lv_sub hl [2, 4, 1, 0] rfl)
      · have hf := hf.2 hc
        refine lv_aload_n hx hb d_Mo_change_23 rfl (lv_at hl 0 rfl) ?_
        refine lv_iconst (v := (1 : Int32)) hx hb d_Mo_change_24 (by decide) ?_
        refine r_callVi (As := [.int (1 : Int32)]) (rest := []) (n := 1) (q0 := 12) S hok (c_Mo_fail l D cI a wr hwr _ _ _ hf) k_ml_Mo_37 k_im_Mo_fail k_sel_Mo_fail k_ini_Mo k_code_Mo_fail rfl rfl (by decide +kernel) ⟨by decide, by decide⟩ rfl rfl hP hD hS hA (Nat.zero_le _) (Nat.zero_le _) hl.1 rfl rfl (Nat.le_of_ble_eq_true rfl) d_Mo_change_25 (fun r13 σ12 H locs hf hP hD hS => ?_)
        have hP : va_P D classes (wMo cI a wr σ12) H := hP
        have hD : va_D A (wMo cI a wr σ12) := hD
        exact hend _ _ _ _ _ _ d_Mo_change_28 rfl hf hP hD hS
abbrev rm_Mo_alike : Room := { frames := 20, cells := 0, slots := 0, locals := 400 }
set_option maxRecDepth 100000 in
set_option maxHeartbeats 4000000 in
theorem c_Mo_alike (l : Launch) (D : va_G) (cI : ClassId) (a : Nat → Nat) (wr : St → va_W) (hwr : Fx 21 wr) (x1 : Int32) (x2 : Int32) (σ : St) (Q : Int32 → St → Prop) (hf : F_Mo_alike x1 x2 σ Q) : Ci l y_Mo_alike (.code y_Mo_alike b_Mo_alike 4 (some .boolean)) rm_Mo_alike D cI [.ref (a 12), .int x1, .int x2] (wMo cI a wr) σ Q := by
  refine Ci.of (by decide +kernel) (Nat.le_of_ble_eq_true rfl) ?_
  intro p e s m below meth c ls A Z hx hb hml hown hts hok hP hD hA hl hend
  have S : CallFix p m c b_Mo_alike 4 s ([.ref (a 12), .int x1, .int x2] : List Value).toArray lwg "PropertyTrieModel" := ⟨hx, hb, hml, hown, hts⟩
  have hS : va_S A s.heap s.heap [] := va_S.rf
  have hl : lv_has ls 4 [(0, .ref (a 12)), (1, .int x1), (2, .int x2)] := hl
  unfold F_Mo_alike at hf
  have lab37 : ∀ (v1 v2 v3 : Int32) (σ : St) (H : Heap) (locs : List Loc) (ls : Array Slot), F_Mo_alike_L37 v1 v2 v3 σ Q → va_P D classes (wMo cI a wr σ) H → va_D A (wMo cI a wr σ) → va_S A s.heap H locs → lv_has ls 4 [(0, .ref (a 12)), (1, .int v1), (2, .int v2), (3, .int v3)] → W p l e rm_Mo_alike s m ([.ref (a 12), .int x1, .int x2] : List Value).toArray below meth c H locs 0 0 Z (F0 m 37 ls []) := by
    intro v1 v2 v3 σ H locs ls hf hP hD hS hl
    unfold F_Mo_alike_L37 at hf
    obtain ⟨I37, m37, h0, hst37⟩ := hf
    have lp37 : ∀ (n : Nat) (v3 : Int32) (σ : St) (H : Heap) (locs : List Loc) (ls : Array Slot), m37 v3 σ = n → I37 v3 σ → va_P D classes (wMo cI a wr σ) H → va_D A (wMo cI a wr σ) → va_S A s.heap H locs → lv_has ls 4 [(0, .ref (a 12)), (1, .int v1), (2, .int v2), (3, .int v3)] → W p l e rm_Mo_alike s m ([.ref (a 12), .int x1, .int x2] : List Value).toArray below meth c H locs 0 0 Z (F0 m 37 ls []) := by
      intro n37
      induction n37 using Nat.strongRecOn with
      | _ n37 ih37 =>
        intro v3 σ H locs ls hn hI hP hD hS hl
        have hf := hst37 v3 σ n37 hI hn
        refine lv_iload_n hx hb d_Mo_alike_37 rfl (lv_at hl 3 rfl) ?_
        refine lv_bipush (v := (8 : Int32)) hx hb d_Mo_alike_38 (by decide) ?_
        refine lv_icmp_ge hx hb d_Mo_alike_40 rfl (fun hc => ?_) (fun hc => ?_)
        · have hf := hf.1 hc
          refine lv_iconst (v := (1 : Int32)) hx hb d_Mo_alike_84 (by decide) ?_
          exact hend _ _ _ _ _ _ d_Mo_alike_85 rfl hf hP hD hS
        · have hf := hf.2 hc
          refine lv_aload_n hx hb d_Mo_alike_43 rfl (lv_at hl 0 rfl) ?_
          refine rg_Mo_fields S hok hP (hts _ k_fl_Mo_18) d_Mo_alike_44 ?_
          refine lv_bipush (v := (8 : Int32)) hx hb d_Mo_alike_47 (by decide) ?_
          refine lv_aload_n hx hb d_Mo_alike_49 rfl (lv_at hl 0 rfl) ?_
          refine lv_iload_n hx hb d_Mo_alike_50 rfl (lv_at hl 1 rfl) ?_
          refine r_callVi (As := [.int v1]) (rest := [.int (8 : Int32), .ref (a 14)]) (n := 1) (q0 := 12) S hok (c_Mo_at l D cI a wr hwr _ _ _ hf) k_ml_Mo_25 k_im_Mo_at k_sel_Mo_at k_ini_Mo k_code_Mo_at rfl rfl (by decide +kernel) ⟨by decide, by decide⟩ rfl rfl hP hD hS hA (Nat.zero_le _) (Nat.zero_le _) hl.1 rfl rfl (Nat.le_of_ble_eq_true rfl) d_Mo_alike_51 (fun r2 σ1 H locs hf hP hD hS => ?_)
          have hP : va_P D classes (wMo cI a wr σ1) H := hP
          have hD : va_D A (wMo cI a wr σ1) := hD
          refine lv_imul hx hb d_Mo_alike_54 ?_
          refine lv_iload_n hx hb d_Mo_alike_55 rfl (lv_at hl 3 rfl) ?_
          refine lv_iadd hx hb d_Mo_alike_56 ?_
          obtain ⟨hin, hf⟩ := hf
          refine rl_Mo_fields S hok hP hin d_Mo_alike_57 ?_
          refine lv_aload_n hx hb d_Mo_alike_58 rfl (lv_at hl 0 rfl) ?_
          refine rg_Mo_fields S hok hP (hts _ k_fl_Mo_18) d_Mo_alike_59 ?_
          refine lv_bipush (v := (8 : Int32)) hx hb d_Mo_alike_62 (by decide) ?_
          refine lv_aload_n hx hb d_Mo_alike_64 rfl (lv_at hl 0 rfl) ?_
          refine lv_iload_n hx hb d_Mo_alike_65 rfl (lv_at hl 2 rfl) ?_
          refine r_callVi (As := [.int v2]) (rest := [.int (8 : Int32), .ref (a 14), .int (σ1 18 (((8 : Int32) * r2) + v3).toNatClampNeg)]) (n := 1) (q0 := 12) S hok (c_Mo_at l D cI a wr hwr _ _ _ hf) k_ml_Mo_25 k_im_Mo_at k_sel_Mo_at k_ini_Mo k_code_Mo_at rfl rfl (by decide +kernel) ⟨by decide, by decide⟩ rfl rfl hP hD hS hA (Nat.zero_le _) (Nat.zero_le _) hl.1 rfl rfl (Nat.le_of_ble_eq_true rfl) d_Mo_alike_66 (fun r4 σ3 H locs hf hP hD hS => ?_)
          have hP : va_P D classes (wMo cI a wr σ3) H := hP
          have hD : va_D A (wMo cI a wr σ3) := hD
          refine lv_imul hx hb d_Mo_alike_69 ?_
          refine lv_iload_n hx hb d_Mo_alike_70 rfl (lv_at hl 3 rfl) ?_
          refine lv_iadd hx hb d_Mo_alike_71 ?_
          obtain ⟨hin, hf⟩ := hf
          refine rl_Mo_fields S hok hP hin d_Mo_alike_72 ?_
          refine lv_icmp_eq hx hb d_Mo_alike_73 rfl (fun hc => ?_) (fun hc => ?_)
          · have hf := hf.1 hc
            obtain ⟨z5, hz5⟩ : ∃ z5 : Int32, z5 = v3 + (1 : Int32) := ⟨_, rfl⟩
            have hf := hf z5 hz5
            refine lv_iinc (k := 3) (v := z5) hx hb d_Mo_alike_78 hl rfl (by rw [hz5]; rfl) (by decide) rfl (fun ls hl => ?_)
            have hl : lv_has ls 4 [(3, .int z5), (0, .ref (a 12)), (1, .int v1), (2, .int v2)] := hl
            refine lv_goto hx hb d_Mo_alike_81 rfl ?_
            exact ih37 _ hf.2 _ _ _ _ _ rfl hf.1 hP hD hS (lv_sub hl [1, 2, 3, 0] rfl)
          · have hf := hf.2 hc
            refine lv_iconst (v := (0 : Int32)) hx hb d_Mo_alike_76 (by decide) ?_
            exact hend _ _ _ _ _ _ d_Mo_alike_77 rfl hf hP hD hS
    exact lp37 _ v3 σ H locs ls rfl h0 hP hD hS hl
  have lab21 : ∀ (σ : St) (H : Heap) (locs : List Loc) (ls : Array Slot), F_Mo_alike_J21 σ Q → va_P D classes (wMo cI a wr σ) H → va_D A (wMo cI a wr σ) → va_S A s.heap H locs → lv_has ls 4 [(0, .ref (a 12))] → W p l e rm_Mo_alike s m ([.ref (a 12), .int x1, .int x2] : List Value).toArray below meth c H locs 0 0 Z (F0 m 21 ls []) := by
    intro  σ H locs ls hf hP hD hS hl
    unfold F_Mo_alike_J21 at hf
    refine lv_aload_n hx hb d_Mo_alike_21 rfl (lv_at hl 0 rfl) ?_
    refine lv_iconst (v := (1 : Int32)) hx hb d_Mo_alike_22 (by decide) ?_
    refine r_callVi (As := [.int (1 : Int32)]) (rest := []) (n := 1) (q0 := 12) S hok (c_Mo_fail l D cI a wr hwr _ _ _ hf) k_ml_Mo_37 k_im_Mo_fail k_sel_Mo_fail k_ini_Mo k_code_Mo_fail rfl rfl (by decide +kernel) ⟨by decide, by decide⟩ rfl rfl hP hD hS hA (Nat.zero_le _) (Nat.zero_le _) hl.1 rfl rfl (Nat.le_of_ble_eq_true rfl) d_Mo_alike_23 (fun r7 σ6 H locs hf hP hD hS => ?_)
    have hP : va_P D classes (wMo cI a wr σ6) H := hP
    have hD : va_D A (wMo cI a wr σ6) := hD
    refine lv_if_le hx hb d_Mo_alike_26 rfl (fun hc => ?_) (fun hc => ?_)
    · have hf := hf.1 hc
      refine lv_iconst (v := (0 : Int32)) hx hb d_Mo_alike_33 (by decide) ?_
      exact hend _ _ _ _ _ _ d_Mo_alike_34 rfl hf hP hD hS
    · have hf := hf.2 hc
      refine lv_iconst (v := (1 : Int32)) hx hb d_Mo_alike_29 (by decide) ?_
      refine lv_goto hx hb d_Mo_alike_30 rfl ?_
      exact hend _ _ _ _ _ _ d_Mo_alike_34 rfl hf hP hD hS
  refine lv_aload_n hx hb d_Mo_alike_0 rfl (lv_at hl 0 rfl) ?_
  refine lv_iconst (v := (0 : Int32)) hx hb d_Mo_alike_1 (by decide) ?_
  refine rp_Mo_failed S hok hwr hP hD hS (hts _ k_fl_Mo_21) d_Mo_alike_2 (fun σ8 H locs hσ8 hP hD hS => ?_)
  have hf := hf σ8 hσ8
  refine lv_aload_n hx hb d_Mo_alike_5 rfl (lv_at hl 0 rfl) ?_
  refine lv_iload_n hx hb d_Mo_alike_6 rfl (lv_at hl 1 rfl) ?_
  refine r_callVi (As := [.int x1]) (rest := []) (n := 1) (q0 := 12) S hok (c_Mo_out l D cI a wr hwr _ _ _ hf) k_ml_Mo_33 k_im_Mo_out k_sel_Mo_out k_ini_Mo k_code_Mo_out rfl rfl (by decide +kernel) ⟨by decide, by decide⟩ rfl rfl hP hD hS hA (Nat.zero_le _) (Nat.zero_le _) hl.1 rfl rfl (Nat.le_of_ble_eq_true rfl) d_Mo_alike_7 (fun r10 σ9 H locs hf hP hD hS => ?_)
  have hP : va_P D classes (wMo cI a wr σ9) H := hP
  have hD : va_D A (wMo cI a wr σ9) := hD
  refine lv_if_ne hx hb d_Mo_alike_10 rfl (fun hc => ?_) (fun hc => ?_)
  · have hf := hf.2 hc
    exact lab21  _ _ _ _ hf hP hD hS (lv_sub hl [0] rfl)
  · have hf := hf.1 hc
    refine lv_aload_n hx hb d_Mo_alike_13 rfl (lv_at hl 0 rfl) ?_
    refine lv_iload_n hx hb d_Mo_alike_14 rfl (lv_at hl 2 rfl) ?_
    refine r_callVi (As := [.int x2]) (rest := []) (n := 1) (q0 := 12) S hok (c_Mo_out l D cI a wr hwr _ _ _ hf) k_ml_Mo_33 k_im_Mo_out k_sel_Mo_out k_ini_Mo k_code_Mo_out rfl rfl (by decide +kernel) ⟨by decide, by decide⟩ rfl rfl hP hD hS hA (Nat.zero_le _) (Nat.zero_le _) hl.1 rfl rfl (Nat.le_of_ble_eq_true rfl) d_Mo_alike_15 (fun r12 σ11 H locs hf hP hD hS => ?_)
    have hP : va_P D classes (wMo cI a wr σ11) H := hP
    have hD : va_D A (wMo cI a wr σ11) := hD
    refine lv_if_eq hx hb d_Mo_alike_18 rfl (fun hc => ?_) (fun hc => ?_)
    · have hf := hf.1 hc
      refine lv_iconst (v := (0 : Int32)) hx hb d_Mo_alike_35 (by decide) ?_
      refine lv_topi (fun z13 hz13 => ?_)
      have hf := hf z13 hz13
      refine lv_istore_n hx hb d_Mo_alike_36 rfl hl (by decide) rfl (fun ls hl => ?_)
      have hl : lv_has ls 4 [(3, .int z13), (0, .ref (a 12)), (1, .int x1), (2, .int x2)] := hl
      exact lab37 _ _ _ _ _ _ _ hf hP hD hS (lv_sub hl [1, 2, 3, 0] rfl)
    · have hf := hf.2 hc
      exact lab21  _ _ _ _ hf hP hD hS (lv_sub hl [0] rfl)
abbrev rm_Mo_hash : Room := { frames := 20, cells := 0, slots := 0, locals := 400 }
set_option maxRecDepth 100000 in
set_option maxHeartbeats 4000000 in
theorem c_Mo_hash (l : Launch) (D : va_G) (cI : ClassId) (a : Nat → Nat) (wr : St → va_W) (hwr : Fx 21 wr) (x1 : Int32) (x2 : Int32) (x3 : Int32) (σ : St) (Q : Int32 → St → Prop) (hf : F_Mo_hash x1 x2 x3 σ Q) : Ci l y_Mo_hash (.code y_Mo_hash b_Mo_hash 6 (some .int)) rm_Mo_hash D cI [.ref (a 12), .int x1, .int x2, .int x3] (wMo cI a wr) σ Q := by
  refine Ci.of (by decide +kernel) (Nat.le_of_ble_eq_true rfl) ?_
  intro p e s m below meth c ls A Z hx hb hml hown hts hok hP hD hA hl hend
  have S : CallFix p m c b_Mo_hash 6 s ([.ref (a 12), .int x1, .int x2, .int x3] : List Value).toArray lwg "PropertyTrieModel" := ⟨hx, hb, hml, hown, hts⟩
  have hS : va_S A s.heap s.heap [] := va_S.rf
  have hl : lv_has ls 6 [(0, .ref (a 12)), (1, .int x1), (2, .int x2), (3, .int x3)] := hl
  unfold F_Mo_hash at hf
  have lab57 : ∀ (v2 v3 v4 v5 : Int32) (σ : St) (H : Heap) (locs : List Loc) (ls : Array Slot), F_Mo_hash_L57 v2 v3 v4 v5 σ Q → va_P D classes (wMo cI a wr σ) H → va_D A (wMo cI a wr σ) → va_S A s.heap H locs → lv_has ls 6 [(0, .ref (a 12)), (2, .int v2), (3, .int v3), (4, .int v4), (5, .int v5)] → W p l e rm_Mo_hash s m ([.ref (a 12), .int x1, .int x2, .int x3] : List Value).toArray below meth c H locs 0 0 Z (F0 m 57 ls []) := by
    intro v2 v3 v4 v5 σ H locs ls hf hP hD hS hl
    unfold F_Mo_hash_L57 at hf
    obtain ⟨I57, m57, h0, hst57⟩ := hf
    have lp57 : ∀ (n : Nat) (v4 v5 : Int32) (σ : St) (H : Heap) (locs : List Loc) (ls : Array Slot), m57 v4 v5 σ = n → I57 v4 v5 σ → va_P D classes (wMo cI a wr σ) H → va_D A (wMo cI a wr σ) → va_S A s.heap H locs → lv_has ls 6 [(0, .ref (a 12)), (2, .int v2), (3, .int v3), (4, .int v4), (5, .int v5)] → W p l e rm_Mo_hash s m ([.ref (a 12), .int x1, .int x2, .int x3] : List Value).toArray below meth c H locs 0 0 Z (F0 m 57 ls []) := by
      intro n57
      induction n57 using Nat.strongRecOn with
      | _ n57 ih57 =>
        intro v4 v5 σ H locs ls hn hI hP hD hS hl
        have hf := hst57 v4 v5 σ n57 hI hn
        refine lv_iload hx hb d_Mo_hash_57 (lv_at hl 4 rfl) ?_
        refine lv_iload_n hx hb d_Mo_hash_59 rfl (lv_at hl 1 rfl) ?_
        refine lv_icmp_gt hx hb d_Mo_hash_60 rfl (fun hc => ?_) (fun hc => ?_)
        · have hf := hf.1 hc
          refine lv_iload hx hb d_Mo_hash_93 (lv_at hl 3 rfl) ?_
          exact hend _ _ _ _ _ _ d_Mo_hash_95 rfl hf hP hD hS
        · have hf := hf.2 hc
          refine lv_bipush (v := (31 : Int32)) hx hb d_Mo_hash_63 (by decide) ?_
          refine lv_iload hx hb d_Mo_hash_65 (lv_at hl 3 rfl) ?_
          refine lv_imul hx hb d_Mo_hash_67 ?_
          refine lv_aload_n hx hb d_Mo_hash_68 rfl (lv_at hl 0 rfl) ?_
          refine rg_Mo_fields S hok hP (hts _ k_fl_Mo_18) d_Mo_hash_69 ?_
          refine lv_bipush (v := (8 : Int32)) hx hb d_Mo_hash_72 (by decide) ?_
          refine lv_aload_n hx hb d_Mo_hash_74 rfl (lv_at hl 0 rfl) ?_
          refine lv_iload hx hb d_Mo_hash_75 (lv_at hl 4 rfl) ?_
          refine r_callVi (As := [.int v5]) (rest := [.int (8 : Int32), .ref (a 14), .int ((31 : Int32) * v4)]) (n := 1) (q0 := 12) S hok (c_Mo_at l D cI a wr hwr _ _ _ hf) k_ml_Mo_25 k_im_Mo_at k_sel_Mo_at k_ini_Mo k_code_Mo_at rfl rfl (by decide +kernel) ⟨by decide, by decide⟩ rfl rfl hP hD hS hA (Nat.zero_le _) (Nat.zero_le _) hl.1 rfl rfl (Nat.le_of_ble_eq_true rfl) d_Mo_hash_77 (fun r2 σ1 H locs hf hP hD hS => ?_)
          have hP : va_P D classes (wMo cI a wr σ1) H := hP
          have hD : va_D A (wMo cI a wr σ1) := hD
          refine lv_imul hx hb d_Mo_hash_80 ?_
          refine lv_iload_n hx hb d_Mo_hash_81 rfl (lv_at hl 2 rfl) ?_
          refine lv_iadd hx hb d_Mo_hash_82 ?_
          obtain ⟨hin, hf⟩ := hf
          refine rl_Mo_fields S hok hP hin d_Mo_hash_83 ?_
          refine lv_iadd hx hb d_Mo_hash_84 ?_
          refine lv_topi (fun z3 hz3 => ?_)
          have hf := hf z3 hz3
          refine lv_istore hx hb d_Mo_hash_85 hl (by decide) rfl (fun ls hl => ?_)
          have hl : lv_has ls 6 [(4, .int z3), (0, .ref (a 12)), (2, .int v2), (3, .int v3), (5, .int v5)] := hl
          obtain ⟨z4, hz4⟩ : ∃ z4 : Int32, z4 = v5 + (1 : Int32) := ⟨_, rfl⟩
          have hf := hf z4 hz4
          refine lv_iinc (k := 4) (v := z4) hx hb d_Mo_hash_87 hl rfl (by rw [hz4]; rfl) (by decide) rfl (fun ls hl => ?_)
          have hl : lv_has ls 6 [(5, .int z4), (4, .int z3), (0, .ref (a 12)), (2, .int v2), (3, .int v3)] := hl
          refine lv_goto hx hb d_Mo_hash_90 rfl ?_
          exact ih57 _ hf.2 _ _ _ _ _ _ rfl hf.1 hP hD hS (lv_sub hl [2, 3, 4, 1, 0] rfl)
    exact lp57 _ v4 v5 σ H locs ls rfl h0 hP hD hS hl
  refine lv_aload_n hx hb d_Mo_hash_0 rfl (lv_at hl 0 rfl) ?_
  refine lv_iconst (v := (0 : Int32)) hx hb d_Mo_hash_1 (by decide) ?_
  refine rp_Mo_failed S hok hwr hP hD hS (hts _ k_fl_Mo_21) d_Mo_hash_2 (fun σ5 H locs hσ5 hP hD hS => ?_)
  have hf := hf σ5 hσ5
  refine lv_aload_n hx hb d_Mo_hash_5 rfl (lv_at hl 0 rfl) ?_
  refine lv_iload_n hx hb d_Mo_hash_6 rfl (lv_at hl 1 rfl) ?_
  refine r_callVi (As := [.int x1]) (rest := []) (n := 1) (q0 := 12) S hok (c_Mo_out l D cI a wr hwr _ _ _ hf) k_ml_Mo_33 k_im_Mo_out k_sel_Mo_out k_ini_Mo k_code_Mo_out rfl rfl (by decide +kernel) ⟨by decide, by decide⟩ rfl rfl hP hD hS hA (Nat.zero_le _) (Nat.zero_le _) hl.1 rfl rfl (Nat.le_of_ble_eq_true rfl) d_Mo_hash_7 (fun r7 σ6 H locs hf hP hD hS => ?_)
  have hP : va_P D classes (wMo cI a wr σ6) H := hP
  have hD : va_D A (wMo cI a wr σ6) := hD
  refine lv_if_ne hx hb d_Mo_hash_10 rfl (fun hc => ?_) (fun hc => ?_)
  · have hf := hf.2 hc
    refine lv_aload_n hx hb d_Mo_hash_45 rfl (lv_at hl 0 rfl) ?_
    refine lv_iconst (v := (1 : Int32)) hx hb d_Mo_hash_46 (by decide) ?_
    refine r_callVi (As := [.int (1 : Int32)]) (rest := []) (n := 1) (q0 := 12) S hok (c_Mo_fail l D cI a wr hwr _ _ _ hf) k_ml_Mo_37 k_im_Mo_fail k_sel_Mo_fail k_ini_Mo k_code_Mo_fail rfl rfl (by decide +kernel) ⟨by decide, by decide⟩ rfl rfl hP hD hS hA (Nat.zero_le _) (Nat.zero_le _) hl.1 rfl rfl (Nat.le_of_ble_eq_true rfl) d_Mo_hash_47 (fun r9 σ8 H locs hf hP hD hS => ?_)
    have hP : va_P D classes (wMo cI a wr σ8) H := hP
    have hD : va_D A (wMo cI a wr σ8) := hD
    exact hend _ _ _ _ _ _ d_Mo_hash_50 rfl hf hP hD hS
  · have hf := hf.1 hc
    refine lv_aload_n hx hb d_Mo_hash_13 rfl (lv_at hl 0 rfl) ?_
    refine lv_iload_n hx hb d_Mo_hash_14 rfl (lv_at hl 2 rfl) ?_
    refine r_callVi (As := [.int x2]) (rest := []) (n := 1) (q0 := 12) S hok (c_Mo_out l D cI a wr hwr _ _ _ hf) k_ml_Mo_33 k_im_Mo_out k_sel_Mo_out k_ini_Mo k_code_Mo_out rfl rfl (by decide +kernel) ⟨by decide, by decide⟩ rfl rfl hP hD hS hA (Nat.zero_le _) (Nat.zero_le _) hl.1 rfl rfl (Nat.le_of_ble_eq_true rfl) d_Mo_hash_15 (fun r11 σ10 H locs hf hP hD hS => ?_)
    have hP : va_P D classes (wMo cI a wr σ10) H := hP
    have hD : va_D A (wMo cI a wr σ10) := hD
    refine lv_if_ne hx hb d_Mo_hash_18 rfl (fun hc => ?_) (fun hc => ?_)
    · have hf := hf.2 hc
      refine lv_aload_n hx hb d_Mo_hash_45 rfl (lv_at hl 0 rfl) ?_
      refine lv_iconst (v := (1 : Int32)) hx hb d_Mo_hash_46 (by decide) ?_
      refine r_callVi (As := [.int (1 : Int32)]) (rest := []) (n := 1) (q0 := 12) S hok (c_Mo_fail l D cI a wr hwr _ _ _ hf) k_ml_Mo_37 k_im_Mo_fail k_sel_Mo_fail k_ini_Mo k_code_Mo_fail rfl rfl (by decide +kernel) ⟨by decide, by decide⟩ rfl rfl hP hD hS hA (Nat.zero_le _) (Nat.zero_le _) hl.1 rfl rfl (Nat.le_of_ble_eq_true rfl) d_Mo_hash_47 (fun r13 σ12 H locs hf hP hD hS => ?_)
      have hP : va_P D classes (wMo cI a wr σ12) H := hP
      have hD : va_D A (wMo cI a wr σ12) := hD
      exact hend _ _ _ _ _ _ d_Mo_hash_50 rfl hf hP hD hS
    · have hf := hf.1 hc
      refine lv_iload_n hx hb d_Mo_hash_21 rfl (lv_at hl 2 rfl) ?_
      refine lv_iload_n hx hb d_Mo_hash_22 rfl (lv_at hl 1 rfl) ?_
      refine lv_icmp_lt hx hb d_Mo_hash_23 rfl (fun hc => ?_) (fun hc => ?_)
      · have hf := hf.1 hc
        refine lv_aload_n hx hb d_Mo_hash_45 rfl (lv_at hl 0 rfl) ?_
        refine lv_iconst (v := (1 : Int32)) hx hb d_Mo_hash_46 (by decide) ?_
        refine r_callVi (As := [.int (1 : Int32)]) (rest := []) (n := 1) (q0 := 12) S hok (c_Mo_fail l D cI a wr hwr _ _ _ hf) k_ml_Mo_37 k_im_Mo_fail k_sel_Mo_fail k_ini_Mo k_code_Mo_fail rfl rfl (by decide +kernel) ⟨by decide, by decide⟩ rfl rfl hP hD hS hA (Nat.zero_le _) (Nat.zero_le _) hl.1 rfl rfl (Nat.le_of_ble_eq_true rfl) d_Mo_hash_47 (fun r15 σ14 H locs hf hP hD hS => ?_)
        have hP : va_P D classes (wMo cI a wr σ14) H := hP
        have hD : va_D A (wMo cI a wr σ14) := hD
        exact hend _ _ _ _ _ _ d_Mo_hash_50 rfl hf hP hD hS
      · have hf := hf.2 hc
        refine lv_iload_n hx hb d_Mo_hash_26 rfl (lv_at hl 2 rfl) ?_
        refine lv_iload_n hx hb d_Mo_hash_27 rfl (lv_at hl 1 rfl) ?_
        refine lv_isub hx hb d_Mo_hash_28 ?_
        refine lv_sipush (v := (3999 : Int32)) hx hb d_Mo_hash_29 (by decide) ?_
        refine lv_icmp_gt hx hb d_Mo_hash_32 rfl (fun hc => ?_) (fun hc => ?_)
        · have hf := hf.1 hc
          refine lv_aload_n hx hb d_Mo_hash_45 rfl (lv_at hl 0 rfl) ?_
          refine lv_iconst (v := (1 : Int32)) hx hb d_Mo_hash_46 (by decide) ?_
          refine r_callVi (As := [.int (1 : Int32)]) (rest := []) (n := 1) (q0 := 12) S hok (c_Mo_fail l D cI a wr hwr _ _ _ hf) k_ml_Mo_37 k_im_Mo_fail k_sel_Mo_fail k_ini_Mo k_code_Mo_fail rfl rfl (by decide +kernel) ⟨by decide, by decide⟩ rfl rfl hP hD hS hA (Nat.zero_le _) (Nat.zero_le _) hl.1 rfl rfl (Nat.le_of_ble_eq_true rfl) d_Mo_hash_47 (fun r17 σ16 H locs hf hP hD hS => ?_)
          have hP : va_P D classes (wMo cI a wr σ16) H := hP
          have hD : va_D A (wMo cI a wr σ16) := hD
          exact hend _ _ _ _ _ _ d_Mo_hash_50 rfl hf hP hD hS
        · have hf := hf.2 hc
          refine lv_iload_n hx hb d_Mo_hash_35 rfl (lv_at hl 3 rfl) ?_
          refine lv_if_lt hx hb d_Mo_hash_36 rfl (fun hc => ?_) (fun hc => ?_)
          · have hf := hf.1 hc
            refine lv_aload_n hx hb d_Mo_hash_45 rfl (lv_at hl 0 rfl) ?_
            refine lv_iconst (v := (1 : Int32)) hx hb d_Mo_hash_46 (by decide) ?_
            refine r_callVi (As := [.int (1 : Int32)]) (rest := []) (n := 1) (q0 := 12) S hok (c_Mo_fail l D cI a wr hwr _ _ _ hf) k_ml_Mo_37 k_im_Mo_fail k_sel_Mo_fail k_ini_Mo k_code_Mo_fail rfl rfl (by decide +kernel) ⟨by decide, by decide⟩ rfl rfl hP hD hS hA (Nat.zero_le _) (Nat.zero_le _) hl.1 rfl rfl (Nat.le_of_ble_eq_true rfl) d_Mo_hash_47 (fun r19 σ18 H locs hf hP hD hS => ?_)
            have hP : va_P D classes (wMo cI a wr σ18) H := hP
            have hD : va_D A (wMo cI a wr σ18) := hD
            exact hend _ _ _ _ _ _ d_Mo_hash_50 rfl hf hP hD hS
          · have hf := hf.2 hc
            refine lv_iload_n hx hb d_Mo_hash_39 rfl (lv_at hl 3 rfl) ?_
            refine lv_bipush (v := (7 : Int32)) hx hb d_Mo_hash_40 (by decide) ?_
            refine lv_icmp_le hx hb d_Mo_hash_42 rfl (fun hc => ?_) (fun hc => ?_)
            · have hf := hf.1 hc
              refine lv_iconst (v := (1 : Int32)) hx hb d_Mo_hash_51 (by decide) ?_
              refine lv_topi (fun z20 hz20 => ?_)
              have hf := hf z20 hz20
              refine lv_istore hx hb d_Mo_hash_52 hl (by decide) rfl (fun ls hl => ?_)
              have hl : lv_has ls 6 [(4, .int z20), (0, .ref (a 12)), (1, .int x1), (2, .int x2), (3, .int x3)] := hl
              refine lv_iload_n hx hb d_Mo_hash_54 rfl (lv_at hl 2 rfl) ?_
              refine lv_istore hx hb d_Mo_hash_55 hl (by decide) rfl (fun ls hl => ?_)
              have hl : lv_has ls 6 [(5, .int x1), (4, .int z20), (0, .ref (a 12)), (1, .int x1), (2, .int x2), (3, .int x3)] := hl
              exact lab57 _ _ _ _ _ _ _ _ hf hP hD hS (lv_sub hl [2, 4, 5, 1, 0] rfl)
            · have hf := hf.2 hc
              refine lv_aload_n hx hb d_Mo_hash_45 rfl (lv_at hl 0 rfl) ?_
              refine lv_iconst (v := (1 : Int32)) hx hb d_Mo_hash_46 (by decide) ?_
              refine r_callVi (As := [.int (1 : Int32)]) (rest := []) (n := 1) (q0 := 12) S hok (c_Mo_fail l D cI a wr hwr _ _ _ hf) k_ml_Mo_37 k_im_Mo_fail k_sel_Mo_fail k_ini_Mo k_code_Mo_fail rfl rfl (by decide +kernel) ⟨by decide, by decide⟩ rfl rfl hP hD hS hA (Nat.zero_le _) (Nat.zero_le _) hl.1 rfl rfl (Nat.le_of_ble_eq_true rfl) d_Mo_hash_47 (fun r22 σ21 H locs hf hP hD hS => ?_)
              have hP : va_P D classes (wMo cI a wr σ21) H := hP
              have hD : va_D A (wMo cI a wr σ21) := hD
              exact hend _ _ _ _ _ _ d_Mo_hash_50 rfl hf hP hD hS
abbrev rm_Mo_clear : Room := { frames := 20, cells := 0, slots := 0, locals := 400 }
set_option maxRecDepth 100000 in
set_option maxHeartbeats 4000000 in
theorem c_Mo_clear (l : Launch) (D : va_G) (cI : ClassId) (a : Nat → Nat) (wr : St → va_W) (hwr : Fx 21 wr) (σ : St) (Q : Int32 → St → Prop) (hf : F_Mo_clear σ Q) : Ci l y_Mo_clear (.code y_Mo_clear b_Mo_clear 5 (some .int)) rm_Mo_clear D cI [.ref (a 12)] (wMo cI a wr) σ Q := by
  refine Ci.of (by decide +kernel) (Nat.le_of_ble_eq_true rfl) ?_
  intro p e s m below meth c ls A Z hx hb hml hown hts hok hP hD hA hl hend
  have S : CallFix p m c b_Mo_clear 5 s ([.ref (a 12)] : List Value).toArray lwg "PropertyTrieModel" := ⟨hx, hb, hml, hown, hts⟩
  have hS : va_S A s.heap s.heap [] := va_S.rf
  have hl : lv_has ls 5 [(0, .ref (a 12))] := hl
  unfold F_Mo_clear at hf
  have lab80 : ∀ (v1 v2 : Int32) (σ : St) (H : Heap) (locs : List Loc) (ls : Array Slot), F_Mo_clear_L80 v1 v2 σ Q → va_P D classes (wMo cI a wr σ) H → va_D A (wMo cI a wr σ) → va_S A s.heap H locs → lv_has ls 5 [(0, .ref (a 12)), (1, .int v1), (2, .int v2)] → W p l e rm_Mo_clear s m ([.ref (a 12)] : List Value).toArray below meth c H locs 0 0 Z (F0 m 80 ls []) := by
    intro v1 v2 σ H locs ls hf hP hD hS hl
    unfold F_Mo_clear_L80 at hf
    obtain ⟨I80, m80, h0, hst80⟩ := hf
    have lp80 : ∀ (n : Nat) (v2 : Int32) (σ : St) (H : Heap) (locs : List Loc) (ls : Array Slot), m80 v2 σ = n → I80 v2 σ → va_P D classes (wMo cI a wr σ) H → va_D A (wMo cI a wr σ) → va_S A s.heap H locs → lv_has ls 5 [(0, .ref (a 12)), (1, .int v1), (2, .int v2)] → W p l e rm_Mo_clear s m ([.ref (a 12)] : List Value).toArray below meth c H locs 0 0 Z (F0 m 80 ls []) := by
      intro n80
      induction n80 using Nat.strongRecOn with
      | _ n80 ih80 =>
        intro v2 σ H locs ls hn hI hP hD hS hl
        have hf := hst80 v2 σ n80 hI hn
        refine lv_iload_n hx hb d_Mo_clear_80 rfl (lv_at hl 2 rfl) ?_
        refine lv_bipush (v := (8 : Int32)) hx hb d_Mo_clear_81 (by decide) ?_
        refine lv_icmp_ge hx hb d_Mo_clear_83 rfl (fun hc => ?_) (fun hc => ?_)
        · have hf := hf.1 hc
          refine lv_iload_n hx hb d_Mo_clear_99 rfl (lv_at hl 1 rfl) ?_
          exact hend _ _ _ _ _ _ d_Mo_clear_100 rfl hf hP hD hS
        · have hf := hf.2 hc
          refine lv_aload_n hx hb d_Mo_clear_86 rfl (lv_at hl 0 rfl) ?_
          refine rg_Mo_fields S hok hP (hts _ k_fl_Mo_18) d_Mo_clear_87 ?_
          refine lv_iload_n hx hb d_Mo_clear_90 rfl (lv_at hl 2 rfl) ?_
          refine lv_iconst (v := (0 : Int32)) hx hb d_Mo_clear_91 (by decide) ?_
          obtain ⟨hin, hf⟩ := hf
          refine rs_Mo_fields S hok hwr hP hD hS hin d_Mo_clear_92 (fun σ1 H locs hσ1 hP hD hS => ?_)
          have hf := hf σ1 hσ1
          obtain ⟨z2, hz2⟩ : ∃ z2 : Int32, z2 = v2 + (1 : Int32) := ⟨_, rfl⟩
          have hf := hf z2 hz2
          refine lv_iinc (k := 2) (v := z2) hx hb d_Mo_clear_93 hl rfl (by rw [hz2]; rfl) (by decide) rfl (fun ls hl => ?_)
          have hl : lv_has ls 5 [(2, .int z2), (0, .ref (a 12)), (1, .int v1)] := hl
          refine lv_goto hx hb d_Mo_clear_96 rfl ?_
          exact ih80 _ hf.2 _ _ _ _ _ rfl hf.1 hP hD hS (lv_sub hl [1, 2, 0] rfl)
    exact lp80 _ v2 σ H locs ls rfl h0 hP hD hS hl
  have lab9 : ∀ (v1 v2 : Int32) (σ : St) (H : Heap) (locs : List Loc) (ls : Array Slot), F_Mo_clear_L9 v1 v2 σ Q → va_P D classes (wMo cI a wr σ) H → va_D A (wMo cI a wr σ) → va_S A s.heap H locs → lv_has ls 5 [(0, .ref (a 12)), (1, .int v1), (2, .int v2)] → W p l e rm_Mo_clear s m ([.ref (a 12)] : List Value).toArray below meth c H locs 0 0 Z (F0 m 9 ls []) := by
    intro v1 v2 σ H locs ls hf hP hD hS hl
    unfold F_Mo_clear_L9 at hf
    obtain ⟨I9, m9, h0, hst9⟩ := hf
    have lp9 : ∀ (n : Nat) (v1 v2 : Int32) (σ : St) (H : Heap) (locs : List Loc) (ls : Array Slot), m9 v1 v2 σ = n → I9 v1 v2 σ → va_P D classes (wMo cI a wr σ) H → va_D A (wMo cI a wr σ) → va_S A s.heap H locs → lv_has ls 5 [(0, .ref (a 12)), (1, .int v1), (2, .int v2)] → W p l e rm_Mo_clear s m ([.ref (a 12)] : List Value).toArray below meth c H locs 0 0 Z (F0 m 9 ls []) := by
      intro n9
      induction n9 using Nat.strongRecOn with
      | _ n9 ih9 =>
        intro v1 v2 σ H locs ls hn hI hP hD hS hl
        have hf := hst9 v1 v2 σ n9 hI hn
        have lab21 : ∀ (v1 v2 v3 v4 : Int32) (σ : St) (H : Heap) (locs : List Loc) (ls : Array Slot), F_Mo_clear_L21 v1 v2 v3 v4 σ (fun b1 b2 τ => I9 b1 b2 τ ∧ m9 b1 b2 τ < n9) Q → va_P D classes (wMo cI a wr σ) H → va_D A (wMo cI a wr σ) → va_S A s.heap H locs → lv_has ls 5 [(0, .ref (a 12)), (1, .int v1), (2, .int v2), (3, .int v3), (4, .int v4)] → W p l e rm_Mo_clear s m ([.ref (a 12)] : List Value).toArray below meth c H locs 0 0 Z (F0 m 21 ls []) := by
          intro v1 v2 v3 v4 σ H locs ls hf hP hD hS hl
          unfold F_Mo_clear_L21 at hf
          obtain ⟨I21, m21, h0, hst21⟩ := hf
          have lp21 : ∀ (n : Nat) (v3 v4 : Int32) (σ : St) (H : Heap) (locs : List Loc) (ls : Array Slot), m21 v3 v4 σ = n → I21 v3 v4 σ → va_P D classes (wMo cI a wr σ) H → va_D A (wMo cI a wr σ) → va_S A s.heap H locs → lv_has ls 5 [(0, .ref (a 12)), (1, .int v1), (2, .int v2), (3, .int v3), (4, .int v4)] → W p l e rm_Mo_clear s m ([.ref (a 12)] : List Value).toArray below meth c H locs 0 0 Z (F0 m 21 ls []) := by
            intro n21
            induction n21 using Nat.strongRecOn with
            | _ n21 ih21 =>
              intro v3 v4 σ H locs ls hn hI hP hD hS hl
              have hf := hst21 v3 v4 σ n21 hI hn
              refine lv_iload hx hb d_Mo_clear_21 (lv_at hl 4 rfl) ?_
              refine lv_bipush (v := (8 : Int32)) hx hb d_Mo_clear_23 (by decide) ?_
              refine lv_icmp_ge hx hb d_Mo_clear_25 rfl (fun hc => ?_) (fun hc => ?_)
              · have hf := hf.1 hc
                refine lv_iload_n hx hb d_Mo_clear_55 rfl (lv_at hl 1 rfl) ?_
                refine lv_iload_n hx hb d_Mo_clear_56 rfl (lv_at hl 3 rfl) ?_
                refine lv_if_eq hx hb d_Mo_clear_57 rfl (fun hc => ?_) (fun hc => ?_)
                · have hf := hf.1 hc
                  refine lv_iconst (v := (0 : Int32)) hx hb d_Mo_clear_64 (by decide) ?_
                  refine lv_iadd hx hb d_Mo_clear_65 ?_
                  refine lv_topi (fun z3 hz3 => ?_)
                  have hf := hf z3 hz3
                  refine lv_istore_n hx hb d_Mo_clear_66 rfl hl (by decide) rfl (fun ls hl => ?_)
                  have hl : lv_has ls 5 [(1, .int z3), (0, .ref (a 12)), (2, .int v2), (3, .int v3), (4, .int v4)] := hl
                  obtain ⟨z4, hz4⟩ : ∃ z4 : Int32, z4 = v2 + (1 : Int32) := ⟨_, rfl⟩
                  have hf := hf z4 hz4
                  refine lv_iinc (k := 2) (v := z4) hx hb d_Mo_clear_67 hl rfl (by rw [hz4]; rfl) (by decide) rfl (fun ls hl => ?_)
                  have hl : lv_has ls 5 [(2, .int z4), (1, .int z3), (0, .ref (a 12)), (3, .int v3), (4, .int v4)] := hl
                  refine lv_goto hx hb d_Mo_clear_70 rfl ?_
                  exact ih9 _ hf.2 _ _ _ _ _ _ rfl hf.1 hP hD hS (lv_sub hl [2, 1, 0] rfl)
                · have hf := hf.2 hc
                  refine lv_iconst (v := (1 : Int32)) hx hb d_Mo_clear_60 (by decide) ?_
                  refine lv_goto hx hb d_Mo_clear_61 rfl ?_
                  refine lv_iadd hx hb d_Mo_clear_65 ?_
                  refine lv_topi (fun z5 hz5 => ?_)
                  have hf := hf z5 hz5
                  refine lv_istore_n hx hb d_Mo_clear_66 rfl hl (by decide) rfl (fun ls hl => ?_)
                  have hl : lv_has ls 5 [(1, .int z5), (0, .ref (a 12)), (2, .int v2), (3, .int v3), (4, .int v4)] := hl
                  obtain ⟨z6, hz6⟩ : ∃ z6 : Int32, z6 = v2 + (1 : Int32) := ⟨_, rfl⟩
                  have hf := hf z6 hz6
                  refine lv_iinc (k := 2) (v := z6) hx hb d_Mo_clear_67 hl rfl (by rw [hz6]; rfl) (by decide) rfl (fun ls hl => ?_)
                  have hl : lv_has ls 5 [(2, .int z6), (1, .int z5), (0, .ref (a 12)), (3, .int v3), (4, .int v4)] := hl
                  refine lv_goto hx hb d_Mo_clear_70 rfl ?_
                  exact ih9 _ hf.2 _ _ _ _ _ _ rfl hf.1 hP hD hS (lv_sub hl [2, 1, 0] rfl)
              · have hf := hf.2 hc
                refine lv_aload_n hx hb d_Mo_clear_28 rfl (lv_at hl 0 rfl) ?_
                refine rg_Mo_fields S hok hP (hts _ k_fl_Mo_18) d_Mo_clear_29 ?_
                refine lv_bipush (v := (8 : Int32)) hx hb d_Mo_clear_32 (by decide) ?_
                refine lv_aload_n hx hb d_Mo_clear_34 rfl (lv_at hl 0 rfl) ?_
                refine lv_iload_n hx hb d_Mo_clear_35 rfl (lv_at hl 2 rfl) ?_
                refine r_callVi (As := [.int v2]) (rest := [.int (8 : Int32), .ref (a 14)]) (n := 1) (q0 := 12) S hok (c_Mo_at l D cI a wr hwr _ _ _ hf) k_ml_Mo_25 k_im_Mo_at k_sel_Mo_at k_ini_Mo k_code_Mo_at rfl rfl (by decide +kernel) ⟨by decide, by decide⟩ rfl rfl hP hD hS hA (Nat.zero_le _) (Nat.zero_le _) hl.1 rfl rfl (Nat.le_of_ble_eq_true rfl) d_Mo_clear_36 (fun r8 σ7 H locs hf hP hD hS => ?_)
                have hP : va_P D classes (wMo cI a wr σ7) H := hP
                have hD : va_D A (wMo cI a wr σ7) := hD
                refine lv_imul hx hb d_Mo_clear_39 ?_
                refine lv_iload hx hb d_Mo_clear_40 (lv_at hl 4 rfl) ?_
                refine lv_iadd hx hb d_Mo_clear_42 ?_
                obtain ⟨hin, hf⟩ := hf
                refine rl_Mo_fields S hok hP hin d_Mo_clear_43 ?_
                refine lv_if_eq hx hb d_Mo_clear_44 rfl (fun hc => ?_) (fun hc => ?_)
                · have hf := hf.1 hc
                  obtain ⟨z9, hz9⟩ : ∃ z9 : Int32, z9 = v4 + (1 : Int32) := ⟨_, rfl⟩
                  have hf := hf z9 hz9
                  refine lv_iinc (k := 4) (v := z9) hx hb d_Mo_clear_49 hl rfl (by rw [hz9]; rfl) (by decide) rfl (fun ls hl => ?_)
                  have hl : lv_has ls 5 [(4, .int z9), (0, .ref (a 12)), (1, .int v1), (2, .int v2), (3, .int v3)] := hl
                  refine lv_goto hx hb d_Mo_clear_52 rfl ?_
                  exact ih21 _ hf.2 _ _ _ _ _ _ rfl hf.1 hP hD hS (lv_sub hl [1, 2, 3, 4, 0] rfl)
                · have hf := hf.2 hc
                  refine lv_iconst (v := (1 : Int32)) hx hb d_Mo_clear_47 (by decide) ?_
                  refine lv_topi (fun z10 hz10 => ?_)
                  have hf := hf z10 hz10
                  refine lv_istore_n hx hb d_Mo_clear_48 rfl hl (by decide) rfl (fun ls hl => ?_)
                  have hl : lv_has ls 5 [(3, .int z10), (0, .ref (a 12)), (1, .int v1), (2, .int v2), (4, .int v4)] := hl
                  obtain ⟨z11, hz11⟩ : ∃ z11 : Int32, z11 = v4 + (1 : Int32) := ⟨_, rfl⟩
                  have hf := hf z11 hz11
                  refine lv_iinc (k := 4) (v := z11) hx hb d_Mo_clear_49 hl rfl (by rw [hz11]; rfl) (by decide) rfl (fun ls hl => ?_)
                  have hl : lv_has ls 5 [(4, .int z11), (3, .int z10), (0, .ref (a 12)), (1, .int v1), (2, .int v2)] := hl
                  refine lv_goto hx hb d_Mo_clear_52 rfl ?_
                  exact ih21 _ hf.2 _ _ _ _ _ _ rfl hf.1 hP hD hS (lv_sub hl [2, 3, 4, 1, 0] rfl)
          exact lp21 _ v3 v4 σ H locs ls rfl h0 hP hD hS hl
        refine lv_iload_n hx hb d_Mo_clear_9 rfl (lv_at hl 2 rfl) ?_
        refine lv_sipush (v := (1024 : Int32)) hx hb d_Mo_clear_10 (by decide) ?_
        refine lv_icmp_ge hx hb d_Mo_clear_13 rfl (fun hc => ?_) (fun hc => ?_)
        · have hf := hf.1 hc
          refine lv_aload_n hx hb d_Mo_clear_73 rfl (lv_at hl 0 rfl) ?_
          refine lv_iconst (v := (1 : Int32)) hx hb d_Mo_clear_74 (by decide) ?_
          refine rp_Mo_count S hok hwr hP hD hS (hts _ k_fl_Mo_7) d_Mo_clear_75 (fun σ12 H locs hσ12 hP hD hS => ?_)
          have hf := hf σ12 hσ12
          refine lv_iconst (v := (0 : Int32)) hx hb d_Mo_clear_78 (by decide) ?_
          refine lv_topi (fun z13 hz13 => ?_)
          have hf := hf z13 hz13
          refine lv_istore_n hx hb d_Mo_clear_79 rfl hl (by decide) rfl (fun ls hl => ?_)
          have hl : lv_has ls 5 [(2, .int z13), (0, .ref (a 12)), (1, .int v1)] := hl
          exact lab80 _ _ _ _ _ _ hf hP hD hS (lv_sub hl [1, 2, 0] rfl)
        · have hf := hf.2 hc
          refine lv_iconst (v := (0 : Int32)) hx hb d_Mo_clear_16 (by decide) ?_
          refine lv_topi (fun z14 hz14 => ?_)
          have hf := hf z14 hz14
          refine lv_istore_n hx hb d_Mo_clear_17 rfl hl (by decide) rfl (fun ls hl => ?_)
          have hl : lv_has ls 5 [(3, .int z14), (0, .ref (a 12)), (1, .int v1), (2, .int v2)] := hl
          refine lv_iconst (v := (0 : Int32)) hx hb d_Mo_clear_18 (by decide) ?_
          refine lv_topi (fun z15 hz15 => ?_)
          have hf := hf z15 hz15
          refine lv_istore hx hb d_Mo_clear_19 hl (by decide) rfl (fun ls hl => ?_)
          have hl : lv_has ls 5 [(4, .int z15), (3, .int z14), (0, .ref (a 12)), (1, .int v1), (2, .int v2)] := hl
          exact lab21 _ _ _ _ _ _ _ _ hf hP hD hS (lv_sub hl [2, 3, 4, 1, 0] rfl)
    exact lp9 _ v1 v2 σ H locs ls rfl h0 hP hD hS hl
  refine lv_aload_n hx hb d_Mo_clear_0 rfl (lv_at hl 0 rfl) ?_
  refine lv_iconst (v := (0 : Int32)) hx hb d_Mo_clear_1 (by decide) ?_
  refine rp_Mo_failed S hok hwr hP hD hS (hts _ k_fl_Mo_21) d_Mo_clear_2 (fun σ16 H locs hσ16 hP hD hS => ?_)
  have hf := hf σ16 hσ16
  refine lv_iconst (v := (0 : Int32)) hx hb d_Mo_clear_5 (by decide) ?_
  refine lv_topi (fun z17 hz17 => ?_)
  have hf := hf z17 hz17
  refine lv_istore_n hx hb d_Mo_clear_6 rfl hl (by decide) rfl (fun ls hl => ?_)
  have hl : lv_has ls 5 [(1, .int z17), (0, .ref (a 12))] := hl
  refine lv_iconst (v := (0 : Int32)) hx hb d_Mo_clear_7 (by decide) ?_
  refine lv_topi (fun z18 hz18 => ?_)
  have hf := hf z18 hz18
  refine lv_istore_n hx hb d_Mo_clear_8 rfl hl (by decide) rfl (fun ls hl => ?_)
  have hl : lv_has ls 5 [(2, .int z18), (1, .int z17), (0, .ref (a 12))] := hl
  exact lab9 _ _ _ _ _ _ hf hP hD hS (lv_sub hl [2, 1, 0] rfl)
