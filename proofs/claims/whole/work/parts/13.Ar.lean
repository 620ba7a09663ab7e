abbrev rm_Ar_fill2_heads : Room := { frames := 10, cells := 0, slots := 0, locals := 200 }
set_option maxRecDepth 100000 in
set_option maxHeartbeats 4000000 in
theorem c_Ar_fill2_heads (l : Launch) (D : va_G) (cI : ClassId) (a : Nat → Nat) (wr : St → va_W) (hwr : Fx 11 wr) (x1 : Int32) (σ : St) (Q : St → Prop) (hf : F_Ar_fill2_heads x1 σ Q) : Cv l y_Ar_fill2 (.code y_Ar_fill2 b_Ar_fill2 4 none) rm_Ar_fill2_heads D cI [.ref (a 4), .int x1] (wRc cI a wr) σ Q := by
  refine Cv.of (by decide +kernel) (Nat.le_of_ble_eq_true rfl) ?_
  intro p e s m below meth c ls A Z hx hb hml hown hts hok hP hD hA hl hend
  have S : CallFix p m c b_Ar_fill2 4 s ([.ref (a 4), .int x1] : List Value).toArray lwg "java/util/Arrays" := ⟨hx, hb, hml, hown, hts⟩
  have hS : va_S A s.heap s.heap [] := va_S.rf
  have hl : lv_has ls 4 [(0, .ref (a 4)), (1, .int x1)] := hl
  unfold F_Ar_fill2_heads at hf
  have lab5 : ∀ (v1 v2 v3 : Int32) (σ : St) (H : Heap) (locs : List Loc) (ls : Array Slot), F_Ar_fill2_heads_L5 v1 v2 v3 σ Q → va_P D classes (wRc cI a wr σ) H → va_D A (wRc cI a wr σ) → va_S A s.heap H locs → lv_has ls 4 [(0, .ref (a 4)), (1, .int v1), (2, .int v2), (3, .int v3)] → W p l e rm_Ar_fill2_heads s m ([.ref (a 4), .int x1] : List Value).toArray below meth c H locs 0 0 Z (F0 m 5 ls []) := by
    intro v1 v2 v3 σ H locs ls hf hP hD hS hl
    unfold F_Ar_fill2_heads_L5 at hf
    obtain ⟨I5, m5, h0, hst5⟩ := hf
    have lp5 : ∀ (n : Nat) (v2 : Int32) (σ : St) (H : Heap) (locs : List Loc) (ls : Array Slot), m5 v2 σ = n → I5 v2 σ → va_P D classes (wRc cI a wr σ) H → va_D A (wRc cI a wr σ) → va_S A s.heap H locs → lv_has ls 4 [(0, .ref (a 4)), (1, .int v1), (2, .int v2), (3, .int v3)] → W p l e rm_Ar_fill2_heads s m ([.ref (a 4), .int x1] : List Value).toArray below meth c H locs 0 0 Z (F0 m 5 ls []) := by
      intro n5
      induction n5 using Nat.strongRecOn with
      | _ n5 ih5 =>
        intro v2 σ H locs ls hn hI hP hD hS hl
        have hf := hst5 v2 σ n5 hI hn
        refine lv_iload_n hx hb d_Ar_fill2_5 rfl (lv_at hl 2 rfl) ?_
        refine lv_iload_n hx hb d_Ar_fill2_6 rfl (lv_at hl 3 rfl) ?_
        refine lv_icmp_ge hx hb d_Ar_fill2_7 rfl (fun hc => ?_) (fun hc => ?_)
        · have hf := hf.1 hc
          exact hend _ _ _ _ _ d_Ar_fill2_20 hf hP hD hS
        · have hf := hf.2 hc
          refine lv_aload_n hx hb d_Ar_fill2_10 rfl (lv_at hl 0 rfl) ?_
          refine lv_iload_n hx hb d_Ar_fill2_11 rfl (lv_at hl 2 rfl) ?_
          refine lv_iload_n hx hb d_Ar_fill2_12 rfl (lv_at hl 1 rfl) ?_
          obtain ⟨hin, hf⟩ := hf
          refine rs_Rc_heads S hok hwr hP hD hS hin d_Ar_fill2_13 (fun σ1 H locs hσ1 hP hD hS => ?_)
          have hf := hf σ1 hσ1
          obtain ⟨z2, hz2⟩ : ∃ z2 : Int32, z2 = v2 + (1 : Int32) := ⟨_, rfl⟩
          have hf := hf z2 hz2
          refine lv_iinc (k := 2) (v := z2) hx hb d_Ar_fill2_14 hl rfl (by rw [hz2]; rfl) (by decide) rfl (fun ls hl => ?_)
          have hl : lv_has ls 4 [(2, .int z2), (0, .ref (a 4)), (1, .int v1), (3, .int v3)] := hl
          refine lv_goto hx hb d_Ar_fill2_17 rfl ?_
          exact ih5 _ hf.2 _ _ _ _ _ rfl hf.1 hP hD hS (lv_sub hl [1, 2, 0, 3] rfl)
    exact lp5 _ v2 σ H locs ls rfl h0 hP hD hS hl
  refine lv_iconst (v := (0 : Int32)) hx hb d_Ar_fill2_0 (by decide) ?_
  refine lv_topi (fun z3 hz3 => ?_)
  have hf := hf z3 hz3
  refine lv_istore_n hx hb d_Ar_fill2_1 rfl hl (by decide) rfl (fun ls hl => ?_)
  have hl : lv_has ls 4 [(2, .int z3), (0, .ref (a 4)), (1, .int x1)] := hl
  refine lv_aload_n hx hb d_Ar_fill2_2 rfl (lv_at hl 1 rfl) ?_
  refine ra_Rc_heads S hok hP d_Ar_fill2_3 ?_
  refine lv_topi (fun z4 hz4 => ?_)
  have hf := hf z4 hz4
  refine lv_istore_n hx hb d_Ar_fill2_4 rfl hl (by decide) rfl (fun ls hl => ?_)
  have hl : lv_has ls 4 [(3, .int z4), (2, .int z3), (0, .ref (a 4)), (1, .int x1)] := hl
  exact lab5 _ _ _ _ _ _ _ hf hP hD hS (lv_sub hl [2, 3, 1, 0] rfl)
abbrev rm_Ar_fill2_holders : Room := { frames := 10, cells := 0, slots := 0, locals := 200 }
set_option maxRecDepth 100000 in
set_option maxHeartbeats 4000000 in
theorem c_Ar_fill2_holders (l : Launch) (D : va_G) (cI : ClassId) (a : Nat → Nat) (wr : St → va_W) (hwr : Fx 11 wr) (x1 : Int32) (σ : St) (Q : St → Prop) (hf : F_Ar_fill2_holders x1 σ Q) : Cv l y_Ar_fill2 (.code y_Ar_fill2 b_Ar_fill2 4 none) rm_Ar_fill2_holders D cI [.ref (a 2), .int x1] (wRc cI a wr) σ Q := by
  refine Cv.of (by decide +kernel) (Nat.le_of_ble_eq_true rfl) ?_
  intro p e s m below meth c ls A Z hx hb hml hown hts hok hP hD hA hl hend
  have S : CallFix p m c b_Ar_fill2 4 s ([.ref (a 2), .int x1] : List Value).toArray lwg "java/util/Arrays" := ⟨hx, hb, hml, hown, hts⟩
  have hS : va_S A s.heap s.heap [] := va_S.rf
  have hl : lv_has ls 4 [(0, .ref (a 2)), (1, .int x1)] := hl
  unfold F_Ar_fill2_holders at hf
  have lab5 : ∀ (v1 v2 v3 : Int32) (σ : St) (H : Heap) (locs : List Loc) (ls : Array Slot), F_Ar_fill2_holders_L5 v1 v2 v3 σ Q → va_P D classes (wRc cI a wr σ) H → va_D A (wRc cI a wr σ) → va_S A s.heap H locs → lv_has ls 4 [(0, .ref (a 2)), (1, .int v1), (2, .int v2), (3, .int v3)] → W p l e rm_Ar_fill2_holders s m ([.ref (a 2), .int x1] : List Value).toArray below meth c H locs 0 0 Z (F0 m 5 ls []) := by
    intro v1 v2 v3 σ H locs ls hf hP hD hS hl
    unfold F_Ar_fill2_holders_L5 at hf
    obtain ⟨I5, m5, h0, hst5⟩ := hf
    have lp5 : ∀ (n : Nat) (v2 : Int32) (σ : St) (H : Heap) (locs : List Loc) (ls : Array Slot), m5 v2 σ = n → I5 v2 σ → va_P D classes (wRc cI a wr σ) H → va_D A (wRc cI a wr σ) → va_S A s.heap H locs → lv_has ls 4 [(0, .ref (a 2)), (1, .int v1), (2, .int v2), (3, .int v3)] → W p l e rm_Ar_fill2_holders s m ([.ref (a 2), .int x1] : List Value).toArray below meth c H locs 0 0 Z (F0 m 5 ls []) := by
      intro n5
      induction n5 using Nat.strongRecOn with
      | _ n5 ih5 =>
        intro v2 σ H locs ls hn hI hP hD hS hl
        have hf := hst5 v2 σ n5 hI hn
        refine lv_iload_n hx hb d_Ar_fill2_5 rfl (lv_at hl 2 rfl) ?_
        refine lv_iload_n hx hb d_Ar_fill2_6 rfl (lv_at hl 3 rfl) ?_
        refine lv_icmp_ge hx hb d_Ar_fill2_7 rfl (fun hc => ?_) (fun hc => ?_)
        · have hf := hf.1 hc
          exact hend _ _ _ _ _ d_Ar_fill2_20 hf hP hD hS
        · have hf := hf.2 hc
          refine lv_aload_n hx hb d_Ar_fill2_10 rfl (lv_at hl 0 rfl) ?_
          refine lv_iload_n hx hb d_Ar_fill2_11 rfl (lv_at hl 2 rfl) ?_
          refine lv_iload_n hx hb d_Ar_fill2_12 rfl (lv_at hl 1 rfl) ?_
          obtain ⟨hin, hf⟩ := hf
          refine rs_Rc_holders S hok hwr hP hD hS hin d_Ar_fill2_13 (fun σ1 H locs hσ1 hP hD hS => ?_)
          have hf := hf σ1 hσ1
          obtain ⟨z2, hz2⟩ : ∃ z2 : Int32, z2 = v2 + (1 : Int32) := ⟨_, rfl⟩
          have hf := hf z2 hz2
          refine lv_iinc (k := 2) (v := z2) hx hb d_Ar_fill2_14 hl rfl (by rw [hz2]; rfl) (by decide) rfl (fun ls hl => ?_)
          have hl : lv_has ls 4 [(2, .int z2), (0, .ref (a 2)), (1, .int v1), (3, .int v3)] := hl
          refine lv_goto hx hb d_Ar_fill2_17 rfl ?_
          exact ih5 _ hf.2 _ _ _ _ _ rfl hf.1 hP hD hS (lv_sub hl [1, 2, 0, 3] rfl)
    exact lp5 _ v2 σ H locs ls rfl h0 hP hD hS hl
  refine lv_iconst (v := (0 : Int32)) hx hb d_Ar_fill2_0 (by decide) ?_
  refine lv_topi (fun z3 hz3 => ?_)
  have hf := hf z3 hz3
  refine lv_istore_n hx hb d_Ar_fill2_1 rfl hl (by decide) rfl (fun ls hl => ?_)
  have hl : lv_has ls 4 [(2, .int z3), (0, .ref (a 2)), (1, .int x1)] := hl
  refine lv_aload_n hx hb d_Ar_fill2_2 rfl (lv_at hl 1 rfl) ?_
  refine ra_Rc_holders S hok hP d_Ar_fill2_3 ?_
  refine lv_topi (fun z4 hz4 => ?_)
  have hf := hf z4 hz4
  refine lv_istore_n hx hb d_Ar_fill2_4 rfl hl (by decide) rfl (fun ls hl => ?_)
  have hl : lv_has ls 4 [(3, .int z4), (2, .int z3), (0, .ref (a 2)), (1, .int x1)] := hl
  exact lab5 _ _ _ _ _ _ _ hf hP hD hS (lv_sub hl [2, 3, 1, 0] rfl)
abbrev rm_Ar_fill2_wanted : Room := { frames := 10, cells := 0, slots := 0, locals := 200 }
set_option maxRecDepth 100000 in
set_option maxHeartbeats 4000000 in
theorem c_Ar_fill2_wanted (l : Launch) (D : va_G) (cI : ClassId) (a : Nat → Nat) (wr : St → va_W) (hwr : Fx 11 wr) (x1 : Int32) (σ : St) (Q : St → Prop) (hf : F_Ar_fill2_wanted x1 σ Q) : Cv l y_Ar_fill2 (.code y_Ar_fill2 b_Ar_fill2 4 none) rm_Ar_fill2_wanted D cI [.ref (a 7), .int x1] (wRc cI a wr) σ Q := by
  refine Cv.of (by decide +kernel) (Nat.le_of_ble_eq_true rfl) ?_
  intro p e s m below meth c ls A Z hx hb hml hown hts hok hP hD hA hl hend
  have S : CallFix p m c b_Ar_fill2 4 s ([.ref (a 7), .int x1] : List Value).toArray lwg "java/util/Arrays" := ⟨hx, hb, hml, hown, hts⟩
  have hS : va_S A s.heap s.heap [] := va_S.rf
  have hl : lv_has ls 4 [(0, .ref (a 7)), (1, .int x1)] := hl
  unfold F_Ar_fill2_wanted at hf
  have lab5 : ∀ (v1 v2 v3 : Int32) (σ : St) (H : Heap) (locs : List Loc) (ls : Array Slot), F_Ar_fill2_wanted_L5 v1 v2 v3 σ Q → va_P D classes (wRc cI a wr σ) H → va_D A (wRc cI a wr σ) → va_S A s.heap H locs → lv_has ls 4 [(0, .ref (a 7)), (1, .int v1), (2, .int v2), (3, .int v3)] → W p l e rm_Ar_fill2_wanted s m ([.ref (a 7), .int x1] : List Value).toArray below meth c H locs 0 0 Z (F0 m 5 ls []) := by
    intro v1 v2 v3 σ H locs ls hf hP hD hS hl
    unfold F_Ar_fill2_wanted_L5 at hf
    obtain ⟨I5, m5, h0, hst5⟩ := hf
    have lp5 : ∀ (n : Nat) (v2 : Int32) (σ : St) (H : Heap) (locs : List Loc) (ls : Array Slot), m5 v2 σ = n → I5 v2 σ → va_P D classes (wRc cI a wr σ) H → va_D A (wRc cI a wr σ) → va_S A s.heap H locs → lv_has ls 4 [(0, .ref (a 7)), (1, .int v1), (2, .int v2), (3, .int v3)] → W p l e rm_Ar_fill2_wanted s m ([.ref (a 7), .int x1] : List Value).toArray below meth c H locs 0 0 Z (F0 m 5 ls []) := by
      intro n5
      induction n5 using Nat.strongRecOn with
      | _ n5 ih5 =>
        intro v2 σ H locs ls hn hI hP hD hS hl
        have hf := hst5 v2 σ n5 hI hn
        refine lv_iload_n hx hb d_Ar_fill2_5 rfl (lv_at hl 2 rfl) ?_
        refine lv_iload_n hx hb d_Ar_fill2_6 rfl (lv_at hl 3 rfl) ?_
        refine lv_icmp_ge hx hb d_Ar_fill2_7 rfl (fun hc => ?_) (fun hc => ?_)
        · have hf := hf.1 hc
          exact hend _ _ _ _ _ d_Ar_fill2_20 hf hP hD hS
        · have hf := hf.2 hc
          refine lv_aload_n hx hb d_Ar_fill2_10 rfl (lv_at hl 0 rfl) ?_
          refine lv_iload_n hx hb d_Ar_fill2_11 rfl (lv_at hl 2 rfl) ?_
          refine lv_iload_n hx hb d_Ar_fill2_12 rfl (lv_at hl 1 rfl) ?_
          obtain ⟨hin, hf⟩ := hf
          refine rs_Rc_wanted S hok hwr hP hD hS hin d_Ar_fill2_13 (fun σ1 H locs hσ1 hP hD hS => ?_)
          have hf := hf σ1 hσ1
          obtain ⟨z2, hz2⟩ : ∃ z2 : Int32, z2 = v2 + (1 : Int32) := ⟨_, rfl⟩
          have hf := hf z2 hz2
          refine lv_iinc (k := 2) (v := z2) hx hb d_Ar_fill2_14 hl rfl (by rw [hz2]; rfl) (by decide) rfl (fun ls hl => ?_)
          have hl : lv_has ls 4 [(2, .int z2), (0, .ref (a 7)), (1, .int v1), (3, .int v3)] := hl
          refine lv_goto hx hb d_Ar_fill2_17 rfl ?_
          exact ih5 _ hf.2 _ _ _ _ _ rfl hf.1 hP hD hS (lv_sub hl [1, 2, 0, 3] rfl)
    exact lp5 _ v2 σ H locs ls rfl h0 hP hD hS hl
  refine lv_iconst (v := (0 : Int32)) hx hb d_Ar_fill2_0 (by decide) ?_
  refine lv_topi (fun z3 hz3 => ?_)
  have hf := hf z3 hz3
  refine lv_istore_n hx hb d_Ar_fill2_1 rfl hl (by decide) rfl (fun ls hl => ?_)
  have hl : lv_has ls 4 [(2, .int z3), (0, .ref (a 7)), (1, .int x1)] := hl
  refine lv_aload_n hx hb d_Ar_fill2_2 rfl (lv_at hl 1 rfl) ?_
  refine ra_Rc_wanted S hok hP d_Ar_fill2_3 ?_
  refine lv_topi (fun z4 hz4 => ?_)
  have hf := hf z4 hz4
  refine lv_istore_n hx hb d_Ar_fill2_4 rfl hl (by decide) rfl (fun ls hl => ?_)
  have hl : lv_has ls 4 [(3, .int z4), (2, .int z3), (0, .ref (a 7)), (1, .int x1)] := hl
  exact lab5 _ _ _ _ _ _ _ hf hP hD hS (lv_sub hl [2, 3, 1, 0] rfl)
abbrev rm_Ar_fill2_outcome : Room := { frames := 10, cells := 0, slots := 0, locals := 200 }
set_option maxRecDepth 100000 in
set_option maxHeartbeats 4000000 in
theorem c_Ar_fill2_outcome (l : Launch) (D : va_G) (cI : ClassId) (a : Nat → Nat) (wr : St → va_W) (hwr : Fx 11 wr) (x1 : Int32) (σ : St) (Q : St → Prop) (hf : F_Ar_fill2_outcome x1 σ Q) : Cv l y_Ar_fill2 (.code y_Ar_fill2 b_Ar_fill2 4 none) rm_Ar_fill2_outcome D cI [.ref (a 6), .int x1] (wRc cI a wr) σ Q := by
  refine Cv.of (by decide +kernel) (Nat.le_of_ble_eq_true rfl) ?_
  intro p e s m below meth c ls A Z hx hb hml hown hts hok hP hD hA hl hend
  have S : CallFix p m c b_Ar_fill2 4 s ([.ref (a 6), .int x1] : List Value).toArray lwg "java/util/Arrays" := ⟨hx, hb, hml, hown, hts⟩
  have hS : va_S A s.heap s.heap [] := va_S.rf
  have hl : lv_has ls 4 [(0, .ref (a 6)), (1, .int x1)] := hl
  unfold F_Ar_fill2_outcome at hf
  have lab5 : ∀ (v1 v2 v3 : Int32) (σ : St) (H : Heap) (locs : List Loc) (ls : Array Slot), F_Ar_fill2_outcome_L5 v1 v2 v3 σ Q → va_P D classes (wRc cI a wr σ) H → va_D A (wRc cI a wr σ) → va_S A s.heap H locs → lv_has ls 4 [(0, .ref (a 6)), (1, .int v1), (2, .int v2), (3, .int v3)] → W p l e rm_Ar_fill2_outcome s m ([.ref (a 6), .int x1] : List Value).toArray below meth c H locs 0 0 Z (F0 m 5 ls []) := by
    intro v1 v2 v3 σ H locs ls hf hP hD hS hl
    unfold F_Ar_fill2_outcome_L5 at hf
    obtain ⟨I5, m5, h0, hst5⟩ := hf
    have lp5 : ∀ (n : Nat) (v2 : Int32) (σ : St) (H : Heap) (locs : List Loc) (ls : Array Slot), m5 v2 σ = n → I5 v2 σ → va_P D classes (wRc cI a wr σ) H → va_D A (wRc cI a wr σ) → va_S A s.heap H locs → lv_has ls 4 [(0, .ref (a 6)), (1, .int v1), (2, .int v2), (3, .int v3)] → W p l e rm_Ar_fill2_outcome s m ([.ref (a 6), .int x1] : List Value).toArray below meth c H locs 0 0 Z (F0 m 5 ls []) := by
      intro n5
      induction n5 using Nat.strongRecOn with
      | _ n5 ih5 =>
        intro v2 σ H locs ls hn hI hP hD hS hl
        have hf := hst5 v2 σ n5 hI hn
        refine lv_iload_n hx hb d_Ar_fill2_5 rfl (lv_at hl 2 rfl) ?_
        refine lv_iload_n hx hb d_Ar_fill2_6 rfl (lv_at hl 3 rfl) ?_
        refine lv_icmp_ge hx hb d_Ar_fill2_7 rfl (fun hc => ?_) (fun hc => ?_)
        · have hf := hf.1 hc
          exact hend _ _ _ _ _ d_Ar_fill2_20 hf hP hD hS
        · have hf := hf.2 hc
          refine lv_aload_n hx hb d_Ar_fill2_10 rfl (lv_at hl 0 rfl) ?_
          refine lv_iload_n hx hb d_Ar_fill2_11 rfl (lv_at hl 2 rfl) ?_
          refine lv_iload_n hx hb d_Ar_fill2_12 rfl (lv_at hl 1 rfl) ?_
          obtain ⟨hin, hf⟩ := hf
          refine rs_Rc_outcome S hok hwr hP hD hS hin d_Ar_fill2_13 (fun σ1 H locs hσ1 hP hD hS => ?_)
          have hf := hf σ1 hσ1
          obtain ⟨z2, hz2⟩ : ∃ z2 : Int32, z2 = v2 + (1 : Int32) := ⟨_, rfl⟩
          have hf := hf z2 hz2
          refine lv_iinc (k := 2) (v := z2) hx hb d_Ar_fill2_14 hl rfl (by rw [hz2]; rfl) (by decide) rfl (fun ls hl => ?_)
          have hl : lv_has ls 4 [(2, .int z2), (0, .ref (a 6)), (1, .int v1), (3, .int v3)] := hl
          refine lv_goto hx hb d_Ar_fill2_17 rfl ?_
          exact ih5 _ hf.2 _ _ _ _ _ rfl hf.1 hP hD hS (lv_sub hl [1, 2, 0, 3] rfl)
    exact lp5 _ v2 σ H locs ls rfl h0 hP hD hS hl
  refine lv_iconst (v := (0 : Int32)) hx hb d_Ar_fill2_0 (by decide) ?_
  refine lv_topi (fun z3 hz3 => ?_)
  have hf := hf z3 hz3
  refine lv_istore_n hx hb d_Ar_fill2_1 rfl hl (by decide) rfl (fun ls hl => ?_)
  have hl : lv_has ls 4 [(2, .int z3), (0, .ref (a 6)), (1, .int x1)] := hl
  refine lv_aload_n hx hb d_Ar_fill2_2 rfl (lv_at hl 1 rfl) ?_
  refine ra_Rc_outcome S hok hP d_Ar_fill2_3 ?_
  refine lv_topi (fun z4 hz4 => ?_)
  have hf := hf z4 hz4
  refine lv_istore_n hx hb d_Ar_fill2_4 rfl hl (by decide) rfl (fun ls hl => ?_)
  have hl : lv_has ls 4 [(3, .int z4), (2, .int z3), (0, .ref (a 6)), (1, .int x1)] := hl
  exact lab5 _ _ _ _ _ _ _ hf hP hD hS (lv_sub hl [2, 3, 1, 0] rfl)
abbrev rm_Ar_rangeCheck : Room := { frames := 10, cells := 0, slots := 0, locals := 200 }
set_option maxRecDepth 100000 in
set_option maxHeartbeats 4000000 in
theorem c_Ar_rangeCheck (l : Launch) (D : va_G) (cI : ClassId) (a : Nat → Nat) (wr : St → va_W) (hwr : Fx 17 wr) (x0 : Int32) (x1 : Int32) (x2 : Int32) (σ : St) (Q : St → Prop) (hf : F_Ar_rangeCheck x0 x1 x2 σ Q) : Cv l y_Ar_rangeCheck (.code y_Ar_rangeCheck b_Ar_rangeCheck 3 none) rm_Ar_rangeCheck D cI [.int x0, .int x1, .int x2] (wBl cI a wr) σ Q := by
  refine Cv.of (by decide +kernel) (Nat.le_of_ble_eq_true rfl) ?_
  intro p e s m below meth c ls A Z hx hb hml hown hts hok hP hD hA hl hend
  have S : CallFix p m c b_Ar_rangeCheck 3 s ([.int x0, .int x1, .int x2] : List Value).toArray lwg "java/util/Arrays" := ⟨hx, hb, hml, hown, hts⟩
  have hS : va_S A s.heap s.heap [] := va_S.rf
  have hl : lv_has ls 3 [(0, .int x0), (1, .int x1), (2, .int x2)] := hl
  unfold F_Ar_rangeCheck at hf
  refine lv_iload_n hx hb d_Ar_rangeCheck_0 rfl (lv_at hl 1 rfl) ?_
  refine lv_iload_n hx hb d_Ar_rangeCheck_1 rfl (lv_at hl 2 rfl) ?_
  refine lv_icmp_le hx hb d_Ar_rangeCheck_2 rfl (fun hc => ?_) (fun hc => ?_)
  · have hf := hf.1 hc
    refine lv_iload_n hx hb d_Ar_rangeCheck_46 rfl (lv_at hl 1 rfl) ?_
    refine lv_if_ge hx hb d_Ar_rangeCheck_47 rfl (fun hc => ?_) (fun hc => ?_)
    · have hf := hf.1 hc
      refine lv_iload_n hx hb d_Ar_rangeCheck_59 rfl (lv_at hl 2 rfl) ?_
      refine lv_iload_n hx hb d_Ar_rangeCheck_60 rfl (lv_at hl 0 rfl) ?_
      refine lv_icmp_le hx hb d_Ar_rangeCheck_61 rfl (fun hc => ?_) (fun hc => ?_)
      · have hf := hf.1 hc
        exact hend _ _ _ _ _ d_Ar_rangeCheck_73 hf hP hD hS
      · have hf := hf.2 hc
        exact hf.elim
    · have hf := hf.2 hc
      exact hf.elim
  · have hf := hf.2 hc
    exact hf.elim
abbrev rm_Ar_fill4_cells : Room := { frames := 20, cells := 0, slots := 0, locals := 400 }
set_option maxRecDepth 100000 in
set_option maxHeartbeats 4000000 in
theorem c_Ar_fill4_cells (l : Launch) (D : va_G) (cI : ClassId) (a : Nat → Nat) (wr : St → va_W) (hwr : Fx 17 wr) (x1 : Int32) (x2 : Int32) (x3 : Int32) (σ : St) (Q : St → Prop) (hf : F_Ar_fill4_cells x1 x2 x3 σ Q) : Cv l y_Ar_fill4 (.code y_Ar_fill4 b_Ar_fill4 5 none) rm_Ar_fill4_cells D cI [.ref (a 9), .int x1, .int x2, .int x3] (wBl cI a wr) σ Q := by
  refine Cv.of (by decide +kernel) (Nat.le_of_ble_eq_true rfl) ?_
  intro p e s m below meth c ls A Z hx hb hml hown hts hok hP hD hA hl hend
  have S : CallFix p m c b_Ar_fill4 5 s ([.ref (a 9), .int x1, .int x2, .int x3] : List Value).toArray lwg "java/util/Arrays" := ⟨hx, hb, hml, hown, hts⟩
  have hS : va_S A s.heap s.heap [] := va_S.rf
  have hl : lv_has ls 5 [(0, .ref (a 9)), (1, .int x1), (2, .int x2), (3, .int x3)] := hl
  unfold F_Ar_fill4_cells at hf
  have lab10 : ∀ (v2 v3 v4 : Int32) (σ : St) (H : Heap) (locs : List Loc) (ls : Array Slot), F_Ar_fill4_cells_L10 v2 v3 v4 σ Q → va_P D classes (wBl cI a wr σ) H → va_D A (wBl cI a wr σ) → va_S A s.heap H locs → lv_has ls 5 [(0, .ref (a 9)), (2, .int v2), (3, .int v3), (4, .int v4)] → W p l e rm_Ar_fill4_cells s m ([.ref (a 9), .int x1, .int x2, .int x3] : List Value).toArray below meth c H locs 0 0 Z (F0 m 10 ls []) := by
    intro v2 v3 v4 σ H locs ls hf hP hD hS hl
    unfold F_Ar_fill4_cells_L10 at hf
    obtain ⟨I10, m10, h0, hst10⟩ := hf
    have lp10 : ∀ (n : Nat) (v4 : Int32) (σ : St) (H : Heap) (locs : List Loc) (ls : Array Slot), m10 v4 σ = n → I10 v4 σ → va_P D classes (wBl cI a wr σ) H → va_D A (wBl cI a wr σ) → va_S A s.heap H locs → lv_has ls 5 [(0, .ref (a 9)), (2, .int v2), (3, .int v3), (4, .int v4)] → W p l e rm_Ar_fill4_cells s m ([.ref (a 9), .int x1, .int x2, .int x3] : List Value).toArray below meth c H locs 0 0 Z (F0 m 10 ls []) := by
      intro n10
      induction n10 using Nat.strongRecOn with
      | _ n10 ih10 =>
        intro v4 σ H locs ls hn hI hP hD hS hl
        have hf := hst10 v4 σ n10 hI hn
        refine lv_iload hx hb d_Ar_fill4_10 (lv_at hl 3 rfl) ?_
        refine lv_iload_n hx hb d_Ar_fill4_12 rfl (lv_at hl 1 rfl) ?_
        refine lv_icmp_ge hx hb d_Ar_fill4_13 rfl (fun hc => ?_) (fun hc => ?_)
        · have hf := hf.1 hc
          exact hend _ _ _ _ _ d_Ar_fill4_27 hf hP hD hS
        · have hf := hf.2 hc
          refine lv_aload_n hx hb d_Ar_fill4_16 rfl (lv_at hl 0 rfl) ?_
          refine lv_iload hx hb d_Ar_fill4_17 (lv_at hl 3 rfl) ?_
          refine lv_iload_n hx hb d_Ar_fill4_19 rfl (lv_at hl 2 rfl) ?_
          obtain ⟨hin, hf⟩ := hf
          refine rs_Bl_cells S hok hwr hP hD hS hin d_Ar_fill4_20 (fun σ1 H locs hσ1 hP hD hS => ?_)
          have hf := hf σ1 hσ1
          obtain ⟨z2, hz2⟩ : ∃ z2 : Int32, z2 = v4 + (1 : Int32) := ⟨_, rfl⟩
          have hf := hf z2 hz2
          refine lv_iinc (k := 3) (v := z2) hx hb d_Ar_fill4_21 hl rfl (by rw [hz2]; rfl) (by decide) rfl (fun ls hl => ?_)
          have hl : lv_has ls 5 [(4, .int z2), (0, .ref (a 9)), (2, .int v2), (3, .int v3)] := hl
          refine lv_goto hx hb d_Ar_fill4_24 rfl ?_
          exact ih10 _ hf.2 _ _ _ _ _ rfl hf.1 hP hD hS (lv_sub hl [1, 2, 3, 0] rfl)
    exact lp10 _ v4 σ H locs ls rfl h0 hP hD hS hl
  refine lv_aload_n hx hb d_Ar_fill4_0 rfl (lv_at hl 0 rfl) ?_
  refine ra_Bl_cells S hok hP d_Ar_fill4_1 ?_
  refine lv_iload_n hx hb d_Ar_fill4_2 rfl (lv_at hl 1 rfl) ?_
  refine lv_iload_n hx hb d_Ar_fill4_3 rfl (lv_at hl 2 rfl) ?_
  refine r_callSv (As := [.int (66624 : Int32), .int x1, .int x2]) (rest := []) (n := 3) S hok (c_Ar_rangeCheck l D cI a wr hwr _ _ _ _ _ hf) k_ml_Ar_13 k_st_Ar_rangeCheck k_ini_Ar k_code_Ar_rangeCheck rfl rfl (by decide +kernel) ⟨by decide, by decide⟩ hP hD hS hA (Nat.zero_le _) (Nat.zero_le _) hl.1 rfl rfl (Nat.le_of_ble_eq_true rfl) d_Ar_fill4_4 (fun σ3 H locs hf hP hD hS => ?_)
  have hP : va_P D classes (wBl cI a wr σ3) H := hP
  have hD : va_D A (wBl cI a wr σ3) := hD
  refine lv_iload_n hx hb d_Ar_fill4_7 rfl (lv_at hl 1 rfl) ?_
  refine lv_istore hx hb d_Ar_fill4_8 hl (by decide) rfl (fun ls hl => ?_)
  have hl : lv_has ls 5 [(4, .int x1), (0, .ref (a 9)), (1, .int x1), (2, .int x2), (3, .int x3)] := hl
  exact lab10 _ _ _ _ _ _ _ hf hP hD hS (lv_sub hl [1, 3, 4, 0] rfl)
