set_option maxRecDepth 100000 in
set_option maxHeartbeats 8000000 in
theorem law_loop {p : Program} {e : Env} {s : State} {m : MethodId} {below : List Frame} {meth : Method} {c : Code} (l : Launch) (hst : l.stackTraces = false) {b L : Nat} {xs : Nat → Int32} (hL : L ≤ 3072) (C0 : lw_At p s m meth c b L xs) {D : va_G} {cI cJ : ClassId} {a : Nat → Nat} (hok : okL D cI cJ s) (hT : okT s) :
    ∀ (n k : Nat) (σ : St) (g : Nat → Int64) (H : Heap) (locs : List Loc) (ls : Array Slot), 600 - k = n → LI k σ → k ≤ 512 → va_P D classes (wLa cI cJ a g σ) H → va_D (fun q => s.heap.size ≤ q) (wLa cI cJ a g σ) → va_S (fun q => s.heap.size ≤ q) s.heap H locs → lv_has ls 7 [(0, .ref b), (1, .ref (a 11)), (2, .ref (a 12)), (3, .ref (a 15)), (4, .int (nI (6 * k)))] → W p l e room_1 s m #[Value.ref b] below meth c H locs (16 + k) (163064 + 6 * k) (lw_Z below #[Value.ref b] s) (F0 m 23 ls []) := by
  obtain ⟨hx, hb, hr, hml, hown, hts0, hX, hbl, hlocks, -⟩ := C0
  have hts : ∀ w ∈ lwg, w.before #[Value.ref b] s = true := fun w hw => hts0 w (List.mem_filter.mp hw).1
  have S : CallFix p m c code 7 s #[Value.ref b] lwg "PropertyTrieLaw" := ⟨hx, hb, hml, hown, hts⟩
  have hA : ∀ q, s.heap.size ≤ q → (fun q => s.heap.size ≤ q) q := fun _ h => h
  have hbA : ¬ (fun q => s.heap.size ≤ q) b := Nat.not_le.mpr hbl
  intro n
  induction n using Nat.strongRecOn with
  | _ n ih =>
    intro k σ g H locs ls hn hLI hk hP hD hS hl
    have next : ∀ (σ : St) (g : Nat → Int64) (H : Heap) (locs : List Loc) (ls : Array Slot), LI (k + 1) σ → k + 1 ≤ 512 → va_P D classes (wLa cI cJ a g σ) H → va_D (fun q => s.heap.size ≤ q) (wLa cI cJ a g σ) → va_S (fun q => s.heap.size ≤ q) s.heap H locs → lv_has ls 7 [(0, .ref b), (1, .ref (a 11)), (2, .ref (a 12)), (3, .ref (a 15)), (4, .int (nI (6 * k)))] → W p l e room_1 s m #[Value.ref b] below meth c H locs (16 + (k + 1)) (163064 + 6 * (k + 1)) (lw_Z below #[Value.ref b] s) (F0 m 584 ls []) := by
      intro σ g H locs ls hLI hk hP hD hS hl
      obtain ⟨z, hz⟩ : ∃ z : Int32, z = nI (6 * k) + (6 : Int32) := ⟨_, rfl⟩
      refine lv_iinc (k := 4) (v := z) hx hb d_law_584 hl rfl (by rw [hz]; rfl) (by decide) rfl (fun ls hl => ?_)
      have ez : z = nI (6 * (k + 1)) := by rw [hz]; exact (nI_add (6 * k) 6).trans (congrArg nI (by omega))
      subst ez
      refine lv_goto hx hb d_law_587 rfl ?_
      exact ih (600 - (k + 1)) (by omega) (k + 1) σ g H locs ls rfl hLI hk hP hD hS (lv_sub hl [1, 2, 3, 4, 0] rfl)
    refine lv_iload hx hb d_law_23 (lv_at hl 4 rfl) ?_
    refine lv_aload_n hx hb d_law_25 rfl (lv_at hl 0 rfl) ?_
    refine va_slen hx hb hX hbl hbA hS d_law_26 ?_
    refine lv_bipush (v := 6) hx hb d_law_27 (by decide) ?_
    refine lv_isub hx hb d_law_29 ?_
    refine lv_icmp_gt hx hb d_law_30 rfl (fun hc => ?_) (fun hc => ?_)
    · refine lv_iconst (v := 1) hx hb d_law_590 (by decide) ?_
      refine va_forget hS.2.2 ?_
      refine W.widen (k := 601024) (n := 7293034) (by omega) (by omega) ?_
      exact lw_ret hx hb hr hlocks d_law_591
    have hkL : 6 * k + 6 ≤ L := by
      have h1 := pk_sub_toInt (a := L) (b := 6) (by omega) (by omega)
      have h2 : ¬ (nI L - nI 6) < nI (6 * k) := hc
      rw [Int32.lt_iff_toInt_lt, h1, nI_toInt (by omega)] at h2
      omega
    have hk1 : k < 512 := by omega
    have hin : ∀ j, j < 6 → vp_in (nI (6 * k) + nI j) L := fun j hj => by rw [nI_add]; exact vp_in_nI (by omega) (by omega)
    have hin0 : vp_in (nI (6 * k)) L := vp_in_nI (by omega) (by omega)
    have h0in : vp_in (0 : Int32) 1 := show vp_in (nI 0) 1 from vp_in_nI (by decide) (by decide)
    have lc : ∀ x : Int64, lg_cmp x x = 0 := fun x => by simp [lg_cmp]
    have hTk : ∀ (H : Heap) (locs : List Loc), va_S (fun q => s.heap.size ≤ q) s.heap H locs → ∀ U : State, U.heap = H → s.WarmedH U.vm → okT U := fun H locs hS U hU hW => okT_keep hT (fun q cell hq => by
      have hlt : q < s.heap.size := (Array.getElem?_eq_some_iff.mp hq).1
      rw [hU, hS.2.1 q hlt (Nat.not_le.mpr hlt)]
      exact hq) hW
    refine lv_aload_n hx hb d_law_33 rfl (lv_at hl 0 rfl) ?_
    refine lv_iload hx hb d_law_34 (lv_at hl 4 rfl) ?_
    refine va_sld hx hb hX hbl hbA hS hin0 d_law_36 ?_
    refine lv_bipush (v := 7) hx hb d_law_37 (by decide) ?_
    refine lv_iand hx hb d_law_39 ?_
    obtain ⟨j, hj, ej⟩ := pk_andE (xs (nI (6 * k)).toNatClampNeg) (m := (7 : Int32)) 3 (by decide)
    rw [ej]
    rcases (show j = 0 ∨ j = 1 ∨ j = 2 ∨ j = 3 ∨ j = 4 ∨ j = 5 ∨ j = 6 ∨ j = 7 by omega) with rfl | rfl | rfl | rfl | rfl | rfl | rfl | rfl
    · refine lv_tableIn (off := 44) (tgt := 84) hx hb d_law_40 (by decide) (by decide) (by decide) (by decide) ?_
      refine lv_aload_n hx hb d_law_84 rfl (lv_at hl 1 rfl) ?_
      refine lv_aload_n hx hb d_law_85 rfl (lv_at hl 0 rfl) ?_
      refine lv_iload hx hb d_law_86 (lv_at hl 4 rfl) ?_
      refine lv_iconst (v := 1) hx hb d_law_88 (by decide) ?_
      refine lv_iadd hx hb d_law_89 ?_
      refine va_sld hx hb hX hbl hbA hS (hin 1 (by decide)) d_law_90 ?_
      refine lv_aload_n hx hb d_law_91 rfl (lv_at hl 0 rfl) ?_
      refine lv_iload hx hb d_law_92 (lv_at hl 4 rfl) ?_
      refine lv_iconst (v := 2) hx hb d_law_94 (by decide) ?_
      refine lv_iadd hx hb d_law_95 ?_
      refine va_sld hx hb hX hbl hbA hS (hin 2 (by decide)) d_law_96 ?_
      refine lv_aload_n hx hb d_law_97 rfl (lv_at hl 0 rfl) ?_
      refine lv_iload hx hb d_law_98 (lv_at hl 4 rfl) ?_
      refine lv_iconst (v := 3) hx hb d_law_100 (by decide) ?_
      refine lv_iadd hx hb d_law_101 ?_
      refine va_sld hx hb hX hbl hbA hS (hin 3 (by decide)) d_law_102 ?_
      refine lv_aload_n hx hb d_law_103 rfl (lv_at hl 0 rfl) ?_
      refine lv_iload hx hb d_law_104 (lv_at hl 4 rfl) ?_
      refine lv_iconst (v := 4) hx hb d_law_106 (by decide) ?_
      refine lv_iadd hx hb d_law_107 ?_
      refine va_sld hx hb hX hbl hbA hS (hin 4 (by decide)) d_law_108 ?_
      refine lv_aload_n hx hb d_law_109 rfl (lv_at hl 3 rfl) ?_
      refine r_callW (As := [.ref (a 11), .int (xs (nI (6 * k) + (1 : Int32)).toNatClampNeg), .int (xs (nI (6 * k) + (2 : Int32)).toNatClampNeg), .int (xs (nI (6 * k) + (3 : Int32)).toNatClampNeg), .int (xs (nI (6 * k) + (4 : Int32)).toNatClampNeg), .ref (a 15)]) (rest := []) (n := 6) S hok (hTk H locs hS) (wr_set l hst D cI cJ a g (xs (nI (6 * k) + (1 : Int32)).toNatClampNeg) (xs (nI (6 * k) + (2 : Int32)).toNatClampNeg) (xs (nI (6 * k) + (3 : Int32)).toNatClampNeg) (xs (nI (6 * k) + (4 : Int32)).toNatClampNeg) σ (QpI k (F_Mo_set (xs (nI (6 * k) + (1 : Int32)).toNatClampNeg) (xs (nI (6 * k) + (2 : Int32)).toNatClampNeg) (xs (nI (6 * k) + (3 : Int32)).toNatClampNeg) (xs (nI (6 * k) + (4 : Int32)).toNatClampNeg))) (st_set hLI hk1)) k_ml_La_38 k_st_La_set k_ini_La k_with_La_set rfl rfl (by decide +kernel) ⟨by decide, by decide⟩ hP hD hS hA (by show 16 + k + 1 ≤ 601024; omega) (by show 163064 + 6 * k + 6 ≤ 7293034; omega) hl.1 rfl rfl (Nat.le_of_ble_eq_true rfl) d_law_110 (fun r u H locs hf hP hD hS => ?_)
      obtain ⟨τ, g2⟩ := u
      have hf : F_Mo_set (xs (nI (6 * k) + (1 : Int32)).toNatClampNeg) (xs (nI (6 * k) + (2 : Int32)).toNatClampNeg) (xs (nI (6 * k) + (3 : Int32)).toNatClampNeg) (xs (nI (6 * k) + (4 : Int32)).toNatClampNeg) τ (fun r2 τ => F_Mo_thrown τ (fun t τ2 => t = r ∧ (r = 0 → g2 0 = r2.toInt64) ∧ LI (k + 1) τ2)) := hf
      have hP : va_P D classes (wLa cI cJ a g2 τ) H := hP
      have hD : va_D (fun q => s.heap.size ≤ q) (wLa cI cJ a g2 τ) := hD
      refine lv_istore hx hb d_law_113 hl (by decide) rfl (fun ls hl => ?_)
      have hl : lv_has ls 7 [(5, .int r), (0, .ref b), (1, .ref (a 11)), (2, .ref (a 12)), (3, .ref (a 15)), (4, .int (nI (6 * k)))] := hl
      refine lv_aload_n hx hb d_law_115 rfl (lv_at hl 3 rfl) ?_
      refine lv_aload_n hx hb d_law_116 rfl (lv_at hl 1 rfl) ?_
      refine lv_iload hx hb d_law_117 (lv_at hl 5 rfl) ?_
      refine lv_iconst (v := 1) hx hb d_law_119 (by decide) ?_
      refine lv_iadd hx hb d_law_120 ?_
      refine va_sld hx hb hX hbl hbA hS (hin 1 (by decide)) d_law_121 ?_
      refine lv_aload_n hx hb d_law_122 rfl (lv_at hl 1 rfl) ?_
      refine lv_iload hx hb d_law_123 (lv_at hl 5 rfl) ?_
      refine lv_iconst (v := 2) hx hb d_law_125 (by decide) ?_
      refine lv_iadd hx hb d_law_126 ?_
      refine va_sld hx hb hX hbl hbA hS (hin 2 (by decide)) d_law_127 ?_
      refine lv_aload_n hx hb d_law_128 rfl (lv_at hl 1 rfl) ?_
      refine lv_iload hx hb d_law_129 (lv_at hl 5 rfl) ?_
      refine lv_iconst (v := 3) hx hb d_law_131 (by decide) ?_
      refine lv_iadd hx hb d_law_132 ?_
      refine va_sld hx hb hX hbl hbA hS (hin 3 (by decide)) d_law_133 ?_
      refine lv_aload_n hx hb d_law_134 rfl (lv_at hl 1 rfl) ?_
      refine lv_iload hx hb d_law_135 (lv_at hl 5 rfl) ?_
      refine lv_iconst (v := 4) hx hb d_law_137 (by decide) ?_
      refine lv_iadd hx hb d_law_138 ?_
      refine va_sld hx hb hX hbl hbA hS (hin 4 (by decide)) d_law_139 ?_
      refine r_callVi (As := [.int (xs (nI (6 * k) + (1 : Int32)).toNatClampNeg), .int (xs (nI (6 * k) + (2 : Int32)).toNatClampNeg), .int (xs (nI (6 * k) + (3 : Int32)).toNatClampNeg), .int (xs (nI (6 * k) + (4 : Int32)).toNatClampNeg)]) (rest := []) (n := 4) (q0 := 12) S hok.1 (c_Mo_set l D cI a (wO cJ (a 15) g2) (Fx_O _ _ _ _) (xs (nI (6 * k) + (1 : Int32)).toNatClampNeg) (xs (nI (6 * k) + (2 : Int32)).toNatClampNeg) (xs (nI (6 * k) + (3 : Int32)).toNatClampNeg) (xs (nI (6 * k) + (4 : Int32)).toNatClampNeg) τ _ hf) k_ml_La_43 k_im_Mo_set k_sel_Mo_set k_ini_Mo k_code_Mo_set rfl rfl (by decide +kernel) ⟨by decide, by decide⟩ rfl rfl hP hD hS hA (by show 16 + k + 1 ≤ 601024; omega) (by show 163064 + 6 * k + 6 ≤ 7293034; omega) hl.1 rfl rfl (Nat.le_of_ble_eq_true rfl) d_law_140 (fun r2 τ2 H locs hf hP hD hS => ?_)
      have hf : F_Mo_thrown τ2 (fun t τ2 => t = r ∧ (r = 0 → g2 0 = r2.toInt64) ∧ LI (k + 1) τ2) := hf
      have hP : va_P D classes (wLa cI cJ a g2 τ2) H := hP
      have hD : va_D (fun q => s.heap.size ≤ q) (wLa cI cJ a g2 τ2) := hD
      refine lv_istore hx hb d_law_143 hl (by decide) rfl (fun ls hl => ?_)
      have hl : lv_has ls 7 [(6, .int r2), (5, .int r), (0, .ref b), (1, .ref (a 11)), (2, .ref (a 12)), (3, .ref (a 15)), (4, .int (nI (6 * k)))] := hl
      refine lv_aload_n hx hb d_law_145 rfl (lv_at hl 4 rfl) ?_
      refine r_callVi (As := []) (rest := []) (n := 0) (q0 := 12) S hok.1 (c_Mo_thrown l D cI a (wO cJ (a 15) g2) (Fx_O _ _ _ _) τ2 _ hf) k_ml_La_44 k_im_Mo_thrown k_sel_Mo_thrown k_ini_Mo k_code_Mo_thrown rfl rfl (by decide +kernel) ⟨by decide, by decide⟩ rfl rfl hP hD hS hA (by show 16 + k + 1 ≤ 601024; omega) (by show 163064 + 6 * k + 6 ≤ 7293034; omega) hl.1 rfl rfl (Nat.le_of_ble_eq_true rfl) d_law_146 (fun t τ3 H locs hf hP hD hS => ?_)
      obtain ⟨ht, heq, hLI2⟩ := hf
      have hP : va_P D classes (wLa cI cJ a g2 τ3) H := hP
      have hD : va_D (fun q => s.heap.size ≤ q) (wLa cI cJ a g2 τ3) := hD
      refine lv_iload hx hb d_law_149 (lv_at hl 1 rfl) ?_
      refine lv_icmp_eq hx hb d_law_151 rfl (fun hc => ?_) (fun hc => absurd ht hc)
      refine lv_iload hx hb d_law_156 (lv_at hl 1 rfl) ?_
      refine lv_if_ne hx hb d_law_158 rfl (fun hc => ?_) (fun hc => ?_)
      · skip
        refine lv_goto hx hb d_law_173 rfl ?_
        refine W.widen (k := 16 + (k + 1)) (n := 163064 + 6 * (k + 1)) (by omega) (by omega) ?_
        exact next τ3 g2 H locs ls hLI2 hk1 hP hD hS (lv_sub hl [2, 3, 4, 5, 6] rfl)
      · skip
        refine lv_aload_n hx hb d_law_161 rfl (lv_at hl 5 rfl) ?_
        refine lv_iconst (v := 0) hx hb d_law_162 (by decide) ?_
        refine va_lald (cA := cJ) (n := 1) (f := g2) hx hb hok.2 hP 15 0 rfl rfl h0in d_law_163 ?_
        refine lv_iload hx hb d_law_164 (lv_at hl 0 rfl) ?_
        have hg : g2 (Int32.toNatClampNeg 0) = r2.toInt64 := heq hc
        rw [hg]
        refine lv_i2l hx hb d_law_166 rfl ?_
        refine W.lcmp hx hb d_law_167 ?_
        rw [lc]
        refine lv_if_eq hx hb d_law_168 rfl (fun hc2 => ?_) (fun hc2 => absurd rfl hc2)
        refine lv_goto hx hb d_law_173 rfl ?_
        refine W.widen (k := 16 + (k + 1)) (n := 163064 + 6 * (k + 1)) (by omega) (by omega) ?_
        exact next τ3 g2 H locs ls hLI2 hk1 hP hD hS (lv_sub hl [2, 3, 4, 5, 6] rfl)
    · refine lv_tableIn (off := 136) (tgt := 176) hx hb d_law_40 (by decide) (by decide) (by decide) (by decide) ?_
      refine lv_aload_n hx hb d_law_176 rfl (lv_at hl 1 rfl) ?_
      refine lv_aload_n hx hb d_law_177 rfl (lv_at hl 0 rfl) ?_
      refine lv_iload hx hb d_law_178 (lv_at hl 4 rfl) ?_
      refine lv_iconst (v := 1) hx hb d_law_180 (by decide) ?_
      refine lv_iadd hx hb d_law_181 ?_
      refine va_sld hx hb hX hbl hbA hS (hin 1 (by decide)) d_law_182 ?_
      refine lv_aload_n hx hb d_law_183 rfl (lv_at hl 0 rfl) ?_
      refine lv_iload hx hb d_law_184 (lv_at hl 4 rfl) ?_
      refine lv_iconst (v := 2) hx hb d_law_186 (by decide) ?_
      refine lv_iadd hx hb d_law_187 ?_
      refine va_sld hx hb hX hbl hbA hS (hin 2 (by decide)) d_law_188 ?_
      refine lv_aload_n hx hb d_law_189 rfl (lv_at hl 0 rfl) ?_
      refine lv_iload hx hb d_law_190 (lv_at hl 4 rfl) ?_
      refine lv_iconst (v := 3) hx hb d_law_192 (by decide) ?_
      refine lv_iadd hx hb d_law_193 ?_
      refine va_sld hx hb hX hbl hbA hS (hin 3 (by decide)) d_law_194 ?_
      refine lv_aload_n hx hb d_law_195 rfl (lv_at hl 0 rfl) ?_
      refine lv_iload hx hb d_law_196 (lv_at hl 4 rfl) ?_
      refine lv_iconst (v := 4) hx hb d_law_198 (by decide) ?_
      refine lv_iadd hx hb d_law_199 ?_
      refine va_sld hx hb hX hbl hbA hS (hin 4 (by decide)) d_law_200 ?_
      refine lv_aload_n hx hb d_law_201 rfl (lv_at hl 0 rfl) ?_
      refine lv_iload hx hb d_law_202 (lv_at hl 4 rfl) ?_
      refine lv_iconst (v := 5) hx hb d_law_204 (by decide) ?_
      refine lv_iadd hx hb d_law_205 ?_
      refine va_sld hx hb hX hbl hbA hS (hin 5 (by decide)) d_law_206 ?_
      refine lv_aload_n hx hb d_law_207 rfl (lv_at hl 3 rfl) ?_
      refine r_callW (As := [.ref (a 11), .int (xs (nI (6 * k) + (1 : Int32)).toNatClampNeg), .int (xs (nI (6 * k) + (2 : Int32)).toNatClampNeg), .int (xs (nI (6 * k) + (3 : Int32)).toNatClampNeg), .int (xs (nI (6 * k) + (4 : Int32)).toNatClampNeg), .int (xs (nI (6 * k) + (5 : Int32)).toNatClampNeg), .ref (a 15)]) (rest := []) (n := 7) S hok (hTk H locs hS) (wr_mark l hst D cI cJ a g (xs (nI (6 * k) + (1 : Int32)).toNatClampNeg) (xs (nI (6 * k) + (2 : Int32)).toNatClampNeg) (xs (nI (6 * k) + (3 : Int32)).toNatClampNeg) (xs (nI (6 * k) + (4 : Int32)).toNatClampNeg) (xs (nI (6 * k) + (5 : Int32)).toNatClampNeg) σ (QpI k (F_Mo_mark (xs (nI (6 * k) + (1 : Int32)).toNatClampNeg) (xs (nI (6 * k) + (2 : Int32)).toNatClampNeg) (xs (nI (6 * k) + (3 : Int32)).toNatClampNeg) (xs (nI (6 * k) + (4 : Int32)).toNatClampNeg) (xs (nI (6 * k) + (5 : Int32)).toNatClampNeg))) (st_mark hLI hk1)) k_ml_La_48 k_st_La_mark k_ini_La k_with_La_mark rfl rfl (by decide +kernel) ⟨by decide, by decide⟩ hP hD hS hA (by show 16 + k + 1 ≤ 601024; omega) (by show 163064 + 6 * k + 6 ≤ 7293034; omega) hl.1 rfl rfl (Nat.le_of_ble_eq_true rfl) d_law_208 (fun r u H locs hf hP hD hS => ?_)
      obtain ⟨τ, g2⟩ := u
      have hf : F_Mo_mark (xs (nI (6 * k) + (1 : Int32)).toNatClampNeg) (xs (nI (6 * k) + (2 : Int32)).toNatClampNeg) (xs (nI (6 * k) + (3 : Int32)).toNatClampNeg) (xs (nI (6 * k) + (4 : Int32)).toNatClampNeg) (xs (nI (6 * k) + (5 : Int32)).toNatClampNeg) τ (fun r2 τ => F_Mo_thrown τ (fun t τ2 => t = r ∧ (r = 0 → g2 0 = r2.toInt64) ∧ LI (k + 1) τ2)) := hf
      have hP : va_P D classes (wLa cI cJ a g2 τ) H := hP
      have hD : va_D (fun q => s.heap.size ≤ q) (wLa cI cJ a g2 τ) := hD
      refine lv_istore hx hb d_law_211 hl (by decide) rfl (fun ls hl => ?_)
      have hl : lv_has ls 7 [(5, .int r), (0, .ref b), (1, .ref (a 11)), (2, .ref (a 12)), (3, .ref (a 15)), (4, .int (nI (6 * k)))] := hl
      refine lv_aload_n hx hb d_law_213 rfl (lv_at hl 3 rfl) ?_
      refine lv_aload_n hx hb d_law_214 rfl (lv_at hl 1 rfl) ?_
      refine lv_iload hx hb d_law_215 (lv_at hl 5 rfl) ?_
      refine lv_iconst (v := 1) hx hb d_law_217 (by decide) ?_
      refine lv_iadd hx hb d_law_218 ?_
      refine va_sld hx hb hX hbl hbA hS (hin 1 (by decide)) d_law_219 ?_
      refine lv_aload_n hx hb d_law_220 rfl (lv_at hl 1 rfl) ?_
      refine lv_iload hx hb d_law_221 (lv_at hl 5 rfl) ?_
      refine lv_iconst (v := 2) hx hb d_law_223 (by decide) ?_
      refine lv_iadd hx hb d_law_224 ?_
      refine va_sld hx hb hX hbl hbA hS (hin 2 (by decide)) d_law_225 ?_
      refine lv_aload_n hx hb d_law_226 rfl (lv_at hl 1 rfl) ?_
      refine lv_iload hx hb d_law_227 (lv_at hl 5 rfl) ?_
      refine lv_iconst (v := 3) hx hb d_law_229 (by decide) ?_
      refine lv_iadd hx hb d_law_230 ?_
      refine va_sld hx hb hX hbl hbA hS (hin 3 (by decide)) d_law_231 ?_
      refine lv_aload_n hx hb d_law_232 rfl (lv_at hl 1 rfl) ?_
      refine lv_iload hx hb d_law_233 (lv_at hl 5 rfl) ?_
      refine lv_iconst (v := 4) hx hb d_law_235 (by decide) ?_
      refine lv_iadd hx hb d_law_236 ?_
      refine va_sld hx hb hX hbl hbA hS (hin 4 (by decide)) d_law_237 ?_
      refine lv_aload_n hx hb d_law_238 rfl (lv_at hl 1 rfl) ?_
      refine lv_iload hx hb d_law_239 (lv_at hl 5 rfl) ?_
      refine lv_iconst (v := 5) hx hb d_law_241 (by decide) ?_
      refine lv_iadd hx hb d_law_242 ?_
      refine va_sld hx hb hX hbl hbA hS (hin 5 (by decide)) d_law_243 ?_
      refine r_callVi (As := [.int (xs (nI (6 * k) + (1 : Int32)).toNatClampNeg), .int (xs (nI (6 * k) + (2 : Int32)).toNatClampNeg), .int (xs (nI (6 * k) + (3 : Int32)).toNatClampNeg), .int (xs (nI (6 * k) + (4 : Int32)).toNatClampNeg), .int (xs (nI (6 * k) + (5 : Int32)).toNatClampNeg)]) (rest := []) (n := 5) (q0 := 12) S hok.1 (c_Mo_mark l D cI a (wO cJ (a 15) g2) (Fx_O _ _ _ _) (xs (nI (6 * k) + (1 : Int32)).toNatClampNeg) (xs (nI (6 * k) + (2 : Int32)).toNatClampNeg) (xs (nI (6 * k) + (3 : Int32)).toNatClampNeg) (xs (nI (6 * k) + (4 : Int32)).toNatClampNeg) (xs (nI (6 * k) + (5 : Int32)).toNatClampNeg) τ _ hf) k_ml_La_51 k_im_Mo_mark k_sel_Mo_mark k_ini_Mo k_code_Mo_mark rfl rfl (by decide +kernel) ⟨by decide, by decide⟩ rfl rfl hP hD hS hA (by show 16 + k + 1 ≤ 601024; omega) (by show 163064 + 6 * k + 6 ≤ 7293034; omega) hl.1 rfl rfl (Nat.le_of_ble_eq_true rfl) d_law_244 (fun r2 τ2 H locs hf hP hD hS => ?_)
      have hf : F_Mo_thrown τ2 (fun t τ2 => t = r ∧ (r = 0 → g2 0 = r2.toInt64) ∧ LI (k + 1) τ2) := hf
      have hP : va_P D classes (wLa cI cJ a g2 τ2) H := hP
      have hD : va_D (fun q => s.heap.size ≤ q) (wLa cI cJ a g2 τ2) := hD
      refine lv_istore hx hb d_law_247 hl (by decide) rfl (fun ls hl => ?_)
      have hl : lv_has ls 7 [(6, .int r2), (5, .int r), (0, .ref b), (1, .ref (a 11)), (2, .ref (a 12)), (3, .ref (a 15)), (4, .int (nI (6 * k)))] := hl
      refine lv_aload_n hx hb d_law_249 rfl (lv_at hl 4 rfl) ?_
      refine r_callVi (As := []) (rest := []) (n := 0) (q0 := 12) S hok.1 (c_Mo_thrown l D cI a (wO cJ (a 15) g2) (Fx_O _ _ _ _) τ2 _ hf) k_ml_La_44 k_im_Mo_thrown k_sel_Mo_thrown k_ini_Mo k_code_Mo_thrown rfl rfl (by decide +kernel) ⟨by decide, by decide⟩ rfl rfl hP hD hS hA (by show 16 + k + 1 ≤ 601024; omega) (by show 163064 + 6 * k + 6 ≤ 7293034; omega) hl.1 rfl rfl (Nat.le_of_ble_eq_true rfl) d_law_250 (fun t τ3 H locs hf hP hD hS => ?_)
      obtain ⟨ht, heq, hLI2⟩ := hf
      have hP : va_P D classes (wLa cI cJ a g2 τ3) H := hP
      have hD : va_D (fun q => s.heap.size ≤ q) (wLa cI cJ a g2 τ3) := hD
      refine lv_iload hx hb d_law_253 (lv_at hl 1 rfl) ?_
      refine lv_icmp_eq hx hb d_law_255 rfl (fun hc => ?_) (fun hc => absurd ht hc)
      refine lv_iload hx hb d_law_260 (lv_at hl 1 rfl) ?_
      refine lv_if_ne hx hb d_law_262 rfl (fun hc => ?_) (fun hc => ?_)
      · skip
        refine lv_goto hx hb d_law_277 rfl ?_
        refine W.widen (k := 16 + (k + 1)) (n := 163064 + 6 * (k + 1)) (by omega) (by omega) ?_
        exact next τ3 g2 H locs ls hLI2 hk1 hP hD hS (lv_sub hl [2, 3, 4, 5, 6] rfl)
      · skip
        refine lv_aload_n hx hb d_law_265 rfl (lv_at hl 5 rfl) ?_
        refine lv_iconst (v := 0) hx hb d_law_266 (by decide) ?_
        refine va_lald (cA := cJ) (n := 1) (f := g2) hx hb hok.2 hP 15 0 rfl rfl h0in d_law_267 ?_
        refine lv_iload hx hb d_law_268 (lv_at hl 0 rfl) ?_
        have hg : g2 (Int32.toNatClampNeg 0) = r2.toInt64 := heq hc
        rw [hg]
        refine lv_i2l hx hb d_law_270 rfl ?_
        refine W.lcmp hx hb d_law_271 ?_
        rw [lc]
        refine lv_if_eq hx hb d_law_272 rfl (fun hc2 => ?_) (fun hc2 => absurd rfl hc2)
        refine lv_goto hx hb d_law_277 rfl ?_
        refine W.widen (k := 16 + (k + 1)) (n := 163064 + 6 * (k + 1)) (by omega) (by omega) ?_
        exact next τ3 g2 H locs ls hLI2 hk1 hP hD hS (lv_sub hl [2, 3, 4, 5, 6] rfl)
    · refine lv_tableIn (off := 240) (tgt := 280) hx hb d_law_40 (by decide) (by decide) (by decide) (by decide) ?_
      refine lv_aload_n hx hb d_law_280 rfl (lv_at hl 1 rfl) ?_
      refine lv_aload_n hx hb d_law_281 rfl (lv_at hl 0 rfl) ?_
      refine lv_iload hx hb d_law_282 (lv_at hl 4 rfl) ?_
      refine lv_iconst (v := 1) hx hb d_law_284 (by decide) ?_
      refine lv_iadd hx hb d_law_285 ?_
      refine va_sld hx hb hX hbl hbA hS (hin 1 (by decide)) d_law_286 ?_
      refine lv_aload_n hx hb d_law_287 rfl (lv_at hl 0 rfl) ?_
      refine lv_iload hx hb d_law_288 (lv_at hl 4 rfl) ?_
      refine lv_iconst (v := 2) hx hb d_law_290 (by decide) ?_
      refine lv_iadd hx hb d_law_291 ?_
      refine va_sld hx hb hX hbl hbA hS (hin 2 (by decide)) d_law_292 ?_
      refine lv_aload_n hx hb d_law_293 rfl (lv_at hl 3 rfl) ?_
      refine r_callW (As := [.ref (a 11), .int (xs (nI (6 * k) + (1 : Int32)).toNatClampNeg), .int (xs (nI (6 * k) + (2 : Int32)).toNatClampNeg), .ref (a 15)]) (rest := []) (n := 4) S hok (hTk H locs hS) (wr_get l hst D cI cJ a g (xs (nI (6 * k) + (1 : Int32)).toNatClampNeg) (xs (nI (6 * k) + (2 : Int32)).toNatClampNeg) σ (QpI k (F_Mo_get (xs (nI (6 * k) + (1 : Int32)).toNatClampNeg) (xs (nI (6 * k) + (2 : Int32)).toNatClampNeg))) (st_get hLI)) k_ml_La_52 k_st_La_get k_ini_La k_with_La_get rfl rfl (by decide +kernel) ⟨by decide, by decide⟩ hP hD hS hA (by show 16 + k + 1 ≤ 601024; omega) (by show 163064 + 6 * k + 6 ≤ 7293034; omega) hl.1 rfl rfl (Nat.le_of_ble_eq_true rfl) d_law_294 (fun r u H locs hf hP hD hS => ?_)
      obtain ⟨τ, g2⟩ := u
      have hf : F_Mo_get (xs (nI (6 * k) + (1 : Int32)).toNatClampNeg) (xs (nI (6 * k) + (2 : Int32)).toNatClampNeg) τ (fun r2 τ => F_Mo_thrown τ (fun t τ2 => t = r ∧ (r = 0 → g2 0 = r2.toInt64) ∧ LI (k + 1) τ2)) := hf
      have hP : va_P D classes (wLa cI cJ a g2 τ) H := hP
      have hD : va_D (fun q => s.heap.size ≤ q) (wLa cI cJ a g2 τ) := hD
      refine lv_istore hx hb d_law_297 hl (by decide) rfl (fun ls hl => ?_)
      have hl : lv_has ls 7 [(5, .int r), (0, .ref b), (1, .ref (a 11)), (2, .ref (a 12)), (3, .ref (a 15)), (4, .int (nI (6 * k)))] := hl
      refine lv_aload_n hx hb d_law_299 rfl (lv_at hl 3 rfl) ?_
      refine lv_aload_n hx hb d_law_300 rfl (lv_at hl 1 rfl) ?_
      refine lv_iload hx hb d_law_301 (lv_at hl 5 rfl) ?_
      refine lv_iconst (v := 1) hx hb d_law_303 (by decide) ?_
      refine lv_iadd hx hb d_law_304 ?_
      refine va_sld hx hb hX hbl hbA hS (hin 1 (by decide)) d_law_305 ?_
      refine lv_aload_n hx hb d_law_306 rfl (lv_at hl 1 rfl) ?_
      refine lv_iload hx hb d_law_307 (lv_at hl 5 rfl) ?_
      refine lv_iconst (v := 2) hx hb d_law_309 (by decide) ?_
      refine lv_iadd hx hb d_law_310 ?_
      refine va_sld hx hb hX hbl hbA hS (hin 2 (by decide)) d_law_311 ?_
      refine r_callVi (As := [.int (xs (nI (6 * k) + (1 : Int32)).toNatClampNeg), .int (xs (nI (6 * k) + (2 : Int32)).toNatClampNeg)]) (rest := []) (n := 2) (q0 := 12) S hok.1 (c_Mo_get l D cI a (wO cJ (a 15) g2) (Fx_O _ _ _ _) (xs (nI (6 * k) + (1 : Int32)).toNatClampNeg) (xs (nI (6 * k) + (2 : Int32)).toNatClampNeg) τ _ hf) k_ml_La_55 k_im_Mo_get k_sel_Mo_get k_ini_Mo k_code_Mo_get rfl rfl (by decide +kernel) ⟨by decide, by decide⟩ rfl rfl hP hD hS hA (by show 16 + k + 1 ≤ 601024; omega) (by show 163064 + 6 * k + 6 ≤ 7293034; omega) hl.1 rfl rfl (Nat.le_of_ble_eq_true rfl) d_law_312 (fun r2 τ2 H locs hf hP hD hS => ?_)
      have hf : F_Mo_thrown τ2 (fun t τ2 => t = r ∧ (r = 0 → g2 0 = r2.toInt64) ∧ LI (k + 1) τ2) := hf
      have hP : va_P D classes (wLa cI cJ a g2 τ2) H := hP
      have hD : va_D (fun q => s.heap.size ≤ q) (wLa cI cJ a g2 τ2) := hD
      refine lv_istore hx hb d_law_315 hl (by decide) rfl (fun ls hl => ?_)
      have hl : lv_has ls 7 [(6, .int r2), (5, .int r), (0, .ref b), (1, .ref (a 11)), (2, .ref (a 12)), (3, .ref (a 15)), (4, .int (nI (6 * k)))] := hl
      refine lv_aload_n hx hb d_law_317 rfl (lv_at hl 4 rfl) ?_
      refine r_callVi (As := []) (rest := []) (n := 0) (q0 := 12) S hok.1 (c_Mo_thrown l D cI a (wO cJ (a 15) g2) (Fx_O _ _ _ _) τ2 _ hf) k_ml_La_44 k_im_Mo_thrown k_sel_Mo_thrown k_ini_Mo k_code_Mo_thrown rfl rfl (by decide +kernel) ⟨by decide, by decide⟩ rfl rfl hP hD hS hA (by show 16 + k + 1 ≤ 601024; omega) (by show 163064 + 6 * k + 6 ≤ 7293034; omega) hl.1 rfl rfl (Nat.le_of_ble_eq_true rfl) d_law_318 (fun t τ3 H locs hf hP hD hS => ?_)
      obtain ⟨ht, heq, hLI2⟩ := hf
      have hP : va_P D classes (wLa cI cJ a g2 τ3) H := hP
      have hD : va_D (fun q => s.heap.size ≤ q) (wLa cI cJ a g2 τ3) := hD
      refine lv_iload hx hb d_law_321 (lv_at hl 1 rfl) ?_
      refine lv_icmp_eq hx hb d_law_323 rfl (fun hc => ?_) (fun hc => absurd ht hc)
      refine lv_iload hx hb d_law_328 (lv_at hl 1 rfl) ?_
      refine lv_if_ne hx hb d_law_330 rfl (fun hc => ?_) (fun hc => ?_)
      · skip
        refine lv_goto hx hb d_law_345 rfl ?_
        refine W.widen (k := 16 + (k + 1)) (n := 163064 + 6 * (k + 1)) (by omega) (by omega) ?_
        exact next τ3 g2 H locs ls hLI2 hk1 hP hD hS (lv_sub hl [2, 3, 4, 5, 6] rfl)
      · skip
        refine lv_aload_n hx hb d_law_333 rfl (lv_at hl 5 rfl) ?_
        refine lv_iconst (v := 0) hx hb d_law_334 (by decide) ?_
        refine va_lald (cA := cJ) (n := 1) (f := g2) hx hb hok.2 hP 15 0 rfl rfl h0in d_law_335 ?_
        refine lv_iload hx hb d_law_336 (lv_at hl 0 rfl) ?_
        have hg : g2 (Int32.toNatClampNeg 0) = r2.toInt64 := heq hc
        rw [hg]
        refine lv_i2l hx hb d_law_338 rfl ?_
        refine W.lcmp hx hb d_law_339 ?_
        rw [lc]
        refine lv_if_eq hx hb d_law_340 rfl (fun hc2 => ?_) (fun hc2 => absurd rfl hc2)
        refine lv_goto hx hb d_law_345 rfl ?_
        refine W.widen (k := 16 + (k + 1)) (n := 163064 + 6 * (k + 1)) (by omega) (by omega) ?_
        exact next τ3 g2 H locs ls hLI2 hk1 hP hD hS (lv_sub hl [2, 3, 4, 5, 6] rfl)
    · refine lv_tableIn (off := 308) (tgt := 348) hx hb d_law_40 (by decide) (by decide) (by decide) (by decide) ?_
      refine lv_aload_n hx hb d_law_348 rfl (lv_at hl 1 rfl) ?_
      refine lv_aload_n hx hb d_law_349 rfl (lv_at hl 0 rfl) ?_
      refine lv_iload hx hb d_law_350 (lv_at hl 4 rfl) ?_
      refine lv_iconst (v := 1) hx hb d_law_352 (by decide) ?_
      refine lv_iadd hx hb d_law_353 ?_
      refine va_sld hx hb hX hbl hbA hS (hin 1 (by decide)) d_law_354 ?_
      refine lv_aload_n hx hb d_law_355 rfl (lv_at hl 0 rfl) ?_
      refine lv_iload hx hb d_law_356 (lv_at hl 4 rfl) ?_
      refine lv_iconst (v := 2) hx hb d_law_358 (by decide) ?_
      refine lv_iadd hx hb d_law_359 ?_
      refine va_sld hx hb hX hbl hbA hS (hin 2 (by decide)) d_law_360 ?_
      refine lv_aload_n hx hb d_law_361 rfl (lv_at hl 3 rfl) ?_
      refine r_callW (As := [.ref (a 11), .int (xs (nI (6 * k) + (1 : Int32)).toNatClampNeg), .int (xs (nI (6 * k) + (2 : Int32)).toNatClampNeg), .ref (a 15)]) (rest := []) (n := 4) S hok (hTk H locs hS) (wr_change l hst D cI cJ a g (xs (nI (6 * k) + (1 : Int32)).toNatClampNeg) (xs (nI (6 * k) + (2 : Int32)).toNatClampNeg) σ (QpI k (F_Mo_change (xs (nI (6 * k) + (1 : Int32)).toNatClampNeg) (xs (nI (6 * k) + (2 : Int32)).toNatClampNeg))) (st_change hLI)) k_ml_La_56 k_st_La_change k_ini_La k_with_La_change rfl rfl (by decide +kernel) ⟨by decide, by decide⟩ hP hD hS hA (by show 16 + k + 1 ≤ 601024; omega) (by show 163064 + 6 * k + 6 ≤ 7293034; omega) hl.1 rfl rfl (Nat.le_of_ble_eq_true rfl) d_law_362 (fun r u H locs hf hP hD hS => ?_)
      obtain ⟨τ, g2⟩ := u
      have hf : F_Mo_change (xs (nI (6 * k) + (1 : Int32)).toNatClampNeg) (xs (nI (6 * k) + (2 : Int32)).toNatClampNeg) τ (fun r2 τ => F_Mo_thrown τ (fun t τ2 => t = r ∧ (r = 0 → g2 0 = r2.toInt64) ∧ LI (k + 1) τ2)) := hf
      have hP : va_P D classes (wLa cI cJ a g2 τ) H := hP
      have hD : va_D (fun q => s.heap.size ≤ q) (wLa cI cJ a g2 τ) := hD
      refine lv_istore hx hb d_law_365 hl (by decide) rfl (fun ls hl => ?_)
      have hl : lv_has ls 7 [(5, .int r), (0, .ref b), (1, .ref (a 11)), (2, .ref (a 12)), (3, .ref (a 15)), (4, .int (nI (6 * k)))] := hl
      refine lv_aload_n hx hb d_law_367 rfl (lv_at hl 3 rfl) ?_
      refine lv_aload_n hx hb d_law_368 rfl (lv_at hl 1 rfl) ?_
      refine lv_iload hx hb d_law_369 (lv_at hl 5 rfl) ?_
      refine lv_iconst (v := 1) hx hb d_law_371 (by decide) ?_
      refine lv_iadd hx hb d_law_372 ?_
      refine va_sld hx hb hX hbl hbA hS (hin 1 (by decide)) d_law_373 ?_
      refine lv_aload_n hx hb d_law_374 rfl (lv_at hl 1 rfl) ?_
      refine lv_iload hx hb d_law_375 (lv_at hl 5 rfl) ?_
      refine lv_iconst (v := 2) hx hb d_law_377 (by decide) ?_
      refine lv_iadd hx hb d_law_378 ?_
      refine va_sld hx hb hX hbl hbA hS (hin 2 (by decide)) d_law_379 ?_
      refine r_callVi (As := [.int (xs (nI (6 * k) + (1 : Int32)).toNatClampNeg), .int (xs (nI (6 * k) + (2 : Int32)).toNatClampNeg)]) (rest := []) (n := 2) (q0 := 12) S hok.1 (c_Mo_change l D cI a (wO cJ (a 15) g2) (Fx_O _ _ _ _) (xs (nI (6 * k) + (1 : Int32)).toNatClampNeg) (xs (nI (6 * k) + (2 : Int32)).toNatClampNeg) τ _ hf) k_ml_La_58 k_im_Mo_change k_sel_Mo_change k_ini_Mo k_code_Mo_change rfl rfl (by decide +kernel) ⟨by decide, by decide⟩ rfl rfl hP hD hS hA (by show 16 + k + 1 ≤ 601024; omega) (by show 163064 + 6 * k + 6 ≤ 7293034; omega) hl.1 rfl rfl (Nat.le_of_ble_eq_true rfl) d_law_380 (fun r2 τ2 H locs hf hP hD hS => ?_)
      have hf : F_Mo_thrown τ2 (fun t τ2 => t = r ∧ (r = 0 → g2 0 = r2.toInt64) ∧ LI (k + 1) τ2) := hf
      have hP : va_P D classes (wLa cI cJ a g2 τ2) H := hP
      have hD : va_D (fun q => s.heap.size ≤ q) (wLa cI cJ a g2 τ2) := hD
      refine lv_istore hx hb d_law_383 hl (by decide) rfl (fun ls hl => ?_)
      have hl : lv_has ls 7 [(6, .int r2), (5, .int r), (0, .ref b), (1, .ref (a 11)), (2, .ref (a 12)), (3, .ref (a 15)), (4, .int (nI (6 * k)))] := hl
      refine lv_aload_n hx hb d_law_385 rfl (lv_at hl 4 rfl) ?_
      refine r_callVi (As := []) (rest := []) (n := 0) (q0 := 12) S hok.1 (c_Mo_thrown l D cI a (wO cJ (a 15) g2) (Fx_O _ _ _ _) τ2 _ hf) k_ml_La_44 k_im_Mo_thrown k_sel_Mo_thrown k_ini_Mo k_code_Mo_thrown rfl rfl (by decide +kernel) ⟨by decide, by decide⟩ rfl rfl hP hD hS hA (by show 16 + k + 1 ≤ 601024; omega) (by show 163064 + 6 * k + 6 ≤ 7293034; omega) hl.1 rfl rfl (Nat.le_of_ble_eq_true rfl) d_law_386 (fun t τ3 H locs hf hP hD hS => ?_)
      obtain ⟨ht, heq, hLI2⟩ := hf
      have hP : va_P D classes (wLa cI cJ a g2 τ3) H := hP
      have hD : va_D (fun q => s.heap.size ≤ q) (wLa cI cJ a g2 τ3) := hD
      refine lv_iload hx hb d_law_389 (lv_at hl 1 rfl) ?_
      refine lv_icmp_eq hx hb d_law_391 rfl (fun hc => ?_) (fun hc => absurd ht hc)
      refine lv_iload hx hb d_law_396 (lv_at hl 1 rfl) ?_
      refine lv_if_ne hx hb d_law_398 rfl (fun hc => ?_) (fun hc => ?_)
      · skip
        refine lv_goto hx hb d_law_413 rfl ?_
        refine W.widen (k := 16 + (k + 1)) (n := 163064 + 6 * (k + 1)) (by omega) (by omega) ?_
        exact next τ3 g2 H locs ls hLI2 hk1 hP hD hS (lv_sub hl [2, 3, 4, 5, 6] rfl)
      · skip
        refine lv_aload_n hx hb d_law_401 rfl (lv_at hl 5 rfl) ?_
        refine lv_iconst (v := 0) hx hb d_law_402 (by decide) ?_
        refine va_lald (cA := cJ) (n := 1) (f := g2) hx hb hok.2 hP 15 0 rfl rfl h0in d_law_403 ?_
        refine lv_iload hx hb d_law_404 (lv_at hl 0 rfl) ?_
        have hg : g2 (Int32.toNatClampNeg 0) = r2.toInt64 := heq hc
        rw [hg]
        refine lv_i2l hx hb d_law_406 rfl ?_
        refine W.lcmp hx hb d_law_407 ?_
        rw [lc]
        refine lv_if_eq hx hb d_law_408 rfl (fun hc2 => ?_) (fun hc2 => absurd rfl hc2)
        refine lv_goto hx hb d_law_413 rfl ?_
        refine W.widen (k := 16 + (k + 1)) (n := 163064 + 6 * (k + 1)) (by omega) (by omega) ?_
        exact next τ3 g2 H locs ls hLI2 hk1 hP hD hS (lv_sub hl [2, 3, 4, 5, 6] rfl)
    · refine lv_tableIn (off := 376) (tgt := 416) hx hb d_law_40 (by decide) (by decide) (by decide) (by decide) ?_
      refine lv_aload_n hx hb d_law_416 rfl (lv_at hl 1 rfl) ?_
      refine lv_aload_n hx hb d_law_417 rfl (lv_at hl 0 rfl) ?_
      refine lv_iload hx hb d_law_418 (lv_at hl 4 rfl) ?_
      refine lv_iconst (v := 1) hx hb d_law_420 (by decide) ?_
      refine lv_iadd hx hb d_law_421 ?_
      refine va_sld hx hb hX hbl hbA hS (hin 1 (by decide)) d_law_422 ?_
      refine lv_aload_n hx hb d_law_423 rfl (lv_at hl 0 rfl) ?_
      refine lv_iload hx hb d_law_424 (lv_at hl 4 rfl) ?_
      refine lv_iconst (v := 2) hx hb d_law_426 (by decide) ?_
      refine lv_iadd hx hb d_law_427 ?_
      refine va_sld hx hb hX hbl hbA hS (hin 2 (by decide)) d_law_428 ?_
      refine lv_aload_n hx hb d_law_429 rfl (lv_at hl 3 rfl) ?_
      refine r_callW (As := [.ref (a 11), .int (xs (nI (6 * k) + (1 : Int32)).toNatClampNeg), .int (xs (nI (6 * k) + (2 : Int32)).toNatClampNeg), .ref (a 15)]) (rest := []) (n := 4) S hok (hTk H locs hS) (wr_alike l hst D cI cJ a g (xs (nI (6 * k) + (1 : Int32)).toNatClampNeg) (xs (nI (6 * k) + (2 : Int32)).toNatClampNeg) σ (QpZ k (F_Mo_alike (xs (nI (6 * k) + (1 : Int32)).toNatClampNeg) (xs (nI (6 * k) + (2 : Int32)).toNatClampNeg))) (st_alike hLI)) k_ml_La_59 k_st_La_alike k_ini_La k_with_La_alike rfl rfl (by decide +kernel) ⟨by decide, by decide⟩ hP hD hS hA (by show 16 + k + 1 ≤ 601024; omega) (by show 163064 + 6 * k + 6 ≤ 7293034; omega) hl.1 rfl rfl (Nat.le_of_ble_eq_true rfl) d_law_430 (fun r u H locs hf hP hD hS => ?_)
      obtain ⟨τ, g2⟩ := u
      have hf : F_Mo_alike (xs (nI (6 * k) + (1 : Int32)).toNatClampNeg) (xs (nI (6 * k) + (2 : Int32)).toNatClampNeg) τ (fun r2 τ => F_Mo_thrown τ (fun t τ2 => t = r ∧ (r = 0 → g2 0 = (if r2 = 0 then 0 else 1)) ∧ LI (k + 1) τ2)) := hf
      have hP : va_P D classes (wLa cI cJ a g2 τ) H := hP
      have hD : va_D (fun q => s.heap.size ≤ q) (wLa cI cJ a g2 τ) := hD
      refine lv_istore hx hb d_law_433 hl (by decide) rfl (fun ls hl => ?_)
      have hl : lv_has ls 7 [(5, .int r), (0, .ref b), (1, .ref (a 11)), (2, .ref (a 12)), (3, .ref (a 15)), (4, .int (nI (6 * k)))] := hl
      refine lv_aload_n hx hb d_law_435 rfl (lv_at hl 3 rfl) ?_
      refine lv_aload_n hx hb d_law_436 rfl (lv_at hl 1 rfl) ?_
      refine lv_iload hx hb d_law_437 (lv_at hl 5 rfl) ?_
      refine lv_iconst (v := 1) hx hb d_law_439 (by decide) ?_
      refine lv_iadd hx hb d_law_440 ?_
      refine va_sld hx hb hX hbl hbA hS (hin 1 (by decide)) d_law_441 ?_
      refine lv_aload_n hx hb d_law_442 rfl (lv_at hl 1 rfl) ?_
      refine lv_iload hx hb d_law_443 (lv_at hl 5 rfl) ?_
      refine lv_iconst (v := 2) hx hb d_law_445 (by decide) ?_
      refine lv_iadd hx hb d_law_446 ?_
      refine va_sld hx hb hX hbl hbA hS (hin 2 (by decide)) d_law_447 ?_
      refine r_callVi (As := [.int (xs (nI (6 * k) + (1 : Int32)).toNatClampNeg), .int (xs (nI (6 * k) + (2 : Int32)).toNatClampNeg)]) (rest := []) (n := 2) (q0 := 12) S hok.1 (c_Mo_alike l D cI a (wO cJ (a 15) g2) (Fx_O _ _ _ _) (xs (nI (6 * k) + (1 : Int32)).toNatClampNeg) (xs (nI (6 * k) + (2 : Int32)).toNatClampNeg) τ _ hf) k_ml_La_61 k_im_Mo_alike k_sel_Mo_alike k_ini_Mo k_code_Mo_alike rfl rfl (by decide +kernel) ⟨by decide, by decide⟩ rfl rfl hP hD hS hA (by show 16 + k + 1 ≤ 601024; omega) (by show 163064 + 6 * k + 6 ≤ 7293034; omega) hl.1 rfl rfl (Nat.le_of_ble_eq_true rfl) d_law_448 (fun r2 τ2 H locs hf hP hD hS => ?_)
      have hf : F_Mo_thrown τ2 (fun t τ2 => t = r ∧ (r = 0 → g2 0 = (if r2 = 0 then 0 else 1)) ∧ LI (k + 1) τ2) := hf
      have hP : va_P D classes (wLa cI cJ a g2 τ2) H := hP
      have hD : va_D (fun q => s.heap.size ≤ q) (wLa cI cJ a g2 τ2) := hD
      refine lv_istore hx hb d_law_451 hl (by decide) rfl (fun ls hl => ?_)
      have hl : lv_has ls 7 [(6, .int r2), (5, .int r), (0, .ref b), (1, .ref (a 11)), (2, .ref (a 12)), (3, .ref (a 15)), (4, .int (nI (6 * k)))] := hl
      refine lv_aload_n hx hb d_law_453 rfl (lv_at hl 4 rfl) ?_
      refine r_callVi (As := []) (rest := []) (n := 0) (q0 := 12) S hok.1 (c_Mo_thrown l D cI a (wO cJ (a 15) g2) (Fx_O _ _ _ _) τ2 _ hf) k_ml_La_44 k_im_Mo_thrown k_sel_Mo_thrown k_ini_Mo k_code_Mo_thrown rfl rfl (by decide +kernel) ⟨by decide, by decide⟩ rfl rfl hP hD hS hA (by show 16 + k + 1 ≤ 601024; omega) (by show 163064 + 6 * k + 6 ≤ 7293034; omega) hl.1 rfl rfl (Nat.le_of_ble_eq_true rfl) d_law_454 (fun t τ3 H locs hf hP hD hS => ?_)
      obtain ⟨ht, heq, hLI2⟩ := hf
      have hP : va_P D classes (wLa cI cJ a g2 τ3) H := hP
      have hD : va_D (fun q => s.heap.size ≤ q) (wLa cI cJ a g2 τ3) := hD
      refine lv_iload hx hb d_law_457 (lv_at hl 1 rfl) ?_
      refine lv_icmp_eq hx hb d_law_459 rfl (fun hc => ?_) (fun hc => absurd ht hc)
      refine lv_iload hx hb d_law_464 (lv_at hl 1 rfl) ?_
      refine lv_if_ne hx hb d_law_466 rfl (fun hc => ?_) (fun hc => ?_)
      · skip
        refine lv_goto hx hb d_law_488 rfl ?_
        refine W.widen (k := 16 + (k + 1)) (n := 163064 + 6 * (k + 1)) (by omega) (by omega) ?_
        exact next τ3 g2 H locs ls hLI2 hk1 hP hD hS (lv_sub hl [2, 3, 4, 5, 6] rfl)
      · skip
        refine lv_aload_n hx hb d_law_469 rfl (lv_at hl 5 rfl) ?_
        refine lv_iconst (v := 0) hx hb d_law_470 (by decide) ?_
        refine va_lald (cA := cJ) (n := 1) (f := g2) hx hb hok.2 hP 15 0 rfl rfl h0in d_law_471 ?_
        refine lv_iload hx hb d_law_472 (lv_at hl 0 rfl) ?_
        have hg : g2 (Int32.toNatClampNeg 0) = (if r2 = 0 then 0 else 1) := heq hc
        rw [hg]
        refine lv_if_eq hx hb d_law_474 rfl (fun hc3 => ?_) (fun hc3 => ?_)
        · rw [if_pos hc3]
          refine lv_lconst (v := 0) hx hb d_law_481 rfl ?_
          refine W.lcmp hx hb d_law_482 ?_
          rw [lc]
          refine lv_if_eq hx hb d_law_483 rfl (fun hc2 => ?_) (fun hc2 => absurd rfl hc2)
          refine lv_goto hx hb d_law_488 rfl ?_
          refine W.widen (k := 16 + (k + 1)) (n := 163064 + 6 * (k + 1)) (by omega) (by omega) ?_
          exact next τ3 g2 H locs ls hLI2 hk1 hP hD hS (lv_sub hl [2, 3, 4, 5, 6] rfl)
        · rw [if_neg hc3]
          refine lv_lconst (v := 1) hx hb d_law_477 rfl ?_
          refine lv_goto hx hb d_law_478 rfl ?_
          refine W.lcmp hx hb d_law_482 ?_
          rw [lc]
          refine lv_if_eq hx hb d_law_483 rfl (fun hc2 => ?_) (fun hc2 => absurd rfl hc2)
          refine lv_goto hx hb d_law_488 rfl ?_
          refine W.widen (k := 16 + (k + 1)) (n := 163064 + 6 * (k + 1)) (by omega) (by omega) ?_
          exact next τ3 g2 H locs ls hLI2 hk1 hP hD hS (lv_sub hl [2, 3, 4, 5, 6] rfl)
    · refine lv_tableIn (off := 451) (tgt := 491) hx hb d_law_40 (by decide) (by decide) (by decide) (by decide) ?_
      refine lv_aload_n hx hb d_law_491 rfl (lv_at hl 1 rfl) ?_
      refine lv_aload_n hx hb d_law_492 rfl (lv_at hl 0 rfl) ?_
      refine lv_iload hx hb d_law_493 (lv_at hl 4 rfl) ?_
      refine lv_iconst (v := 1) hx hb d_law_495 (by decide) ?_
      refine lv_iadd hx hb d_law_496 ?_
      refine va_sld hx hb hX hbl hbA hS (hin 1 (by decide)) d_law_497 ?_
      refine lv_aload_n hx hb d_law_498 rfl (lv_at hl 0 rfl) ?_
      refine lv_iload hx hb d_law_499 (lv_at hl 4 rfl) ?_
      refine lv_iconst (v := 2) hx hb d_law_501 (by decide) ?_
      refine lv_iadd hx hb d_law_502 ?_
      refine va_sld hx hb hX hbl hbA hS (hin 2 (by decide)) d_law_503 ?_
      refine lv_aload_n hx hb d_law_504 rfl (lv_at hl 0 rfl) ?_
      refine lv_iload hx hb d_law_505 (lv_at hl 4 rfl) ?_
      refine lv_iconst (v := 3) hx hb d_law_507 (by decide) ?_
      refine lv_iadd hx hb d_law_508 ?_
      refine va_sld hx hb hX hbl hbA hS (hin 3 (by decide)) d_law_509 ?_
      refine lv_aload_n hx hb d_law_510 rfl (lv_at hl 3 rfl) ?_
      refine r_callW (As := [.ref (a 11), .int (xs (nI (6 * k) + (1 : Int32)).toNatClampNeg), .int (xs (nI (6 * k) + (2 : Int32)).toNatClampNeg), .int (xs (nI (6 * k) + (3 : Int32)).toNatClampNeg), .ref (a 15)]) (rest := []) (n := 5) S hok (hTk H locs hS) (wr_hash l hst D cI cJ a g (xs (nI (6 * k) + (1 : Int32)).toNatClampNeg) (xs (nI (6 * k) + (2 : Int32)).toNatClampNeg) (xs (nI (6 * k) + (3 : Int32)).toNatClampNeg) σ (QpI k (F_Mo_hash (xs (nI (6 * k) + (1 : Int32)).toNatClampNeg) (xs (nI (6 * k) + (2 : Int32)).toNatClampNeg) (xs (nI (6 * k) + (3 : Int32)).toNatClampNeg))) (st_hash hLI)) k_ml_La_62 k_st_La_hash k_ini_La k_with_La_hash rfl rfl (by decide +kernel) ⟨by decide, by decide⟩ hP hD hS hA (by show 16 + k + 1 ≤ 601024; omega) (by show 163064 + 6 * k + 6 ≤ 7293034; omega) hl.1 rfl rfl (Nat.le_of_ble_eq_true rfl) d_law_511 (fun r u H locs hf hP hD hS => ?_)
      obtain ⟨τ, g2⟩ := u
      have hf : F_Mo_hash (xs (nI (6 * k) + (1 : Int32)).toNatClampNeg) (xs (nI (6 * k) + (2 : Int32)).toNatClampNeg) (xs (nI (6 * k) + (3 : Int32)).toNatClampNeg) τ (fun r2 τ => F_Mo_thrown τ (fun t τ2 => t = r ∧ (r = 0 → g2 0 = r2.toInt64) ∧ LI (k + 1) τ2)) := hf
      have hP : va_P D classes (wLa cI cJ a g2 τ) H := hP
      have hD : va_D (fun q => s.heap.size ≤ q) (wLa cI cJ a g2 τ) := hD
      refine lv_istore hx hb d_law_514 hl (by decide) rfl (fun ls hl => ?_)
      have hl : lv_has ls 7 [(5, .int r), (0, .ref b), (1, .ref (a 11)), (2, .ref (a 12)), (3, .ref (a 15)), (4, .int (nI (6 * k)))] := hl
      refine lv_aload_n hx hb d_law_516 rfl (lv_at hl 3 rfl) ?_
      refine lv_aload_n hx hb d_law_517 rfl (lv_at hl 1 rfl) ?_
      refine lv_iload hx hb d_law_518 (lv_at hl 5 rfl) ?_
      refine lv_iconst (v := 1) hx hb d_law_520 (by decide) ?_
      refine lv_iadd hx hb d_law_521 ?_
      refine va_sld hx hb hX hbl hbA hS (hin 1 (by decide)) d_law_522 ?_
      refine lv_aload_n hx hb d_law_523 rfl (lv_at hl 1 rfl) ?_
      refine lv_iload hx hb d_law_524 (lv_at hl 5 rfl) ?_
      refine lv_iconst (v := 2) hx hb d_law_526 (by decide) ?_
      refine lv_iadd hx hb d_law_527 ?_
      refine va_sld hx hb hX hbl hbA hS (hin 2 (by decide)) d_law_528 ?_
      refine lv_aload_n hx hb d_law_529 rfl (lv_at hl 1 rfl) ?_
      refine lv_iload hx hb d_law_530 (lv_at hl 5 rfl) ?_
      refine lv_iconst (v := 3) hx hb d_law_532 (by decide) ?_
      refine lv_iadd hx hb d_law_533 ?_
      refine va_sld hx hb hX hbl hbA hS (hin 3 (by decide)) d_law_534 ?_
      refine r_callVi (As := [.int (xs (nI (6 * k) + (1 : Int32)).toNatClampNeg), .int (xs (nI (6 * k) + (2 : Int32)).toNatClampNeg), .int (xs (nI (6 * k) + (3 : Int32)).toNatClampNeg)]) (rest := []) (n := 3) (q0 := 12) S hok.1 (c_Mo_hash l D cI a (wO cJ (a 15) g2) (Fx_O _ _ _ _) (xs (nI (6 * k) + (1 : Int32)).toNatClampNeg) (xs (nI (6 * k) + (2 : Int32)).toNatClampNeg) (xs (nI (6 * k) + (3 : Int32)).toNatClampNeg) τ _ hf) k_ml_La_65 k_im_Mo_hash k_sel_Mo_hash k_ini_Mo k_code_Mo_hash rfl rfl (by decide +kernel) ⟨by decide, by decide⟩ rfl rfl hP hD hS hA (by show 16 + k + 1 ≤ 601024; omega) (by show 163064 + 6 * k + 6 ≤ 7293034; omega) hl.1 rfl rfl (Nat.le_of_ble_eq_true rfl) d_law_535 (fun r2 τ2 H locs hf hP hD hS => ?_)
      have hf : F_Mo_thrown τ2 (fun t τ2 => t = r ∧ (r = 0 → g2 0 = r2.toInt64) ∧ LI (k + 1) τ2) := hf
      have hP : va_P D classes (wLa cI cJ a g2 τ2) H := hP
      have hD : va_D (fun q => s.heap.size ≤ q) (wLa cI cJ a g2 τ2) := hD
      refine lv_istore hx hb d_law_538 hl (by decide) rfl (fun ls hl => ?_)
      have hl : lv_has ls 7 [(6, .int r2), (5, .int r), (0, .ref b), (1, .ref (a 11)), (2, .ref (a 12)), (3, .ref (a 15)), (4, .int (nI (6 * k)))] := hl
      refine lv_aload_n hx hb d_law_540 rfl (lv_at hl 4 rfl) ?_
      refine r_callVi (As := []) (rest := []) (n := 0) (q0 := 12) S hok.1 (c_Mo_thrown l D cI a (wO cJ (a 15) g2) (Fx_O _ _ _ _) τ2 _ hf) k_ml_La_44 k_im_Mo_thrown k_sel_Mo_thrown k_ini_Mo k_code_Mo_thrown rfl rfl (by decide +kernel) ⟨by decide, by decide⟩ rfl rfl hP hD hS hA (by show 16 + k + 1 ≤ 601024; omega) (by show 163064 + 6 * k + 6 ≤ 7293034; omega) hl.1 rfl rfl (Nat.le_of_ble_eq_true rfl) d_law_541 (fun t τ3 H locs hf hP hD hS => ?_)
      obtain ⟨ht, heq, hLI2⟩ := hf
      have hP : va_P D classes (wLa cI cJ a g2 τ3) H := hP
      have hD : va_D (fun q => s.heap.size ≤ q) (wLa cI cJ a g2 τ3) := hD
      refine lv_iload hx hb d_law_544 (lv_at hl 1 rfl) ?_
      refine lv_icmp_eq hx hb d_law_546 rfl (fun hc => ?_) (fun hc => absurd ht hc)
      refine lv_iload hx hb d_law_551 (lv_at hl 1 rfl) ?_
      refine lv_if_ne hx hb d_law_553 rfl (fun hc => ?_) (fun hc => ?_)
      · skip
        refine lv_goto hx hb d_law_568 rfl ?_
        refine W.widen (k := 16 + (k + 1)) (n := 163064 + 6 * (k + 1)) (by omega) (by omega) ?_
        exact next τ3 g2 H locs ls hLI2 hk1 hP hD hS (lv_sub hl [2, 3, 4, 5, 6] rfl)
      · skip
        refine lv_aload_n hx hb d_law_556 rfl (lv_at hl 5 rfl) ?_
        refine lv_iconst (v := 0) hx hb d_law_557 (by decide) ?_
        refine va_lald (cA := cJ) (n := 1) (f := g2) hx hb hok.2 hP 15 0 rfl rfl h0in d_law_558 ?_
        refine lv_iload hx hb d_law_559 (lv_at hl 0 rfl) ?_
        have hg : g2 (Int32.toNatClampNeg 0) = r2.toInt64 := heq hc
        rw [hg]
        refine lv_i2l hx hb d_law_561 rfl ?_
        refine W.lcmp hx hb d_law_562 ?_
        rw [lc]
        refine lv_if_eq hx hb d_law_563 rfl (fun hc2 => ?_) (fun hc2 => absurd rfl hc2)
        refine lv_goto hx hb d_law_568 rfl ?_
        refine W.widen (k := 16 + (k + 1)) (n := 163064 + 6 * (k + 1)) (by omega) (by omega) ?_
        exact next τ3 g2 H locs ls hLI2 hk1 hP hD hS (lv_sub hl [2, 3, 4, 5, 6] rfl)
    · refine lv_tableIn (off := 531) (tgt := 571) hx hb d_law_40 (by decide) (by decide) (by decide) (by decide) ?_
      refine lv_aload_n hx hb d_law_571 rfl (lv_at hl 1 rfl) ?_
      refine r_callVi (As := []) (rest := []) (n := 0) (q0 := 11) S hok.1 (c_Pt_clear l D cI a (wrM cI a (wO cJ (a 15) g)) (Fx_M (Fx_O _ _ _ _)) σ _ (st_clear hLI)) k_ml_La_66 k_im_Pt_clear k_sel_Pt_clear k_ini_Pt k_code_Pt_clear rfl rfl (by decide +kernel) ⟨by decide, by decide⟩ rfl rfl hP hD hS hA (by show 16 + k + 0 ≤ 601024; omega) (by show 163064 + 6 * k + 0 ≤ 7293034; omega) hl.1 rfl rfl (Nat.le_of_ble_eq_true rfl) d_law_572 (fun r τ H locs hf hP hD hS => ?_)
      have hP : va_P D classes (wLa cI cJ a g τ) H := hP
      have hD : va_D (fun q => s.heap.size ≤ q) (wLa cI cJ a g τ) := hD
      refine lv_aload_n hx hb d_law_575 rfl (lv_at hl 2 rfl) ?_
      refine r_callVi (As := []) (rest := [.int r]) (n := 0) (q0 := 12) S hok.1 (c_Mo_clear l D cI a (wO cJ (a 15) g) (Fx_O _ _ _ _) τ _ hf) k_ml_La_69 k_im_Mo_clear k_sel_Mo_clear k_ini_Mo k_code_Mo_clear rfl rfl (by decide +kernel) ⟨by decide, by decide⟩ rfl rfl hP hD hS hA (by show 16 + k + 0 ≤ 601024; omega) (by show 163064 + 6 * k + 0 ≤ 7293034; omega) hl.1 rfl rfl (Nat.le_of_ble_eq_true rfl) d_law_576 (fun r2 τ2 H locs hf hP hD hS => ?_)
      have hP : va_P D classes (wLa cI cJ a g τ2) H := hP
      have hD : va_D (fun q => s.heap.size ≤ q) (wLa cI cJ a g τ2) := hD
      refine lv_icmp_eq hx hb d_law_579 rfl (fun hc => ?_) (fun hc => absurd hf.1 hc)
      refine W.widen (k := 16 + (k + 1)) (n := 163064 + 6 * (k + 1)) (by omega) (by omega) ?_
      exact next τ2 g H locs ls hf.2 hk1 hP hD hS hl
    · refine lv_tableOut (tgt := 584) hx hb d_law_40 (by decide) (by decide) ?_
      refine W.widen (k := 16 + (k + 1)) (n := 163064 + 6 * (k + 1)) (by omega) (by omega) ?_
      exact next σ g H locs ls (LI_keep hLI (by omega) (fun _ _ => rfl) rfl rfl rfl) hk1 hP hD hS hl
