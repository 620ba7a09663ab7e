theorem sA_z {σ : St} {k : Nat} {x : Int32} : sA σ k (fun _ => x) k 0 = x := by rw [sA_s]
/-- the law's invariant behind c calls: the class's state and the reference's say the same V -/
def LI (c : Nat) (σ : St) : Prop := ∃ (lev st : Nat → Nat) (lv : Nat → Bool) (L : Nat → List Nat) (V : Nat → Nat → Int32) (n : Nat) (s : Nat → Nat) (k : Nat),
  BI σ lev st lv L V n ∧ brk V ≤ 2 * c ∧ 2048 ≤ n + 4 * c ∧ MS σ s k ∧ MV σ s k V ∧ k ≤ 1 + 2 * c
theorem LI_keep {c c' : Nat} {σ τ : St} (h : LI c σ) (hc : c ≤ c') (h1 : ∀ j, j < 14 → τ j = σ j) (h17 : τ 17 = σ 17) (h18 : τ 18 = σ 18) (h20 : τ 20 = σ 20) : LI c' τ := by
  obtain ⟨lev, st, lv, L, V, n, s, k, a1, a2, a3, a4, a5, a6⟩ := h
  exact ⟨lev, st, lv, L, V, n, s, k, BI_congr (fun j _ _ _ _ _ hj => h1 j hj) a1, by omega, by omega, MS_congr h17 h20 a4, MV_congr h18 a5, by omega⟩
theorem LI_19 {c c' : Nat} {σ : St} {f : Nat → Int32} (h : LI c σ) (hc : c ≤ c') : LI c' (sA σ 19 f) := LI_keep h hc (fun j hj => sA_n (by omega)) (sA_n (by decide)) (sA_n (by decide)) (sA_n (by decide))
theorem LI_sm3 {c c' : Nat} {σ τ : St} (h : LI c σ) (hc : c ≤ c') (hs : sm3 τ σ) : LI c' τ := LI_keep h hc (fun j hj => hs j (by omega) (by omega) (by omega)) (hs 17 (by decide) (by decide) (by decide)) (hs 18 (by decide) (by decide) (by decide)) (hs 20 (by decide) (by decide) (by decide))
/-- what is owed behind a helper's answer k: the reference's call, its 'thrown', and the comparison -/
abbrev QpI (c : Nat) (F : St → (Int32 → St → Prop) → Prop) (k : Int32) (u : St × (Nat → Int64)) : Prop := F u.1 (fun r τ => F_Mo_thrown τ (fun t τ2 => t = k ∧ (k = 0 → u.2 0 = r.toInt64) ∧ LI (c + 1) τ2))
abbrev QpZ (c : Nat) (F : St → (Int32 → St → Prop) → Prop) (k : Int32) (u : St × (Nat → Int64)) : Prop := F u.1 (fun r τ => F_Mo_thrown τ (fun t τ2 => t = k ∧ (k = 0 → u.2 0 = (if r = 0 then 0 else 1)) ∧ LI (c + 1) τ2))
theorem FT_point {x : Int32} (h : ¬ inP x) : FT_checkPoint x := ⟨fun _ => trivial, fun a => ⟨fun b => h ⟨a, b⟩, fun _ => trivial⟩⟩
theorem FG_point {x : Int32} (h : inP x) : FG_checkPoint x := ⟨fun a => h.1 a, fun _ => ⟨fun _ => trivial, fun b => b h.2⟩⟩
theorem i7 {x : Int32} : x < 8 ↔ x ≤ 7 := by
  rw [Int32.lt_iff_toInt_lt, Int32.le_iff_toInt_le, show (8 : Int32).toInt = 8 by decide, show (7 : Int32).toInt = 7 by decide]
  omega
theorem FT_field {x : Int32} (h : ¬ inF x) : FT_checkField x := ⟨fun _ => trivial, fun a => ⟨fun b => h ⟨a, i7.mp b⟩, fun _ => trivial⟩⟩
theorem FG_field {x : Int32} (h : inF x) : FG_checkField x := ⟨fun a => h.1 a, fun _ => ⟨fun _ => trivial, fun b => b (i7.mpr h.2)⟩⟩
theorem rng {x y : Int32} (h1 : ¬ x < 0) (h2 : ¬ y < x) (h3 : y ≤ 1114111) : inP x ∧ inP y ∧ ¬ y < x := by
  unfold inP
  rw [Int32.lt_iff_toInt_lt] at h1 h2
  rw [Int32.le_iff_toInt_le] at h3
  rw [Int32.lt_iff_toInt_lt, Int32.lt_iff_toInt_lt, Int32.lt_iff_toInt_lt, Int32.le_iff_toInt_le, Int32.le_iff_toInt_le]
  rw [show (0 : Int32).toInt = 0 by decide] at *
  rw [show (1114111 : Int32).toInt = 1114111 by decide] at *
  omega
theorem FT_range {x y : Int32} (h : ¬ (inP x ∧ inP y ∧ ¬ y < x)) : FT_checkRange x y := ⟨fun _ => trivial, fun a => ⟨fun _ => trivial, fun b => ⟨fun c => h (rng a b c), fun _ => trivial⟩⟩⟩
theorem FG_range {x y : Int32} (h : inP x ∧ inP y ∧ ¬ y < x) : FG_checkRange x y := ⟨fun a => h.1.1 a, fun _ => ⟨fun b => h.2.2 b, fun _ => ⟨fun _ => trivial, fun b => b h.2.1.2⟩⟩⟩
theorem st_get {c : Nat} {σ : St} {g : Nat → Int64} {x1 x2 : Int32} (h : LI c σ) : ((FT_checkPoint x1 ∨ (FG_checkPoint x1 ∧ (FT_checkField x2))) ∧ QpI c (F_Mo_get x1 x2) 1 (σ, g)) ∨ F_Pt_get x1 x2 σ (fun r τ => ∀ g2 : Nat → Int64, g2 0 = r.toInt64 → QpI c (F_Mo_get x1 x2) 0 (τ, g2)) := by
  by_cases hv : inP x1 ∧ inF x2
  · right
    obtain ⟨p, hp, rfl⟩ := inP_of hv.1
    obtain ⟨f, hf, rfl⟩ := inF_of hv.2
    obtain ⟨lev, st, lv, L, V, n, s, k, a1, a2, a3, a4, a5, a6⟩ := id h
    refine s_Tget a1 hp hf (fun τ hs g2 hg => ?_)
    refine s_Mget (MS_congr (hs 17 (by decide) (by decide) (by decide)) (hs 20 (by decide) (by decide) (by decide)) a4) (MV_congr (hs 18 (by decide) (by decide) (by decide)) a5) hp hf ?_
    exact s_thrown ⟨sA_z, fun _ => hg, LI_19 (LI_sm3 h (Nat.le_refl _) hs) (by omega)⟩
  · left
    refine ⟨?_, s_Mget_bad hv (s_thrown ⟨sA_z, fun q => absurd q (by decide), LI_19 (LI_19 h (Nat.le_refl _)) (by omega)⟩)⟩
    by_cases h1 : inP x1
    · exact Or.inr ⟨FG_point h1, FT_field (fun q => hv ⟨h1, q⟩)⟩
    · exact Or.inl (FT_point h1)
theorem st_change {c : Nat} {σ : St} {g : Nat → Int64} {x1 x2 : Int32} (h : LI c σ) : ((FT_checkPoint x1 ∨ (FG_checkPoint x1 ∧ (FT_checkField x2))) ∧ QpI c (F_Mo_change x1 x2) 1 (σ, g)) ∨ F_Pt_change x1 x2 σ (fun r τ => ∀ g2 : Nat → Int64, g2 0 = r.toInt64 → QpI c (F_Mo_change x1 x2) 0 (τ, g2)) := by
  by_cases hv : inP x1 ∧ inF x2
  · right
    obtain ⟨p, hp, rfl⟩ := inP_of hv.1
    obtain ⟨f, hf, rfl⟩ := inF_of hv.2
    obtain ⟨lev, st, lv, L, V, n, s, k, a1, a2, a3, a4, a5, a6⟩ := id h
    refine s_Tchange a1 hp hf (fun x τ hs hx g2 hg => ?_)
    refine s_Mchange (MS_congr (hs 17 (by decide) (by decide) (by decide)) (hs 20 (by decide) (by decide) (by decide)) a4) (MV_congr (hs 18 (by decide) (by decide) (by decide)) a5) hp hf (fun y hy => ?_)
    exact s_thrown ⟨sA_z, fun _ => by rw [ChR_one hy hx]; exact hg, LI_19 (LI_sm3 h (Nat.le_refl _) hs) (by omega)⟩
  · left
    refine ⟨?_, s_Mchange_bad hv (s_thrown ⟨sA_z, fun q => absurd q (by decide), LI_19 (LI_19 h (Nat.le_refl _)) (by omega)⟩)⟩
    by_cases h1 : inP x1
    · exact Or.inr ⟨FG_point h1, FT_field (fun q => hv ⟨h1, q⟩)⟩
    · exact Or.inl (FT_point h1)
theorem st_alike {c : Nat} {σ : St} {g : Nat → Int64} {x1 x2 : Int32} (h : LI c σ) : ((FT_checkPoint x1 ∨ (FG_checkPoint x1 ∧ (FT_checkPoint x2))) ∧ QpZ c (F_Mo_alike x1 x2) 1 (σ, g)) ∨ F_Pt_alike x1 x2 σ (fun r τ => ∀ g2 : Nat → Int64, g2 0 = (if r = 0 then 0 else 1) → QpZ c (F_Mo_alike x1 x2) 0 (τ, g2)) := by
  by_cases hv : inP x1 ∧ inP x2
  · right
    obtain ⟨p, hp, rfl⟩ := inP_of hv.1
    obtain ⟨q, hq, rfl⟩ := inP_of hv.2
    obtain ⟨lev, st, lv, L, V, n, s, k, a1, a2, a3, a4, a5, a6⟩ := id h
    have key : ∀ (r : Int32) (τ : St), sm3 τ σ → (r = 1 ∧ (∀ f, f < 8 → V p f = V q f) ∨ r = 0 ∧ ¬ ∀ f, f < 8 → V p f = V q f) → ∀ g2 : Nat → Int64, g2 0 = (if r = 0 then 0 else 1) → QpZ c (F_Mo_alike (nI p) (nI q)) 0 (τ, g2) := fun r τ hs hr g2 hg => by
      refine s_Malike (MS_congr (hs 17 (by decide) (by decide) (by decide)) (hs 20 (by decide) (by decide) (by decide)) a4) (MV_congr (hs 18 (by decide) (by decide) (by decide)) a5) hp hq (fun e => ?_) (fun e => ?_)
      · refine s_thrown ⟨sA_z, fun _ => ?_, LI_19 (LI_sm3 h (Nat.le_refl _) hs) (by omega)⟩
        rcases hr with ⟨rfl, -⟩ | ⟨-, h0⟩
        · exact hg
        · exact absurd e h0
      · refine s_thrown ⟨sA_z, fun _ => ?_, LI_19 (LI_sm3 h (Nat.le_refl _) hs) (by omega)⟩
        rcases hr with ⟨-, h1⟩ | ⟨rfl, -⟩
        · exact absurd h1 e
        · exact hg
    exact s_Talike a1 hp hq (fun τ hs e => key 1 τ hs (Or.inl ⟨rfl, e⟩)) (fun τ hs e => key 0 τ hs (Or.inr ⟨rfl, e⟩))
  · left
    refine ⟨?_, s_Malike_bad hv (s_thrown ⟨sA_z, fun q => absurd q (by decide), LI_19 (LI_19 h (Nat.le_refl _)) (by omega)⟩)⟩
    by_cases h1 : inP x1
    · exact Or.inr ⟨FG_point h1, FT_point (fun q => hv ⟨h1, q⟩)⟩
    · exact Or.inl (FT_point h1)
theorem rng_of {x1 x2 : Int32} (h : inP x1 ∧ inP x2 ∧ ¬ x2 < x1) : ∃ a z, a ≤ z ∧ z < 1114112 ∧ x1 = nI a ∧ x2 = nI z := by
  obtain ⟨a, ha, rfl⟩ := inP_of h.1
  obtain ⟨z, hz, rfl⟩ := inP_of h.2.1
  have h3 := h.2.2
  rw [nI_ltI (by omega) (by omega)] at h3
  exact ⟨a, z, by omega, hz, rfl, rfl⟩
theorem st_hash {c : Nat} {σ : St} {g : Nat → Int64} {x1 x2 x3 : Int32} (h : LI c σ) : ((FT_checkRange x1 x2 ∨ (FG_checkRange x1 x2 ∧ (FT_checkLength (x2 - x1 + 1) ∨ (FG_checkLength (x2 - x1 + 1) ∧ (FT_checkField x3))))) ∧ QpI c (F_Mo_hash x1 x2 x3) 1 (σ, g)) ∨ F_Pt_hash x1 x2 x3 σ (fun r τ => ∀ g2 : Nat → Int64, g2 0 = r.toInt64 → QpI c (F_Mo_hash x1 x2 x3) 0 (τ, g2)) := by
  by_cases hv : inP x1 ∧ inP x2 ∧ ¬ x2 < x1 ∧ ¬ 3999 < x2 - x1 ∧ inF x3
  · right
    obtain ⟨a, z, haz, hz, rfl, rfl⟩ := rng_of ⟨hv.1, hv.2.1, hv.2.2.1⟩
    obtain ⟨f, hf, rfl⟩ := inF_of hv.2.2.2.2
    have hl := hv.2.2.2.1
    rw [pk_sub haz, show (3999 : Int32) = nI 3999 from rfl, nI_ltI (by omega) (by omega)] at hl
    obtain ⟨lev, st, lv, L, V, n, s, k, a1, a2, a3, a4, a5, a6⟩ := id h
    refine s_Thash a1 haz hz (by omega) hf (fun τ hs g2 hg => ?_)
    refine s_Mhash (MS_congr (hs 17 (by decide) (by decide) (by decide)) (hs 20 (by decide) (by decide) (by decide)) a4) (MV_congr (hs 18 (by decide) (by decide) (by decide)) a5) haz hz (by omega) hf ?_
    exact s_thrown ⟨sA_z, fun _ => hg, LI_19 (LI_sm3 h (Nat.le_refl _) hs) (by omega)⟩
  · left
    refine ⟨?_, s_Mhash_bad hv (s_thrown ⟨sA_z, fun q => absurd q (by decide), LI_19 (LI_19 h (Nat.le_refl _)) (by omega)⟩)⟩
    by_cases h1 : inP x1 ∧ inP x2 ∧ ¬ x2 < x1
    · refine Or.inr ⟨FG_range h1, ?_⟩
      obtain ⟨a, z, haz, hz, rfl, rfl⟩ := rng_of h1
      rw [pk_sub haz, ar_1]
      rw [pk_sub haz, show (3999 : Int32) = nI 3999 from rfl] at hv
      unfold FT_checkLength FG_checkLength
      rw [show (4000 : Int32) = nI 4000 from rfl, nI_leI (by omega) (by omega)]
      by_cases h2 : z - a + 1 ≤ 4000
      · exact Or.inr ⟨⟨fun _ => trivial, fun b => b h2⟩, FT_field (fun q => hv ⟨h1.1, h1.2.1, h1.2.2, fun w => absurd ((nI_ltI (by omega) (by omega)).mp w) (by omega), q⟩)⟩
      · exact Or.inl ⟨fun b => h2 b, fun _ => trivial⟩
    · exact Or.inl (FT_range h1)
theorem st_mark {c : Nat} {σ : St} {g : Nat → Int64} {x1 x2 x3 x4 x5 : Int32} (h : LI c σ) (hc : c < 512) : ((FT_checkRange x1 x2 ∨ (FG_checkRange x1 x2 ∧ (FT_checkField x3))) ∧ QpI c (F_Mo_mark x1 x2 x3 x4 x5) 1 (σ, g)) ∨ F_Pt_mark x1 x2 x3 x4 x5 σ (fun r τ => ∀ g2 : Nat → Int64, g2 0 = r.toInt64 → QpI c (F_Mo_mark x1 x2 x3 x4 x5) 0 (τ, g2)) := by
  by_cases hv : inP x1 ∧ inP x2 ∧ ¬ x2 < x1 ∧ inF x3
  · right
    obtain ⟨a, z, haz, hz, rfl, rfl⟩ := rng_of ⟨hv.1, hv.2.1, hv.2.2.1⟩
    obtain ⟨f, hf, rfl⟩ := inF_of hv.2.2.2
    obtain ⟨lev, st, lv, L, V, n, s, k, a1, a2, a3, a4, a5, a6⟩ := id h
    refine s_Tmark a1 (by omega) (by omega) haz hz hf (fun τ lev' st' lv' L' n' b1 b2 b3 g2 hg => ?_)
    refine s_Mmark (MS_congr (b3 17 (by decide)) (b3 20 (by decide)) a4) (MV_congr (b3 18 (by decide)) a5) (by omega) haz hz hf (fun τ2 s2 k2 d1 d2 d3 d4 d5 => ?_)
    have hbk := brk_chg (V := V) (fl := f) (a := a) (z := z + 1) (v := x4) (k := x5)
    exact s_thrown ⟨d4, fun _ => hg, lev', st', lv', L', _, n', s2, k2, BI_congr (fun j _ _ _ _ _ hj => d5 j (by omega)) b2, by omega, by omega, d2, d3, by omega⟩
  · left
    refine ⟨?_, s_Mmark_bad hv (s_thrown ⟨sA_z, fun q => absurd q (by decide), LI_19 (LI_19 h (Nat.le_refl _)) (by omega)⟩)⟩
    by_cases h1 : inP x1 ∧ inP x2 ∧ ¬ x2 < x1
    · exact Or.inr ⟨FG_range h1, FT_field (fun q => hv ⟨h1.1, h1.2.1, h1.2.2, q⟩)⟩
    · exact Or.inl (FT_range h1)
theorem st_set {c : Nat} {σ : St} {g : Nat → Int64} {x1 x2 x3 x4 : Int32} (h : LI c σ) (hc : c < 512) : ((FT_checkRange x1 x2 ∨ (FG_checkRange x1 x2 ∧ (FT_checkField x3))) ∧ QpI c (F_Mo_set x1 x2 x3 x4) 1 (σ, g)) ∨ F_Pt_set x1 x2 x3 x4 σ (fun r τ => ∀ g2 : Nat → Int64, g2 0 = r.toInt64 → QpI c (F_Mo_set x1 x2 x3 x4) 0 (τ, g2)) := by
  unfold QpI F_Mo_set F_Pt_set
  exact st_mark h hc
theorem brk_0 : brk (fun _ _ => 0) = 0 := sm_zero (fun i _ => by
  show (bk (fun _ _ => 0) i).toNat = 0
  rw [bk_f.mpr (fun _ _ => rfl)]
  rfl)
theorem st_clear {c : Nat} {σ : St} (h : LI c σ) : F_Pt_clear σ (fun r τ => F_Mo_clear τ (fun r2 τ2 => r = r2 ∧ LI (c + 1) τ2)) := by
  obtain ⟨lev, st, lv, L, V, n, s, k, a1, a2, a3, a4, a5, a6⟩ := h
  refine s_Tclear a1 (fun τ b1 b2 => ?_)
  refine s_Mclear (MS_congr (b2 17 (by decide)) (b2 20 (by decide)) a4) (MV_congr (b2 18 (by decide)) a5) (fun τ2 d1 d2 d3 d4 => ?_)
  exact ⟨rfl, _, _, _, _, _, 2048, _, 1, BI_congr (fun j _ _ _ _ _ hj => d4 j (by omega)) b1, by rw [brk_0]; omega, by omega, d1, d2, by omega⟩
