abbrev L00 : Nat → List Nat := fun d => if d = chN (fun _ => 0) 0 then [0] else []
theorem hN_0 {c : Nat → Int32} (h : ∀ i, i < 1088 → c i = nI 0) (r : Nat) (hr : r < 1028) : hN c (fun _ => 0) r = if r = 0 then 1089 else 0 := by
  have hu : ∀ i, us (fun _ => 0) i = decide (i < 1088) := fun i => by
    unfold us
    simp
  unfold hN
  by_cases e : r = 0
  · subst e
    have h1 := sm_blk (g := fun _ => 0) (n := 66624) (b := 0) (c := 1) 1088 (fun i => (us (fun _ => 0) i && c i == nI 0).toNat) (by omega) (fun i _ a2 => by
      show (us (fun _ => 0) i && c i == nI 0).toNat = 0 + 1
      rw [hu i, decide_eq_true (show i < 1088 by omega), h i (by omega)]
      simp) (fun i _ a2 => by
      show (us (fun _ => 0) i && c i == nI 0).toNat = 0
      rw [hu i, decide_eq_false (show ¬ i < 1088 by omega)]
      rfl)
    have h2 : sm (fun _ => 0) 66624 = 0 := sm_zero (fun _ _ => rfl)
    rw [if_pos rfl, h1, h2]
    rfl
  · rw [if_neg e]
    have h1 : sm (fun i => (us (fun _ => 0) i && c i == nI r).toNat) 66624 = 0 := sm_zero (fun i _ => by
      show (us (fun _ => 0) i && c i == nI r).toNat = 0
      by_cases a : i < 1088
      · rw [h i a, nI_beq (by omega) (by omega), beq_eq_false_iff_ne.mpr (fun q => e q.symm), Bool.and_false]
        rfl
      · rw [hu i, decide_eq_false a]
        rfl)
    rw [h1, beq_eq_false_iff_ne.mpr e]
    rfl
theorem s_Bempty {σ : St} {Q : St → Prop} (hQ : ∀ τ : St, BI τ (fun _ => 0) (fun _ => 0) (fun x => x == 0) L00 (fun _ _ => 0) 2048 → (∀ k, 16 < k → τ k = σ k) → Q τ) : F_Bl_empty σ Q := by
  unfold F_Bl_empty
  refine s_Rempty (fun σ1 hR1 h11 h01 hf1 => ?_)
  refine s_fill4 (b := 0) (e := 1088) (by omega) (by omega) (fun σ2 hf2 hc2 => ?_)
  refine s_hold (r := 0) (by omega) ?_
  intro z1 hz1
  unfold F_Bl_empty_L32
  refine ⟨fun v1 τ => (∀ j, j ≠ 12 → τ j = sA σ2 1 (upd (σ2 1) 0 (σ2 1 0 + 1088)) j) ∧ ∃ k, k ≤ 2048 ∧ v1 = nI k ∧ ∀ q, q < k → τ 12 q = nI (Rw q), fun v1 _ => 2048 - v1.toNatClampNeg, ⟨fun _ _ => rfl, 0, by omega, hz1, fun q hq => absurd hq (Nat.not_lt_zero _)⟩, ?_⟩
  intro v1 τ n hI hm
  dsimp only at hm ⊢
  obtain ⟨hfr, k, hk, rfl, hall⟩ := hI
  rw [cl (by omega)] at hm
  have e8 : (2048 : Int32) = nI 2048 := rfl
  refine ⟨fun hc1 => ?_, fun hc1 => ?_⟩
  · rw [e8, nI_leI (by omega) (by omega)] at hc1
    have hk8 : k = 2048 := by omega
    subst hk8
    intro σ4 h4
    have g : ∀ j, j ≠ 1 → j ≠ 12 → j ≠ 13 → σ4 j = σ2 j := fun j b1 b12 b13 => by rw [h4, sA_n b13, hfr j b12, sA_n b1]
    have g11 : ∀ i, i < 1088 → σ4 11 i = nI 0 := fun i hi => by
      rw [g 11 (by decide) (by decide) (by decide), hc2 i, if_pos (by omega)]
      rfl
    have g0 : ∀ f, f < 8 → σ4 0 f = 0 := fun f hf => by
      rw [g 0 (by decide) (by decide) (by decide), hf2 0 (by decide)]
      exact h01 f hf
    have g1 : ∀ r, r < 1028 → σ4 1 r = if r = 0 then nI 1089 else nI 0 := fun r hr => by
      rw [h4, sA_n (by decide), hfr 1 (by decide), sA_s, hf2 1 (by decide)]
      unfold upd
      by_cases e : r = 0
      · rw [if_pos e, if_pos e, h11 0 (by omega), if_pos rfl]
        rfl
      · rw [if_neg e, if_neg e, h11 r hr, if_neg e]
        rfl
    have g12 : ∀ q, q < 2048 → σ4 12 q = nI (Rw q) := fun q hq => by
      rw [h4, sA_n (by decide)]
      exact hall q hq
    have hcl : ∀ i b p, Cl (fun _ => 0) (fun _ => 0) i b p → i < 1088 := fun i b p h => by
      rcases h with ⟨-, h, -⟩ | ⟨-, j, k, -, -, h, -⟩ | ⟨-, j, k, -, -, h, -⟩
      · exact h
      · exact absurd h (show ¬ (0 = 1) by decide)
      · exact absurd h (show ¬ (0 = 2) by decide)
    refine hQ σ4 ⟨?_, ⟨fun i b p h => Or.inl ⟨0, by omega, rfl, g11 i (hcl i b p h)⟩, fun j _ h => absurd rfl h⟩, ?_, ⟨by omega, ?_, ?_, fun q hq => ⟨q, hq, g12 q hq, rfl⟩, fun i j hi hj hij => ?_⟩, fun r hr => ?_, g0⟩ (fun j hj => ?_)
    · have o : ∀ j, j ≠ 1 → j ≠ 11 → j ≠ 12 → j ≠ 13 → σ4 j = σ1 j := fun j b1 b11 b12 b13 => by rw [g j b1 b12 b13, hf2 j b11]
      exact RI_congr (o 0 (by decide) (by decide) (by decide) (by decide)) (o 2 (by decide) (by decide) (by decide) (by decide)) (o 3 (by decide) (by decide) (by decide) (by decide)) (o 4 (by decide) (by decide) (by decide) (by decide)) (o 7 (by decide) (by decide) (by decide) (by decide)) hR1
    · intro i b q r hC hr er p _ _ f hf
      have h1 := g11 i (hcl i b q hC)
      have : r = 0 := nI_inj (by omega) (by omega) (er.symm.trans h1)
      subst this
      rw [Nat.mul_zero, Nat.zero_add]
      exact g0 f hf
    · rw [h4, sA_s]
      rfl
    · have hz : sm (fun j => ((fun _ : Nat => 0) j != 0).toNat) 2048 = 0 := sm_zero (fun _ _ => rfl)
      rw [hz]
    · rw [g12 i hi, g12 j hj] at hij
      have := nI_inj (by unfold Rw; omega) (by unfold Rw; omega) hij
      unfold Rw at this
      omega
    · rw [g1 r hr, hN_0 g11 r hr]
      by_cases e : r = 0
      · rw [if_pos e, if_pos e]
        refine ⟨rfl, ?_⟩
        simp [e]
      · rw [if_neg e, if_neg e]
        refine ⟨rfl, ?_⟩
        simp [e]
    · rw [g j (by omega) (by omega) (by omega), hf2 j (by omega), hf1 j (by omega) (by omega) (by omega) (by omega) (by omega) (by omega) (by omega)]
  · rw [e8, nI_leI (by omega) (by omega)] at hc1
    refine ⟨vp_in_nI (by omega) (by decide), ?_⟩
    intro σ8 h8 z9 hz9
    rw [cl (by omega), show (1088 : Int32) = nI 1088 from rfl, show (32 : Int32) = nI 32 from rfl, pk_mul, nI_add] at h8
    rw [ar_1] at hz9
    refine ⟨⟨fun j b => by rw [h8, sA_n b]; exact hfr j b, k + 1, by omega, hz9, fun q hq => ?_⟩, ?_⟩
    · rw [h8, sA_s]
      unfold upd
      by_cases e : q = k
      · rw [if_pos e, e]
        unfold Rw
        rw [Nat.mul_comm]
      · rw [if_neg e]
        exact hall q (by omega)
    · rw [hz9, cl (by omega)]
      omega
/-- what a reading leaves -/
abbrev sm3 (τ σ : St) : Prop := ∀ j, j ≠ 14 → j ≠ 15 → j ≠ 16 → τ j = σ j
theorem BI_sm3 {σ τ : St} {lev st : Nat → Nat} {lv : Nat → Bool} {L : Nat → List Nat} {V : Nat → Nat → Int32} {n : Nat} (h : sm3 τ σ) (hB : BI σ lev st lv L V n) : BI τ lev st lv L V n := BI_congr (fun j _ _ _ _ _ hj => h j (by omega) (by omega) (by omega)) hB
theorem s_valueAt {σ : St} {lev st : Nat → Nat} {lv : Nat → Bool} {L : Nat → List Nat} {V : Nat → Nat → Int32} {n p f : Nat} {Q : Int32 → St → Prop} (hB : BI σ lev st lv L V n) (hp : p < 1114112) (hf : f < 8)
    (hQ : ∀ (τ : St) (z : Nat), sm3 τ σ → p ≤ z → z < 1114112 → τ 16 0 = nI z → (∀ x, p ≤ x → x ≤ z → V x f = V p f) → Q (V p f) τ) : F_Pt_valueAt (nI p) (nI f) σ Q := by
  unfold F_Pt_valueAt
  refine s_recordOf hB.2.1 hp (fun τ i b q r hC q1 q2 hr hlr er hfr e14 e15 e16 => ?_)
  have hal := (Cl_al hB.2.1 hC).2
  have hv : ∀ x, q ≤ x → x < q + 2 ^ b → σ 0 (8 * r + f) = V x f := fun x h1 h2 => hB.2.2.1 i b q r hC hr er x h1 h2 f hf
  refine s_value hr hf ?_
  rw [hfr 0 (by decide) (by decide) (by decide), hv p q1 q2]
  refine hQ τ (q + 2 ^ b - 1) hfr (by omega) (by omega) e16 (fun x h1 h2 => ?_)
  rw [← hv x (by omega) (by omega), hv p q1 q2]
theorem s_ckPoint {σ : St} {Q : St → Prop} {p : Nat} (hp : p < 1114112) (hQ : Q σ) : F_Pt_checkPoint (nI p) σ Q := by
  unfold F_Pt_checkPoint
  exact ⟨fun h => nI_pos (by omega) h, fun _ => ⟨fun _ => hQ, fun h => h ((nI_leI (b := 1114111) (by omega) (by omega)).mpr (by omega))⟩⟩
theorem s_ckField {σ : St} {Q : St → Prop} {f : Nat} (hf : f < 8) (hQ : Q σ) : F_Pt_checkField (nI f) σ Q := by
  unfold F_Pt_checkField
  exact ⟨fun h => nI_pos (by omega) h, fun _ => ⟨fun _ => hQ, fun h => h ((nI_ltI (b := 8) (by omega) (by omega)).mpr (by omega))⟩⟩
theorem s_ckRange {σ : St} {Q : St → Prop} {a z : Nat} (haz : a ≤ z) (hz : z < 1114112) (hQ : Q σ) : F_Pt_checkRange (nI a) (nI z) σ Q := by
  unfold F_Pt_checkRange
  exact ⟨fun h => nI_pos (by omega) h, fun _ => ⟨fun h => absurd ((nI_ltI (by omega) (by omega)).mp h) (by omega), fun _ => ⟨fun _ => hQ, fun h => h ((nI_leI (b := 1114111) (by omega) (by omega)).mpr (by omega))⟩⟩⟩
theorem s_ckLength {σ : St} {Q : St → Prop} {k : Nat} (hk : k ≤ 4000) (hQ : Q σ) : F_Pt_checkLength (nI k) σ Q := by
  unfold F_Pt_checkLength
  exact ⟨fun _ => hQ, fun h => h ((nI_leI (b := 4000) (by omega) (by omega)).mpr hk)⟩
theorem s_Tget {σ : St} {lev st : Nat → Nat} {lv : Nat → Bool} {L : Nat → List Nat} {V : Nat → Nat → Int32} {n p f : Nat} {Q : Int32 → St → Prop} (hB : BI σ lev st lv L V n) (hp : p < 1114112) (hf : f < 8)
    (hQ : ∀ τ : St, sm3 τ σ → Q (V p f) τ) : F_Pt_get (nI p) (nI f) σ Q := by
  unfold F_Pt_get
  refine s_ckPoint hp ?_
  refine s_ckField hf ?_
  exact s_valueAt hB hp hf (fun τ z h _ _ _ _ => hQ τ h)
/-- what change answers -/
def ChR (V : Nat → Nat → Int32) (p f : Nat) (x : Int32) : Prop := (∃ r, p < r ∧ r < 1114112 ∧ V r f ≠ V p f ∧ (∀ y, p ≤ y → y < r → V y f = V p f) ∧ x = nI r) ∨ (x = -1 ∧ ∀ y, p ≤ y → y < 1114112 → V y f = V p f)
theorem ChR_one {V : Nat → Nat → Int32} {p f : Nat} {x y : Int32} (hx : ChR V p f x) (hy : ChR V p f y) : x = y := by
  rcases hx with ⟨r, a1, a2, a3, a4, a5⟩ | ⟨a1, a2⟩
  · rcases hy with ⟨r', b1, b2, b3, b4, b5⟩ | ⟨b1, b2⟩
    · rcases Nat.lt_trichotomy r r' with h | h | h
      · exact absurd (b4 r (by omega) h) a3
      · rw [a5, b5, h]
      · exact absurd (a4 r' (by omega) h) b3
    · exact absurd (b2 r (by omega) a2) a3
  · rcases hy with ⟨r', b1, b2, b3, b4, b5⟩ | ⟨b1, b2⟩
    · exact absurd (a2 r' (by omega) b2) b3
    · rw [a1, b1]
theorem mx_nI {a b : Nat} (h : a ≤ b) (hb : b < 2 ^ 31) : (if nI a < nI b then nI b else nI a) = nI b := by
  by_cases e : nI a < nI b
  · rw [if_pos e]
  · rw [if_neg e]
    rw [nI_ltI (by omega) (by omega)] at e
    rw [show a = b by omega]
theorem s_Tchange {σ : St} {lev st : Nat → Nat} {lv : Nat → Bool} {L : Nat → List Nat} {V : Nat → Nat → Int32} {n p f : Nat} {Q : Int32 → St → Prop} (hB : BI σ lev st lv L V n) (hp : p < 1114112) (hf : f < 8)
    (hQ : ∀ (x : Int32) (τ : St), sm3 τ σ → ChR V p f x → Q x τ) : F_Pt_change (nI p) (nI f) σ Q := by
  unfold F_Pt_change
  refine s_ckPoint hp ?_
  refine s_ckField hf ?_
  refine s_valueAt hB hp hf (fun τ0 z0 h0 _ _ _ _ => ?_)
  unfold F_Pt_change_L18
  refine ⟨fun v4 τ => sm3 τ σ ∧ ∃ x, v4 = nI x ∧ p ≤ x ∧ x ≤ 1114112 ∧ ∀ y, p ≤ y → y < x → V y f = V p f, fun v4 _ => 1114200 - v4.toNatClampNeg, ⟨h0, p, rfl, Nat.le_refl _, by omega, fun y h1 h2 => absurd h1 (by omega)⟩, ?_⟩
  intro v4 τ m hI hm
  dsimp only at hm ⊢
  obtain ⟨hs, x, rfl, hpx, hx, hall⟩ := hI
  rw [cl (by omega)] at hm
  rw [show (1114111 : Int32) = nI 1114111 from rfl, nI_ltI (by omega) (by omega)]
  refine ⟨fun hc => hQ _ _ hs (Or.inr ⟨rfl, fun y h1 h2 => hall y h1 (by omega)⟩), fun hc => ?_⟩
  refine s_valueAt (BI_sm3 hs hB) (by omega) hf (fun τ1 z h1 hz hz2 e16 hv => ?_)
  have hs1 : sm3 τ1 σ := fun j a b c => by rw [h1 j a b c]; exact hs j a b c
  refine ⟨fun he => ?_, fun he => ?_⟩
  · intro z2 hz3
    rw [e16, mx_nI hz (by omega), ar_1] at hz3
    refine ⟨⟨hs1, z + 1, hz3, by omega, by omega, fun y b1 b2 => ?_⟩, ?_⟩
    · by_cases hy : y < x
      · exact hall y b1 hy
      · rw [hv y (by omega) (by omega)]; exact he
    · rw [hz3, cl (by omega)]
      omega
  · refine hQ _ _ hs1 (Or.inl ⟨x, ?_, by omega, he, hall, rfl⟩)
    by_cases e : x = p
    · rw [e] at he; exact absurd rfl he
    · omega
theorem lv_0 {σ : St} {lev : Nat → Nat} {lv : Nat → Bool} (hH : HI σ lev lv) : lv 0 = true := by
  refine ((hH 0 (by omega)).2).mpr ?_
  unfold hN
  simp
theorem s_Talike {σ : St} {lev st : Nat → Nat} {lv : Nat → Bool} {L : Nat → List Nat} {V : Nat → Nat → Int32} {n p q : Nat} {Q : Int32 → St → Prop} (hB : BI σ lev st lv L V n) (hp : p < 1114112) (hq : q < 1114112)
    (h1 : ∀ τ : St, sm3 τ σ → (∀ f, f < 8 → V p f = V q f) → Q 1 τ) (h0 : ∀ τ : St, sm3 τ σ → (¬ ∀ f, f < 8 → V p f = V q f) → Q 0 τ) : F_Pt_alike (nI p) (nI q) σ Q := by
  unfold F_Pt_alike
  refine s_ckPoint hp ?_
  refine s_ckPoint hq ?_
  refine s_recordOf hB.2.1 hp (fun τ i b x r hC x1 x2 hr hlr er hfr e14 e15 e16 => ?_)
  have hB2 : BI τ lev st lv L V n := BI_sm3 hfr hB
  refine s_recordOf hB2.2.1 hq (fun τ2 i2 b2 y r2 hC2 y1 y2 hr2 hlr2 er2 hfr2 e142 e152 e162 => ?_)
  rw [hfr 11 (by decide) (by decide) (by decide)] at er2
  have hs : sm3 τ2 σ := fun j a b c => by rw [hfr2 j a b c]; exact hfr j a b c
  have v1 : ∀ f, f < 8 → σ 0 (8 * r + f) = V p f := fun f hf => hB.2.2.1 i b x r hC hr er p x1 x2 f hf
  have v2 : ∀ f, f < 8 → σ 0 (8 * r2 + f) = V q f := fun f hf => hB.2.2.1 i2 b2 y r2 hC2 hr2 er2 q y1 y2 f hf
  refine ⟨fun he => h1 τ2 hs (fun f hf => ?_), fun he => h0 τ2 hs (fun hall => he ?_)⟩
  · have : r = r2 := nI_inj (by omega) (by omega) he
    rw [← v1 f hf, ← v2 f hf, this]
  · rw [hB.1.2.2 r r2 hr hr2 hlr hlr2 (fun f hf => by rw [v1 f hf, v2 f hf]; exact hall f hf)]
/-- the hash of k points -/
def hsh (V : Nat → Nat → Int32) (f a : Nat) : Nat → Int32
  | 0 => 1
  | k + 1 => (31 : Int32) * hsh V f a k + V (a + k) f
theorem s_Thash {σ : St} {lev st : Nat → Nat} {lv : Nat → Bool} {L : Nat → List Nat} {V : Nat → Nat → Int32} {n a z f : Nat} {Q : Int32 → St → Prop} (hB : BI σ lev st lv L V n) (haz : a ≤ z) (hz : z < 1114112) (hlen : z - a + 1 ≤ 4000) (hf : f < 8)
    (hQ : ∀ τ : St, sm3 τ σ → Q (hsh V f a (z - a + 1)) τ) : F_Pt_hash (nI a) (nI z) (nI f) σ Q := by
  unfold F_Pt_hash
  refine s_ckRange haz hz ?_
  rw [pk_sub haz, ar_1]
  refine s_ckLength hlen ?_
  refine s_ckField hf ?_
  intro z1 hz1 z2 hz2 z3 hz3
  unfold F_Pt_hash_L29
  refine ⟨fun v4 v5 v6 v7 τ => sm3 τ σ ∧ ∃ k, v7 = nI (a + k) ∧ a + k ≤ z + 1 ∧ v4 = hsh V f a k ∧ (v6 = -1 ∨ ∃ w, v6 = nI w ∧ w < 1114112 ∧ ∀ x, a + k ≤ x → x ≤ w → V x f = v5), fun _ _ _ v7 _ => 1114200 - v7.toNatClampNeg, ⟨fun _ _ _ _ => rfl, 0, rfl, by omega, hz1, Or.inl hz3⟩, ?_⟩
  intro v4 v5 v6 v7 τ m hI hm
  dsimp only at hm ⊢
  obtain ⟨hs, k, rfl, hk, rfl, hw⟩ := hI
  rw [cl (by omega)] at hm
  rw [nI_ltI (by omega) (by omega)]
  refine ⟨fun hc => ?_, fun hc => ?_⟩
  · have : k = z - a + 1 := by omega
    subst this
    exact hQ τ hs
  · have hJ : ∀ (τ1 : St) (w : Nat) (v : Int32), sm3 τ1 σ → a + k ≤ w → w < 1114112 → (∀ x, a + k ≤ x → x ≤ w → V x f = v) →
        (sm3 τ1 σ ∧ ∃ j, nI (a + k + 1) = nI (a + j) ∧ a + j ≤ z + 1 ∧ (31 : Int32) * hsh V f a k + v = hsh V f a j ∧ (nI w = -1 ∨ ∃ w', nI w = nI w' ∧ w' < 1114112 ∧ ∀ x, a + j ≤ x → x ≤ w' → V x f = v)) := fun τ1 w v hs1 h1 h2 h3 =>
      ⟨hs1, k + 1, by rw [Nat.add_assoc], by omega, by
        show _ = (31 : Int32) * hsh V f a k + V (a + k) f
        rw [h3 (a + k) (Nat.le_refl _) h1], Or.inr ⟨w, rfl, h2, fun x b1 b2 => h3 x (by omega) b2⟩⟩
    refine ⟨fun hc2 => ?_, fun hc2 => ?_⟩
    · rcases hw with hw | ⟨w, rfl, hw1, hw2⟩
      · exfalso
        rw [hw] at hc2
        have h3 : (nI (a + k)).toInt ≤ (-1 : Int32).toInt := Int32.le_iff_toInt_le.mp hc2
        rw [nI_toInt (by omega), show ((-1 : Int32)).toInt = -1 by decide] at h3
        omega
      · rw [nI_leI (by omega) (by omega)] at hc2
        unfold F_Pt_hash_J60
        intro z4 hz4 z5 hz5
        rw [ar_1] at hz5
        subst hz4
        subst hz5
        refine ⟨hJ τ w v5 hs hc2 hw1 hw2, ?_⟩
        rw [cl (by omega)]
        omega
    · refine s_valueAt (BI_sm3 hs hB) (by omega) hf (fun τ1 w h1 hz1' hz2' e16 hv => ?_)
      intro z6 hz6
      rw [e16] at hz6
      subst hz6
      have hs1 : sm3 τ1 σ := fun j a b c => by rw [h1 j a b c]; exact hs j a b c
      unfold F_Pt_hash_J60
      intro z4 hz4 z5 hz5
      rw [ar_1] at hz5
      subst hz4
      subst hz5
      refine ⟨hJ τ1 w (V (a + k) f) hs1 hz1' hz2' (fun x b1 b2 => hv x b1 b2), ?_⟩
      rw [cl (by omega)]
      omega
/-- some field of the point isn't 0 -/
def nz (V : Nat → Nat → Int32) (p : Nat) : Bool := (List.range 8).any (fun f => V p f != 0)
theorem nz_f {V : Nat → Nat → Int32} {p : Nat} : nz V p = false ↔ ∀ f, f < 8 → V p f = 0 := by
  unfold nz
  rw [List.any_eq_false]
  constructor
  · intro h f hf
    have := h f (List.mem_range.mpr hf)
    simpa using this
  · intro h f hf
    rw [h f (List.mem_range.mp hf)]
    simp
def cnt (V : Nat → Nat → Int32) (k : Nat) : Nat := sm (fun p => (nz V p).toNat) k
theorem cnt_le (V : Nat → Nat → Int32) (k : Nat) : cnt V k ≤ k := by
  have h := sm_le (f := fun p => (nz V p).toNat) (g := fun _ => 1) (n := k) (fun i _ => by
    show (nz V i).toNat ≤ 1
    rcases bt_nat (nz V i) with h | h <;> omega)
  have h2 := sm_const (f := fun _ => 1) (c := 1) (n := k) (fun _ _ => rfl)
  unfold cnt
  omega
theorem cnt_run {V : Nat → Nat → Int32} {b : Bool} {x : Nat} : ∀ (d : Nat), (∀ y, x ≤ y → y < x + d → nz V y = b) → cnt V (x + d) = cnt V x + d * b.toNat
  | 0, _ => by rw [Nat.zero_mul]; rfl
  | d + 1, h => by
    have h1 := cnt_run (V := V) (b := b) (x := x) d (fun y a1 a2 => h y a1 (by omega))
    have h2 : cnt V (x + (d + 1)) = cnt V (x + d) + (nz V (x + d)).toNat := rfl
    rw [h2, h1, h (x + d) (by omega) (by omega), Nat.succ_mul]
    omega
theorem s_Tclear {σ : St} {lev st : Nat → Nat} {lv : Nat → Bool} {L : Nat → List Nat} {V : Nat → Nat → Int32} {n : Nat} {Q : Int32 → St → Prop} (hB : BI σ lev st lv L V n)
    (hQ : ∀ τ : St, BI τ (fun _ => 0) (fun _ => 0) (fun x => x == 0) L00 (fun _ _ => 0) 2048 → (∀ k, 16 < k → τ k = σ k) → Q (nI (cnt V 1024)) τ) : F_Pt_clear σ Q := by
  unfold F_Pt_clear
  intro z1 hz1 z2 hz2
  unfold F_Pt_clear_L4
  refine ⟨fun v1 v2 τ => sm3 τ σ ∧ ∃ x, v2 = nI x ∧ x ≤ 1024 ∧ v1 = nI (cnt V x), fun _ v2 _ => 1024 - v2.toNatClampNeg, ⟨fun _ _ _ _ => rfl, 0, hz2, by omega, hz1⟩, ?_⟩
  intro v1 v2 τ m hI hm
  dsimp only at hm ⊢
  obtain ⟨hs, x, rfl, hx, rfl⟩ := hI
  rw [cl (by omega)] at hm
  rw [show (1024 : Int32) = nI 1024 from rfl, nI_leI (by omega) (by omega)]
  refine ⟨fun hc => ?_, fun hc => ?_⟩
  · have : x = 1024 := by omega
    subst this
    exact s_Bempty (fun τ1 h1 h2 => hQ τ1 h1 (fun k hk => by rw [h2 k hk]; exact hs k (by omega) (by omega) (by omega)))
  · have hB1 := BI_sm3 hs hB
    refine s_recordOf hB1.2.1 (by omega) (fun τ1 i b q r hC q1 q2 hr hlr er hfr e14 e15 e16 => ?_)
    have hs1 : sm3 τ1 σ := fun j a b c => by rw [hfr j a b c]; exact hs j a b c
    have hal := Cl_al hB1.2.1 hC
    have hq4 : q + 2 ^ b ≤ 1024 := by rcases Cl_b hC with rfl | rfl | rfl <;> omega
    have hpos := p2_pos b
    have hv : ∀ y, q ≤ y → y < q + 2 ^ b → ∀ f, f < 8 → τ 0 (8 * r + f) = V y f := fun y a1 a2 f hf => hB1.2.2.1 i b q r hC hr er y a1 a2 f hf
    have hnz : ∀ y, x ≤ y → y < q + 2 ^ b → nz V y = !(r == 0) := fun y a1 a2 => by
      by_cases e : r = 0
      · subst e
        show nz V y = false
        refine nz_f.mpr (fun f hf => ?_)
        rw [← hv y (by omega) a2 f hf, Nat.mul_zero, Nat.zero_add]
        exact hB1.2.2.2.2.2 f hf
      · rw [beq_eq_false_iff_ne.mpr e]
        show nz V y = true
        cases hn : nz V y with
        | true => rfl
        | false =>
          exfalso
          refine e (hB1.1.2.2 r 0 hr (by omega) hlr (lv_0 hB1.2.2.2.2.1) (fun f hf => ?_))
          rw [hv y (by omega) a2 f hf, nz_f.mp hn f hf, Nat.mul_zero, Nat.zero_add]
          exact (hB1.2.2.2.2.2 f hf).symm
    have hnx : ∀ z4 : Int32, z4 = (if nI x < τ1 16 0 then τ1 16 0 else nI x) + 1 → z4 = nI (q + 2 ^ b) := fun z4 h4 => by
      rw [h4, e16, mx_nI (by omega) (by omega), ar_1]
      congr 1
      omega
    have hcn := cnt_run (V := V) (b := !(r == 0)) (x := x) (q + 2 ^ b - x) (fun y a1 a2 => hnz y a1 (by omega))
    rw [show x + (q + 2 ^ b - x) = q + 2 ^ b by omega] at hcn
    have hcl := cnt_le V x
    refine ⟨fun he => ?_, fun he => ?_⟩
    · have hr0 : r = 0 := nI_inj (b := 0) (by omega) (by omega) he
      subst hr0
      intro z3 hz3 z4 hz4
      have h4 := hnx z4 hz4
      refine ⟨fun h => absurd (hz3.symm.trans h) (by decide), fun _ => ⟨⟨hs1, q + 2 ^ b, h4, hq4, ?_⟩, ?_⟩⟩
      · rw [hcn]
        simp
      · rw [h4, cl (by omega)]
        omega
    · have hr0 : r ≠ 0 := fun q => he (by rw [q]; rfl)
      intro z3 hz3 z4 hz4
      have h4 := hnx z4 hz4
      refine ⟨fun _ => ?_, fun h => absurd hz3 h⟩
      intro z5 hz5
      rw [h4, pk_sub (by omega), nI_add] at hz5
      refine ⟨⟨hs1, q + 2 ^ b, h4, hq4, ?_⟩, ?_⟩
      · rw [hcn, hz5, beq_eq_false_iff_ne.mpr hr0]
        simp
      · rw [h4, cl (by omega)]
        omega
theorem s_Tmark {σ : St} {lev st : Nat → Nat} {lv : Nat → Bool} {L : Nat → List Nat} {V : Nat → Nat → Int32} {n a z fl : Nat} {v k : Int32} {Q : Int32 → St → Prop} (hB : BI σ lev st lv L V n) (hn : 4 ≤ n) (hbr : brk V ≤ 1022) (haz : a ≤ z) (hz : z < 1114112) (hfl : fl < 8)
    (hQ : ∀ (τ : St) (lev' st' : Nat → Nat) (lv' : Nat → Bool) (L' : Nat → List Nat) (n' : Nat), n ≤ n' + 4 → BI τ lev' st' lv' L' (chg V fl v k a (z + 1)) n' → (∀ k, 16 < k → τ k = σ k) → Q (nI (z - a + 1)) τ) : F_Pt_mark (nI a) (nI z) (nI fl) v k σ Q := by
  unfold F_Pt_mark
  refine s_ckRange haz hz ?_
  refine s_ckField hfl ?_
  refine s_begin (fun σ1 h8 h9 h10 h5 hfr => ?_)
  have hB1 : BI σ1 lev st lv L V n := BI_congr (fun j a5 _ a8 a9 a10 _ => hfr j a5 a8 a9 a10) hB
  refine s_alter hB1 hn haz hz hfl h8 h5 hbr (fun τ lev' st' lv' L' n' b1 b2 b3 => ?_)
  rw [pk_sub haz, ar_1]
  rw [h9, h10] at b2
  exact hQ τ lev' st' lv' L' n' b1 b2 (fun j hj => by rw [b3 j hj]; exact hfr j (by omega) (by omega) (by omega) (by omega))
theorem s_Tset {σ : St} {lev st : Nat → Nat} {lv : Nat → Bool} {L : Nat → List Nat} {V : Nat → Nat → Int32} {n a z fl : Nat} {v : Int32} {Q : Int32 → St → Prop} (hB : BI σ lev st lv L V n) (hn : 4 ≤ n) (hbr : brk V ≤ 1022) (haz : a ≤ z) (hz : z < 1114112) (hfl : fl < 8)
    (hQ : ∀ (τ : St) (lev' st' : Nat → Nat) (lv' : Nat → Bool) (L' : Nat → List Nat) (n' : Nat), n ≤ n' + 4 → BI τ lev' st' lv' L' (chg V fl v 0 a (z + 1)) n' → (∀ k, 16 < k → τ k = σ k) → Q (nI (z - a + 1)) τ) : F_Pt_set (nI a) (nI z) (nI fl) v σ Q := by
  unfold F_Pt_set
  exact s_Tmark hB hn hbr haz hz hfl hQ
/-- the reference's starts: n pieces, the first at 0, rising -/
def MS (σ : St) (s : Nat → Nat) (n : Nat) : Prop := 1 ≤ n ∧ n ≤ 8999 ∧ σ 20 0 = nI n ∧ s 0 = 0 ∧ (∀ i, i < n → σ 17 i = nI (s i) ∧ s i < 1114112) ∧ ∀ i j, i < j → j < n → s i < s j
/-- each piece's fields are what V says of its points -/
def MV (σ : St) (s : Nat → Nat) (n : Nat) (V : Nat → Nat → Int32) : Prop := ∀ i p, i < n → s i ≤ p → p < 1114112 → (i + 1 < n → p < s (i + 1)) → ∀ f, f < 8 → σ 18 (8 * i + f) = V p f
theorem MS_congr {σ τ : St} {s : Nat → Nat} {n : Nat} (h17 : τ 17 = σ 17) (h20 : τ 20 = σ 20) (h : MS σ s n) : MS τ s n := by
  unfold MS at *
  rw [h17, h20]
  exact h
theorem MV_congr {σ τ : St} {s : Nat → Nat} {n : Nat} {V : Nat → Nat → Int32} (h18 : τ 18 = σ 18) (h : MV σ s n V) : MV τ s n V := by
  unfold MV at *
  rw [h18]
  exact h
def ins (s : Nat → Nat) (k p : Nat) : Nat → Nat := fun i => if i ≤ k then s i else if i = k + 1 then p else s (i - 1)
theorem ins_le {s : Nat → Nat} {k p i : Nat} (h : i ≤ k) : ins s k p i = s i := if_pos h
theorem ins_at {s : Nat → Nat} {k p : Nat} : ins s k p (k + 1) = p := by
  unfold ins
  rw [if_neg (by omega), if_pos rfl]
theorem ins_gt {s : Nat → Nat} {k p i : Nat} (h : k + 1 < i) : ins s k p i = s (i - 1) := by
  unfold ins
  rw [if_neg (by omega), if_neg (by omega)]
theorem MS_ins {σ τ : St} {s : Nat → Nat} {n k p : Nat} (hM : MS σ s n) (hn : n < 8999) (hk : k < n) (h1 : s k < p) (h2 : k + 1 < n → p < s (k + 1)) (hp : p < 1114112)
    (t17 : ∀ i, i ≤ k → τ 17 i = σ 17 i) (t17p : τ 17 (k + 1) = nI p) (t17g : ∀ i, k + 1 < i → i ≤ n → τ 17 i = σ 17 (i - 1)) (t20 : τ 20 0 = nI (n + 1)) : MS τ (ins s k p) (n + 1) := by
  obtain ⟨m1, m2, m3, m4, m5, m6⟩ := hM
  refine ⟨by omega, by omega, t20, ?_, fun i hi => ?_, fun i j hij hj => ?_⟩
  · rw [ins_le (Nat.zero_le _)]; exact m4
  · by_cases a1 : i ≤ k
    · rw [ins_le a1, t17 i a1]; exact m5 i (by omega)
    · by_cases a2 : i = k + 1
      · rw [a2, ins_at]; exact ⟨t17p, hp⟩
      · rw [ins_gt (by omega), t17g i (by omega) (by omega)]; exact m5 (i - 1) (by omega)
  · by_cases b1 : j ≤ k
    · rw [ins_le b1, ins_le (by omega)]; exact m6 i j hij (by omega)
    · by_cases b2 : j = k + 1
      · rw [b2, ins_at, ins_le (by omega)]
        by_cases b3 : i = k
        · rw [b3]; exact h1
        · have := m6 i k (by omega) hk
          omega
      · rw [ins_gt (i := j) (by omega)]
        by_cases a1 : i ≤ k
        · rw [ins_le a1]; exact m6 i (j - 1) (by omega) (by omega)
        · by_cases a2 : i = k + 1
          · rw [a2, ins_at]
            have h3 := h2 (by omega)
            by_cases b4 : j - 1 = k + 1
            · rw [b4]; exact h3
            · have := m6 (k + 1) (j - 1) (by omega) (by omega)
              omega
          · rw [ins_gt (by omega)]; exact m6 (i - 1) (j - 1) (by omega) (by omega)
theorem MV_ins {σ τ : St} {s : Nat → Nat} {n k p : Nat} {V : Nat → Nat → Int32} (hV : MV σ s n V) (hk : k < n) (h1 : s k < p) (h2 : k + 1 < n → p < s (k + 1))
    (t18 : ∀ i f, i ≤ k → f < 8 → τ 18 (8 * i + f) = σ 18 (8 * i + f)) (t18p : ∀ f, f < 8 → τ 18 (8 * (k + 1) + f) = σ 18 (8 * k + f)) (t18g : ∀ i f, k + 1 < i → i ≤ n → f < 8 → τ 18 (8 * i + f) = σ 18 (8 * (i - 1) + f)) : MV τ (ins s k p) (n + 1) V := by
  intro i q hi hq hq2 hq3 f hf
  by_cases a1 : i ≤ k
  · rw [t18 i f a1 hf]
    rw [ins_le a1] at hq
    refine hV i q (by omega) hq hq2 (fun h => ?_) f hf
    by_cases a3 : i + 1 ≤ k
    · have := hq3 (by omega)
      rw [ins_le a3] at this
      exact this
    · have hik : i = k := by omega
      subst hik
      have := hq3 (by omega)
      rw [ins_at] at this
      have := h2 h
      omega
  · by_cases a2 : i = k + 1
    · subst a2
      rw [t18p f hf]
      rw [ins_at] at hq
      refine hV k q hk (by omega) hq2 (fun h => ?_) f hf
      have := hq3 (by omega)
      rw [ins_gt (by omega), Nat.add_sub_cancel] at this
      exact this
    · rw [t18g i f (by omega) (by omega) hf]
      rw [ins_gt (by omega)] at hq
      refine hV (i - 1) q (by omega) hq hq2 (fun h => ?_) f hf
      have := hq3 (by omega)
      rw [ins_gt (by omega), Nat.add_sub_cancel] at this
      rw [show i - 1 + 1 = i by omega]
      exact this
/-- the piece of a point -/
def Pc' (s : Nat → Nat) (n p k : Nat) : Prop := k < n ∧ s k ≤ p ∧ (k + 1 < n → p < s (k + 1))
theorem MV_at {σ : St} {s : Nat → Nat} {n p k : Nat} {V : Nat → Nat → Int32} (hV : MV σ s n V) (hp : p < 1114112) (hk : Pc' s n p k) {f : Nat} (hf : f < 8) : σ 18 (8 * k + f) = V p f := hV k p hk.1 hk.2.1 hp hk.2.2 f hf
theorem Pc_one {σ : St} {s : Nat → Nat} {n p k : Nat} (hM : MS σ s n) (hk : Pc' s n p k) {i : Nat} (hi : i < n) (e : s i = p) : i = k := by
  obtain ⟨-, -, -, -, -, m6⟩ := hM
  obtain ⟨k1, k2, k3⟩ := hk
  rcases Nat.lt_trichotomy i k with h | h | h
  · have := m6 i k h k1
    omega
  · exact h
  · exfalso
    have h3 := k3 (by omega)
    by_cases a : i = k + 1
    · rw [← a] at h3; omega
    · have := m6 (k + 1) i (by omega) hi
      omega
theorem MS_mono {σ : St} {s : Nat → Nat} {n : Nat} (hM : MS σ s n) {i j : Nat} (hij : i ≤ j) (hj : j < n) : s i ≤ s j := by
  by_cases a : i = j
  · rw [a]; exact Nat.le_refl _
  · exact Nat.le_of_lt (hM.2.2.2.2.2 i j (by omega) hj)
theorem s_Mat {σ : St} {s : Nat → Nat} {n p : Nat} {Q : Int32 → St → Prop} (hM : MS σ s n) (hp : p < 1114112) (hQ : ∀ k, Pc' s n p k → Q (nI k) σ) : F_Mo_at (nI p) σ Q := by
  obtain ⟨m1, m2, e20, s0, hs, hinc⟩ := hM
  unfold F_Mo_at
  intro z1 hz1 z2 hz2
  rw [e20, ar_m1 m1] at hz2
  unfold F_Mo_at_L9
  refine ⟨fun v2 v3 τ => τ = σ ∧ ∃ lo hi, v2 = nI lo ∧ v3 = nI hi ∧ lo ≤ hi ∧ hi < n ∧ s lo ≤ p ∧ (hi + 1 < n → p < s (hi + 1)), fun v2 v3 _ => v3.toNatClampNeg - v2.toNatClampNeg, ⟨rfl, 0, n - 1, hz1, hz2, by omega, by omega, by omega, fun h => absurd h (by omega)⟩, ?_⟩
  intro v2 v3 τ m hI hm
  dsimp only at hm ⊢
  obtain ⟨rfl, lo, hi, rfl, rfl, hle, hlt, hl, hh⟩ := hI
  rw [cl (by omega), cl (by omega)] at hm
  rw [nI_leI (by omega) (by omega)]
  refine ⟨fun hc => ?_, fun hc => ?_⟩
  · have : hi = lo := by omega
    subst this
    exact hQ hi ⟨hlt, hl, hh⟩
  · intro z3 hz3
    rw [nI_add, ar_1, show (2 : Int32) = nI 2 from rfl, pk_div (by omega) (by omega) (by omega)] at hz3
    obtain ⟨md, hmd⟩ : ∃ md, md = (lo + hi + 1) / 2 := ⟨_, rfl⟩
    rw [← hmd] at hz3
    subst hz3
    have hb : lo < md ∧ md ≤ hi := by omega
    obtain ⟨h17, hsm⟩ := hs md (by omega)
    rw [cl (by omega), h17, nI_ltI (by omega) (by omega)]
    refine ⟨vp_in_nI (by omega) (by decide), fun hc2 => ?_, fun hc2 => ⟨⟨rfl, md, hi, rfl, rfl, hb.2, hlt, by omega, hh⟩, by rw [cl (by omega)]; omega⟩⟩
    · intro z4 hz4
      rw [ar_m1 (by omega)] at hz4
      subst hz4
      refine ⟨⟨rfl, lo, md - 1, rfl, rfl, by omega, by omega, hl, fun _ => ?_⟩, ?_⟩
      · rw [show md - 1 + 1 = md by omega]
        omega
      · rw [cl (by omega), cl (by omega)]
        omega
theorem s_cutL53 {σ : St} {j p k : Nat} {K : Int32 → St → Prop} {Q : St → Prop} (h1 : 1 ≤ j) (hj : j < 9000)
    (hQ : ∀ τ : St, (∀ x, x ≠ 18 → τ x = σ x) → (∀ q, τ 18 q = if 8 * j ≤ q ∧ q < 8 * j + 8 then σ 18 (q - 8) else σ 18 q) → K (nI (j - 1)) τ) : F_Mo_cut_L53 (nI p) (nI k) (nI j) 0 σ K Q := by
  unfold F_Mo_cut_L53
  refine ⟨fun v4 τ => (∀ x, x ≠ 18 → τ x = σ x) ∧ ∃ f, f ≤ 8 ∧ v4 = nI f ∧ ∀ q, τ 18 q = if 8 * j ≤ q ∧ q < 8 * j + f then σ 18 (q - 8) else σ 18 q, fun v4 _ => 8 - v4.toNatClampNeg, ⟨fun _ _ => rfl, 0, by omega, rfl, fun q => by rw [if_neg (by omega)]⟩, ?_⟩
  intro v4 τ m hI hm
  dsimp only at hm ⊢
  obtain ⟨hfr, f, hf, rfl, hall⟩ := hI
  rw [cl (by omega)] at hm
  rw [show (8 : Int32) = nI 8 from rfl, nI_leI (by omega) (by omega)]
  refine ⟨fun hc => ?_, fun hc => ?_⟩
  · have : f = 8 := by omega
    subst this
    intro z1 hz1
    have e1 : z1 = nI (j - 1) := by
      rw [hz1, show j = (j - 1) + 1 by omega, pk_m1]
      congr 1
    rw [e1]
    exact hQ τ hfr hall
  · rw [pk_mul, pk_sub (by omega), nI_add, nI_add, cl (by omega), cl (by omega)]
    refine ⟨vp_in_nI (by omega) (by decide), vp_in_nI (by omega) (by decide), ?_⟩
    intro σ1 e1 z2 hz2
    rw [ar_1] at hz2
    refine ⟨⟨fun x a => by rw [e1, sA_n a]; exact hfr x a, f + 1, by omega, hz2, fun q => ?_⟩, ?_⟩
    · rw [e1, sA_s]
      unfold upd
      by_cases a1 : q = 8 * j + f
      · rw [if_pos a1, if_pos (by omega), hall, if_neg (by omega)]
        congr 1
        omega
      · rw [if_neg a1, hall]
        by_cases a2 : 8 * j ≤ q ∧ q < 8 * j + f
        · rw [if_pos a2, if_pos (by omega)]
        · rw [if_neg a2, if_neg (by omega)]
    · rw [hz2, cl (by omega)]
      omega
theorem s_cutL110 {σ : St} {n k : Nat} {Q : St → Prop} (hk : k < 8999) (e20 : σ 20 0 = nI n)
    (hQ : ∀ τ : St, (∀ x, x ≠ 18 → x ≠ 20 → τ x = σ x) → (∀ q, τ 18 q = if 8 * k + 8 ≤ q ∧ q < 8 * k + 16 then σ 18 (q - 8) else σ 18 q) → τ 20 0 = nI (n + 1) → Q τ) : F_Mo_cut_L110 (nI k) 0 σ Q := by
  unfold F_Mo_cut_L110
  refine ⟨fun v3 τ => (∀ x, x ≠ 18 → τ x = σ x) ∧ ∃ f, f ≤ 8 ∧ v3 = nI f ∧ ∀ q, τ 18 q = if 8 * k + 8 ≤ q ∧ q < 8 * k + 8 + f then σ 18 (q - 8) else σ 18 q, fun v3 _ => 8 - v3.toNatClampNeg, ⟨fun _ _ => rfl, 0, by omega, rfl, fun q => by rw [if_neg (by omega)]⟩, ?_⟩
  intro v3 τ m hI hm
  dsimp only at hm ⊢
  obtain ⟨hfr, f, hf, rfl, hall⟩ := hI
  rw [cl (by omega)] at hm
  rw [show (8 : Int32) = nI 8 from rfl, nI_leI (by omega) (by omega)]
  refine ⟨fun hc => ?_, fun hc => ?_⟩
  · have : f = 8 := by omega
    subst this
    intro σ1 h1
    rw [hfr 20 (by decide), e20, ar_1] at h1
    refine hQ σ1 (fun x a b => by rw [h1, sA_n b]; exact hfr x a) (fun q => ?_) (by rw [h1, sA_s])
    rw [h1, sA_n (by decide), hall]
  · rw [pk_mul, nI_add, nI_add, nI_add, cl (by omega), cl (by omega)]
    refine ⟨vp_in_nI (by omega) (by decide), vp_in_nI (by omega) (by decide), ?_⟩
    intro σ1 e1 z2 hz2
    rw [ar_1] at hz2
    refine ⟨⟨fun x a => by rw [e1, sA_n a]; exact hfr x a, f + 1, by omega, hz2, fun q => ?_⟩, ?_⟩
    · rw [e1, sA_s]
      unfold upd
      by_cases a1 : q = 8 * k + 8 + f
      · rw [if_pos a1, if_pos (by omega), hall, if_neg (by omega)]
        congr 1
        omega
      · rw [if_neg a1, hall]
        by_cases a2 : 8 * k + 8 ≤ q ∧ q < 8 * k + 8 + f
        · rw [if_pos a2, if_pos (by omega)]
        · rw [if_neg a2, if_neg (by omega)]
    · rw [hz2, cl (by omega)]
      omega
theorem s_Mcut {σ : St} {s : Nat → Nat} {n p : Nat} {V : Nat → Nat → Int32} {Q : St → Prop} (hM : MS σ s n) (hV : MV σ s n V) (hn : n < 8999) (hp : p ≤ 1114112)
    (hQ : ∀ (τ : St) (s' : Nat → Nat) (n' : Nat), n' ≤ n + 1 → MS τ s' n' → MV τ s' n' V → (p < 1114112 → ∃ i, i < n' ∧ s' i = p) → (∀ i, i < n → ∃ j, j < n' ∧ s' j = s i) → (∀ x, x ≠ 17 → x ≠ 18 → x ≠ 20 → τ x = σ x) → Q τ) : F_Mo_cut (nI p) σ Q := by
  unfold F_Mo_cut
  rw [show (1114111 : Int32) = nI 1114111 from rfl, nI_leI (by omega) (by omega)]
  refine ⟨fun hc => ?_, fun hc => hQ σ s n (by omega) hM hV (fun h => absurd h (by omega)) (fun i hi => ⟨i, hi, rfl⟩) (fun _ _ _ _ => rfl)⟩
  refine s_Mat hM (by omega) (fun k hk => ?_)
  obtain ⟨k1, k2, k3⟩ := hk
  obtain ⟨m1, m2, e20, s0, hs, hinc⟩ := id hM
  obtain ⟨h17, hsk⟩ := hs k k1
  rw [cl (by omega), h17]
  refine ⟨vp_in_nI (by omega) (by decide), fun he => ?_, fun he => ?_⟩
  · have : s k = p := nI_inj (by omega) (by omega) he
    exact hQ σ s n (by omega) hM hV (fun _ => ⟨k, k1, this⟩) (fun i hi => ⟨i, hi, rfl⟩) (fun _ _ _ _ => rfl)
  · have hlt : s k < p := by
      by_cases e : s k = p
      · exact absurd (by rw [e]) he
      · omega
    intro z3 hz3
    rw [e20] at hz3
    subst hz3
    unfold F_Mo_cut_L29
    refine ⟨fun v3 τ => ∃ j, v3 = nI j ∧ k + 1 ≤ j ∧ j ≤ n ∧ (∀ x, x ≠ 17 → x ≠ 18 → τ x = σ x) ∧ (∀ q, τ 17 q = if j < q ∧ q ≤ n then σ 17 (q - 1) else σ 17 q) ∧ ∀ q, τ 18 q = if 8 * j + 8 ≤ q ∧ q < 8 * n + 8 then σ 18 (q - 8) else σ 18 q, fun v3 _ => v3.toNatClampNeg,
      ⟨n, rfl, by omega, by omega, fun _ _ _ => rfl, fun q => by rw [if_neg (by omega)], fun q => by rw [if_neg (by omega)]⟩, ?_⟩
    intro v3 τ m hI hm
    dsimp only at hm ⊢
    obtain ⟨j, rfl, j1, j2, hfr, t17, t18⟩ := hI
    rw [cl (by omega)] at hm
    rw [ar_1, nI_leI (by omega) (by omega)]
    refine ⟨fun hc1 => ?_, fun hc1 => ?_⟩
    · have hj : j = k + 1 := by omega
      subst hj
      refine ⟨vp_in_nI (by omega) (by decide), ?_⟩
      intro σ4 h4 z5 hz5
      rw [cl (by omega)] at h4
      subst hz5
      refine s_cutL110 (n := n) (by omega) (by rw [h4, sA_n (by decide), hfr 20 (by decide) (by decide)]; exact e20) (fun τ2 f2 t2 g20 => ?_)
      have g17 : τ2 17 = upd (τ 17) (k + 1) (nI p) := by rw [f2 17 (by decide) (by decide), h4, sA_s]
      have g18 : ∀ q, τ2 18 q = if 8 * k + 8 ≤ q ∧ q < 8 * k + 16 then τ 18 (q - 8) else τ 18 q := fun q => by rw [t2 q, h4, sA_n (by decide)]
      refine hQ τ2 (ins s k p) (n + 1) (by omega) (MS_ins hM hn k1 hlt k3 (by omega) (fun i hi => ?_) ?_ (fun i a1 a2 => ?_) g20) (MV_ins hV k1 hlt k3 (fun i f hi hf => ?_) (fun f hf => ?_) (fun i f a1 a2 hf => ?_)) (fun _ => ⟨k + 1, by omega, ins_at⟩) (fun i hi => ?_) (fun x a b c => by rw [f2 x b c, h4, sA_n a]; exact hfr x a b)
      · rw [g17, pk_un (by omega), t17, if_neg (by omega)]
      · rw [g17, pk_us]
      · rw [g17, pk_un (by omega), t17, if_pos (by omega)]
      · rw [g18, if_neg (by omega), t18, if_neg (by omega)]
      · rw [g18, if_pos (by omega), show 8 * (k + 1) + f - 8 = 8 * k + f by omega, t18, if_neg (by omega)]
      · rw [g18, if_neg (by omega), t18, if_pos (by omega)]
        congr 1
        omega
      · by_cases a : i ≤ k
        · exact ⟨i, by omega, ins_le a⟩
        · exact ⟨i + 1, by omega, by rw [ins_gt (by omega)]; rfl⟩
    · rw [ar_m1 (by omega), cl (by omega), cl (by omega)]
      refine ⟨vp_in_nI (by omega) (by decide), vp_in_nI (by omega) (by decide), ?_⟩
      intro σ4 h4 z5 hz5
      subst hz5
      refine s_cutL53 (by omega) (by omega) (fun τ2 f2 t2 => ?_)
      refine ⟨⟨j - 1, rfl, by omega, by omega, fun x a b => by rw [f2 x b, h4, sA_n a]; exact hfr x a b, fun q => ?_, fun q => ?_⟩, ?_⟩
      · rw [f2 17 (by decide), h4, sA_s]
        by_cases a1 : q = j
        · rw [a1, pk_us, if_pos (by omega), t17, if_neg (by omega)]
        · rw [pk_un a1, t17]
          by_cases a2 : j < q ∧ q ≤ n
          · rw [if_pos a2, if_pos (by omega)]
          · rw [if_neg a2, if_neg (by omega)]
      · rw [t2 q, h4, sA_n (by decide), t18, t18]
        by_cases a1 : 8 * j ≤ q ∧ q < 8 * j + 8
        · rw [if_pos a1, if_neg (by omega), if_pos (by omega)]
        · rw [if_neg a1]
          by_cases a2 : 8 * j + 8 ≤ q ∧ q < 8 * n + 8
          · rw [if_pos a2, if_pos (by omega)]
          · rw [if_neg a2, if_neg (by omega)]
      · rw [cl (by omega)]
        omega
def inP (x : Int32) : Prop := ¬ x < 0 ∧ x ≤ 1114111
def inF (x : Int32) : Prop := ¬ x < 0 ∧ x ≤ 7
theorem inP_nI {p : Nat} (h : p < 1114112) : inP (nI p) := ⟨nI_pos (by omega), (nI_leI (b := 1114111) (by omega) (by omega)).mpr (by omega)⟩
theorem inF_nI {f : Nat} (h : f < 8) : inF (nI f) := ⟨nI_pos (by omega), (nI_leI (b := 7) (by omega) (by omega)).mpr (by omega)⟩
theorem inP_of {x : Int32} (h : inP x) : ∃ p, p < 1114112 ∧ x = nI p := by
  obtain ⟨j, hj, e⟩ := nI_of h.1
  refine ⟨j, ?_, e⟩
  have h2 := h.2
  rw [e] at h2
  have := (nI_leI (b := 1114111) hj (by omega)).mp h2
  omega
theorem inF_of {x : Int32} (h : inF x) : ∃ p, p < 8 ∧ x = nI p := by
  obtain ⟨j, hj, e⟩ := nI_of h.1
  refine ⟨j, ?_, e⟩
  have h2 := h.2
  rw [e] at h2
  have := (nI_leI (b := 7) hj (by omega)).mp h2
  omega
theorem s_fail {σ : St} {x : Int32} {Q : Int32 → St → Prop} (hQ : Q 0 (sA σ 19 (fun _ => x))) : F_Mo_fail x σ Q := by
  unfold F_Mo_fail
  intro σ1 h1
  rw [h1]
  exact hQ
theorem s_out {σ : St} {x : Int32} {Q : Int32 → St → Prop} (h1 : ¬ inP x → Q 1 σ) (h0 : inP x → Q 0 σ) : F_Mo_out x σ Q := by
  unfold F_Mo_out
  refine ⟨fun a => h1 (fun h => h.1 a), fun a => ⟨fun b => h0 ⟨a, b⟩, fun b => h1 (fun h => b h.2)⟩⟩
theorem s_thrown {σ : St} {Q : Int32 → St → Prop} (hQ : Q (σ 19 0) σ) : F_Mo_thrown σ Q := by
  unfold F_Mo_thrown
  exact hQ
/-- the reference's end of a refused call -/
abbrev bad (σ : St) : St := sA (sA σ 19 (fun _ => 0)) 19 (fun _ => 1)
theorem s_Mmark_bad {σ : St} {x1 x2 x3 x4 x5 : Int32} {Q : Int32 → St → Prop} (h : ¬ (inP x1 ∧ inP x2 ∧ ¬ x2 < x1 ∧ inF x3)) (hQ : Q 0 (bad σ)) : F_Mo_mark x1 x2 x3 x4 x5 σ Q := by
  unfold F_Mo_mark
  intro σ1 h1
  subst h1
  have hb : F_Mo_fail 1 (sA σ 19 (fun _ => 0)) Q := s_fail hQ
  refine s_out (fun a => ⟨fun q => absurd q (by decide), fun _ => hb⟩) (fun a1 => ⟨fun _ => ?_, fun q => absurd rfl q⟩)
  refine s_out (fun a => ⟨fun q => absurd q (by decide), fun _ => hb⟩) (fun a2 => ⟨fun _ => ?_, fun q => absurd rfl q⟩)
  refine ⟨fun _ => hb, fun a3 => ⟨fun _ => hb, fun a4 => ⟨fun a5 => absurd ⟨a1, a2, a3, a4, a5⟩ h, fun _ => hb⟩⟩⟩
theorem s_Mmark {σ : St} {s : Nat → Nat} {n a z fl : Nat} {v k : Int32} {V : Nat → Nat → Int32} {Q : Int32 → St → Prop} (hM : MS σ s n) (hV : MV σ s n V) (hn : n < 8998) (haz : a ≤ z) (hz : z < 1114112) (hfl : fl < 8)
    (hQ : ∀ (τ : St) (s' : Nat → Nat) (n' : Nat), n' ≤ n + 2 → MS τ s' n' → MV τ s' n' (chg V fl v k a (z + 1)) → τ 19 0 = 0 → (∀ x, x < 17 → τ x = σ x) → Q (nI (z - a + 1)) τ) : F_Mo_mark (nI a) (nI z) (nI fl) v k σ Q := by
  unfold F_Mo_mark
  intro σ1 h1
  have hM1 : MS σ1 s n := MS_congr (by rw [h1, sA_n (by decide)]) (by rw [h1, sA_n (by decide)]) hM
  have hV1 : MV σ1 s n V := MV_congr (by rw [h1, sA_n (by decide)]) hV
  refine s_out (fun q => absurd (inP_nI (by omega)) q) (fun _ => ⟨fun _ => ?_, fun q => absurd rfl q⟩)
  refine s_out (fun q => absurd (inP_nI (by omega)) q) (fun _ => ⟨fun _ => ?_, fun q => absurd rfl q⟩)
  refine ⟨fun q => absurd ((nI_ltI (by omega) (by omega)).mp q) (by omega), fun _ => ⟨fun q => absurd q (nI_pos (by omega)), fun _ => ⟨fun _ => ?_, fun q => absurd (inF_nI hfl).2 q⟩⟩⟩
  refine s_Mcut hM1 hV1 (by omega) (by omega) (fun σ2 s2 n2 hn2 hM2 hV2 hst2 _ hf2 => ?_)
  rw [ar_1]
  refine s_Mcut hM2 hV2 (by omega) (by omega) (fun σ3 s3 n3 hn3 hM3 hV3 hst3 hk3 hf3 => ?_)
  refine s_Mat hM3 (by omega) (fun k0 hk0 => ?_)
  obtain ⟨i2, hi2, e2⟩ := hst2 (by omega)
  obtain ⟨i3, hi3, e3⟩ := hk3 i2 hi2
  have hk0a : s3 k0 = a := by
    rw [← Pc_one hM3 hk0 hi3 (e3.trans e2), e3, e2]
  obtain ⟨m1, m2, e20, s0, hs, hinc⟩ := id hM3
  have hfail : σ3 19 0 = 0 := by
    rw [hf3 19 (by decide) (by decide) (by decide), hf2 19 (by decide) (by decide) (by decide), h1, sA_s]
  unfold F_Mo_mark_L61
  refine ⟨fun v6 τ => ∃ j, v6 = nI j ∧ k0 ≤ j ∧ j ≤ n3 ∧ (∀ x, x ≠ 18 → τ x = σ3 x) ∧ (∀ i, k0 ≤ i → i < j → s3 i ≤ z) ∧ ∀ i f, f < 8 → τ 18 (8 * i + f) = if k0 ≤ i ∧ i < j ∧ f = fl then (σ3 18 (8 * i + f) &&& k) ||| v else σ3 18 (8 * i + f), fun v6 _ => 9000 - v6.toNatClampNeg,
    ⟨k0, rfl, Nat.le_refl _, Nat.le_of_lt hk0.1, fun _ _ => rfl, fun i q1 q2 => absurd q1 (by omega), fun i f _ => by rw [if_neg (by omega)]⟩, ?_⟩
  intro v6 τ m hI hm
  dsimp only at hm ⊢
  obtain ⟨j, rfl, j1, j2, hfr, hle, h18⟩ := hI
  rw [cl (by omega)] at hm
  have hJ : (j = n3 ∨ z < s3 j) → F_Mo_mark_J117 (nI a) (nI z) τ Q := fun hex => by
    unfold F_Mo_mark_J117
    rw [pk_sub haz, ar_1]
    refine hQ τ s3 n3 (by omega) (MS_congr (hfr 17 (by decide)) (hfr 20 (by decide)) hM3) (fun i p hi hp1 hp2 hp3 f hf => ?_) (by rw [hfr 19 (by decide)]; exact hfail) (fun x hx => ?_)
    · rw [h18 i f hf, hV3 i p hi hp1 hp2 hp3 f hf]
      have hc : (k0 ≤ i ∧ i < j ∧ f = fl) ↔ (a ≤ p ∧ p < z + 1 ∧ f = fl) := by
        constructor
        · intro ⟨c1, c2, c3⟩
          refine ⟨?_, ?_, c3⟩
          · have := MS_mono hM3 c1 hi
            omega
          · by_cases hz1 : z + 1 < 1114112
            · obtain ⟨t, ht, et⟩ := hst3 hz1
              have hlt := hle i c1 c2
              have hit : i < t := by
                by_cases hit : i < t
                · exact hit
                · have := MS_mono hM3 (show t ≤ i by omega) hi
                  omega
              have h2 := hp3 (by omega)
              have h3 := MS_mono hM3 (show i + 1 ≤ t by omega) ht
              omega
            · omega
        · intro ⟨c1, c2, c3⟩
          refine ⟨?_, ?_, c3⟩
          · by_cases hik : k0 ≤ i
            · exact hik
            · exfalso
              have h2 := hp3 (by have := hk0.1; omega)
              have h3 := MS_mono hM3 (show i + 1 ≤ k0 by omega) hk0.1
              omega
          · by_cases hij : i < j
            · exact hij
            · exfalso
              rcases hex with h | h
              · omega
              · have := MS_mono hM3 (show j ≤ i by omega) hi
                omega
      unfold chg
      by_cases hcc : k0 ≤ i ∧ i < j ∧ f = fl
      · rw [if_pos hcc, if_pos (hc.mp hcc)]
      · rw [if_neg hcc, if_neg (fun q => hcc (hc.mpr q))]
    · rw [hfr x (by omega), hf3 x (by omega) (by omega) (by omega), hf2 x (by omega) (by omega) (by omega), h1, sA_n (by omega)]
  rw [hfr 20 (by decide), e20, nI_leI (by omega) (by omega)]
  refine ⟨fun hc => hJ (Or.inl (by omega)), fun hc => ?_⟩
  obtain ⟨e17, hsj⟩ := hs j (by omega)
  rw [cl (by omega), hfr 17 (by decide), e17, nI_ltI (by omega) (by omega)]
  refine ⟨vp_in_nI (by omega) (by decide), fun hc2 => hJ (Or.inr hc2), fun hc2 => ?_⟩
  rw [show (8 : Int32) = nI 8 from rfl, pk_mul, nI_add, cl (by omega)]
  refine ⟨vp_in_nI (by omega) (by decide), vp_in_nI (by omega) (by decide), ?_⟩
  intro σ4 h4 z5 hz5
  rw [ar_1] at hz5
  refine ⟨⟨j + 1, hz5, by omega, by omega, fun x hx => by rw [h4, sA_n hx]; exact hfr x hx, fun i q1 q2 => ?_, fun i f hf => ?_⟩, ?_⟩
  · by_cases e : i = j
    · subst e; omega
    · exact hle i q1 (by omega)
  · rw [h4, sA_s]
    by_cases e : 8 * i + f = 8 * j + fl
    · have ei : i = j ∧ f = fl := by omega
      obtain ⟨rfl, rfl⟩ := ei
      rw [pk_us, if_pos (by omega), h18 i f hf, if_neg (by omega)]
    · rw [pk_un e, h18 i f hf]
      by_cases c : k0 ≤ i ∧ i < j ∧ f = fl
      · rw [if_pos c, if_pos (by omega)]
      · rw [if_neg c, if_neg (by omega)]
  · rw [hz5, cl (by omega)]
    omega
theorem s_Mget_bad {σ : St} {x1 x2 : Int32} {Q : Int32 → St → Prop} (h : ¬ (inP x1 ∧ inF x2)) (hQ : Q 0 (bad σ)) : F_Mo_get x1 x2 σ Q := by
  unfold F_Mo_get
  intro σ1 h1
  subst h1
  have hb : F_Mo_fail 1 (sA σ 19 (fun _ => 0)) Q := s_fail hQ
  refine s_out (fun a => ⟨fun q => absurd q (by decide), fun _ => hb⟩) (fun a1 => ⟨fun _ => ?_, fun q => absurd rfl q⟩)
  refine ⟨fun _ => hb, fun a4 => ⟨fun a5 => absurd ⟨a1, a4, a5⟩ h, fun _ => hb⟩⟩
theorem s_Mget {σ : St} {s : Nat → Nat} {n p f : Nat} {V : Nat → Nat → Int32} {Q : Int32 → St → Prop} (hM : MS σ s n) (hV : MV σ s n V) (hp : p < 1114112) (hf : f < 8) (hQ : Q (V p f) (sA σ 19 (fun _ => 0))) : F_Mo_get (nI p) (nI f) σ Q := by
  unfold F_Mo_get
  intro σ1 h1
  have hM1 : MS σ1 s n := MS_congr (by rw [h1, sA_n (by decide)]) (by rw [h1, sA_n (by decide)]) hM
  have hV1 : MV σ1 s n V := MV_congr (by rw [h1, sA_n (by decide)]) hV
  rw [← h1] at hQ
  refine s_out (fun q => absurd (inP_nI hp) q) (fun _ => ⟨fun _ => ?_, fun q => absurd rfl q⟩)
  refine ⟨fun q => absurd q (nI_pos (by omega)), fun _ => ⟨fun _ => ?_, fun q => absurd (inF_nI hf).2 q⟩⟩
  refine s_Mat hM1 hp (fun k hk => ?_)
  have hk1 := hk.1
  have hn := hM.2.1
  rw [show (8 : Int32) = nI 8 from rfl, pk_mul, nI_add, cl (by omega), MV_at hV1 hp hk hf]
  exact ⟨vp_in_nI (by omega) (by decide), hQ⟩
theorem s_Mchange_bad {σ : St} {x1 x2 : Int32} {Q : Int32 → St → Prop} (h : ¬ (inP x1 ∧ inF x2)) (hQ : Q 0 (bad σ)) : F_Mo_change x1 x2 σ Q := by
  unfold F_Mo_change
  intro σ1 h1
  subst h1
  have hb : F_Mo_fail 1 (sA σ 19 (fun _ => 0)) Q := s_fail hQ
  refine s_out (fun a => ⟨fun q => absurd q (by decide), fun _ => hb⟩) (fun a1 => ⟨fun _ => ?_, fun q => absurd rfl q⟩)
  refine ⟨fun _ => hb, fun a4 => ⟨fun a5 => absurd ⟨a1, a4, a5⟩ h, fun _ => hb⟩⟩
theorem s_Mchange {σ : St} {s : Nat → Nat} {n p f : Nat} {V : Nat → Nat → Int32} {Q : Int32 → St → Prop} (hM : MS σ s n) (hV : MV σ s n V) (hp : p < 1114112) (hf : f < 8) (hQ : ∀ x : Int32, ChR V p f x → Q x (sA σ 19 (fun _ => 0))) : F_Mo_change (nI p) (nI f) σ Q := by
  unfold F_Mo_change
  intro σ1 h1
  have hM1 : MS σ1 s n := MS_congr (by rw [h1, sA_n (by decide)]) (by rw [h1, sA_n (by decide)]) hM
  have hV1 : MV σ1 s n V := MV_congr (by rw [h1, sA_n (by decide)]) hV
  rw [← h1] at hQ
  obtain ⟨m1, m2, e20, s0, hs, hinc⟩ := id hM1
  refine s_out (fun q => absurd (inP_nI hp) q) (fun _ => ⟨fun _ => ?_, fun q => absurd rfl q⟩)
  refine ⟨fun q => absurd q (nI_pos (by omega)), fun _ => ⟨fun _ => ?_, fun q => absurd (inF_nI hf).2 q⟩⟩
  refine s_Mat hM1 hp (fun k0 hk => ?_)
  have hk1 := hk.1
  rw [show (8 : Int32) = nI 8 from rfl, pk_mul, nI_add, cl (by omega), MV_at hV1 hp hk hf]
  refine ⟨vp_in_nI (by omega) (by decide), ?_⟩
  intro z4 hz4
  subst hz4
  unfold F_Mo_change_L48
  refine ⟨fun v3 τ => τ = σ1 ∧ ∃ j, v3 = nI j ∧ k0 ≤ j ∧ j ≤ n ∧ (∀ y, p ≤ y → y < 1114112 → (j < n → y < s j) → V y f = V p f), fun v3 _ => 9000 - v3.toNatClampNeg, ⟨rfl, k0, rfl, Nat.le_refl _, by omega, fun y q1 q2 q3 => by have := q3 hk1; have := hk.2.1; omega⟩, ?_⟩
  intro v3 τ m hI hm
  dsimp only at hm ⊢
  obtain ⟨rfl, j, rfl, j1, j2, hall⟩ := hI
  rw [cl (by omega)] at hm
  have hJ : ∀ x : Int32, (j = n → x = -1 → Q x τ) → (j < n → x = nI (s j) → Q x τ) → True := fun _ _ _ => trivial
  have hj78 : (j = n ∨ (j < n ∧ τ 18 (8 * j + f) ≠ V p f)) → F_Mo_change_J78 (nI j) τ Q := fun hex => by
    unfold F_Mo_change_J78
    rw [e20, nI_eq (by omega) (by omega)]
    refine ⟨fun he => ?_, fun he => ?_⟩
    · exact hQ _ (Or.inr ⟨rfl, fun y q1 q2 => hall y q1 q2 (fun q => absurd q (by omega))⟩)
    · have hjn : j < n := by omega
      obtain ⟨e17, hsj⟩ := hs j hjn
      rw [cl (by omega), e17]
      refine ⟨vp_in_nI (by omega) (by decide), hQ _ (Or.inl ?_)⟩
      rcases hex with h | ⟨-, h⟩
      · exact absurd h he
      · have hsv : τ 18 (8 * j + f) = V (s j) f := hV1 j (s j) hjn (Nat.le_refl _) hsj (fun q => hinc j (j + 1) (by omega) q) f hf
        have hlt : p < s j := by
          by_cases e : j = k0
          · subst e
            exact absurd (MV_at hV1 hp hk hf) h
          · have h2 := hk.2.2 (by omega)
            have h3 := MS_mono hM1 (show k0 + 1 ≤ j by omega) hjn
            omega
        exact ⟨s j, hlt, hsj, by rw [← hsv]; exact h, fun y q1 q2 => hall y q1 (by omega) (fun _ => q2), rfl⟩
  rw [e20, nI_leI (by omega) (by omega)]
  refine ⟨fun hc => hj78 (Or.inl (by omega)), fun hc => ?_⟩
  rw [show (8 : Int32) = nI 8 from rfl, pk_mul, nI_add, cl (by omega)]
  refine ⟨vp_in_nI (by omega) (by decide), fun hc2 => ?_, fun hc2 => hj78 (Or.inr ⟨by omega, hc2⟩)⟩
  intro z5 hz5
  rw [ar_1] at hz5
  refine ⟨⟨rfl, j + 1, hz5, by omega, by omega, fun y q1 q2 q3 => ?_⟩, ?_⟩
  · by_cases hy : y < s j
    · exact hall y q1 q2 (fun _ => hy)
    · rw [← hV1 j y (by omega) (by omega) q2 q3 f hf]
      exact hc2
  · rw [hz5, cl (by omega)]
    omega
theorem s_Malike_bad {σ : St} {x1 x2 : Int32} {Q : Int32 → St → Prop} (h : ¬ (inP x1 ∧ inP x2)) (hQ : Q 0 (bad σ)) : F_Mo_alike x1 x2 σ Q := by
  unfold F_Mo_alike
  intro σ1 h1
  subst h1
  have hb : F_Mo_alike_J21 (sA σ 19 (fun _ => 0)) Q := by
    unfold F_Mo_alike_J21
    refine s_fail ?_
    exact ⟨fun _ => hQ, fun q => absurd (Int32.le_refl 0) q⟩
  refine s_out (fun a => ⟨fun q => absurd q (by decide), fun _ => hb⟩) (fun a1 => ⟨fun _ => ?_, fun q => absurd rfl q⟩)
  refine s_out (fun a => ⟨fun q => absurd q (by decide), fun _ => hb⟩) (fun a2 => absurd ⟨a1, a2⟩ h)
theorem s_Malike {σ : St} {s : Nat → Nat} {n p q : Nat} {V : Nat → Nat → Int32} {Q : Int32 → St → Prop} (hM : MS σ s n) (hV : MV σ s n V) (hp : p < 1114112) (hq : q < 1114112)
    (hQ1 : (∀ f, f < 8 → V p f = V q f) → Q 1 (sA σ 19 (fun _ => 0))) (hQ0 : (¬ ∀ f, f < 8 → V p f = V q f) → Q 0 (sA σ 19 (fun _ => 0))) : F_Mo_alike (nI p) (nI q) σ Q := by
  unfold F_Mo_alike
  intro σ1 h1
  have hM1 : MS σ1 s n := MS_congr (by rw [h1, sA_n (by decide)]) (by rw [h1, sA_n (by decide)]) hM
  have hV1 : MV σ1 s n V := MV_congr (by rw [h1, sA_n (by decide)]) hV
  rw [← h1] at hQ1 hQ0
  have hn := hM.2.1
  refine s_out (fun q => absurd (inP_nI hp) q) (fun _ => ⟨fun _ => ?_, fun q => absurd rfl q⟩)
  refine s_out (fun z => absurd (inP_nI hq) z) (fun _ => ⟨fun _ => ?_, fun q => absurd rfl q⟩)
  intro z3 hz3
  unfold F_Mo_alike_L37
  refine ⟨fun v3 τ => τ = σ1 ∧ ∃ k, k ≤ 8 ∧ v3 = nI k ∧ ∀ f, f < k → V p f = V q f, fun v3 _ => 8 - v3.toNatClampNeg, ⟨rfl, 0, by omega, hz3, fun f hf => absurd hf (Nat.not_lt_zero _)⟩, ?_⟩
  intro v3 τ m hI hm
  dsimp only at hm ⊢
  obtain ⟨rfl, k, hk, rfl, hall⟩ := hI
  rw [cl (by omega)] at hm
  rw [show (8 : Int32) = nI 8 from rfl, nI_leI (by omega) (by omega)]
  refine ⟨fun hc => hQ1 (fun f hf => hall f (by omega)), fun hc => ?_⟩
  refine s_Mat hM1 hp (fun i hi => ?_)
  have hi1 := hi.1
  rw [pk_mul, nI_add, cl (by omega), MV_at hV1 hp hi (by omega)]
  refine ⟨vp_in_nI (by omega) (by decide), ?_⟩
  refine s_Mat hM1 hq (fun j hj => ?_)
  have hj1 := hj.1
  rw [pk_mul, nI_add, cl (by omega), MV_at hV1 hq hj (by omega)]
  refine ⟨vp_in_nI (by omega) (by decide), fun hc2 => ?_, fun hc2 => hQ0 (fun h => hc2 (h k (by omega)))⟩
  intro z4 hz4
  rw [ar_1] at hz4
  refine ⟨⟨rfl, k + 1, by omega, hz4, fun f hf => ?_⟩, ?_⟩
  · by_cases e : f = k
    · subst e; exact hc2
    · exact hall f (by omega)
  · rw [hz4, cl (by omega)]
    omega
theorem s_Mhash_bad {σ : St} {x1 x2 x3 : Int32} {Q : Int32 → St → Prop} (h : ¬ (inP x1 ∧ inP x2 ∧ ¬ x2 < x1 ∧ ¬ 3999 < x2 - x1 ∧ inF x3)) (hQ : Q 0 (bad σ)) : F_Mo_hash x1 x2 x3 σ Q := by
  unfold F_Mo_hash
  intro σ1 h1
  subst h1
  have hb : F_Mo_fail 1 (sA σ 19 (fun _ => 0)) Q := s_fail hQ
  refine s_out (fun a => ⟨fun q => absurd q (by decide), fun _ => hb⟩) (fun a1 => ⟨fun _ => ?_, fun q => absurd rfl q⟩)
  refine s_out (fun a => ⟨fun q => absurd q (by decide), fun _ => hb⟩) (fun a2 => ⟨fun _ => ?_, fun q => absurd rfl q⟩)
  refine ⟨fun _ => hb, fun a3 => ⟨fun _ => hb, fun a4 => ⟨fun _ => hb, fun a5 => ⟨fun a6 => absurd ⟨a1, a2, a3, a4, a5, a6⟩ h, fun _ => hb⟩⟩⟩⟩
theorem s_Mhash {σ : St} {s : Nat → Nat} {n a z f : Nat} {V : Nat → Nat → Int32} {Q : Int32 → St → Prop} (hM : MS σ s n) (hV : MV σ s n V) (haz : a ≤ z) (hz : z < 1114112) (hlen : z - a ≤ 3999) (hf : f < 8) (hQ : Q (hsh V f a (z - a + 1)) (sA σ 19 (fun _ => 0))) : F_Mo_hash (nI a) (nI z) (nI f) σ Q := by
  unfold F_Mo_hash
  intro σ1 h1
  have hM1 : MS σ1 s n := MS_congr (by rw [h1, sA_n (by decide)]) (by rw [h1, sA_n (by decide)]) hM
  have hV1 : MV σ1 s n V := MV_congr (by rw [h1, sA_n (by decide)]) hV
  rw [← h1] at hQ
  have hn := hM.2.1
  refine s_out (fun q => absurd (inP_nI (by omega)) q) (fun _ => ⟨fun _ => ?_, fun q => absurd rfl q⟩)
  refine s_out (fun q => absurd (inP_nI (by omega)) q) (fun _ => ⟨fun _ => ?_, fun q => absurd rfl q⟩)
  rw [pk_sub haz, show (3999 : Int32) = nI 3999 from rfl]
  refine ⟨fun q => absurd ((nI_ltI (by omega) (by omega)).mp q) (by omega), fun _ => ⟨fun q => absurd ((nI_ltI (by omega) (by omega)).mp q) (by omega), fun _ => ⟨fun q => absurd q (nI_pos (by omega)), fun _ => ⟨fun _ => ?_, fun q => absurd (inF_nI hf).2 q⟩⟩⟩⟩
  intro z4 hz4
  unfold F_Mo_hash_L57
  refine ⟨fun v4 v5 τ => τ = σ1 ∧ ∃ k, v5 = nI (a + k) ∧ a + k ≤ z + 1 ∧ v4 = hsh V f a k, fun _ v5 _ => 1114200 - v5.toNatClampNeg, ⟨rfl, 0, rfl, by omega, hz4⟩, ?_⟩
  intro v4 v5 τ m hI hm
  dsimp only at hm ⊢
  obtain ⟨rfl, k, rfl, hk, rfl⟩ := hI
  rw [cl (by omega)] at hm
  rw [nI_ltI (by omega) (by omega)]
  refine ⟨fun hc => ?_, fun hc => ?_⟩
  · have : k = z - a + 1 := by omega
    subst this
    exact hQ
  · refine s_Mat hM1 (by omega) (fun i hi => ?_)
    have hi1 := hi.1
    rw [show (8 : Int32) = nI 8 from rfl, pk_mul, nI_add, cl (by omega), MV_at hV1 (by omega) hi hf]
    refine ⟨vp_in_nI (by omega) (by decide), ?_⟩
    intro z5 hz5 z6 hz6
    rw [ar_1] at hz6
    refine ⟨⟨rfl, k + 1, by rw [hz6, Nat.add_assoc], by omega, hz5⟩, ?_⟩
    rw [hz6, cl (by omega)]
    omega
theorem s_clearL21 {σ : St} {s : Nat → Nat} {n p c : Nat} {V : Nat → Nat → Int32} {K : Int32 → Int32 → St → Prop} {Q : Int32 → St → Prop} (hM : MS σ s n) (hV : MV σ s n V) (hp : p < 1114112)
    (hQ : K (nI (c + (nz V p).toNat)) (nI (p + 1)) σ) : F_Mo_clear_L21 (nI c) (nI p) 0 0 σ K Q := by
  have hn := hM.2.1
  unfold F_Mo_clear_L21
  refine ⟨fun v3 v4 τ => τ = σ ∧ ∃ k, k ≤ 8 ∧ v4 = nI k ∧ ((v3 = 0 ∧ ∀ f, f < k → V p f = 0) ∨ (v3 = 1 ∧ nz V p = true)), fun _ v4 _ => 8 - v4.toNatClampNeg, ⟨rfl, 0, by omega, rfl, Or.inl ⟨rfl, fun f hf => absurd hf (Nat.not_lt_zero _)⟩⟩, ?_⟩
  intro v3 v4 τ m hI hm
  dsimp only at hm ⊢
  obtain ⟨rfl, k, hk, rfl, hor⟩ := hI
  rw [cl (by omega)] at hm
  rw [show (8 : Int32) = nI 8 from rfl, nI_leI (by omega) (by omega)]
  refine ⟨fun hc => ?_, fun hc => ?_⟩
  · rcases hor with ⟨e, h⟩ | ⟨e, h⟩
    · refine ⟨fun _ => ?_, fun q => absurd e q⟩
      intro z1 hz1 z2 hz2
      rw [ar_1] at hz2
      have e0 : nz V p = false := nz_f.mpr (fun f hf => h f (by omega))
      rw [e0] at hQ
      rw [hz1, hz2, show (0 : Int32) = nI 0 from rfl, nI_add]
      exact hQ
    · refine ⟨fun q => absurd (e.symm.trans q) (by decide), fun _ => ?_⟩
      intro z1 hz1 z2 hz2
      rw [ar_1] at hz1 hz2
      rw [h] at hQ
      rw [hz1, hz2]
      exact hQ
  · refine s_Mat hM hp (fun i hi => ?_)
    have hi1 := hi.1
    rw [pk_mul, nI_add, cl (by omega), MV_at hV hp hi (by omega)]
    refine ⟨vp_in_nI (by omega) (by decide), fun he => ?_, fun he => ?_⟩
    · intro z1 hz1
      rw [ar_1] at hz1
      refine ⟨⟨rfl, k + 1, by omega, hz1, ?_⟩, ?_⟩
      · rcases hor with ⟨e, h⟩ | h
        · refine Or.inl ⟨e, fun f hf => ?_⟩
          by_cases e2 : f = k
          · rw [e2]; exact he
          · exact h f (by omega)
        · exact Or.inr h
      · rw [hz1, cl (by omega)]
        omega
    · intro z0 hz0 z1 hz1
      rw [ar_1] at hz1
      refine ⟨⟨rfl, k + 1, by omega, hz1, Or.inr ⟨hz0, ?_⟩⟩, ?_⟩
      · cases h : nz V p with
        | true => rfl
        | false => exact absurd (nz_f.mp h k (by omega)) he
      · rw [hz1, cl (by omega)]
        omega
theorem s_clearL80 {σ : St} {c : Int32} {Q : Int32 → St → Prop} (hQ : ∀ τ : St, (∀ x, x ≠ 18 → τ x = σ x) → (∀ f, f < 8 → τ 18 f = 0) → Q c τ) : F_Mo_clear_L80 c 0 σ Q := by
  unfold F_Mo_clear_L80
  refine ⟨fun v2 τ => (∀ x, x ≠ 18 → τ x = σ x) ∧ ∃ k, k ≤ 8 ∧ v2 = nI k ∧ ∀ f, f < k → τ 18 f = 0, fun v2 _ => 8 - v2.toNatClampNeg, ⟨fun _ _ => rfl, 0, by omega, rfl, fun f hf => absurd hf (Nat.not_lt_zero _)⟩, ?_⟩
  intro v2 τ m hI hm
  dsimp only at hm ⊢
  obtain ⟨hfr, k, hk, rfl, hall⟩ := hI
  rw [cl (by omega)] at hm
  rw [show (8 : Int32) = nI 8 from rfl, nI_leI (by omega) (by omega)]
  refine ⟨fun hc => hQ τ hfr (fun f hf => hall f (by omega)), fun hc => ?_⟩
  refine ⟨vp_in_nI (by omega) (by decide), ?_⟩
  intro σ1 h1 z1 hz1
  rw [cl (by omega)] at h1
  rw [ar_1] at hz1
  refine ⟨⟨fun x hx => by rw [h1, sA_n hx]; exact hfr x hx, k + 1, by omega, hz1, fun f hf => ?_⟩, ?_⟩
  · rw [h1, sA_s]
    by_cases e : f = k
    · rw [e, pk_us]
    · rw [pk_un e]; exact hall f (by omega)
  · rw [hz1, cl (by omega)]
    omega
theorem s_Mclear {σ : St} {s : Nat → Nat} {n : Nat} {V : Nat → Nat → Int32} {Q : Int32 → St → Prop} (hM : MS σ s n) (hV : MV σ s n V)
    (hQ : ∀ τ : St, MS τ (fun _ => 0) 1 → MV τ (fun _ => 0) 1 (fun _ _ => 0) → τ 19 0 = 0 → (∀ x, x < 17 → τ x = σ x) → Q (nI (cnt V 1024)) τ) : F_Mo_clear σ Q := by
  unfold F_Mo_clear
  intro σ1 h1 z1 hz1 z2 hz2
  have hM1 : MS σ1 s n := MS_congr (by rw [h1, sA_n (by decide)]) (by rw [h1, sA_n (by decide)]) hM
  have hV1 : MV σ1 s n V := MV_congr (by rw [h1, sA_n (by decide)]) hV
  unfold F_Mo_clear_L9
  refine ⟨fun v1 v2 τ => τ = σ1 ∧ ∃ x, v2 = nI x ∧ x ≤ 1024 ∧ v1 = nI (cnt V x), fun _ v2 _ => 1024 - v2.toNatClampNeg, ⟨rfl, 0, hz2, by omega, hz1⟩, ?_⟩
  intro v1 v2 τ m hI hm
  dsimp only at hm ⊢
  obtain ⟨rfl, x, rfl, hx, rfl⟩ := hI
  rw [cl (by omega)] at hm
  rw [show (1024 : Int32) = nI 1024 from rfl, nI_leI (by omega) (by omega)]
  refine ⟨fun hc => ?_, fun hc => ?_⟩
  · have : x = 1024 := by omega
    subst this
    intro σ2 h2 z3 hz3
    subst hz3
    refine s_clearL80 (fun τ2 f2 t2 => ?_)
    obtain ⟨m1, m2, e20, s0, hs, hinc⟩ := hM1
    refine hQ τ2 ⟨by omega, by omega, ?_, rfl, fun i hi => ?_, fun i j hij hj => absurd hij (by omega)⟩ (fun i p hi _ _ _ f hf => ?_) ?_ (fun y hy => ?_)
    · rw [f2 20 (by decide), h2, sA_s]
      rfl
    · have : i = 0 := by omega
      subst this
      refine ⟨?_, show 0 < 1114112 by omega⟩
      rw [f2 17 (by decide), h2, sA_n (by decide), (hs 0 (by omega)).1, s0]
    · have : i = 0 := by omega
      subst this
      rw [Nat.mul_zero, Nat.zero_add]
      exact t2 f hf
    · rw [f2 19 (by decide), h2, sA_n (by decide), h1, sA_s]
    · rw [f2 y (by omega), h2, sA_n (by omega), h1, sA_n (by omega)]
  · intro z3 hz3 z4 hz4
    subst hz3
    subst hz4
    refine s_clearL21 hM1 hV1 (by omega) ⟨⟨rfl, x + 1, rfl, by omega, rfl⟩, ?_⟩
    rw [cl (by omega)]
    omega
