/-- what the change makes of V on the points from a up to (not with) z -/
def chg (V : Nat → Nat → Int32) (fl : Nat) (v k : Int32) (a z : Nat) : Nat → Nat → Int32 := fun p f => if a ≤ p ∧ p < z ∧ f = fl then (V p f &&& k) ||| v else V p f
theorem TI_set {c : Nat → Int32} {lev st : Nat → Nat} {lv lv' : Nat → Bool} {i b q r o : Nat} (hT : TI c lev st lv) (hC : Cl lev st i b q) (hr : r < 1028) (er : c i = nI r) (ho : o < 1028) (hlo : lv' o = true)
    (hlv : ∀ i' x, us lev i' = true → i' < 66624 → i' ≠ i → x < 1028 → c i' = nI x → lv x = true → lv' x = true) : TI (upd c i (nI o)) lev st lv' := by
  refine ⟨fun i' b' q' h => ?_, fun j hj hl => ?_⟩
  · by_cases ei : i' = i
    · subst ei
      exact Or.inl ⟨o, ho, hlo, by unfold upd; rw [if_pos rfl]⟩
    · have e : upd c i (nI o) i' = c i' := by unfold upd; rw [if_neg ei]
      rcases hT.1 i' b' q' h with ⟨x, h1, h2, h3⟩ | ⟨j, h1, h2, h3, h4, h5⟩
      · exact Or.inl ⟨x, h1, hlv i' x (us_cl h) (Cl_i h) ei h1 h3 h2, e.trans h3⟩
      · exact Or.inr ⟨j, h1, h2, h3, h4, e.trans h5⟩
  · obtain ⟨i', b', q', h, h1, h2, h3, h4, h5⟩ := hT.2 j hj hl
    have ei : i' ≠ i := fun e => by
      rw [e] at h5
      exact rec_no (by omega) hj er h5
    exact ⟨i', b', q', h, h1, h2, h3, h4, by unfold upd; rw [if_neg ei]; exact h5⟩
theorem TI_mono {c : Nat → Int32} {lev st : Nat → Nat} {lv lv' : Nat → Bool} (hT : TI c lev st lv) (h : ∀ x, lv x = true → lv' x = true) : TI c lev st lv' := by
  refine ⟨fun i b q hC => ?_, hT.2⟩
  rcases hT.1 i b q hC with ⟨r, h1, h2, h3⟩ | h1
  · exact Or.inl ⟨r, h1, h r h2, h3⟩
  · exact Or.inr h1
/-- the outcomes that are written down, for the records of the cells from point z on -/
def MI (σ : St) (lev st : Nat → Nat) (fl z : Nat) : Prop := ∀ i b q x, Cl lev st i b q → z ≤ q → x < 1028 → σ 11 i = nI x → σ 5 x = -1 ∨ ∃ o, o < 1028 ∧ σ 5 x = nI o ∧ (∀ f, f < 8 → σ 0 (8 * o + f) = nv σ fl x f) ∧ (o = x ∨ ∃ i2 b2 q2, Cl lev st i2 b2 q2 ∧ q2 < z ∧ σ 11 i2 = nI o)
theorem lv_at' {σ : St} {lev : Nat → Nat} {lv : Nat → Bool} (hH : HI σ lev lv) {i x : Nat} (hi : i < 66624) (hu : us lev i = true) (hx : x < 1028) (e : σ 11 i = nI x) : lv x = true := ((hH x hx).2).mpr (hN_pos hi hu e)
theorem s_replace {σ : St} {lev st : Nat → Nat} {lv : Nat → Bool} {L : Nat → List Nat} {V : Nat → Nat → Int32} {n i b q r fl : Nat} {Q : St → Prop} (hB : BI σ lev st lv L V n) (hM : MI σ lev st fl q) (hfl : fl < 8) (efl : σ 8 0 = nI fl) (hroom : sm (fun x => (lv x).toNat) 1028 < 1028)
    (hC : Cl lev st i b q) (hr : r < 1028) (er : σ 11 i = nI r)
    (hQ : ∀ (τ : St) (lv' : Nat → Bool) (L' : Nat → List Nat), BI τ lev st lv' L' (chg V fl (σ 9 0) (σ 10 0) q (q + 2 ^ b)) n → MI τ lev st fl (q + 2 ^ b) → (∀ x, Bg (σ 11) lev st x → Bg (τ 11) lev st x) → (∀ k, 7 < k → k ≠ 11 → τ k = σ k) → Q τ) : F_Bl_replace (nI i) σ Q := by
  obtain ⟨hR, hT, hV, hS, hH, hZ⟩ := hB
  have hi := Cl_i hC
  have hu := us_cl hC
  have hpos := p2_pos b
  have hlr : lv r = true := lv_at' hH hi hu hr er
  have hl0 : lv 0 = true := ((hH 0 (by decide)).2).mpr (by unfold hN; simp)
  unfold F_Bl_replace
  rw [cl (by omega)]
  refine ⟨vp_in_nI hi (by decide), ?_⟩
  intro z1 hz1
  rw [er] at hz1
  subst hz1
  have hmemo : σ 5 r = -1 ∨ ∃ o, o < 1028 ∧ lv o = true ∧ σ 5 r = nI o ∧ ∀ f, f < 8 → σ 0 (8 * o + f) = nv σ fl r f := by
    rcases hM i b q r hC (Nat.le_refl _) hr er with h | ⟨o, h1, h2, h3, h4⟩
    · exact Or.inl h
    · refine Or.inr ⟨o, h1, ?_, h2, h3⟩
      rcases h4 with h | ⟨i2, b2, q2, a1, -, a3⟩
      · rw [h]; exact hlr
      · exact lv_at' hH (Cl_i a1) (us_cl a1) h1 a3
  refine s_altered hR hr hfl efl hroom hmemo (fun o τ lv1 L1 ho hR1 hcase hold hnew h5 hfr => ?_)
  have t11 : τ 11 = σ 11 := hfr 11 (by decide) (by decide) (by decide) (by decide) (by decide) (by decide)
  have t1 : τ 1 = σ 1 := hfr 1 (by decide) (by decide) (by decide) (by decide) (by decide) (by decide)
  have tk : ∀ k, 7 < k → τ k = σ k := fun k h => hfr k (by omega) (by omega) (by omega) (by omega) (by omega) (by omega)
  -- a live record is not the new one
  have hliv : ∀ x f, lv x = true → f < 8 → τ 0 (8 * x + f) = σ 0 (8 * x + f) := fun x f hx hf => hold x f (fun h e => by rw [e, h] at hx; exact absurd hx (by decide)) hf
  have hnv : ∀ (ρ : St) x f, ρ 0 = τ 0 → ρ 9 = σ 9 → ρ 10 = σ 10 → lv x = true → f < 8 → nv ρ fl x f = nv σ fl x f := fun ρ x f a0 a9 a10 hx hf => by
    unfold nv
    rw [a0, a9, a10, hliv x f hx hf]
  -- what the change makes of the block's points
  have hblk : ∀ p f, q ≤ p → p < q + 2 ^ b → f < 8 → nv σ fl r f = chg V fl (σ 9 0) (σ 10 0) q (q + 2 ^ b) p f := fun p f p1 p2 hf => by
    unfold nv chg
    by_cases e : f = fl
    · rw [if_pos e, if_pos ⟨p1, p2, e⟩, hV i b q r hC hr er p p1 p2 f hf]
    · rw [if_neg e, if_neg (fun h => e h.2.2), hV i b q r hC hr er p p1 p2 f hf]
  have hout : ∀ p f, (p < q ∨ q + 2 ^ b ≤ p) → chg V fl (σ 9 0) (σ 10 0) q (q + 2 ^ b) p f = V p f := fun p f h => by
    unfold chg
    rw [if_neg (by omega)]
  have hl1 : ∀ x, lv1 x = true ↔ lv x = true ∨ x = o := fun x => by
    rcases hcase with ⟨h1, h2⟩ | ⟨h1, h2⟩
    · rw [h2]
      exact ⟨Or.inl, fun h => by rcases h with h | h; exact h; rw [h]; exact h1⟩
    · rw [h2]
      simp
  refine ⟨fun hc => ?_, fun hc => ?_⟩
  · have hor : o = r := nI_inj (by omega) (by omega) hc
    subst hor
    have hlv1 : lv1 = lv := by
      rcases hcase with ⟨-, h2⟩ | ⟨h1, -⟩
      · exact h2
      · rw [hlr] at h1; exact absurd h1 (by decide)
    subst hlv1
    refine hQ τ lv1 L1 ⟨hR1, by rw [t11]; exact hT, ?_, ?_, ?_, fun f hf => ?_⟩ ?_ (fun x h => by rw [t11]; exact h) (fun k h _ => tk k h)
    · intro i' b' q' r' hC' hr' er' p p1 p2 f hf
      rw [t11] at er'
      have hl' : lv1 r' = true := lv_at' hH (Cl_i hC') (us_cl hC') hr' er'
      by_cases hin : q ≤ p ∧ p < q + 2 ^ b
      · obtain ⟨rfl, -, -⟩ := Cl_one hT hC hC' (by omega) (by omega) er er' hin.1 hin.2 p1 p2
        have : r' = o := nI_inj (by omega) (by omega) (er'.symm.trans er)
        subst this
        rw [hnew f hf]
        exact hblk p f hin.1 hin.2 hf
      · rw [hliv r' f hl' hf, hout p f (by omega)]
        exact hV i' b' q' r' hC' hr' er' p p1 p2 f hf
    · obtain ⟨s1, s2, s3, s4, s5⟩ := hS
      exact ⟨s1, by rw [tk 13 (by decide)]; exact s2, s3, by rw [tk 12 (by decide)]; exact s4, by rw [tk 12 (by decide)]; exact s5⟩
    · intro x hx
      rw [t1, t11]
      exact hH x hx
    · have := hliv 0 f hl0 hf
      rw [Nat.mul_zero, Nat.zero_add] at this
      rw [this]
      exact hZ f hf
    · intro i' b' q' x hC' hq' hx ex
      rw [t11] at ex
      have hlx : lv1 x = true := lv_at' hH (Cl_i hC') (us_cl hC') hx ex
      rw [h5]
      by_cases e : x = o
      · rw [if_pos e]
        refine Or.inr ⟨o, ho, rfl, fun f hf => ?_, Or.inl e.symm⟩
        rw [hnew f hf, e, hnv τ o f rfl (tk 9 (by decide)) (tk 10 (by decide)) hlr hf]
      · rw [if_neg e]
        rcases hM i' b' q' x hC' (by omega) hx ex with h | ⟨o2, a1, a2, a3, a4⟩
        · exact Or.inl h
        · have hlo2 : lv1 o2 = true := by
            rcases a4 with h | ⟨i2, b2, q2, c1, -, c3⟩
            · rw [h]; exact hlx
            · exact lv_at' hH (Cl_i c1) (us_cl c1) a1 c3
          refine Or.inr ⟨o2, a1, a2, fun f hf => ?_, ?_⟩
          · rw [hliv o2 f hlo2 hf, a3 f hf, hnv τ x f rfl (tk 9 (by decide)) (tk 10 (by decide)) hlx hf]
          · rcases a4 with h | ⟨i2, b2, q2, c1, c2, c3⟩
            · exact Or.inl h
            · exact Or.inr ⟨i2, b2, q2, c1, by omega, by rw [t11]; exact c3⟩
  · have hor : o ≠ r := fun e => hc (by rw [e])
    refine ⟨vp_in_nI hi (by decide), ?_⟩
    intro σ4 h4
    rw [t11] at h4
    have k11 : σ4 11 = upd (σ 11) i (nI o) := by rw [h4, sA_s]
    have ko : ∀ k, k ≠ 11 → σ4 k = τ k := fun k a => by rw [h4, sA_n a]
    have hcnt : ∀ x, x < 1028 → hN (upd (σ 11) i (nI o)) lev x + (r == x).toNat = hN (σ 11) lev x + (o == x).toNat := fun x hx => by
      have h1 := hN_set (c := σ 11) (lev := lev) (i := i) (r := x) (x := nI o) hi hu
      rw [er, nI_beq (by omega) (by omega), nI_beq (by omega) (by omega)] at h1
      exact h1
    -- the end, whether the old record was dropped or not
    have fin : ∀ (ρ : St) (lv' : Nat → Bool) (L' : Nat → List Nat), RI ρ lv' L' → ρ 11 = upd (σ 11) i (nI o) → ρ 0 = τ 0 → ρ 5 = τ 5 → (∀ k, 7 < k → k ≠ 11 → ρ k = σ k) →
        (∀ x, x < 1028 → ρ 1 x = nI (hN (upd (σ 11) i (nI o)) lev x) ∧ (lv' x = true ↔ 0 < hN (upd (σ 11) i (nI o)) lev x)) → Q ρ := by
      intro ρ lv' L' hRρ g11 g0 g5 gk gH
      have ci : upd (σ 11) i (nI o) i = nI o := by unfold upd; rw [if_pos rfl]
      have cn : ∀ x, x ≠ i → upd (σ 11) i (nI o) x = σ 11 x := fun x h => by unfold upd; rw [if_neg h]
      have hlo : lv' o = true := ((gH o ho).2).mpr (hN_pos hi hu ci)
      refine hQ ρ lv' L' ⟨hRρ, ?_, ?_, ?_, ?_, fun f hf => ?_⟩ ?_ ?_ gk
      · rw [g11]
        exact TI_set hT hC hr er ho hlo (fun i' x u1 u2 u3 u4 u5 _ => ((gH x u4).2).mpr (hN_pos u2 u1 ((cn i' u3).trans u5)))
      · intro i' b' q' r' hC' hr' er' p p1 p2 f hf
        rw [g11] at er'
        rw [g0]
        by_cases ei : i' = i
        · subst ei
          obtain ⟨rfl, rfl⟩ := Cl_fun hC hC'
          have : r' = o := nI_inj (by omega) (by omega) (er'.symm.trans ci)
          subst this
          rw [hnew f hf]
          exact hblk p f p1 p2 hf
        · rw [cn i' ei] at er'
          have hl' : lv r' = true := lv_at' hH (Cl_i hC') (us_cl hC') hr' er'
          have hnin : p < q ∨ q + 2 ^ b ≤ p := by
            by_cases hin : q ≤ p ∧ p < q + 2 ^ b
            · obtain ⟨h1, -, -⟩ := Cl_one hT hC hC' (by omega) (by omega) er er' hin.1 hin.2 p1 p2
              exact absurd h1.symm ei
            · omega
          rw [hliv r' f hl' hf, hout p f hnin]
          exact hV i' b' q' r' hC' hr' er' p p1 p2 f hf
      · obtain ⟨s1, s2, s3, s4, s5⟩ := hS
        exact ⟨s1, by rw [gk 13 (by decide) (by decide)]; exact s2, s3, by rw [gk 12 (by decide) (by decide)]; exact s4, by rw [gk 12 (by decide) (by decide)]; exact s5⟩
      · intro x hx
        rw [g11]
        exact gH x hx
      · have := hliv 0 f hl0 hf
        rw [Nat.mul_zero, Nat.zero_add] at this
        rw [g0, this]
        exact hZ f hf
      · intro i' b' q' x hC' hq' hx ex
        have ei : i' ≠ i := fun e => by
          subst e
          have := (Cl_fun hC hC').2
          omega
        rw [g11, cn i' ei] at ex
        have hlx : lv x = true := lv_at' hH (Cl_i hC') (us_cl hC') hx ex
        rw [g5, h5]
        by_cases e : x = r
        · rw [if_pos e]
          refine Or.inr ⟨o, ho, rfl, fun f hf => ?_, Or.inr ⟨i, b, q, hC, by omega, by rw [g11]; exact ci⟩⟩
          rw [g0, hnew f hf, e, hnv ρ r f g0 (gk 9 (by decide) (by decide)) (gk 10 (by decide) (by decide)) hlr hf]
        · rw [if_neg e]
          rcases hM i' b' q' x hC' (by omega) hx ex with h | ⟨o2, a1, a2, a3, a4⟩
          · exact Or.inl h
          · have hlo2 : lv o2 = true := by
              rcases a4 with h | ⟨i2, b2, q2, c1, -, c3⟩
              · rw [h]; exact hlx
              · exact lv_at' hH (Cl_i c1) (us_cl c1) a1 c3
            refine Or.inr ⟨o2, a1, a2, fun f hf => ?_, ?_⟩
            · rw [g0, hliv o2 f hlo2 hf, a3 f hf, hnv ρ x f g0 (gk 9 (by decide) (by decide)) (gk 10 (by decide) (by decide)) hlx hf]
            · rcases a4 with h | ⟨i2, b2, q2, c1, c2, c3⟩
              · exact Or.inl h
              · have e2 : i2 ≠ i := fun e => by
                  subst e
                  have := (Cl_fun hC c1).2
                  omega
                exact Or.inr ⟨i2, b2, q2, c1, by omega, by rw [g11, cn i2 e2]; exact c3⟩
      · intro x h
        obtain ⟨i', b', r', a1, a2, a3⟩ := h
        rw [g11]
        by_cases ei : i' = i
        · subst ei
          exact ⟨i', b', o, a1, ho, ci⟩
        · exact ⟨i', b', r', a1, a2, (cn i' ei).trans a3⟩
    have hor' : (r == o) = false := beq_eq_false_iff_ne.mpr (fun e => hor e.symm)
    have ho' : (o == r) = false := beq_eq_false_iff_ne.mpr hor
    have hleo := hN_le (σ 11) lev o
    have hler := hN_le (σ 11) lev r
    have hco := hcnt o ho
    have hcr := hcnt r hr
    rw [hor', beq_self_eq_true] at hco
    rw [ho', beq_self_eq_true] at hcr
    simp only [Bool.toNat_true, Bool.toNat_false] at hco hcr
    have hr1 : 0 < hN (σ 11) lev r := hN_pos hi hu er
    refine s_hold ho ?_
    have k1 : σ4 1 = σ 1 := by rw [ko 1 (by decide), t1]
    rw [k1, (hH o ho).1, show (1 : Int32) = nI 1 from rfl, nI_add]
    generalize hσ5 : sA σ4 1 (upd (σ 1) o (nI (hN (σ 11) lev o + 1))) = σ5
    have m1 : ∀ x, σ5 1 x = if x = o then nI (hN (σ 11) lev o + 1) else σ 1 x := fun x => by rw [← hσ5, sA_s]; rfl
    have mo : ∀ k, k ≠ 1 → k ≠ 11 → σ5 k = τ k := fun k a1 a11 => by rw [← hσ5, sA_n a1]; exact ko k a11
    have m11 : σ5 11 = upd (σ 11) i (nI o) := by rw [← hσ5, sA_n (by decide)]; exact k11
    have hR5 : RI σ5 lv1 L1 := RI_congr (mo 0 (by decide) (by decide)) (mo 2 (by decide) (by decide)) (mo 3 (by decide) (by decide)) (mo 4 (by decide) (by decide)) (mo 7 (by decide) (by decide)) hR1
    have e5r : σ5 1 r = nI (hN (σ 11) lev r) := by rw [m1, if_neg (fun e => hor e.symm)]; exact (hH r hr).1
    refine s_release 1 hR5 hr ((hl1 r).mpr (Or.inl hlr)) e5r (by omega) hr1 (fun hh ρ hρ hfρ e1 => ?_) (fun hh => ?_)
    · refine fin ρ _ _ hρ ?_ ?_ ?_ ?_ ?_
      · rw [hfρ 11 (by decide) (by decide) (by decide) (by decide) (by decide)]; exact m11
      · rw [hfρ 0 (by decide) (by decide) (by decide) (by decide) (by decide)]; exact mo 0 (by decide) (by decide)
      · rw [hfρ 5 (by decide) (by decide) (by decide) (by decide) (by decide)]; exact mo 5 (by decide) (by decide)
      · intro k hk hk11
        rw [hfρ k (by omega) (by omega) (by omega) (by omega) (by omega), mo k (by omega) hk11, tk k hk]
      · intro x hx
        have hcx := hcnt x hx
        rw [e1]
        by_cases exr : x = r
        · subst exr
          rw [pk_us]
          refine ⟨congrArg nI (by omega), ?_⟩
          simp only [bne_self_eq_false, Bool.and_false]
          constructor
          · intro h; exact absurd h (by decide)
          · intro h; omega
        · rw [pk_un exr, m1]
          have hxr : (r == x) = false := beq_eq_false_iff_ne.mpr (fun e => exr e.symm)
          rw [hxr] at hcx
          by_cases exo : x = o
          · subst exo
            rw [beq_self_eq_true] at hcx
            simp only [Bool.toNat_true, Bool.toNat_false] at hcx
            rw [if_pos rfl]
            refine ⟨congrArg nI (by omega), ?_⟩
            rw [Bool.and_eq_true, bne_iff_ne]
            exact ⟨fun _ => by omega, fun _ => ⟨(hl1 x).mpr (Or.inr rfl), exr⟩⟩
          · have hxo : (o == x) = false := beq_eq_false_iff_ne.mpr (fun e => exo e.symm)
            rw [hxo] at hcx
            simp only [Bool.toNat_false] at hcx
            rw [if_neg exo, show hN (upd (σ 11) i (nI o)) lev x = hN (σ 11) lev x by omega]
            refine ⟨(hH x hx).1, ?_⟩
            rw [Bool.and_eq_true, bne_iff_ne, hl1 x, ← (hH x hx).2]
            exact ⟨fun h => by rcases h.1 with h1 | h1; exact h1; exact absurd h1 exo, fun h => ⟨Or.inl h, exr⟩⟩
    · have g : ∀ k, k ≠ 1 → (sA σ5 1 (upd (σ5 1) r (nI (hN (σ 11) lev r - 1)))) k = σ5 k := fun k a => sA_n a
      refine fin _ lv1 L1 (RI_congr (g 0 (by decide)) (g 2 (by decide)) (g 3 (by decide)) (g 4 (by decide)) (g 7 (by decide)) hR5) ?_ ?_ ?_ ?_ ?_
      · rw [g 11 (by decide)]; exact m11
      · rw [g 0 (by decide)]; exact mo 0 (by decide) (by decide)
      · rw [g 5 (by decide)]; exact mo 5 (by decide) (by decide)
      · intro k hk hk11
        rw [g k (by omega), mo k (by omega) hk11, tk k hk]
      · intro x hx
        have hcx := hcnt x hx
        rw [sA_s]
        by_cases exr : x = r
        · subst exr
          rw [pk_us]
          exact ⟨congrArg nI (by omega), ⟨fun _ => by omega, fun _ => (hl1 x).mpr (Or.inl hlr)⟩⟩
        · rw [pk_un exr, m1]
          have hxr : (r == x) = false := beq_eq_false_iff_ne.mpr (fun e => exr e.symm)
          rw [hxr] at hcx
          by_cases exo : x = o
          · subst exo
            rw [beq_self_eq_true] at hcx
            simp only [Bool.toNat_true, Bool.toNat_false] at hcx
            rw [if_pos rfl]
            exact ⟨congrArg nI (by omega), ⟨fun _ => by omega, fun _ => (hl1 x).mpr (Or.inr rfl)⟩⟩
          · have hxo : (o == x) = false := beq_eq_false_iff_ne.mpr (fun e => exo e.symm)
            rw [hxo] at hcx
            simp only [Bool.toNat_false] at hcx
            rw [if_neg exo, show hN (upd (σ 11) i (nI o)) lev x = hN (σ 11) lev x by omega]
            refine ⟨(hH x hx).1, ?_⟩
            rw [hl1 x, ← (hH x hx).2]
            exact ⟨fun h => by rcases h with h1 | h1; exact h1; exact absurd h1 exo, Or.inl⟩
theorem Cl_inj {c : Nat → Int32} {lev st : Nat → Nat} {lv : Nat → Bool} (hT : TI c lev st lv) {i i' b q : Nat} (hb : 0 < b) (h : Cl lev st i b q) (h' : Cl lev st i' b q) : i = i' := by
  rcases h with ⟨rfl, h1, rfl⟩ | ⟨rfl, j, k, hj, hk, hl, rfl, rfl⟩ | ⟨rfl, h⟩
  · rcases h' with ⟨-, h1', e⟩ | ⟨e, -⟩ | ⟨e, -⟩ <;> omega
  · rcases h' with ⟨e, -⟩ | ⟨-, j', k', hj', hk', hl', rfl, e⟩ | ⟨e, -⟩
    · omega
    · obtain ⟨t, a1, a2, a3⟩ := (TI_st hT hj).1 hl
      obtain ⟨t', a1', a2', a3'⟩ := (TI_st hT hj').1 hl'
      have : t = t' := by omega
      subst this
      have e2 := ng_inj (a := Rw j) (b := Rw j') (by unfold Rw; omega) (by unfold Rw; omega) (a3.symm.trans a3')
      unfold Rw at e2 ⊢
      omega
    · omega
  · omega
theorem Cl_off {lev st : Nat → Nat} {i b q j : Nat} (h : Cl (fu lev j 0) st i b q) : Cl lev st i b q ∧ (i < Rw j ∨ Rw j + 32 ≤ i) := by
  rcases h with ⟨rfl, h1, rfl⟩ | ⟨rfl, j', k, hj', hk, hl, rfl, rfl⟩ | ⟨rfl, j', k, hj', hk, hl, rfl, rfl⟩
  · exact ⟨Or.inl ⟨rfl, h1, rfl⟩, by unfold Rw; omega⟩
  · have hne : j' ≠ j := fun e => by rw [e, fu_s] at hl; omega
    rw [fu_n hne] at hl
    exact ⟨Or.inr (Or.inl ⟨rfl, j', k, hj', hk, hl, rfl, rfl⟩), by unfold Rw; omega⟩
  · have hne : j' ≠ j := fun e => by rw [e, fu_s] at hl; omega
    rw [fu_n hne] at hl
    exact ⟨Or.inr (Or.inr ⟨rfl, j', k, hj', hk, hl, rfl, rfl⟩), by unfold Rw; omega⟩
theorem Cl_on {lev st : Nat → Nat} {i b q j : Nat} (h : Cl lev st i b q) (hi : i < Rw j ∨ Rw j + 32 ≤ i) : Cl (fu lev j 0) st i b q := by
  rcases h with ⟨rfl, h1, rfl⟩ | ⟨rfl, j', k, hj', hk, hl, rfl, rfl⟩ | ⟨rfl, j', k, hj', hk, hl, rfl, rfl⟩
  · exact Or.inl ⟨rfl, h1, rfl⟩
  · have hne : j' ≠ j := fun e => by subst e; omega
    exact Or.inr (Or.inl ⟨rfl, j', k, hj', hk, by rw [fu_n hne]; exact hl, rfl, rfl⟩)
  · have hne : j' ≠ j := fun e => by subst e; omega
    exact Or.inr (Or.inr ⟨rfl, j', k, hj', hk, by rw [fu_n hne]; exact hl, rfl, rfl⟩)
section JOIN
variable {c : Nat → Int32} {lev st : Nat → Nat} {lv : Nat → Bool} {i b q r j : Nat}
/-- a pointing cell lies outside the row that it points to -/
theorem Pn_out (hT : TI c lev st lv) (hC : Cl lev st i b q) (hp : Pn c lev st i b q j) : i < Rw j ∨ Rw j + 32 ≤ i := by
  obtain ⟨hb, hj, hl, hs, -⟩ := hp
  rcases hC with ⟨rfl, h1, rfl⟩ | ⟨rfl, j', k, hj', hk, hl', rfl, rfl⟩ | ⟨rfl, h⟩
  · unfold Rw; omega
  · have hne : j' ≠ j := fun e => by
      subst e
      rw [hl'] at hl
      exact absurd hl (by decide)
    unfold Rw; omega
  · omega
theorem TI_join (hT : TI c lev st lv) (hC : Cl lev st i b q) (hp : Pn c lev st i b q j) (hr : r < 1028) (hlr : lv r = true) (hrow : ∀ k, k < 32 → c (Rw j + k) = nI r) : TI (upd c i (nI r)) (fu lev j 0) st lv := by
  have hp0 := hp
  obtain ⟨hb, hj, hl, hs, hc⟩ := hp
  have ci : upd c i (nI r) i = nI r := by unfold upd; rw [if_pos rfl]
  have cn : ∀ x, x ≠ i → upd c i (nI r) x = c x := fun x h => by unfold upd; rw [if_neg h]
  refine ⟨fun i' b' q' h => ?_, fun j' hj' hl' => ?_⟩
  · obtain ⟨h1, h2⟩ := Cl_off h
    by_cases ei : i' = i
    · rw [ei]
      exact Or.inl ⟨r, hr, hlr, ci⟩
    · rcases hT.1 i' b' q' h1 with ⟨x, a1, a2, a3⟩ | ⟨j2, a1, a2, a3, a4, a5⟩
      · exact Or.inl ⟨x, a1, a2, (cn i' ei).trans a3⟩
      · have hne : j2 ≠ j := fun e => by
          subst e
          have hq : q' = q := a4.symm.trans hs
          have hbb : b' = b := by
            have h3 : lb b' = lb b := a3.symm.trans hl
            unfold lb at h3
            rcases Cl_b hC with rfl | rfl | rfl <;> rcases Cl_b h1 with rfl | rfl | rfl <;> simp at h3 ⊢ <;> omega
          subst hq hbb
          exact ei (Cl_inj hT a1 h1 hC)
        exact Or.inr ⟨j2, a1, a2, by rw [fu_n hne]; exact a3, a4, (cn i' ei).trans a5⟩
  · have hne : j' ≠ j := fun e => by rw [e, fu_s] at hl'; exact hl' rfl
    rw [fu_n hne] at hl'
    obtain ⟨i', b', q', h1, a1, a2, a3, a4, a5⟩ := hT.2 j' hj' hl'
    have ei : i' ≠ i := fun e => by
      subst e
      have := ng_inj (a := Rw j') (b := Rw j) (by unfold Rw; omega) (by unfold Rw; omega) (a5.symm.trans hc)
      unfold Rw at this
      omega
    have hout : i' < Rw j ∨ Rw j + 32 ≤ i' := by
      by_cases hin : Rw j ≤ i' ∧ i' < Rw j + 32
      · exfalso
        have h3 := hrow (i' - Rw j) (by omega)
        rw [show Rw j + (i' - Rw j) = i' by omega] at h3
        exact rec_no (by omega) hj' h3 a5
      · omega
    exact ⟨i', b', q', Cl_on h1 hout, a1, a2, by rw [fu_n hne]; exact a3, a4, (cn i' ei).trans a5⟩
theorem VI_join {σ τ : St} {V : Nat → Nat → Int32} (hT : TI (σ 11) lev st lv) (hV : VI σ lev st V) (hC : Cl lev st i b q) (hp : Pn (σ 11) lev st i b q j) (hr : r < 1028) (hrow : ∀ k, k < 32 → σ 11 (Rw j + k) = nI r) (ev : τ 0 = σ 0) (ec : τ 11 = upd (σ 11) i (nI r)) : VI τ (fu lev j 0) st V := by
  obtain ⟨hb, hj, hl, hs, hc⟩ := hp
  intro i' b' q' r' h hr' er' p p1 p2 f hf
  obtain ⟨h1, h2⟩ := Cl_off h
  rw [ev]
  rw [ec] at er'
  unfold upd at er'
  by_cases ei : i' = i
  · rw [if_pos ei] at er'
    subst ei
    obtain ⟨rfl, rfl⟩ := Cl_fun hC h1
    have : r' = r := (nI_inj (by omega) (by omega) er').symm
    subst this
    have hb5 : b = 10 ∨ b = 5 := by rcases Cl_b hC with h | h | h <;> omega
    have hk : (p - q) / 2 ^ (b - 5) < 32 := by rcases hb5 with rfl | rfl <;> omega
    have h4 := row_cl hC hb hj hl hs hk
    exact hV _ _ _ r' h4 hr (hrow _ hk) p (by rcases hb5 with rfl | rfl <;> omega) (by rcases hb5 with rfl | rfl <;> omega) f hf
  · rw [if_neg ei] at er'
    exact hV i' b' q' r' h1 hr' er' p p1 p2 f hf
end JOIN
theorem s_isAllAlike {σ : St} {Q : Int32 → St → Prop} {j : Nat} (hj : j < 2048) (h1 : (∀ k, k < 32 → σ 11 (Rw j + k) = σ 11 (Rw j)) → ¬ σ 11 (Rw j) < 0 → Q 1 σ) (h0 : Q 0 σ) : F_Bl_isAllAlike (nI (Rw j)) σ Q := by
  have hrw : Rw j + 32 ≤ 66624 := by unfold Rw; omega
  unfold F_Bl_isAllAlike
  rw [cl (by omega)]
  refine ⟨vp_in_nI (by omega) (by decide), ?_⟩
  intro z2 hz2
  refine ⟨fun hc => ?_, fun _ => h0⟩
  intro z3 hz3
  unfold F_Bl_isAllAlike_L15
  refine ⟨fun v3 τ => τ = σ ∧ ∃ k, 1 ≤ k ∧ k ≤ 32 ∧ v3 = nI k ∧ ∀ x, x < k → σ 11 (Rw j + x) = z2, fun v3 _ => 32 - v3.toNatClampNeg, ⟨rfl, 1, by omega, by omega, hz3, fun x hx => by rw [show x = 0 by omega, Nat.add_zero]; exact hz2.symm⟩, ?_⟩
  intro v3 τ n hI hm
  dsimp only at hm ⊢
  obtain ⟨rfl, k, hk1, hk, rfl, hall⟩ := hI
  rw [cl (by omega)] at hm
  have e8 : (32 : Int32) = nI 32 := rfl
  refine ⟨fun hc1 => ?_, fun hc1 => ?_⟩
  · rw [e8, nI_leI (by omega) (by omega)] at hc1
    refine h1 (fun x hx => by rw [hall x (by omega), hz2]) (fun h => ?_)
    rw [← hz2] at h
    exact Int32.not_lt.mpr hc h
  · rw [e8, nI_leI (by omega) (by omega)] at hc1
    rw [nI_add, cl (by omega)]
    refine ⟨vp_in_nI (by omega) (by decide), fun hc2 => ?_, fun _ => h0⟩
    intro z1 hz1
    rw [ar_1] at hz1
    refine ⟨⟨rfl, k + 1, by omega, by omega, hz1, fun x hx => ?_⟩, ?_⟩
    · by_cases e : x = k
      · rw [e]; exact hc2
      · exact hall x (by omega)
    · rw [hz1, cl (by omega)]
      omega
theorem s_join {σ : St} {lev st : Nat → Nat} {lv : Nat → Bool} {L : Nat → List Nat} {V : Nat → Nat → Int32} {n i b q : Nat} {Q : St → Prop} (hB : BI σ lev st lv L V n) (hC : Cl lev st i b q)
    (hQ : ∀ (τ : St) (lev' : Nat → Nat) (n' : Nat), n ≤ n' → BI τ lev' st lv L V n' → (∀ x, lev x ≠ lb b → lev' x = lev x) → (∀ x, x ≠ i → τ 11 x = σ 11 x) → (∀ k, k ≠ 1 → k ≠ 11 → k ≠ 12 → k ≠ 13 → τ k = σ k) → Q τ) : F_Bl_join (nI i) σ Q := by
  have hB0 := hB
  obtain ⟨hR, hT, hV, ⟨hn8, e13, hcount, hsp, hinj⟩, hH, hZ⟩ := hB
  have hi := Cl_i hC
  have hu := us_cl hC
  have hstay : Q σ := hQ σ lev n (Nat.le_refl _) hB0 (fun _ _ => rfl) (fun _ _ => rfl) (fun _ _ _ _ _ => rfl)
  unfold F_Bl_join
  rw [cl (by omega)]
  refine ⟨vp_in_nI hi (by decide), ?_⟩
  intro z1 hz1
  refine ⟨fun _ => hstay, fun hc => ?_⟩
  rcases hT.1 i b q hC with ⟨r, h1, h2, h3⟩ | ⟨j, hp⟩
  · exfalso
    refine hc ?_
    rw [hz1, h3, Int32.le_iff_toInt_le, ng_toInt (by omega), Int32.toInt_zero]
    omega
  · have hp0 := hp
    obtain ⟨hb, hj, hl, hs, hcell⟩ := hp
    rw [hcell, ng_ng] at hz1
    subst hz1
    have hrw : Rw j + 32 ≤ 66624 := by unfold Rw; omega
    refine s_isAllAlike hj (fun hall hpos => ?_) ⟨fun _ => hstay, fun h => absurd rfl h⟩
    refine ⟨fun h => absurd h (by decide), fun _ => ?_⟩
    -- the row's record
    have hrec : ∃ r, r < 1028 ∧ lv r = true ∧ σ 11 (Rw j) = nI r := by
      have h4 := row_cl (k := 0) hC hb hj hl hs (by decide)
      rw [Nat.add_zero] at h4
      rcases hT.1 _ _ _ h4 with h5 | ⟨j2, a1, a2, a3, a4, a5⟩
      · exact h5
      · exfalso
        rw [a5] at hpos
        exact hpos (ng_lt (by unfold Rw; omega) (by unfold Rw; omega))
    obtain ⟨r, hr, hlr, er⟩ := hrec
    have hrow : ∀ k, k < 32 → σ 11 (Rw j + k) = nI r := fun k hk => by rw [hall k hk, er]
    rw [cl (by omega)]
    refine ⟨vp_in_nI (by omega) (by decide), ?_⟩
    intro z4 hz4
    rw [er] at hz4
    subst hz4
    refine ⟨vp_in_nI hi (by decide), ?_⟩
    intro σ5 h5
    have k11 : σ5 11 = upd (σ 11) i (nI r) := by rw [h5, sA_s]
    have ko : ∀ k, k ≠ 11 → σ5 k = σ k := fun k a => by rw [h5, sA_n a]
    have hR5 : RI σ5 lv L := RI_congr (ko 0 (by decide)) (ko 2 (by decide)) (ko 3 (by decide)) (ko 4 (by decide)) (ko 7 (by decide)) hR
    have hout := Pn_out hT hC hp0
    have hlj : lev j ≠ 0 := by rw [hl]; rcases lb_12 b with h | h <;> omega
    have hu' : us (fu lev j 0) i = true := us_cl (Cl_on hC hout)
    have hcnt : ∀ x, x < 1028 → hN (upd (σ 11) i (nI r)) (fu lev j 0) x + 32 * (r == x).toNat = hN (σ 11) lev x + (r == x).toNat := fun x hx => by
      have a1 := hN_unrow (c := σ 11) (lev := lev) (j := j) (r := x) (s := r) hj hlj hrow
      have a2 := hN_set (c := σ 11) (lev := fu lev j 0) (i := i) (r := x) (x := nI r) hi hu'
      have a3 : (σ 11 i == nI x) = false := beq_eq_false_iff_ne.mpr (fun e => rec_no (c := σ 11) (i := i) (show x < 2 ^ 31 by omega) hj e hcell)
      rw [a3, nI_beq (by omega) (by omega)] at a2
      rw [nI_beq (by omega) (by omega)] at a1
      simp only [Bool.toNat_false] at a2
      have a4 : hN (σ 11) (fun x => if x = j then 0 else lev x) x = hN (σ 11) (fu lev j 0) x := rfl
      omega
    have hcr := hcnt r hr
    rw [beq_self_eq_true] at hcr
    simp only [Bool.toNat_true] at hcr
    have hle := hN_le (σ 11) lev r
    have hpos' : 0 < hN (upd (σ 11) i (nI r)) (fu lev j 0) r := hN_pos hi hu' (by unfold upd; rw [if_pos rfl])
    refine s_release 31 hR5 hr hlr (show σ5 1 r = nI (hN (σ 11) lev r) by rw [ko 1 (by decide)]; exact (hH r hr).1) (by omega) (by omega) (fun hh => by omega) (fun _ => ?_)
    generalize hσ6 : sA σ5 1 (upd (σ5 1) r (nI (hN (σ 11) lev r - 31))) = σ6
    have m1 : ∀ x, σ6 1 x = if x = r then nI (hN (σ 11) lev r - 31) else σ 1 x := fun x => by rw [← hσ6, sA_s, ko 1 (by decide)]; rfl
    have mo : ∀ k, k ≠ 1 → σ6 k = σ5 k := fun k a => by rw [← hσ6, sA_n a]
    have hn1 : n < 2048 := by
      have h7 := sm_ge (f := fun x => (lev x != 0).toNat) (k := j) (n := 2048) hj
      have h8 : (lev j != 0).toNat = 1 := by rw [bne_iff_ne.mpr hlj]; rfl
      try dsimp only at h7
      omega
    have e613 : σ6 13 0 = nI n := by rw [mo 13 (by decide), ko 13 (by decide)]; exact e13
    rw [e613, cl (by omega)]
    refine ⟨vp_in_nI hn1 (by decide), ?_⟩
    intro σ7 h7 σ8 h8
    have e713 : σ7 13 0 = nI n := by rw [h7, sA_n (by decide)]; exact e613
    rw [e713, ar_1] at h8
    have g : ∀ k, k ≠ 12 → k ≠ 13 → σ8 k = σ6 k := fun k a1 a2 => by rw [h8, sA_n a2, h7, sA_n a1]
    have g12 : ∀ x, σ8 12 x = if x = n then nI (Rw j) else σ 12 x := fun x => by rw [h8, sA_n (by decide), h7, sA_s, mo 12 (by decide), ko 12 (by decide)]; rfl
    have g13 : σ8 13 0 = nI (n + 1) := by rw [h8, sA_s]
    have g11 : σ8 11 = upd (σ 11) i (nI r) := by rw [g 11 (by decide) (by decide), mo 11 (by decide)]; exact k11
    have gk : ∀ k, k ≠ 1 → k ≠ 11 → k ≠ 12 → k ≠ 13 → σ8 k = σ k := fun k a1 a11 a12 a13 => by rw [g k a12 a13, mo k a1, ko k a11]
    refine hQ σ8 (fu lev j 0) (n + 1) (by omega) ⟨RI_congr (gk 0 (by decide) (by decide) (by decide) (by decide)) (gk 2 (by decide) (by decide) (by decide) (by decide)) (gk 3 (by decide) (by decide) (by decide) (by decide)) (gk 4 (by decide) (by decide) (by decide) (by decide)) (gk 7 (by decide) (by decide) (by decide) (by decide)) hR,
      by rw [g11]; exact TI_join hT hC hp0 hr hlr hrow, VI_join hT hV hC hp0 hr hrow (gk 0 (by decide) (by decide) (by decide) (by decide)) g11, ⟨by omega, g13, ?_, ?_, ?_⟩, ?_, fun f hf => by rw [gk 0 (by decide) (by decide) (by decide) (by decide)]; exact hZ f hf⟩ (fun x hx => fu_n (fun e => hx (by rw [e]; exact hl))) (fun x hx => by rw [g11]; unfold upd; rw [if_neg hx]) gk
    · have h9 := sm_one (f := fun x => (fu lev j 0 x != 0).toNat) (g := fun x => (lev x != 0).toNat) (k := j) (n := 2048) hj (fun x _ hne => by
        show (fu lev j 0 x != 0).toNat = (lev x != 0).toNat
        rw [fu_n hne])
      have h10 : (fu lev j 0 j != 0).toNat = 0 := by rw [fu_s]; rfl
      have h11 : (lev j != 0).toNat = 1 := by rw [bne_iff_ne.mpr hlj]; rfl
      try dsimp only at h9
      omega
    · intro x hx
      rw [g12]
      by_cases e : x = n
      · rw [if_pos e]
        exact ⟨j, hj, rfl, fu_s _ _ _⟩
      · rw [if_neg e]
        obtain ⟨j', a1, a2, a3⟩ := hsp x (by omega)
        have hne : j' ≠ j := fun e => by rw [e] at a3; exact hlj a3
        exact ⟨j', a1, a2, by rw [fu_n hne]; exact a3⟩
    · have hno : ∀ x, x < n → σ 12 x ≠ nI (Rw j) := fun x hx e => by
        obtain ⟨j', a1, a2, a3⟩ := hsp x hx
        have := nI_inj (a := Rw j') (b := Rw j) (by unfold Rw; omega) (by unfold Rw; omega) (a2.symm.trans e)
        have : j' = j := by unfold Rw at this; omega
        rw [this] at a3
        exact hlj a3
      intro x y hx hy hxy
      rw [g12, g12] at hxy
      by_cases e1 : x = n
      · by_cases e2 : y = n
        · rw [e1, e2]
        · rw [if_pos e1, if_neg e2] at hxy
          exact absurd hxy.symm (hno y (by omega))
      · by_cases e2 : y = n
        · rw [if_neg e1, if_pos e2] at hxy
          exact absurd hxy (hno x (by omega))
        · rw [if_neg e1, if_neg e2] at hxy
          exact hinj x y (by omega) (by omega) hxy
    · intro x hx
      have hcx := hcnt x hx
      rw [g 1 (by decide) (by decide), m1, g11]
      by_cases e : x = r
      · subst e
        rw [if_pos rfl]
        exact ⟨by congr 1; omega, ⟨fun _ => hpos', fun _ => hlr⟩⟩
      · rw [beq_eq_false_iff_ne.mpr (fun h => e h.symm)] at hcx
        simp only [Bool.toNat_false] at hcx
        rw [if_neg e, show hN (upd (σ 11) i (nI r)) (fu lev j 0) x = hN (σ 11) lev x by omega]
        exact hH x hx
theorem s_joinBelow {σ : St} {lev st : Nat → Nat} {lv : Nat → Bool} {L : Nat → List Nat} {V : Nat → Nat → Int32} {n t : Nat} {Q : St → Prop} (hB : BI σ lev st lv L V n) (ht : t < 1088)
    (hQ : ∀ (τ : St) (lev' : Nat → Nat) (n' : Nat), n ≤ n' → BI τ lev' st lv L V n' → (∀ k, k ≠ 1 → k ≠ 11 → k ≠ 12 → k ≠ 13 → τ k = σ k) → Q τ) : F_Bl_joinBelow (nI t) σ Q := by
  have hC : Cl lev st t 10 (1024 * t) := Or.inl ⟨rfl, ht, rfl⟩
  unfold F_Bl_joinBelow
  rw [cl (by omega)]
  refine ⟨vp_in_nI (by omega) (by decide), ?_⟩
  intro z4 hz4
  refine ⟨fun _ => hQ σ lev n (Nat.le_refl _) hB (fun _ _ _ _ _ => rfl), fun hc => ?_⟩
  rcases hB.2.1.1 t 10 (1024 * t) hC with ⟨r, h1, h2, h3⟩ | ⟨j, hb, hj, hl, hs, hcell⟩
  · exfalso
    refine hc ?_
    rw [hz4, h3, Int32.le_iff_toInt_le, ng_toInt (by omega), Int32.toInt_zero]
    omega
  · rw [hcell, ng_ng] at hz4
    subst hz4
    have hrw : Rw j + 32 ≤ 66624 := by unfold Rw; omega
    intro z5 hz5
    unfold F_Bl_joinBelow_L14
    refine ⟨fun v3 τ => ∃ (lev' : Nat → Nat) (n' k : Nat), v3 = nI k ∧ k ≤ 32 ∧ n ≤ n' ∧ BI τ lev' st lv L V n' ∧ lev' j = 1 ∧ ∀ x, x ≠ 1 → x ≠ 11 → x ≠ 12 → x ≠ 13 → τ x = σ x, fun v3 _ => 32 - v3.toNatClampNeg, ⟨lev, n, 0, hz5, by omega, by omega, hB, hl, fun _ _ _ _ _ => rfl⟩, ?_⟩
    intro v3 τ m hI hm
    dsimp only at hm ⊢
    obtain ⟨lev', n', k, rfl, hk, hn, hB', hl', hfr⟩ := hI
    rw [cl (by omega)] at hm
    have e8 : (32 : Int32) = nI 32 := rfl
    refine ⟨fun hc1 => ?_, fun hc1 => ?_⟩
    · refine s_join hB' (Or.inl ⟨rfl, ht, rfl⟩ : Cl lev' st t 10 (1024 * t)) (fun ρ lev2 n2 a1 a2 _ _ a5 => ?_)
      exact hQ ρ lev2 n2 (by omega) a2 (fun x b1 b11 b12 b13 => by rw [a5 x b1 b11 b12 b13]; exact hfr x b1 b11 b12 b13)
    · rw [e8, nI_leI (by omega) (by omega)] at hc1
      rw [nI_add]
      refine s_join hB' (Or.inr (Or.inl ⟨rfl, j, k, hj, by omega, hl', rfl, rfl⟩) : Cl lev' st (Rw j + k) 5 (st j + 32 * k)) (fun ρ lev2 n2 a1 a2 a3 _ a5 => ?_)
      intro z3 hz3
      rw [ar_1] at hz3
      refine ⟨⟨lev2, n2, k + 1, hz3, by omega, by omega, a2, ?_, fun x b1 b11 b12 b13 => by rw [a5 x b1 b11 b12 b13]; exact hfr x b1 b11 b12 b13⟩, ?_⟩
      · rw [a3 j (by rw [hl']; decide)]; exact hl'
      · rw [hz3, cl (by omega)]
        omega
/-- the next point's fields are others -/
def bk (V : Nat → Nat → Int32) (p : Nat) : Bool := (List.range 8).any (fun f => V p f != V (p + 1) f)
def brk (V : Nat → Nat → Int32) : Nat := sm (fun p => (bk V p).toNat) 1114111
theorem bk_f {V : Nat → Nat → Int32} {p : Nat} : bk V p = false ↔ ∀ f, f < 8 → V p f = V (p + 1) f := by
  unfold bk
  rw [List.any_eq_false]
  constructor
  · intro h f hf
    have := h f (List.mem_range.mpr hf)
    simpa using this
  · intro h f hf
    rw [h f (List.mem_range.mp hf)]
    simp
theorem sm_ind (a : Nat) : ∀ n, sm (fun p => (p == a).toNat) n ≤ 1
  | 0 => Nat.zero_le _
  | n + 1 => by
    rw [sm_s]
    by_cases e : n = a
    · have h1 : sm (fun p => (p == a).toNat) n = 0 := sm_zero (fun i hi => by
        show (i == a).toNat = 0
        rw [beq_eq_false_iff_ne.mpr (by omega)]
        rfl)
      rcases bt_nat (n == a) with h | h <;> omega
    · have h1 := sm_ind a n
      rw [beq_eq_false_iff_ne.mpr e]
      simpa using h1
theorem sm_plus (f g : Nat → Nat) : ∀ n, sm (fun i => f i + g i) n = sm f n + sm g n
  | 0 => rfl
  | n + 1 => by
    rw [sm_s, sm_s, sm_s, sm_plus f g n]
    omega
theorem brk_chg {V : Nat → Nat → Int32} {fl a z : Nat} {v k : Int32} : brk (chg V fl v k a z) ≤ brk V + 2 := by
  unfold brk
  have h1 : sm (fun p => (bk (chg V fl v k a z) p).toNat) 1114111 ≤ sm (fun p => (bk V p).toNat + ((p == a - 1).toNat + (p == z - 1).toNat)) 1114111 := sm_le (fun p _ => by
    show (bk (chg V fl v k a z) p).toNat ≤ (bk V p).toNat + ((p == a - 1).toNat + (p == z - 1).toNat)
    by_cases e1 : p = a - 1
    · rw [e1, beq_self_eq_true]
      rcases bt_nat (bk (chg V fl v k a z) (a - 1)) with h | h <;> simp only [Bool.toNat_true] <;> omega
    · by_cases e2 : p = z - 1
      · rw [e2, beq_self_eq_true]
        rcases bt_nat (bk (chg V fl v k a z) (z - 1)) with h | h <;> simp only [Bool.toNat_true] <;> omega
      · cases hb : bk V p with
        | true => rcases bt_nat (bk (chg V fl v k a z) p) with h | h <;> simp only [Bool.toNat_true] <;> omega
        | false =>
          have hb' : bk (chg V fl v k a z) p = false := bk_f.mpr (fun f hf => by
            have h2 := bk_f.mp hb f hf
            unfold chg
            by_cases hin : a ≤ p ∧ p < z ∧ f = fl
            · rw [if_pos hin, if_pos (by omega), h2]
            · rw [if_neg hin, if_neg (by omega), h2])
          rw [hb']
          simp)
  have h2 := sm_plus (fun p => (bk V p).toNat) (fun p => (p == a - 1).toNat + (p == z - 1).toNat) 1114111
  have h3 := sm_plus (fun p => (p == a - 1).toNat) (fun p => (p == z - 1).toNat) 1114111
  have h4 := sm_ind (a - 1) 1114111
  have h5 := sm_ind (z - 1) 1114111
  omega
/-- every point lies in a cell with a record -/
theorem rec_ex {c : Nat → Int32} {lev st : Nat → Nat} {lv : Nat → Bool} (hT : TI c lev st lv) {p : Nat} (hp : p < 1114112) : ∃ i b q r, Cl lev st i b q ∧ q ≤ p ∧ p < q + 2 ^ b ∧ r < 1028 ∧ lv r = true ∧ c i = nI r := by
  have step : ∀ i b q, Cl lev st i b q → q ≤ p → p < q + 2 ^ b → (∃ r, r < 1028 ∧ lv r = true ∧ c i = nI r) ∨ (0 < b ∧ ∃ i' q', Cl lev st i' (b - 5) q' ∧ q' ≤ p ∧ p < q' + 2 ^ (b - 5)) := fun i b q hC p1 p2 => by
    rcases hT.1 i b q hC with h | ⟨j, hb, hj, hl, hs, hc⟩
    · exact Or.inl h
    · have hb5 : b = 10 ∨ b = 5 := by rcases Cl_b hC with h | h | h <;> omega
      have hk : (p - q) / 2 ^ (b - 5) < 32 := by rcases hb5 with rfl | rfl <;> omega
      exact Or.inr ⟨hb, _, _, row_cl hC hb hj hl hs hk, by rcases hb5 with rfl | rfl <;> omega, by rcases hb5 with rfl | rfl <;> omega⟩
  have h10 : Cl lev st (p / 1024) 10 (1024 * (p / 1024)) := Or.inl ⟨rfl, by omega, rfl⟩
  rcases step _ _ _ h10 (by omega) (by omega) with ⟨r, a1, a2, a3⟩ | ⟨-, i', q', b1, b2, b3⟩
  · exact ⟨_, _, _, r, h10, by omega, by omega, a1, a2, a3⟩
  · rcases step _ _ _ b1 b2 b3 with ⟨r, a1, a2, a3⟩ | ⟨-, i2, q2, c1, c2, c3⟩
    · exact ⟨_, _, _, r, b1, b2, b3, a1, a2, a3⟩
    · rcases step _ _ _ c1 c2 c3 with ⟨r, a1, a2, a3⟩ | ⟨h0, -⟩
      · exact ⟨_, _, _, r, c1, c2, c3, a1, a2, a3⟩
      · exact absurd h0 (by decide)
/-- the number of a point's record -/
def RecAt (c : Nat → Int32) (lev st : Nat → Nat) (p r : Nat) : Prop := ∃ i b q, Cl lev st i b q ∧ q ≤ p ∧ p < q + 2 ^ b ∧ r < 1028 ∧ c i = nI r
theorem RecAt_one {c : Nat → Int32} {lev st : Nat → Nat} {lv : Nat → Bool} (hT : TI c lev st lv) {p r r' : Nat} (h : RecAt c lev st p r) (h' : RecAt c lev st p r') : r = r' := by
  obtain ⟨i, b, q, a1, a2, a3, a4, a5⟩ := h
  obtain ⟨i', b', q', a1', a2', a3', a4', a5'⟩ := h'
  obtain ⟨rfl, -, -⟩ := Cl_one hT a1 a1' (by omega) (by omega) a5 a5' a2 a3 a2' a3'
  exact nI_inj (by omega) (by omega) (a5.symm.trans a5')
theorem room_le {σ : St} {lev st : Nat → Nat} {lv : Nat → Bool} {L : Nat → List Nat} {V : Nat → Nat → Int32} {n : Nat} (hB : BI σ lev st lv L V n) : sm (fun x => (lv x).toNat) 1028 ≤ 2 + brk V := by
  obtain ⟨hR, hT, hV, hS, hH, hZ⟩ := hB
  have hsp : ∀ p, p < 1114112 → RecAt (σ 11) lev st p (Classical.epsilon (fun r => RecAt (σ 11) lev st p r)) := fun p hp => by
    obtain ⟨i, b, q, r, a1, a2, a3, a4, -, a6⟩ := rec_ex hT hp
    exact Classical.epsilon_spec (p := fun r => RecAt (σ 11) lev st p r) ⟨r, i, b, q, a1, a2, a3, a4, a6⟩
  have h1 := sm_dist (fun p => Classical.epsilon (fun r => RecAt (σ 11) lev st p r)) 1028 1114111 (fun x => lv x && x != 0) (fun x hx hq => by
    rw [Bool.and_eq_true, bne_iff_ne] at hq
    obtain ⟨i, hi, hu, e⟩ := hN_at hq.2 (((hH x hx).2).mp hq.1)
    obtain ⟨b, q, hC⟩ := cl_us hT hi hu
    have h2 := Cl_al hT hC
    have hpos := p2_pos b
    refine ⟨q, by omega, ?_⟩
    exact RecAt_one hT (hsp q (by omega)) ⟨i, b, q, hC, Nat.le_refl _, by omega, hx, e⟩)
  have h2 : sm (fun p => ((fun p => Classical.epsilon (fun r => RecAt (σ 11) lev st p r)) p != (fun p => Classical.epsilon (fun r => RecAt (σ 11) lev st p r)) (p + 1)).toNat) 1114111 ≤ brk V := by
    unfold brk
    refine sm_le (fun p hp => ?_)
    cases hb : bk V p with
    | true => rcases bt_nat ((fun p => Classical.epsilon (fun r => RecAt (σ 11) lev st p r)) p != (fun p => Classical.epsilon (fun r => RecAt (σ 11) lev st p r)) (p + 1)) with h | h <;> rw [h] <;> simp
    | false =>
      have h3 := hsp p (by omega)
      have h4 := hsp (p + 1) (by omega)
      obtain ⟨i, b, q, a1, a2, a3, a4, a5⟩ := h3
      obtain ⟨i', b', q', a1', a2', a3', a4', a5'⟩ := h4
      have e := hR.2.2 _ _ a4 a4' (lv_at' hH (Cl_i a1) (us_cl a1) a4 a5) (lv_at' hH (Cl_i a1') (us_cl a1') a4' a5') (fun f hf => by
        rw [hV i b q _ a1 a4 a5 p a2 a3 f hf, hV i' b' q' _ a1' a4' a5' (p + 1) a2' a3' f hf]
        exact bk_f.mp hb f hf)
      show ((Classical.epsilon (fun r => RecAt (σ 11) lev st p r)) != Classical.epsilon (fun r => RecAt (σ 11) lev st (p + 1) r)).toNat ≤ _
      rw [← e]
      simp
  have h3 := sm_one (f := fun x => (lv x).toNat) (g := fun x => (lv x && x != 0).toNat) (k := 0) (n := 1028) (by decide) (fun x _ hne => by
    show (lv x).toNat = (lv x && x != 0).toNat
    rw [bne_iff_ne.mpr hne, Bool.and_true])
  have h4 : (lv 0 && (0 : Nat) != 0).toNat = 0 := by simp
  have h5 : (lv 0).toNat ≤ 1 := by rcases bt_nat (lv 0) with h | h <;> omega
  simp only [h4] at h3
  dsimp only at h2
  omega
theorem Bg_next {c : Nat → Int32} {lev st : Nat → Nat} {lv : Nat → Bool} (hT : TI c lev st lv) {i b q r : Nat} (hC : Cl lev st i b q) (hr : r < 1028) (er : c i = nI r) (h : q + 2 ^ b < 1114112) : Bg c lev st (q + 2 ^ b) := by
  have hpos := p2_pos b
  obtain ⟨i', b', q', r', a1, a2, a3, a4, -, a6⟩ := rec_ex hT h
  by_cases e : q' = q + 2 ^ b
  · subst e
    exact ⟨i', b', r', a1, a4, a6⟩
  · exfalso
    have h1 := Cl_one hT hC a1 (by omega) (by omega) er a6 (show q ≤ q + 2 ^ b - 1 by omega) (by omega) (by omega) (by omega)
    obtain ⟨-, rfl, rfl⟩ := h1
    omega
theorem Bg_at {c : Nat → Int32} {lev st : Nat → Nat} {lv : Nat → Bool} (hT : TI c lev st lv) {i b q r p : Nat} (hC : Cl lev st i b q) (hr : r < 1028) (er : c i = nI r) (h1 : q ≤ p) (h2 : p < q + 2 ^ b) (hg : Bg c lev st p) : q = p := by
  obtain ⟨i', b', r', a1, a2, a3⟩ := hg
  have hpos := p2_pos b'
  exact (Cl_one hT hC a1 (by omega) (by omega) er a3 h1 h2 (Nat.le_refl _) (by omega)).2.2
theorem chg_chg {V : Nat → Nat → Int32} {fl a x y : Nat} {v k : Int32} (h1 : a ≤ x) (h2 : x ≤ y) : chg (chg V fl v k a x) fl v k x y = chg V fl v k a y := by
  funext p f
  unfold chg
  by_cases e1 : x ≤ p ∧ p < y ∧ f = fl
  · rw [if_pos e1, if_neg (by omega), if_pos (by omega)]
  · rw [if_neg e1]
    by_cases e2 : a ≤ p ∧ p < x ∧ f = fl
    · rw [if_pos e2, if_pos (by omega)]
    · rw [if_neg e2, if_neg (by omega)]
theorem chg_none {V : Nat → Nat → Int32} {fl a : Nat} {v k : Int32} : chg V fl v k a a = V := by
  funext p f
  unfold chg
  rw [if_neg (by omega)]
theorem MI_congr {σ τ : St} {lev st : Nat → Nat} {fl z : Nat} (h0 : τ 0 = σ 0) (h5 : τ 5 = σ 5) (h9 : τ 9 = σ 9) (h10 : τ 10 = σ 10) (h11 : τ 11 = σ 11) (h : MI σ lev st fl z) : MI τ lev st fl z := by
  unfold MI nv at *
  rw [h0, h5, h9, h10, h11]
  exact h
theorem s_alterL67 {σ : St} {lev st : Nat → Nat} {lv : Nat → Bool} {L : Nat → List Nat} {V : Nat → Nat → Int32} {n z t0 : Nat} {Q : St → Prop} (hB : BI σ lev st lv L V n) (hz : z < 1114112) (ht0 : t0 ≤ z / 1024 + 1)
    (hQ : ∀ (τ : St) (lev' : Nat → Nat) (n' : Nat), n ≤ n' → BI τ lev' st lv L V n' → (∀ k, k ≠ 1 → k ≠ 11 → k ≠ 12 → k ≠ 13 → τ k = σ k) → Q τ) : F_Bl_alter_L67 (nI z) (nI t0) σ Q := by
  unfold F_Bl_alter_L67
  have hsh : nI z >>> ((10 : Int32) &&& 31) = nI (z / 1024) := pk_shrN (by omega) _ 10 (by decide)
  refine ⟨fun v4 τ => ∃ (lev' : Nat → Nat) (n' t : Nat), v4 = nI t ∧ t ≤ z / 1024 + 1 ∧ n ≤ n' ∧ BI τ lev' st lv L V n' ∧ ∀ x, x ≠ 1 → x ≠ 11 → x ≠ 12 → x ≠ 13 → τ x = σ x, fun v4 _ => 2000 - v4.toNatClampNeg, ⟨lev, n, t0, rfl, ht0, by omega, hB, fun _ _ _ _ _ => rfl⟩, ?_⟩
  intro v4 τ m hI hm
  dsimp only at hm ⊢
  obtain ⟨lev', n', t, rfl, ht, hn, hB', hfr⟩ := hI
  rw [cl (by omega)] at hm
  rw [hsh, nI_ltI (by omega) (by omega)]
  refine ⟨fun _ => hQ τ lev' n' hn hB' hfr, fun hc => ?_⟩
  refine s_joinBelow hB' (by omega) (fun ρ lev2 n2 a1 a2 a3 => ?_)
  intro z2 hz2
  rw [ar_1] at hz2
  refine ⟨⟨lev2, n2, t + 1, hz2, by omega, by omega, a2, fun x b1 b11 b12 b13 => by rw [a3 x b1 b11 b12 b13]; exact hfr x b1 b11 b12 b13⟩, ?_⟩
  rw [hz2, cl (by omega)]
  omega
theorem s_alterL29 {σ : St} {lev st : Nat → Nat} {lv : Nat → Bool} {L : Nat → List Nat} {V : Nat → Nat → Int32} {n a z fl : Nat} {Q : St → Prop} (hB : BI σ lev st lv L V n) (haz : a ≤ z) (hz : z < 1114112) (hfl : fl < 8) (efl : σ 8 0 = nI fl) (hout : ∀ i, i < 1028 → σ 5 i = -1) (hbr : brk V ≤ 1022)
    (hga : Bg (σ 11) lev st a) (hgz : z + 1 < 1114112 → Bg (σ 11) lev st (z + 1))
    (hQ : ∀ (τ : St) (lev' : Nat → Nat) (lv' : Nat → Bool) (L' : Nat → List Nat) (n' : Nat), n ≤ n' → BI τ lev' st lv' L' (chg V fl (σ 9 0) (σ 10 0) a (z + 1)) n' → (∀ k, 16 < k → τ k = σ k) → Q τ) : F_Bl_alter_L29 (nI a) (nI z) (nI a) σ Q := by
  unfold F_Bl_alter_L29
  have hsh : nI a >>> ((10 : Int32) &&& 31) = nI (a / 1024) := pk_shrN (by omega) _ 10 (by decide)
  refine ⟨fun v3 τ => ∃ (lv' : Nat → Bool) (L' : Nat → List Nat) (x : Nat), v3 = nI x ∧ a ≤ x ∧ x ≤ z + 1 ∧ BI τ lev st lv' L' (chg V fl (σ 9 0) (σ 10 0) a x) n ∧ MI τ lev st fl x ∧ (x ≤ z → Bg (τ 11) lev st x) ∧ (z + 1 < 1114112 → Bg (τ 11) lev st (z + 1)) ∧ τ 8 = σ 8 ∧ τ 9 = σ 9 ∧ τ 10 = σ 10 ∧ ∀ k, 16 < k → τ k = σ k,
    fun v3 _ => 1114200 - v3.toNatClampNeg, ⟨lv, L, a, rfl, Nat.le_refl _, by omega, by rw [chg_none]; exact hB, fun i b q x _ _ hx _ => Or.inl (hout x hx), fun _ => hga, hgz, rfl, rfl, rfl, fun _ _ => rfl⟩, ?_⟩
  intro v3 τ m hI hm
  dsimp only at hm ⊢
  obtain ⟨lv', L', x, rfl, hax, hxz, hB', hM, hgx, hgz', e8, e9, e10, hfr⟩ := hI
  rw [cl (by omega)] at hm
  rw [nI_ltI (by omega) (by omega)]
  refine ⟨fun hc => ?_, fun hc => ?_⟩
  · have : x = z + 1 := by omega
    subst this
    intro z3 hz3
    rw [hz3, hsh]
    refine s_alterL67 hB' hz (by omega) (fun ρ lev2 n2 a1 a2 a3 => ?_)
    exact hQ ρ lev2 lv' L' n2 a1 a2 (fun k hk => by rw [a3 k (by omega) (by omega) (by omega) (by omega)]; exact hfr k hk)
  · refine s_find hB'.2.1 (by omega) (fun σ4 i b q r hC q1 q2 hr hlr er hf4 g14 g15 g16 => ?_)
    have hq : q = x := Bg_at hB'.2.1 hC hr er q1 q2 (hgx (by omega))
    subst hq
    have hpos := p2_pos b
    have hal := (Cl_al hB'.2.1 hC).2
    have f4 : ∀ k, k < 14 → σ4 k = τ k := fun k hk => hf4 k (by omega) (by omega) (by omega)
    have hB4 : BI σ4 lev st lv' L' (chg V fl (σ 9 0) (σ 10 0) a q) n := BI_congr (fun k _ _ _ _ _ hk => f4 k hk) hB'
    have hM4 : MI σ4 lev st fl q := MI_congr (f4 0 (by decide)) (f4 5 (by decide)) (f4 9 (by decide)) (f4 10 (by decide)) (f4 11 (by decide)) hM
    have hroom : sm (fun y => (lv' y).toNat) 1028 < 1028 := by
      have h1 := room_le hB'
      have h2 := brk_chg (V := V) (fl := fl) (a := a) (z := q) (v := σ 9 0) (k := σ 10 0)
      omega
    rw [g14]
    refine s_replace hB4 hM4 hfl (by rw [f4 8 (by decide), e8]; exact efl) hroom hC hr (by rw [f4 11 (by decide)]; exact er) (fun σ5 lv5 L5 hB5 hM5 hg5 hf5 => ?_)
    rw [f4 9 (by decide), e9, f4 10 (by decide), e10, chg_chg hax (by omega)] at hB5
    intro z6 hz6
    have e16 : σ5 16 0 = nI (q + 2 ^ b - 1) := by rw [hf5 16 (by decide) (by decide)]; exact g16
    have ez : z6 = nI (q + 2 ^ b) := by
      rw [hz6, e16]
      by_cases hlt : nI q < nI (q + 2 ^ b - 1)
      · rw [if_pos hlt, ar_1]
        congr 1
        omega
      · rw [if_neg hlt, ar_1]
        rw [nI_ltI (by omega) (by omega)] at hlt
        congr 1
        omega
    have g11 : σ4 11 = τ 11 := f4 11 (by decide)
    have hle : q + 2 ^ b ≤ z + 1 := by
      by_cases hzl : z + 1 < 1114112
      · by_cases hgt : q + 2 ^ b ≤ z + 1
        · exact hgt
        · exfalso
          have := Bg_at hB'.2.1 hC hr er (show q ≤ z + 1 by omega) (by omega) (hgz' hzl)
          omega
      · omega
    refine ⟨⟨lv5, L5, q + 2 ^ b, ez, by omega, hle, hB5, hM5, fun hx => ?_, fun hzl => hg5 _ (by rw [g11]; exact hgz' hzl), by rw [hf5 8 (by decide) (by decide), f4 8 (by decide)]; exact e8, by rw [hf5 9 (by decide) (by decide), f4 9 (by decide)]; exact e9, by rw [hf5 10 (by decide) (by decide), f4 10 (by decide)]; exact e10, fun k hk => by rw [hf5 k (by omega) (by omega), hf4 k (by omega) (by omega) (by omega)]; exact hfr k hk⟩, ?_⟩
    · refine hg5 _ ?_
      rw [g11]
      exact Bg_next hB'.2.1 hC hr er (by omega)
    · rw [ez, cl (by omega)]
      omega
theorem s_alter {σ : St} {lev st : Nat → Nat} {lv : Nat → Bool} {L : Nat → List Nat} {V : Nat → Nat → Int32} {n a z fl : Nat} {Q : St → Prop} (hB : BI σ lev st lv L V n) (hn : 4 ≤ n) (haz : a ≤ z) (hz : z < 1114112) (hfl : fl < 8) (efl : σ 8 0 = nI fl) (hout : ∀ i, i < 1028 → σ 5 i = -1) (hbr : brk V ≤ 1022)
    (hQ : ∀ (τ : St) (lev' st' : Nat → Nat) (lv' : Nat → Bool) (L' : Nat → List Nat) (n' : Nat), n ≤ n' + 4 → BI τ lev' st' lv' L' (chg V fl (σ 9 0) (σ 10 0) a (z + 1)) n' → (∀ k, 16 < k → τ k = σ k) → Q τ) : F_Bl_alter (nI a) (nI z) σ Q := by
  have e13 : σ 13 0 = nI n := hB.2.2.2.1.2.1
  have hn8 : n ≤ 2048 := hB.2.2.2.1.1
  unfold F_Bl_alter
  rw [e13, show (4 : Int32) = nI 4 from rfl, nI_leI (by omega) (by omega), show (1114111 : Int32) = nI 1114111 from rfl, nI_leI (by omega) (by omega)]
  refine ⟨fun _ => ?_, fun h => absurd hn h⟩
  refine s_splitBefore hB (by omega) (by omega) (fun σ7 lev7 st7 n7 h1 h2 hB7 hg7 _ hf7 => ?_)
  have k7 : ∀ k, k ≠ 1 → k ≠ 11 → k < 13 → σ7 k = σ k := fun k a1 a11 hk => hf7 k a1 a11 (by omega) (by omega) (by omega) (by omega)
  refine ⟨fun hc => ?_, fun hc => ?_⟩
  · refine s_alterL29 hB7 haz hz hfl (by rw [k7 8 (by decide) (by decide) (by decide)]; exact efl) (by rw [k7 5 (by decide) (by decide) (by decide)]; exact hout) hbr hg7 (fun h => by omega) (fun τ lev' lv' L' n' a1 a2 a3 => ?_)
    rw [k7 9 (by decide) (by decide) (by decide), k7 10 (by decide) (by decide) (by decide)] at a2
    exact hQ τ lev' st7 lv' L' n' (by omega) a2 (fun k hk => by rw [a3 k hk]; exact hf7 k (by omega) (by omega) (by omega) (by omega) (by omega) (by omega))
  · rw [ar_1]
    refine s_splitBefore hB7 (by omega) (by omega) (fun σ8 lev8 st8 n8 h3 h4 hB8 hg8 hb8 hf8 => ?_)
    have k8 : ∀ k, k ≠ 1 → k ≠ 11 → k < 13 → σ8 k = σ k := fun k a1 a11 hk => by rw [hf8 k a1 a11 (by omega) (by omega) (by omega) (by omega)]; exact k7 k a1 a11 hk
    refine s_alterL29 hB8 haz hz hfl (by rw [k8 8 (by decide) (by decide) (by decide)]; exact efl) (by rw [k8 5 (by decide) (by decide) (by decide)]; exact hout) hbr (hb8 _ hg7) (fun _ => hg8) (fun τ lev' lv' L' n' a1 a2 a3 => ?_)
    rw [k8 9 (by decide) (by decide) (by decide), k8 10 (by decide) (by decide) (by decide)] at a2
    exact hQ τ lev' st8 lv' L' n' (by omega) a2 (fun k hk => by rw [a3 k hk, hf8 k (by omega) (by omega) (by omega) (by omega) (by omega) (by omega)]; exact hf7 k (by omega) (by omega) (by omega) (by omega) (by omega) (by omega))
