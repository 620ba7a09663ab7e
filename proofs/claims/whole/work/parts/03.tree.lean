/-- a row's first cell -/
def Rw (j : Nat) : Nat := 1088 + 32 * j
/-- i is a cell in use; its block is the 2^b points from p on -/
def Cl (lev st : Nat → Nat) (i b p : Nat) : Prop :=
  (b = 10 ∧ i < 1088 ∧ p = 1024 * i) ∨ (b = 5 ∧ ∃ j k, j < 2048 ∧ k < 32 ∧ lev j = 1 ∧ i = Rw j + k ∧ p = st j + 32 * k) ∨ (b = 0 ∧ ∃ j k, j < 2048 ∧ k < 32 ∧ lev j = 2 ∧ i = Rw j + k ∧ p = st j + k)
/-- the level of the rows under a cell -/
def lb (b : Nat) : Nat := if b = 10 then 1 else 2
/-- the cell points to the row j of its own block -/
def Pn (c : Nat → Int32) (lev st : Nat → Nat) (i b p j : Nat) : Prop := 0 < b ∧ j < 2048 ∧ lev j = lb b ∧ st j = p ∧ c i = -nI (Rw j)
/-- the tree -/
def TI (c : Nat → Int32) (lev st : Nat → Nat) (lv : Nat → Bool) : Prop :=
  (∀ i b p, Cl lev st i b p → (∃ r, r < 1028 ∧ lv r = true ∧ c i = nI r) ∨ ∃ j, Pn c lev st i b p j) ∧
  ∀ j, j < 2048 → lev j ≠ 0 → ∃ i b p, Cl lev st i b p ∧ Pn c lev st i b p j
theorem Cl_b {lev st : Nat → Nat} {i b p : Nat} (h : Cl lev st i b p) : b = 10 ∨ b = 5 ∨ b = 0 := by
  rcases h with h | h | h
  · exact Or.inl h.1
  · exact Or.inr (Or.inl h.1)
  · exact Or.inr (Or.inr h.1)
theorem Cl_i {lev st : Nat → Nat} {i b p : Nat} (h : Cl lev st i b p) : i < 66624 := by
  rcases h with ⟨-, h, -⟩ | ⟨-, j, k, hj, hk, -, rfl, -⟩ | ⟨-, j, k, hj, hk, -, rfl, -⟩
  · omega
  · unfold Rw; omega
  · unfold Rw; omega
/-- a row's first point -/
theorem TI_st {c : Nat → Int32} {lev st : Nat → Nat} {lv : Nat → Bool} (hT : TI c lev st lv) {j : Nat} (hj : j < 2048) : (lev j = 1 → ∃ t, t < 1088 ∧ st j = 1024 * t ∧ c t = -nI (Rw j)) ∧
    (lev j = 2 → ∃ i k, i < 2048 ∧ k < 32 ∧ lev i = 1 ∧ st j = st i + 32 * k ∧ c (Rw i + k) = -nI (Rw j)) := by
  refine ⟨fun hl => ?_, fun hl => ?_⟩
  · obtain ⟨i, b, p, h1, h2, h3, h4, h5, h6⟩ := hT.2 j hj (by omega)
    rcases h1 with ⟨rfl, h, rfl⟩ | ⟨rfl, h⟩ | ⟨rfl, h⟩
    · exact ⟨i, h, h5, h6⟩
    · exfalso
      rw [hl] at h4
      exact absurd h4 (by decide)
    · omega
  · obtain ⟨i, b, p, h1, h2, h3, h4, h5, h6⟩ := hT.2 j hj (by omega)
    rcases h1 with ⟨rfl, h, rfl⟩ | ⟨rfl, i', k, a1, a2, a3, a4, a5⟩ | ⟨rfl, h⟩
    · exfalso
      rw [hl] at h4
      exact absurd h4 (by decide)
    · exact ⟨i', k, a1, a2, a3, by rw [h5, a5], by rw [← a4]; exact h6⟩
    · omega
theorem Cl_al {c : Nat → Int32} {lev st : Nat → Nat} {lv : Nat → Bool} (hT : TI c lev st lv) {i b p : Nat} (h : Cl lev st i b p) : p % 2 ^ b = 0 ∧ p + 2 ^ b ≤ 1114112 := by
  rcases h with ⟨rfl, h, rfl⟩ | ⟨rfl, j, k, hj, hk, hl, rfl, rfl⟩ | ⟨rfl, j, k, hj, hk, hl, rfl, rfl⟩
  · omega
  · obtain ⟨t, h1, h2, -⟩ := (TI_st hT hj).1 hl
    omega
  · obtain ⟨i', k', a1, a2, a3, a4, -⟩ := (TI_st hT hj).2 hl
    obtain ⟨t, h1, h2, -⟩ := (TI_st hT a1).1 a3
    omega
/-- two cells in use with records, and a point in both: one cell -/
theorem Cl_one {c : Nat → Int32} {lev st : Nat → Nat} {lv : Nat → Bool} (hT : TI c lev st lv) {i b q i' b' q' r r' p : Nat} (h : Cl lev st i b q) (h' : Cl lev st i' b' q') (hr : r < 2 ^ 31) (hr' : r' < 2 ^ 31) (e : c i = nI r) (e' : c i' = nI r')
    (p1 : q ≤ p) (p2 : p < q + 2 ^ b) (p1' : q' ≤ p) (p2' : p < q' + 2 ^ b') : i = i' ∧ b = b' ∧ q = q' := by
  have hno : ∀ {x j r : Nat}, r < 2 ^ 31 → j < 2048 → c x = nI r → c x = -nI (Rw j) → False := fun {x j r} hr hj a1 a2 => by
    refine ng_ne (b := Rw j) ?_ hr ?_ (a1.symm.trans a2) <;> unfold Rw <;> omega
  -- the row that a middle or low cell stands in, and the top cell above it
  have mid : ∀ {j : Nat}, j < 2048 → lev j = 1 → ∀ x, st j ≤ x → x < st j + 1024 → c (x / 1024) = -nI (Rw j) := fun {j} hj hl x x1 x2 => by
    obtain ⟨t, h1, h2, h3⟩ := (TI_st hT hj).1 hl
    rw [show x / 1024 = t by omega]
    exact h3
  have same : ∀ {j j' : Nat}, j < 2048 → j' < 2048 → -nI (Rw j) = -nI (Rw j') → j = j' := fun {j j'} hj hj' he => by
    have := ng_inj (a := Rw j) (b := Rw j') (by unfold Rw; omega) (by unfold Rw; omega) he
    unfold Rw at this
    omega
  have low : ∀ {j : Nat}, j < 2048 → lev j = 2 → ∃ a, a < 2048 ∧ lev a = 1 ∧ st a ≤ st j ∧ st j + 32 ≤ st a + 1024 ∧ (st j - st a) % 32 = 0 ∧ c (Rw a + (st j - st a) / 32) = -nI (Rw j) := fun {j} hj hl => by
    obtain ⟨a, k, a1, a2, a3, a4, a5⟩ := (TI_st hT hj).2 hl
    refine ⟨a, a1, a3, by omega, by omega, by omega, ?_⟩
    rw [show (st j - st a) / 32 = k by omega]
    exact a5
  rcases h with ⟨rfl, h1, rfl⟩ | ⟨rfl, j, k, hj, hk, hl, rfl, rfl⟩ | ⟨rfl, j, k, hj, hk, hl, rfl, rfl⟩ <;>
    rcases h' with ⟨rfl, h1', rfl⟩ | ⟨rfl, j', k', hj', hk', hl', rfl, rfl⟩ | ⟨rfl, j', k', hj', hk', hl', rfl, rfl⟩
  · have : i = i' := by omega
    subst this
    exact ⟨rfl, rfl, rfl⟩
  · exfalso
    have := mid hj' hl' p (by omega) (by omega)
    rw [show p / 1024 = i by omega] at this
    exact hno hr hj' e this
  · exfalso
    obtain ⟨a, a1, a2, a3, a4, a5, a6⟩ := low hj' hl'
    have := mid a1 a2 p (by omega) (by omega)
    rw [show p / 1024 = i by omega] at this
    exact hno hr a1 e this
  · exfalso
    have := mid hj hl p (by omega) (by omega)
    rw [show p / 1024 = i' by omega] at this
    exact hno hr' hj e' this
  · have e1 := mid hj hl p (by omega) (by omega)
    have e2 := mid hj' hl' p (by omega) (by omega)
    have : j = j' := same hj hj' (e1.symm.trans e2)
    subst this
    have : k = k' := by omega
    subst this
    exact ⟨rfl, rfl, rfl⟩
  · exfalso
    obtain ⟨a, a1, a2, a3, a4, a5, a6⟩ := low hj' hl'
    have e1 := mid hj hl p (by omega) (by omega)
    have e2 := mid a1 a2 p (by omega) (by omega)
    have : j = a := same hj a1 (e1.symm.trans e2)
    subst this
    rw [show (st j' - st j) / 32 = k by omega] at a6
    exact hno hr hj' e a6
  · exfalso
    obtain ⟨a, a1, a2, a3, a4, a5, a6⟩ := low hj hl
    have := mid a1 a2 p (by omega) (by omega)
    rw [show p / 1024 = i' by omega] at this
    exact hno hr' a1 e' this
  · exfalso
    obtain ⟨a, a1, a2, a3, a4, a5, a6⟩ := low hj hl
    have e1 := mid hj' hl' p (by omega) (by omega)
    have e2 := mid a1 a2 p (by omega) (by omega)
    have : j' = a := same hj' a1 (e1.symm.trans e2)
    subst this
    rw [show (st j - st j') / 32 = k' by omega] at a6
    exact hno hr' hj e' a6
  · obtain ⟨a, a1, a2, a3, a4, a5, a6⟩ := low hj hl
    obtain ⟨a', a1', a2', a3', a4', a5', a6'⟩ := low hj' hl'
    have e1 := mid a1 a2 p (by omega) (by omega)
    have e2 := mid a1' a2' p (by omega) (by omega)
    have : a = a' := same a1 a1' (e1.symm.trans e2)
    subst this
    have e3 : (st j - st a) / 32 = (st j' - st a) / 32 := by omega
    rw [e3] at a6
    have : j = j' := same hj hj' (a6.symm.trans a6')
    subst this
    have : k = k' := by omega
    subst this
    exact ⟨rfl, rfl, rfl⟩
/-- a pointing cell's block has no record cell of the same or a larger size over it: the row under it -/
theorem row_cl {lev st : Nat → Nat} {i b p j k : Nat} (h : Cl lev st i b p) (h0 : 0 < b) (hj : j < 2048) (hl : lev j = lb b) (hs : st j = p) (hk : k < 32) : Cl lev st (Rw j + k) (b - 5) (p + 2 ^ (b - 5) * k) := by
  rcases Cl_b h with rfl | rfl | rfl
  · exact Or.inr (Or.inl ⟨rfl, j, k, hj, hk, hl, rfl, by rw [hs]⟩)
  · exact Or.inr (Or.inr ⟨rfl, j, k, hj, hk, hl, rfl, by rw [hs]; omega⟩)
  · omega
/-- bits -/
theorem i_ext {x y : Int32} (h : x.toBitVec.toNat = y.toBitVec.toNat) : x = y := Int32.toBitVec_inj.mp (BitVec.eq_of_toNat_eq h)
theorem or_lo {p m : Nat} (b : Nat) (hm : m = 2 ^ b - 1) (hb : b ≤ 10) (hp : p < 2 ^ 31) : nI p ||| nI m = nI (p / 2 ^ b * 2 ^ b + m) := by
  have hmb : m < 2 ^ 10 := by
    rw [hm]
    have : 2 ^ b ≤ 2 ^ 10 := Nat.pow_le_pow_right (by decide) hb
    have : 0 < 2 ^ b := Nat.pow_pos (by decide)
    omega
  have hle : p / 2 ^ b * 2 ^ b ≤ p := Nat.div_mul_le_self p (2 ^ b)
  refine i_ext ?_
  rw [Int32.toBitVec_or, BitVec.toNat_or, pk_tn (by omega), pk_tn (by omega), pk_tn (by omega)]
  have e : p / 2 ^ b * 2 ^ b + m = (p / 2 ^ b * 2 ^ b) ||| m := by
    rw [Nat.mul_comm, hm]
    exact Nat.two_pow_add_eq_or_of_lt (by have : 0 < 2 ^ b := Nat.pow_pos (by decide); omega) _
  rw [e]
  refine Nat.eq_of_testBit_eq fun i => ?_
  rw [Nat.testBit_or, Nat.testBit_or, hm, Nat.testBit_two_pow_sub_one, ← Nat.shiftRight_eq_div_pow, ← Nat.shiftLeft_eq, Nat.testBit_shiftLeft, Nat.testBit_shiftRight]
  by_cases h : i < b
  · simp [h]
  · simp only [h, decide_false, Bool.or_false]
    rw [decide_eq_true (by omega), Bool.true_and, show b + (i - b) = i by omega]
theorem and_hi {p m : Nat} (b : Nat) (hm : m = 2 ^ b - 1) (hb : b ≤ 10) (hp : p < 2 ^ 31) : nI p &&& (nI m ^^^ (-1 : Int32)) = nI (p / 2 ^ b * 2 ^ b) := by
  have hmb : m < 2 ^ 10 := by
    rw [hm]
    have : 2 ^ b ≤ 2 ^ 10 := Nat.pow_le_pow_right (by decide) hb
    have : 0 < 2 ^ b := Nat.pow_pos (by decide)
    omega
  have hle : p / 2 ^ b * 2 ^ b ≤ p := Nat.div_mul_le_self p (2 ^ b)
  refine i_ext ?_
  rw [Int32.toBitVec_and, BitVec.toNat_and, Int32.toBitVec_xor, BitVec.toNat_xor, pk_tn (by omega), pk_tn (by omega), pk_tn (by omega), show ((-1 : Int32)).toBitVec.toNat = 2 ^ 32 - 1 by decide]
  refine Nat.eq_of_testBit_eq fun i => ?_
  rw [Nat.testBit_and, Nat.testBit_xor, hm, Nat.testBit_two_pow_sub_one, Nat.testBit_two_pow_sub_one, ← Nat.shiftRight_eq_div_pow, ← Nat.shiftLeft_eq, Nat.testBit_shiftLeft, Nat.testBit_shiftRight]
  by_cases h : i < b
  · have h32 : i < 32 := by omega
    simp [h, h32, show ¬ b ≤ i by omega]
  · by_cases h32 : i < 32
    · rw [decide_eq_true h32, decide_eq_false h, decide_eq_true (show i ≥ b by omega), show b + (i - b) = i by omega]
      simp
    · have : p.testBit i = false := Nat.testBit_lt_two_pow (Nat.lt_of_lt_of_le hp (Nat.pow_le_pow_right (by decide) (by omega)))
      rw [show b + (i - b) = i by omega, this]
      simp
theorem p2_pos (b : Nat) : 0 < 2 ^ b := Nat.pow_pos (by decide)
theorem al_div {p q b : Nat} (h : q % 2 ^ b = 0) (h1 : q ≤ p) (h2 : p < q + 2 ^ b) : p / 2 ^ b * 2 ^ b = q := by
  obtain ⟨d, hd⟩ := Nat.dvd_of_mod_eq_zero h
  have hpos := p2_pos b
  have e : p / 2 ^ b = d := by
    rw [Nat.div_eq_iff hpos]
    rw [Nat.mul_comm] at hd
    constructor
    · omega
    · have : d * 2 ^ b + 2 ^ b = (d + 1) * 2 ^ b := by rw [Nat.succ_mul]
      omega
  rw [e, hd, Nat.mul_comm]
theorem s_find {σ : St} {lev st : Nat → Nat} {lv : Nat → Bool} {Q : St → Prop} {p : Nat} (hT : TI (σ 11) lev st lv) (hp : p < 1114112)
    (hQ : ∀ (τ : St) (i b q r : Nat), Cl lev st i b q → q ≤ p → p < q + 2 ^ b → r < 1028 → lv r = true → σ 11 i = nI r → (∀ j, j ≠ 14 → j ≠ 15 → j ≠ 16 → τ j = σ j) → τ 14 0 = nI i → τ 15 0 = nI q → τ 16 0 = nI (q + 2 ^ b - 1) → Q τ) : F_Bl_find (nI p) σ Q := by
  have hJ : ∀ (i b q r : Nat) (τ : St), Cl lev st i b q → q ≤ p → p < q + 2 ^ b → r < 1028 → lv r = true → σ 11 i = nI r → (∀ j, j ≠ 14 → τ j = σ j) → τ 14 0 = nI i → F_Bl_find_J53 (nI p) (nI b) τ Q := by
    intro i b q r τ hC q1 q2 hr hlr er hfr ei
    have hal := (Cl_al hT hC).1
    have hbb : b ≤ 10 := by rcases Cl_b hC with h | h | h <;> omega
    have hpos := p2_pos b
    unfold F_Bl_find_J53
    intro z1 hz1
    have e1 : z1 = nI (2 ^ b - 1) := by
      rw [hz1]
      rcases Cl_b hC with rfl | rfl | rfl <;> decide
    intro σ2 h2 σ3 h3
    rw [e1, and_hi b rfl hbb (by omega), al_div hal q1 q2] at h2
    rw [e1, or_lo b rfl hbb (by omega), al_div hal q1 q2] at h3
    refine hQ σ3 i b q r hC q1 q2 hr hlr er (fun j a1 a2 a3 => by rw [h3, sA_n a3, h2, sA_n a2]; exact hfr j a1) ?_ ?_ ?_
    · rw [h3, sA_n (by decide), h2, sA_n (by decide)]; exact ei
    · rw [h3, sA_n (by decide), h2, sA_s]
    · rw [h3, sA_s]
      congr 1
      omega
  unfold F_Bl_find
  intro z6 hz6 σ7 h7
  have hsh : nI p >>> ((10 : Int32) &&& 31) = nI (p / 1024) := pk_shrN (by omega) _ 10 (by decide)
  rw [hz6, hsh] at h7
  unfold F_Bl_find_L10
  refine ⟨fun v2 τ => (∀ j, j ≠ 14 → τ j = σ j) ∧ ∃ i b q, Cl lev st i b q ∧ q ≤ p ∧ p < q + 2 ^ b ∧ v2 = nI b ∧ τ 14 0 = nI i, fun v2 _ => v2.toNatClampNeg, ⟨fun j a => by rw [h7, sA_n a], p / 1024, 10, 1024 * (p / 1024), Or.inl ⟨rfl, by omega, rfl⟩, by omega, by omega, hz6, by rw [h7, sA_s]⟩, ?_⟩
  intro v2 τ n hI hm
  dsimp only at hm ⊢
  obtain ⟨hfr, i, b, q, hC, q1, q2, rfl, ei⟩ := hI
  have hi := Cl_i hC
  have hbb : b ≤ 10 := by rcases Cl_b hC with h | h | h <;> omega
  have e11 : τ 11 = σ 11 := hfr 11 (by decide)
  rw [cl (by omega)] at hm
  rw [ei, cl (by omega), e11]
  have hb0 : nI b ≤ 0 ↔ b = 0 := by
    rw [show (0 : Int32) = nI 0 from rfl, nI_leI (by omega) (by omega)]
    omega
  refine ⟨fun hc => ?_, fun hc => ⟨vp_in_nI hi (by decide), fun hc2 => ?_, fun hc2 => ?_⟩⟩
  · rcases hT.1 i b q hC with ⟨r, h1, h2, h3⟩ | ⟨j, h1, -⟩
    · exact hJ i b q r τ hC q1 q2 h1 h2 h3 hfr ei
    · exact absurd (hb0.mp hc) (by omega)
  · rcases hT.1 i b q hC with ⟨r, h1, h2, h3⟩ | ⟨j, h1, h2, h3, h4, h5⟩
    · exact hJ i b q r τ hC q1 q2 h1 h2 h3 hfr ei
    · exfalso
      rw [h5] at hc2
      have := ng_lt (n := Rw j) (by unfold Rw; omega) (by unfold Rw; omega)
      exact Int32.not_lt.mpr hc2 this
  · rcases hT.1 i b q hC with ⟨r, h1, h2, h3⟩ | ⟨j, h1, h2, h3, h4, h5⟩
    · exfalso
      rw [h3] at hc2
      exact hc2 (nI_pos' (by omega))
    · intro z4 hz4
      have hb5 : b = 10 ∨ b = 5 := by rcases Cl_b hC with h | h | h <;> omega
      have e4 : z4 = nI (b - 5) := by
        rw [hz4]
        rcases hb5 with rfl | rfl <;> decide
      refine ⟨vp_in_nI hi (by decide), ?_⟩
      intro σ5 hσ5
      have hal := (Cl_al hT hC).1
      have ek : (nI p >>> (nI (b - 5) &&& 31)) &&& (31 : Int32) = nI (p / 2 ^ (b - 5) % 32) := by
        have e : nI p >>> (nI (b - 5) &&& 31) = nI (p / 2 ^ (b - 5)) := by
          refine pk_shrN (by omega) _ (b - 5) ?_
          rcases hb5 with rfl | rfl <;> decide
        rw [e]
        exact pk_andN (Nat.lt_of_le_of_lt (Nat.div_le_self _ _) (by omega)) 5 (by decide)
      rw [h5, ng_ng, e4, ek, nI_add] at hσ5
      rw [e4]
      have hk : p / 2 ^ (b - 5) % 32 < 32 := Nat.mod_lt _ (by decide)
      refine ⟨⟨fun x a => by rw [hσ5, sA_n a]; exact hfr x a, Rw j + p / 2 ^ (b - 5) % 32, b - 5, q + 2 ^ (b - 5) * (p / 2 ^ (b - 5) % 32), row_cl hC h1 h2 h3 h4 hk, ?_, ?_, rfl, by rw [hσ5, sA_s]⟩, ?_⟩
      · rcases hb5 with rfl | rfl <;> omega
      · rcases hb5 with rfl | rfl <;> omega
      · rw [cl (by omega)]
        omega
theorem s_recordOf {σ : St} {lev st : Nat → Nat} {lv : Nat → Bool} {Q : Int32 → St → Prop} {p : Nat} (hT : TI (σ 11) lev st lv) (hp : p < 1114112)
    (hQ : ∀ (τ : St) (i b q r : Nat), Cl lev st i b q → q ≤ p → p < q + 2 ^ b → r < 1028 → lv r = true → σ 11 i = nI r → (∀ j, j ≠ 14 → j ≠ 15 → j ≠ 16 → τ j = σ j) → τ 14 0 = nI i → τ 15 0 = nI q → τ 16 0 = nI (q + 2 ^ b - 1) → Q (nI r) τ) : F_Bl_recordOf (nI p) σ Q := by
  unfold F_Bl_recordOf
  refine s_find hT hp (fun τ i b q r hC q1 q2 hr hlr er hfr e14 e15 e16 => ?_)
  have hi := Cl_i hC
  rw [e14, cl (by omega), hfr 11 (by decide) (by decide) (by decide), er]
  exact ⟨vp_in_nI hi (by decide), hQ τ i b q r hC q1 q2 hr hlr er hfr e14 e15 e16⟩
/-- a cell is in use -/
def us (lev : Nat → Nat) (i : Nat) : Bool := decide (i < 1088) || lev ((i - 1088) / 32) != 0
/-- how often a record is held -/
def hN (c : Nat → Int32) (lev : Nat → Nat) (r : Nat) : Nat := sm (fun i => (us lev i && c i == nI r).toNat) 66624 + (r == 0).toNat
/-- the records of the cells in use say what V says of their points -/
def VI (σ : St) (lev st : Nat → Nat) (V : Nat → Nat → Int32) : Prop := ∀ i b q r, Cl lev st i b q → r < 1028 → σ 11 i = nI r → ∀ p, q ≤ p → p < q + 2 ^ b → ∀ f, f < 8 → σ 0 (8 * r + f) = V p f
/-- the spare rows -/
def SI (σ : St) (lev : Nat → Nat) (n : Nat) : Prop := n ≤ 2048 ∧ σ 13 0 = nI n ∧ n + sm (fun j => (lev j != 0).toNat) 2048 = 2048 ∧ (∀ q, q < n → ∃ j, j < 2048 ∧ σ 12 q = nI (Rw j) ∧ lev j = 0) ∧ ∀ i j, i < n → j < n → σ 12 i = σ 12 j → i = j
def HI (σ : St) (lev : Nat → Nat) (lv : Nat → Bool) : Prop := ∀ r, r < 1028 → σ 1 r = nI (hN (σ 11) lev r) ∧ (lv r = true ↔ 0 < hN (σ 11) lev r)
/-- the class's state -/
def BI (σ : St) (lev st : Nat → Nat) (lv : Nat → Bool) (L : Nat → List Nat) (V : Nat → Nat → Int32) (n : Nat) : Prop :=
  RI σ lv L ∧ TI (σ 11) lev st lv ∧ VI σ lev st V ∧ SI σ lev n ∧ HI σ lev lv ∧ ∀ f, f < 8 → σ 0 f = 0
theorem BI_congr {σ τ : St} {lev st : Nat → Nat} {lv : Nat → Bool} {L : Nat → List Nat} {V : Nat → Nat → Int32} {n : Nat} (h : ∀ j, j ≠ 5 → j ≠ 6 → j ≠ 8 → j ≠ 9 → j ≠ 10 → j < 14 → τ j = σ j) (hB : BI σ lev st lv L V n) : BI τ lev st lv L V n := by
  have e0 := h 0 (by decide) (by decide) (by decide) (by decide) (by decide) (by decide)
  have e1 := h 1 (by decide) (by decide) (by decide) (by decide) (by decide) (by decide)
  have e2 := h 2 (by decide) (by decide) (by decide) (by decide) (by decide) (by decide)
  have e3 := h 3 (by decide) (by decide) (by decide) (by decide) (by decide) (by decide)
  have e4 := h 4 (by decide) (by decide) (by decide) (by decide) (by decide) (by decide)
  have e7 := h 7 (by decide) (by decide) (by decide) (by decide) (by decide) (by decide)
  have e11 := h 11 (by decide) (by decide) (by decide) (by decide) (by decide) (by decide)
  have e12 := h 12 (by decide) (by decide) (by decide) (by decide) (by decide) (by decide)
  have e13 := h 13 (by decide) (by decide) (by decide) (by decide) (by decide) (by decide)
  unfold BI RI VI SI HI at *
  rw [e0, e1, e2, e3, e4, e7, e11, e12, e13]
  exact hB
theorem us_cl {lev st : Nat → Nat} {i b q : Nat} (h : Cl lev st i b q) : us lev i = true := by
  unfold us
  rcases h with ⟨-, h, -⟩ | ⟨-, j, k, hj, hk, hl, rfl, -⟩ | ⟨-, j, k, hj, hk, hl, rfl, -⟩
  · rw [decide_eq_true h]; rfl
  · rw [show (Rw j + k - 1088) / 32 = j by unfold Rw; omega, hl]
    simp
  · rw [show (Rw j + k - 1088) / 32 = j by unfold Rw; omega, hl]
    simp
theorem TI_lev {c : Nat → Int32} {lev st : Nat → Nat} {lv : Nat → Bool} (hT : TI c lev st lv) {j : Nat} (hj : j < 2048) : lev j = 0 ∨ lev j = 1 ∨ lev j = 2 := by
  by_cases h : lev j = 0
  · exact Or.inl h
  · obtain ⟨i, b, p, -, -, -, h4, -⟩ := hT.2 j hj h
    unfold lb at h4
    by_cases e : b = 10
    · rw [if_pos e] at h4; exact Or.inr (Or.inl h4)
    · rw [if_neg e] at h4; exact Or.inr (Or.inr h4)
/-- a cell in use has a block -/
theorem cl_us {c : Nat → Int32} {lev st : Nat → Nat} {lv : Nat → Bool} (hT : TI c lev st lv) {i : Nat} (hi : i < 66624) (h : us lev i = true) : ∃ b q, Cl lev st i b q := by
  unfold us at h
  by_cases e : i < 1088
  · exact ⟨10, 1024 * i, Or.inl ⟨rfl, e, rfl⟩⟩
  · rw [decide_eq_false e, Bool.false_or, bne_iff_ne] at h
    have hj : (i - 1088) / 32 < 2048 := by omega
    have hk : (i - 1088) % 32 < 32 := by omega
    have ei : i = Rw ((i - 1088) / 32) + (i - 1088) % 32 := by unfold Rw; omega
    rcases TI_lev hT hj with h0 | h1 | h2
    · exact absurd h0 h
    · exact ⟨5, _, Or.inr (Or.inl ⟨rfl, _, _, hj, hk, h1, ei, rfl⟩)⟩
    · exact ⟨0, _, Or.inr (Or.inr ⟨rfl, _, _, hj, hk, h2, ei, rfl⟩)⟩
theorem hN_pos {c : Nat → Int32} {lev : Nat → Nat} {r i : Nat} (hi : i < 66624) (hu : us lev i = true) (e : c i = nI r) : 0 < hN c lev r := by
  unfold hN
  have h1 := sm_ge (f := fun i => (us lev i && c i == nI r).toNat) (k := i) (n := 66624) hi
  have h2 : (us lev i && c i == nI r).toNat = 1 := by rw [hu, e]; simp
  try dsimp only at h1
  omega
theorem hN_at {c : Nat → Int32} {lev : Nat → Nat} {r : Nat} (h0 : r ≠ 0) (h : 0 < hN c lev r) : ∃ i, i < 66624 ∧ us lev i = true ∧ c i = nI r := by
  unfold hN at h
  rw [beq_eq_false_iff_ne.mpr h0] at h
  obtain ⟨i, hi, h1⟩ := sm_pos (f := fun i => (us lev i && c i == nI r).toNat) (n := 66624) (by simpa using h)
  have h2 : (us lev i && c i == nI r) = true := by
    cases e : (us lev i && c i == nI r) with
    | true => rfl
    | false => rw [e] at h1; exact absurd h1 (by decide)
  rw [Bool.and_eq_true, beq_iff_eq] at h2
  exact ⟨i, hi, h2.1, h2.2⟩
theorem hN_le (c : Nat → Int32) (lev : Nat → Nat) (r : Nat) : hN c lev r ≤ 66625 := by
  unfold hN
  have h1 : sm (fun i => (us lev i && c i == nI r).toNat) 66624 ≤ sm (fun _ => 1) 66624 := sm_le (fun i _ => by
    show (us lev i && c i == nI r).toNat ≤ 1
    rcases bt_nat (us lev i && c i == nI r) with h | h <;> omega)
  have h2 : sm (fun _ => 1) 66624 = 66624 * 1 := sm_const (fun _ _ => rfl)
  rcases bt_nat (r == 0) with h | h <;> omega
/-- one cell in use gets another content -/
theorem hN_set {c : Nat → Int32} {lev : Nat → Nat} {i r : Nat} {x : Int32} (hi : i < 66624) (hu : us lev i = true) : hN (upd c i x) lev r + (c i == nI r).toNat = hN c lev r + (x == nI r).toNat := by
  unfold hN
  have h1 := sm_one (f := fun k => (us lev k && upd c i x k == nI r).toNat) (g := fun k => (us lev k && c k == nI r).toNat) (k := i) (n := 66624) hi (fun k _ hne => by
    show (us lev k && upd c i x k == nI r).toNat = (us lev k && c k == nI r).toNat
    rw [show upd c i x k = c k by unfold upd; rw [if_neg hne]])
  have h2 : upd c i x i = x := by unfold upd; rw [if_pos rfl]
  simp only [hu, h2, Bool.true_and] at h1
  omega
/-- a row comes into use, all of one record -/
theorem hN_row {c c' : Nat → Int32} {lev : Nat → Nat} {j l r s : Nat} (hj : j < 2048) (h0 : lev j = 0) (hl : l ≠ 0) (hc : ∀ i, i < 66624 → (i < Rw j ∨ Rw j + 32 ≤ i) → c' i = c i) (hr : ∀ k, k < 32 → c' (Rw j + k) = nI s) :
    hN c' (fun x => if x = j then l else lev x) r = hN c lev r + 32 * (nI s == nI r).toNat := by
  unfold hN
  have h1 := sm_blk (g := fun i => (us lev i && c i == nI r).toNat) (n := 66624) (b := Rw j) (c := (nI s == nI r).toNat) 32 (fun i => (us (fun x => if x = j then l else lev x) i && c' i == nI r).toNat) (by unfold Rw; omega) (fun i a1 a2 => ?_) (fun i a1 a2 => ?_)
  · omega
  · have e1 : (i - 1088) / 32 = j := by unfold Rw at a1 a2; omega
    have e2 : ¬ i < 1088 := by unfold Rw at a1; omega
    have e3 : us (fun x => if x = j then l else lev x) i = true := by
      unfold us
      rw [e1]
      dsimp only
      rw [if_pos rfl, bne_iff_ne.mpr hl]
      simp
    have e4 : us lev i = false := by
      unfold us
      rw [e1, h0, decide_eq_false e2]
      rfl
    have e5 : c' i = nI s := by
      have := hr (i - Rw j) (by omega)
      rw [show Rw j + (i - Rw j) = i by omega] at this
      exact this
    show (us (fun x => if x = j then l else lev x) i && c' i == nI r).toNat = (us lev i && c i == nI r).toNat + _
    rw [e3, e4, e5, Bool.true_and, Bool.false_and]
    simp
  · have e1 : i < 1088 ∨ (i - 1088) / 32 ≠ j := by unfold Rw at a2; omega
    have e3 : us (fun x => if x = j then l else lev x) i = us lev i := by
      unfold us
      rcases e1 with e | e
      · rw [decide_eq_true e]; rfl
      · dsimp only
        rw [if_neg e]
    show (us (fun x => if x = j then l else lev x) i && c' i == nI r).toNat = (us lev i && c i == nI r).toNat
    rw [e3, hc i a1 a2]
/-- a row of one record goes out of use -/
theorem hN_unrow {c : Nat → Int32} {lev : Nat → Nat} {j r s : Nat} (hj : j < 2048) (h0 : lev j ≠ 0) (hr : ∀ k, k < 32 → c (Rw j + k) = nI s) : hN c lev r = hN c (fun x => if x = j then 0 else lev x) r + 32 * (nI s == nI r).toNat := by
  have h1 := hN_row (c := c) (c' := c) (lev := fun x => if x = j then 0 else lev x) (j := j) (l := lev j) (r := r) (s := s) hj (by rw [if_pos rfl]) h0 (fun _ _ _ => rfl) hr
  have e : (fun x => if x = j then lev j else (fun x => if x = j then 0 else lev x) x) = lev := by
    funext x
    by_cases q : x = j
    · simp [q]
    · simp [q]
  rw [e] at h1
  exact h1
theorem nI_beq {a b : Nat} (ha : a < 2 ^ 31) (hb : b < 2 ^ 31) : (nI a == nI b) = (a == b) := by
  by_cases h : a = b
  · subst h; simp
  · rw [beq_eq_false_iff_ne.mpr h, beq_eq_false_iff_ne.mpr (fun q => h (nI_inj ha hb q))]
abbrev fu (f : Nat → Nat) (j x : Nat) : Nat → Nat := fun i => if i = j then x else f i
theorem fu_s (f : Nat → Nat) (j x : Nat) : fu f j x j = x := if_pos rfl
theorem fu_n {f : Nat → Nat} {j x i : Nat} (h : i ≠ j) : fu f j x i = f i := if_neg h
theorem Cl_fun {lev st : Nat → Nat} {i b q b' q' : Nat} (h : Cl lev st i b q) (h' : Cl lev st i b' q') : b = b' ∧ q = q' := by
  rcases h with ⟨rfl, h1, rfl⟩ | ⟨rfl, j, k, hj, hk, hl, rfl, rfl⟩ | ⟨rfl, j, k, hj, hk, hl, rfl, rfl⟩ <;>
    rcases h' with ⟨rfl, h1', rfl⟩ | ⟨rfl, j', k', hj', hk', hl', e, rfl⟩ | ⟨rfl, j', k', hj', hk', hl', e, rfl⟩
  · exact ⟨rfl, rfl⟩
  · exfalso; unfold Rw at e; omega
  · exfalso; unfold Rw at e; omega
  · exfalso; unfold Rw at h1'; omega
  · have : j = j' := by unfold Rw at e; omega
    subst this
    have : k = k' := by omega
    subst this
    exact ⟨rfl, rfl⟩
  · exfalso
    have : j = j' := by unfold Rw at e; omega
    subst this
    omega
  · exfalso; unfold Rw at h1'; omega
  · exfalso
    have : j = j' := by unfold Rw at e; omega
    subst this
    omega
  · have : j = j' := by unfold Rw at e; omega
    subst this
    have : k = k' := by omega
    subst this
    exact ⟨rfl, rfl⟩
/-- cells in use lie in rows in use -/
theorem Cl_row {lev st : Nat → Nat} {i b q j : Nat} (h : Cl lev st i b q) (hj : lev j = 0) : i < Rw j ∨ Rw j + 32 ≤ i := by
  rcases h with ⟨rfl, h1, rfl⟩ | ⟨rfl, j', k, hj', hk, hl, rfl, rfl⟩ | ⟨rfl, j', k, hj', hk, hl, rfl, rfl⟩
  · unfold Rw; omega
  · have : j ≠ j' := fun e => by rw [e] at hj; omega
    unfold Rw; omega
  · have : j ≠ j' := fun e => by rw [e] at hj; omega
    unfold Rw; omega
theorem Cl_up {lev st : Nat → Nat} {i b q j l p : Nat} (h : Cl lev st i b q) (hj : lev j = 0) : Cl (fu lev j l) (fu st j p) i b q := by
  rcases h with ⟨rfl, h1, rfl⟩ | ⟨rfl, j', k, hj', hk, hl, rfl, rfl⟩ | ⟨rfl, j', k, hj', hk, hl, rfl, rfl⟩
  · exact Or.inl ⟨rfl, h1, rfl⟩
  · have : j' ≠ j := fun e => by rw [e] at hl; omega
    exact Or.inr (Or.inl ⟨rfl, j', k, hj', hk, by rw [fu_n this]; exact hl, rfl, by rw [fu_n this]⟩)
  · have : j' ≠ j := fun e => by rw [e] at hl; omega
    exact Or.inr (Or.inr ⟨rfl, j', k, hj', hk, by rw [fu_n this]; exact hl, rfl, by rw [fu_n this]⟩)
theorem Cl_down {lev st : Nat → Nat} {i b q j l p : Nat} (h : Cl (fu lev j l) (fu st j p) i b q) (hj : lev j = 0) (hl : l = 1 ∨ l = 2) : Cl lev st i b q ∨ ∃ k, k < 32 ∧ i = Rw j + k ∧ b = (if l = 1 then 5 else 0) ∧ q = p + 2 ^ b * k := by
  rcases h with ⟨rfl, h1, rfl⟩ | ⟨rfl, j', k, hj', hk, h2, rfl, rfl⟩ | ⟨rfl, j', k, hj', hk, h2, rfl, rfl⟩
  · exact Or.inl (Or.inl ⟨rfl, h1, rfl⟩)
  · by_cases e : j' = j
    · subst e
      rw [fu_s] at h2
      refine Or.inr ⟨k, hk, rfl, by rw [if_pos h2], ?_⟩
      rw [fu_s]
    · rw [fu_n e] at h2
      refine Or.inl (Or.inr (Or.inl ⟨rfl, j', k, hj', hk, h2, rfl, ?_⟩))
      rw [fu_n e]
  · by_cases e : j' = j
    · subst e
      rw [fu_s] at h2
      refine Or.inr ⟨k, hk, rfl, by rw [if_neg (by omega)], ?_⟩
      rw [fu_s]
      omega
    · rw [fu_n e] at h2
      refine Or.inl (Or.inr (Or.inr ⟨rfl, j', k, hj', hk, h2, rfl, ?_⟩))
      rw [fu_n e]
theorem lb_12 (b : Nat) : lb b = 1 ∨ lb b = 2 := by
  unfold lb
  by_cases h : b = 10
  · rw [if_pos h]; exact Or.inl rfl
  · rw [if_neg h]; exact Or.inr rfl
theorem rec_no {c : Nat → Int32} {i r j : Nat} (hr : r < 2 ^ 31) (hj : j < 2048) (h1 : c i = nI r) (h2 : c i = -nI (Rw j)) : False :=
  ng_ne (b := Rw j) (by unfold Rw; omega) hr (by unfold Rw; omega) (h1.symm.trans h2)
section SPLIT
variable {c c' : Nat → Int32} {lev st : Nat → Nat} {lv : Nat → Bool} {i b q r j : Nat}
theorem Cl_dn2 (hC : Cl lev st i b q) (hb : 0 < b) (h0 : lev j = 0) {i' b' q' : Nat} (h : Cl (fu lev j (lb b)) (fu st j q) i' b' q') : Cl lev st i' b' q' ∨ ∃ k, k < 32 ∧ i' = Rw j + k ∧ b' = b - 5 ∧ q' = q + 2 ^ b' * k := by
  rcases Cl_down h h0 (lb_12 b) with h1 | ⟨k, h1, h2, h3, h4⟩
  · exact Or.inl h1
  · refine Or.inr ⟨k, h1, h2, ?_, h4⟩
    rw [h3]
    rcases Cl_b hC with rfl | rfl | rfl
    · rfl
    · rfl
    · omega
theorem TI_split (hT : TI c lev st lv) (hC : Cl lev st i b q) (hb : 0 < b) (hj : j < 2048) (h0 : lev j = 0) (hr : r < 1028) (hlr : lv r = true) (er : c i = nI r)
    (e1 : c' i = -nI (Rw j)) (e2 : ∀ k, k < 32 → c' (Rw j + k) = nI r) (e3 : ∀ x, x ≠ i → (x < Rw j ∨ Rw j + 32 ≤ x) → c' x = c x) : TI c' (fu lev j (lb b)) (fu st j q) lv := by
  refine ⟨fun i' b' q' h => ?_, fun j' hj' hl' => ?_⟩
  · rcases Cl_dn2 hC hb h0 h with h1 | ⟨k, hk, rfl, -, -⟩
    · by_cases ei : i' = i
      · subst ei
        obtain ⟨rfl, rfl⟩ := Cl_fun hC h1
        exact Or.inr ⟨j, hb, hj, fu_s _ _ _, fu_s _ _ _, e1⟩
      · rw [show c' i' = c i' from e3 i' ei (Cl_row h1 h0)]
        rcases hT.1 i' b' q' h1 with h2 | ⟨j2, a1, a2, a3, a4, a5⟩
        · exact Or.inl h2
        · have hne : j2 ≠ j := fun e => by
            rw [e, h0] at a3
            rcases lb_12 b' with h | h <;> omega
          exact Or.inr ⟨j2, a1, a2, by rw [fu_n hne]; exact a3, by rw [fu_n hne]; exact a4, by rw [e3 i' ei (Cl_row h1 h0)]; exact a5⟩
    · exact Or.inl ⟨r, hr, hlr, e2 k hk⟩
  · by_cases ej : j' = j
    · subst ej
      exact ⟨i, b, q, Cl_up hC h0, hb, hj, fu_s _ _ _, fu_s _ _ _, e1⟩
    · rw [fu_n ej] at hl'
      obtain ⟨i', b', q', h1, a1, a2, a3, a4, a5⟩ := hT.2 j' hj' hl'
      have ei : i' ≠ i := fun e => by
        rw [e] at a5
        exact rec_no (by omega) hj' er a5
      exact ⟨i', b', q', Cl_up h1 h0, a1, a2, by rw [fu_n ej]; exact a3, by rw [fu_n ej]; exact a4, by rw [e3 i' ei (Cl_row h1 h0)]; exact a5⟩
theorem VI_split {σ τ : St} {V : Nat → Nat → Int32} (hV : VI σ lev st V) (hC : Cl lev st i b q) (hb : 0 < b) (hj : j < 2048) (h0 : lev j = 0) (hr : r < 1028) (er : σ 11 i = nI r) (ev : τ 0 = σ 0)
    (e1 : τ 11 i = -nI (Rw j)) (e2 : ∀ k, k < 32 → τ 11 (Rw j + k) = nI r) (e3 : ∀ x, x ≠ i → (x < Rw j ∨ Rw j + 32 ≤ x) → τ 11 x = σ 11 x) : VI τ (fu lev j (lb b)) (fu st j q) V := by
  intro i' b' q' r' h hr' er' p p1 p2 f hf
  rw [ev]
  rcases Cl_dn2 hC hb h0 h with h1 | ⟨k, hk, rfl, hb', hq'⟩
  · have ei : i' ≠ i := fun e => by
      rw [e] at er'
      exact rec_no (by omega) hj er' e1
    rw [e3 i' ei (Cl_row h1 h0)] at er'
    exact hV i' b' q' r' h1 hr' er' p p1 p2 f hf
  · have : r' = r := nI_inj (by omega) (by omega) (er'.symm.trans (e2 k hk))
    subst this
    refine hV i b q r' hC hr er p ?_ ?_ f hf
    · have : q ≤ q' := by rw [hq']; exact Nat.le_add_right _ _
      omega
    · rcases Cl_b hC with rfl | rfl | rfl
      · rw [hb'] at p2 hq'; omega
      · rw [hb'] at p2 hq'; omega
      · omega
end SPLIT
/-- a block begins at x -/
def Bg (c : Nat → Int32) (lev st : Nat → Nat) (x : Nat) : Prop := ∃ i b r, Cl lev st i b x ∧ r < 1028 ∧ c i = nI r
theorem s_split {σ : St} {lev st : Nat → Nat} {lv : Nat → Bool} {L : Nat → List Nat} {V : Nat → Nat → Int32} {n i b q r : Nat} {Q : St → Prop} (hB : BI σ lev st lv L V n) (hn : 0 < n) (hC : Cl lev st i b q) (hb : 0 < b) (hr : r < 1028) (hlr : lv r = true) (er : σ 11 i = nI r)
    (hQ : ∀ (τ : St) (j : Nat), j < 2048 → lev j = 0 → BI τ (fu lev j (lb b)) (fu st j q) lv L V (n - 1) → (∀ k, k ≠ 1 → k ≠ 11 → k ≠ 13 → τ k = σ k) → τ 11 i = -nI (Rw j) → (∀ k, k < 32 → τ 11 (Rw j + k) = nI r) → (∀ x, x ≠ i → (x < Rw j ∨ Rw j + 32 ≤ x) → τ 11 x = σ 11 x) → Q τ) : F_Bl_split (nI i) σ Q := by
  obtain ⟨hR, hT, hV, ⟨hn8, e13, hcount, hsp, hinj⟩, hH, hZ⟩ := hB
  have hi := Cl_i hC
  unfold F_Bl_split
  rw [e13]
  refine ⟨fun h => absurd h (nI_nle hn (by omega)), fun _ => ?_⟩
  intro σ1 h1
  rw [ar_m1 hn] at h1
  have e113 : σ1 13 0 = nI (n - 1) := by rw [h1, sA_s]
  have e1o : ∀ k, k ≠ 13 → σ1 k = σ k := fun k a => by rw [h1, sA_n a]
  obtain ⟨j, hj, ej, h0⟩ := hsp (n - 1) (by omega)
  rw [e113, cl (by omega), cl (by omega), e1o 12 (by decide), e1o 11 (by decide), ej, er]
  refine ⟨vp_in_nI (by omega) (by decide), ?_⟩
  intro z2 hz2
  subst hz2
  refine ⟨vp_in_nI hi (by decide), ?_⟩
  intro z3 hz3
  subst hz3
  have hrw : Rw j + 32 ≤ 66624 := by unfold Rw; omega
  have e32 : nI (Rw j) + (32 : Int32) = nI (Rw j + 32) := nI_add _ 32
  rw [e32]
  refine s_fill4 (by omega) hrw (fun σ4 f4 a4 => ?_)
  refine s_hold hr ?_
  refine ⟨vp_in_nI hi (by decide), ?_⟩
  intro σ6 h6
  have hout := Cl_row hC h0
  have g5 : ∀ k, k ≠ 1 → k ≠ 11 → k ≠ 13 → σ6 k = σ k := fun k a1 a11 a13 => by rw [h6, sA_n a11, sA_n a1, f4 k a11, e1o k a13]
  have g11 : ∀ x, σ6 11 x = if x = i then -nI (Rw j) else if Rw j ≤ x ∧ x < Rw j + 32 then nI r else σ 11 x := fun x => by
    rw [h6, sA_s]
    unfold upd
    by_cases e : x = i
    · rw [if_pos e, if_pos e]
    · rw [if_neg e, if_neg e, sA_n (by decide), a4 x, e1o 11 (by decide)]
  have c1 : σ6 11 i = -nI (Rw j) := by rw [g11, if_pos rfl]
  have c2 : ∀ k, k < 32 → σ6 11 (Rw j + k) = nI r := fun k hk => by rw [g11, if_neg (by omega), if_pos (by omega)]
  have c3 : ∀ x, x ≠ i → (x < Rw j ∨ Rw j + 32 ≤ x) → σ6 11 x = σ 11 x := fun x a1 a2 => by rw [g11, if_neg a1, if_neg (by omega)]
  have g13 : σ6 13 0 = nI (n - 1) := by rw [h6, sA_n (by decide), sA_n (by decide), f4 13 (by decide)]; exact e113
  have g1 : ∀ x, σ6 1 x = if x = r then σ 1 r + 31 else σ 1 x := fun x => by
    rw [h6, sA_n (by decide), sA_s]
    unfold upd
    rw [f4 1 (by decide), e1o 1 (by decide)]
  refine hQ σ6 j hj h0 ⟨RI_congr (g5 0 (by decide) (by decide) (by decide)) (g5 2 (by decide) (by decide) (by decide)) (g5 3 (by decide) (by decide) (by decide)) (g5 4 (by decide) (by decide) (by decide)) (g5 7 (by decide) (by decide) (by decide)) hR,
    TI_split hT hC hb hj h0 hr hlr er c1 c2 c3, VI_split hV hC hb hj h0 hr er (g5 0 (by decide) (by decide) (by decide)) c1 c2 c3, ⟨by omega, g13, ?_, ?_, ?_⟩, ?_, fun f hf => by rw [g5 0 (by decide) (by decide) (by decide)]; exact hZ f hf⟩ g5 c1 c2 c3
  · have h3 := sm_one (f := fun x => (fu lev j (lb b) x != 0).toNat) (g := fun x => (lev x != 0).toNat) (k := j) (n := 2048) hj (fun x _ hne => by
      show (fu lev j (lb b) x != 0).toNat = (lev x != 0).toNat
      rw [fu_n hne])
    have h4 : (fu lev j (lb b) j != 0).toNat = 1 := by rw [fu_s]; rcases lb_12 b with h | h <;> rw [h] <;> rfl
    have h5 : (lev j != 0).toNat = 0 := by rw [h0]; rfl
    try dsimp only at h3
    omega
  · intro x hx
    obtain ⟨j', a1, a2, a3⟩ := hsp x (by omega)
    have hne : j' ≠ j := fun e => by
      have := hinj x (n - 1) (by omega) (by omega) (by rw [a2, ej, e])
      omega
    exact ⟨j', a1, by rw [g5 12 (by decide) (by decide) (by decide)]; exact a2, by rw [fu_n hne]; exact a3⟩
  · intro x y hx hy hxy
    rw [g5 12 (by decide) (by decide) (by decide)] at hxy
    exact hinj x y (by omega) (by omega) hxy
  · have hfun : σ6 11 = upd (fun x => if Rw j ≤ x ∧ x < Rw j + 32 then nI r else σ 11 x) i (-nI (Rw j)) := by
      funext x
      rw [g11]
      rfl
    have hu : us (fu lev j (lb b)) i = true := us_cl (Cl_up (l := lb b) (p := q) hC h0)
    have hl0 : lb b ≠ 0 := by rcases lb_12 b with h | h <;> omega
    have hcnt : ∀ x, x < 1028 → hN (σ6 11) (fu lev j (lb b)) x + (r == x).toNat = hN (σ 11) lev x + 32 * (r == x).toNat := fun x hx => by
      have k1 : hN (fun x => if Rw j ≤ x ∧ x < Rw j + 32 then nI r else σ 11 x) (fu lev j (lb b)) x = hN (σ 11) lev x + 32 * (nI r == nI x).toNat := hN_row (c := σ 11) (c' := fun x => if Rw j ≤ x ∧ x < Rw j + 32 then nI r else σ 11 x) (lev := lev) (j := j) (l := lb b) (r := x) (s := r) hj h0 hl0 (fun y _ a2 => by rw [if_neg (by omega)]) (fun k hk => by rw [if_pos (by omega)])
      have k2 := hN_set (c := fun x => if Rw j ≤ x ∧ x < Rw j + 32 then nI r else σ 11 x) (lev := fu lev j (lb b)) (i := i) (r := x) (x := -nI (Rw j)) hi hu
      rw [← hfun] at k2
      have k3 : ((-nI (Rw j)) == nI x) = false := beq_eq_false_iff_ne.mpr (fun e => ng_ne (b := Rw j) (by unfold Rw; omega) (by omega) (by unfold Rw; omega) e.symm)
      have k4 : (if Rw j ≤ i ∧ i < Rw j + 32 then nI r else σ 11 i) = nI r := by rw [if_neg (by omega), er]
      simp only [k3, k4, nI_beq (show r < 2 ^ 31 by omega) (show x < 2 ^ 31 by omega), Bool.toNat_false] at k1 k2
      omega
    intro x hx
    have h2 := hcnt x hx
    obtain ⟨a1, a2⟩ := hH x hx
    by_cases e : x = r
    · subst e
      rw [beq_self_eq_true] at h2
      simp only [Bool.toNat_true] at h2
      have hle := hN_le (σ 11) lev x
      refine ⟨?_, ⟨fun _ => by omega, fun _ => hlr⟩⟩
      rw [g1, if_pos rfl, a1, show (31 : Int32) = nI 31 from rfl, nI_add]
      exact congrArg nI (by omega)
    · rw [beq_eq_false_iff_ne.mpr (fun h => e h.symm)] at h2
      simp only [Bool.toNat_false] at h2
      rw [g1, if_neg e, show hN (σ6 11) (fu lev j (lb b)) x = hN (σ 11) lev x by omega]
      exact ⟨a1, a2⟩
theorem Bg_split {c c' : Nat → Int32} {lev st : Nat → Nat} {i b q r j x : Nat} (hC : Cl lev st i b q) (hb : 0 < b) (hj : j < 2048) (h0 : lev j = 0) (hr : r < 1028) (e2 : ∀ k, k < 32 → c' (Rw j + k) = nI r) (e3 : ∀ x, x ≠ i → (x < Rw j ∨ Rw j + 32 ≤ x) → c' x = c x) (h : Bg c lev st x) : Bg c' (fu lev j (lb b)) (fu st j q) x := by
  obtain ⟨i', b', r', h1, h2, h3⟩ := h
  by_cases ei : i' = i
  · subst ei
    obtain ⟨rfl, rfl⟩ := Cl_fun hC h1
    have h4 := row_cl (k := 0) (Cl_up (j := j) (l := lb b) (p := q) hC h0) hb hj (fu_s _ _ _) (fu_s _ _ _) (by decide)
    rw [Nat.mul_zero, Nat.add_zero, Nat.add_zero] at h4
    have h5 := e2 0 (by decide)
    rw [Nat.add_zero] at h5
    exact ⟨Rw j, b - 5, r, h4, hr, h5⟩
  · exact ⟨i', b', r', Cl_up h1 h0, h2, by rw [e3 i' ei (Cl_row h1 h0)]; exact h3⟩
theorem s_splitBefore {σ : St} {lev st : Nat → Nat} {lv : Nat → Bool} {L : Nat → List Nat} {V : Nat → Nat → Int32} {n p : Nat} {Q : St → Prop} (hB : BI σ lev st lv L V n) (hn : 2 ≤ n) (hp : p < 1114112)
    (hQ : ∀ (τ : St) (lev' st' : Nat → Nat) (n' : Nat), n ≤ n' + 2 → n' ≤ n → BI τ lev' st' lv L V n' → Bg (τ 11) lev' st' p → (∀ x, Bg (σ 11) lev st x → Bg (τ 11) lev' st' x) → (∀ k, k ≠ 1 → k ≠ 11 → k ≠ 13 → k ≠ 14 → k ≠ 15 → k ≠ 16 → τ k = σ k) → Q τ) : F_Bl_splitBefore (nI p) σ Q := by
  have hn8 : n ≤ 2048 := hB.2.2.2.1.1
  unfold F_Bl_splitBefore
  refine s_find hB.2.1 hp (fun τ0 i0 b0 q0 r0 hC0 q1 q2 hr0 hlr0 er0 hf0 e14 e15 _ => ?_)
  intro z5 hz5
  have hB0 : BI τ0 lev st lv L V n := BI_congr (fun j _ _ _ _ _ a => hf0 j (by omega) (by omega) (by omega)) hB
  have e11 : τ0 11 = σ 11 := hf0 11 (by decide) (by decide) (by decide)
  have hb0 : b0 ≤ 10 := by rcases Cl_b hC0 with h | h | h <;> omega
  unfold F_Bl_splitBefore_L8
  refine ⟨fun v2 τ => ∃ (lev' st' : Nat → Nat) (n' B i b q r : Nat), v2 = nI B ∧ (B = 10 ∨ B = 5 ∨ B = 0) ∧ b ≤ B ∧ n ≤ n' + (10 - B) / 5 ∧ n' ≤ n ∧ BI τ lev' st' lv L V n' ∧ Cl lev' st' i b q ∧ q ≤ p ∧ p < q + 2 ^ b ∧ r < 1028 ∧ lv r = true ∧ τ 11 i = nI r ∧ τ 14 0 = nI i ∧ τ 15 0 = nI q ∧ (∀ x, Bg (σ 11) lev st x → Bg (τ 11) lev' st' x) ∧ ∀ k, k ≠ 1 → k ≠ 11 → k ≠ 13 → k ≠ 14 → k ≠ 15 → k ≠ 16 → τ k = σ k,
    fun v2 _ => v2.toNatClampNeg, ⟨lev, st, n, 10, i0, b0, q0, r0, hz5, Or.inl rfl, hb0, by omega, by omega, hB0, hC0, q1, q2, hr0, hlr0, by rw [e11]; exact er0, e14, e15, fun x h => by rw [e11]; exact h, fun k _ _ _ a1 a2 a3 => hf0 k a1 a2 a3⟩, ?_⟩
  intro v2 τ m hI hm
  dsimp only at hm ⊢
  obtain ⟨lev', st', n', B, i, b, q, r, rfl, hB3, hbB, hn1, hn2, hBI, hC, p1, p2, hr, hlr, er, g14, g15, hbg, hfr⟩ := hI
  have hi := Cl_i hC
  rw [cl (by omega)] at hm
  have hend : q = p → Q τ := fun e => hQ τ lev' st' n' (by omega) hn2 hBI ⟨i, b, r, by rw [← e]; exact hC, hr, er⟩ hbg hfr
  have hBz : nI B ≤ 0 ↔ B = 0 := by
    rw [show (0 : Int32) = nI 0 from rfl, nI_leI (by omega) (by omega)]
    omega
  rw [g15, g14]
  have hal := (Cl_al hBI.2.1 hC).2
  refine ⟨fun hc => ?_, fun hc => ⟨fun hc2 => ?_, fun hc2 => ?_⟩⟩
  · have hb : b = 0 := by have := hBz.mp hc; omega
    subst hb
    exact hend (by omega)
  · rw [nI_leI (by omega) (by omega)] at hc2
    exact hend (by omega)
  · rw [nI_leI (by omega) (by omega)] at hc2
    have hB0' : 0 < B := by
      rcases Nat.eq_zero_or_pos B with h | h
      · exact absurd (hBz.mpr h) hc
      · exact h
    have hb : 0 < b := by
      rcases Nat.eq_zero_or_pos b with h | h
      · subst h; omega
      · exact h
    refine s_split hBI (by omega) hC hb hr hlr er (fun σ1 j hj h0 hB1 hf1 c1 c2 c3 => ?_)
    refine s_find hB1.2.1 hp (fun σ2 i' b' q' r' hC' q1' q2' hr' hlr' er' hf2 k14 k15 _ => ?_)
    intro z3 hz3
    have hb5 : b = 10 ∨ b = 5 := by rcases Cl_b hC with h | h | h <;> omega
    have hB5 : B = 10 ∨ B = 5 := by omega
    have ez : z3 = nI (B - 5) := by
      rw [hz3]
      rcases hB5 with rfl | rfl <;> decide
    have halq := (Cl_al hBI.2.1 hC).1
    -- the new cell over p has five bits less
    have hbb : b' = b - 5 := by
      have hk : (p - q) / 2 ^ (b - 5) < 32 := by
        rcases hb5 with rfl | rfl <;> omega
      have h4 := row_cl (k := (p - q) / 2 ^ (b - 5)) (Cl_up (j := j) (l := lb b) (p := q) hC h0) hb hj (fu_s _ _ _) (fu_s _ _ _) hk
      have h5 := Cl_one hB1.2.1 hC' h4 (by omega) (show r < 2 ^ 31 by omega) er' (c2 _ hk) q1' q2' (by rcases hb5 with rfl | rfl <;> omega) (by rcases hb5 with rfl | rfl <;> omega)
      exact h5.2.1
    refine ⟨⟨fu lev' j (lb b), fu st' j q, n' - 1, B - 5, i', b', q', r', ez, by omega, by omega, by omega, by omega, BI_congr (fun x _ _ _ _ _ a => hf2 x (by omega) (by omega) (by omega)) hB1, hC', q1', q2', hr', hlr', by rw [hf2 11 (by decide) (by decide) (by decide)]; exact er', k14, k15, fun x h => ?_, fun k a1 a11 a13 a14 a15 a16 => by rw [hf2 k a14 a15 a16, hf1 k a1 a11 a13]; exact hfr k a1 a11 a13 a14 a15 a16⟩, ?_⟩
    · rw [hf2 11 (by decide) (by decide) (by decide)]
      exact Bg_split hC hb hj h0 hr c2 c3 (hbg x h)
    · rw [ez, cl (by omega)]
      omega
