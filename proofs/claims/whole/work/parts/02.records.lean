/-- sums -/
def sm (f : Nat → Nat) : Nat → Nat
  | 0 => 0
  | n + 1 => sm f n + f n
theorem sm_s (f : Nat → Nat) (n : Nat) : sm f (n + 1) = sm f n + f n := rfl
theorem sm_congr {f g : Nat → Nat} : ∀ {n : Nat}, (∀ i, i < n → f i = g i) → sm f n = sm g n
  | 0, _ => rfl
  | n + 1, h => by
    rw [sm_s, sm_s, sm_congr (n := n) (fun i hi => h i (by omega)), h n (by omega)]
theorem sm_le {f g : Nat → Nat} : ∀ {n : Nat}, (∀ i, i < n → f i ≤ g i) → sm f n ≤ sm g n
  | 0, _ => Nat.le_refl _
  | n + 1, h => by
    have h1 := sm_le (n := n) (fun i hi => h i (by omega))
    have h2 := h n (by omega)
    rw [sm_s, sm_s]
    omega
theorem sm_zero {f : Nat → Nat} : ∀ {n : Nat}, (∀ i, i < n → f i = 0) → sm f n = 0
  | 0, _ => rfl
  | n + 1, h => by rw [sm_s, sm_zero (n := n) (fun i hi => h i (by omega)), h n (by omega)]
theorem sm_const {f : Nat → Nat} {c : Nat} : ∀ {n : Nat}, (∀ i, i < n → f i = c) → sm f n = n * c
  | 0, _ => by rw [Nat.zero_mul]; rfl
  | n + 1, h => by rw [sm_s, sm_const (n := n) (fun i hi => h i (by omega)), h n (by omega), Nat.succ_mul]
theorem sm_one {f g : Nat → Nat} {k : Nat} : ∀ {n : Nat}, k < n → (∀ i, i < n → i ≠ k → f i = g i) → sm f n + g k = sm g n + f k
  | 0, hk, _ => absurd hk (Nat.not_lt_zero _)
  | n + 1, hk, h => by
    rw [sm_s, sm_s]
    by_cases e : k = n
    · subst e
      have h1 : sm f k = sm g k := sm_congr (fun i hi => h i (by omega) (by omega))
      omega
    · have h1 := sm_one (n := n) (by omega) (fun i hi hne => h i (by omega) hne)
      have h2 := h n (by omega) (fun q => e q.symm)
      omega
theorem sm_pos {f : Nat → Nat} : ∀ {n : Nat}, 0 < sm f n → ∃ i, i < n ∧ 0 < f i
  | 0, h => absurd h (Nat.lt_irrefl _)
  | n + 1, h => by
    rw [sm_s] at h
    by_cases e : 0 < f n
    · exact ⟨n, by omega, e⟩
    · obtain ⟨i, h1, h2⟩ := sm_pos (f := f) (n := n) (by omega)
      exact ⟨i, by omega, h2⟩
theorem sm_ge {f : Nat → Nat} {k : Nat} : ∀ {n : Nat}, k < n → f k ≤ sm f n
  | 0, h => absurd h (Nat.not_lt_zero _)
  | n + 1, h => by
    rw [sm_s]
    by_cases e : k = n
    · subst e; omega
    · have := sm_ge (n := n) (f := f) (k := k) (by omega)
      omega
theorem sm_two {f : Nat → Nat} {j k : Nat} (hjk : j ≠ k) : ∀ {n : Nat}, j < n → k < n → f j + f k ≤ sm f n
  | 0, h, _ => absurd h (Nat.not_lt_zero _)
  | n + 1, h, h' => by
    rw [sm_s]
    by_cases e : k = n
    · subst e
      have := sm_ge (n := k) (f := f) (k := j) (by omega)
      omega
    · by_cases e2 : j = n
      · subst e2
        have := sm_ge (n := j) (f := f) (k := k) (by omega)
        omega
      · have := sm_two (f := f) hjk (n := n) (by omega) (by omega)
        omega
/-- a stretch of m places, each c more -/
theorem sm_blk {g : Nat → Nat} {n b c : Nat} : ∀ (m : Nat) (f : Nat → Nat), b + m ≤ n → (∀ i, b ≤ i → i < b + m → f i = g i + c) → (∀ i, i < n → (i < b ∨ b + m ≤ i) → f i = g i) → sm f n = sm g n + m * c
  | 0, f, _, _, h2 => by rw [Nat.zero_mul, Nat.add_zero]; exact sm_congr (fun i hi => h2 i hi (by omega))
  | m + 1, f, hb, h1, h2 => by
    have e : sm (fun i => if i = b + m then g i else f i) n = sm g n + m * c := by
      refine sm_blk (g := g) (n := n) (b := b) (c := c) m _ (by omega) (fun i a1 a2 => ?_) (fun i a1 a2 => ?_)
      · rw [if_neg (by omega)]; exact h1 i a1 (by omega)
      · by_cases q : i = b + m
        · rw [if_pos q]
        · rw [if_neg q]; exact h2 i a1 (by omega)
    have h3 := sm_one (f := f) (g := fun i => if i = b + m then g i else f i) (k := b + m) (n := n) (by omega) (fun i _ hne => by rw [if_neg hne])
    rw [if_pos rfl, e] at h3
    have h4 := h1 (b + m) (by omega) (by omega)
    rw [Nat.succ_mul]
    omega
/-- as many different values as there are breaks, and one -/
theorem sm_dist (f : Nat → Nat) (R : Nat) : ∀ (N : Nat) (q : Nat → Bool), (∀ r, r < R → q r = true → ∃ p, p ≤ N ∧ f p = r) → sm (fun r => (q r).toNat) R ≤ 1 + sm (fun p => (f p != f (p + 1)).toNat) N
  | 0, q, h => by
    by_cases hR : f 0 < R
    · have h1 := sm_one (f := fun r => (q r).toNat) (g := fun _ => 0) (k := f 0) (n := R) hR (fun i hi hne => by
        cases e : q i with
        | false => rfl
        | true =>
          obtain ⟨p, hp, hf⟩ := h i hi e
          have : p = 0 := by omega
          subst this
          exact absurd hf.symm hne)
      have h2 : sm (fun _ => 0) R = 0 := sm_zero (fun _ _ => rfl)
      have h3 : (q (f 0)).toNat ≤ 1 := by cases q (f 0) <;> decide
      try dsimp only at h1
      omega
    · have h1 : sm (fun r => (q r).toNat) R = 0 := sm_zero (fun i hi => by
        cases e : q i with
        | false => rfl
        | true =>
          obtain ⟨p, hp, hf⟩ := h i hi e
          have : p = 0 := by omega
          subst this
          omega)
      omega
  | N + 1, q, h => by
    rw [sm_s]
    by_cases e : f N = f (N + 1)
    · have h1 := sm_dist f R N q (fun r hr hq => by
        obtain ⟨p, hp, hf⟩ := h r hr hq
        by_cases ep : p = N + 1
        · exact ⟨N, Nat.le_refl _, by rw [e, ← ep]; exact hf⟩
        · exact ⟨p, by omega, hf⟩)
      omega
    · have h1 := sm_dist f R N (fun r => q r && (r != f (N + 1))) (fun r hr hq => by
        simp only [Bool.and_eq_true, bne_iff_ne, ne_eq] at hq
        obtain ⟨p, hp, hf⟩ := h r hr hq.1
        by_cases ep : p = N + 1
        · subst ep; exact absurd hf.symm hq.2
        · exact ⟨p, by omega, hf⟩)
      have h2 : (f N != f (N + 1)).toNat = 1 := by rw [bne_iff_ne.mpr e]; rfl
      have h3 : sm (fun r => (q r).toNat) R ≤ sm (fun r => (q r && (r != f (N + 1))).toNat) R + 1 := by
        by_cases hR : f (N + 1) < R
        · have h4 := sm_one (f := fun r => (q r).toNat) (g := fun r => (q r && (r != f (N + 1))).toNat) (k := f (N + 1)) (n := R) hR (fun i _ hne => by
            show (q i).toNat = (q i && (i != f (N + 1))).toNat
            rw [bne_iff_ne.mpr hne, Bool.and_true])
          have h5 : (q (f (N + 1))).toNat ≤ 1 := by cases q (f (N + 1)) <;> decide
          try dsimp only at h4
          omega
        · have h4 : sm (fun r => (q r).toNat) R = sm (fun r => (q r && (r != f (N + 1))).toNat) R := sm_congr (fun i hi => by
            show (q i).toNat = (q i && (i != f (N + 1))).toNat
            rw [bne_iff_ne.mpr (show i ≠ f (N + 1) by omega), Bool.and_true])
          omega
      omega
/-- numbers -/
theorem nI_inj {a b : Nat} (ha : a < 2 ^ 31) (hb : b < 2 ^ 31) (h : nI a = nI b) : a = b := (nI_eq ha hb).mp h
theorem ng_toInt {n : Nat} (h : n < 2 ^ 31) : (-nI n).toInt = -(n : Int) := sb_negT h
theorem ng_lt {n : Nat} (h0 : 0 < n) (h : n < 2 ^ 31) : -nI n < 0 := by
  rw [Int32.lt_iff_toInt_lt, ng_toInt h, Int32.toInt_zero]
  omega
theorem ng_ng (x : Int32) : -(-x) = x := Int32.neg_neg
theorem ng_inj {a b : Nat} (ha : a < 2 ^ 31) (hb : b < 2 ^ 31) (h : -nI a = -nI b) : a = b := by
  have h1 : (-nI a).toInt = (-nI b).toInt := by rw [h]
  rw [ng_toInt ha, ng_toInt hb] at h1
  omega
theorem ng_ne {a b : Nat} (h0 : 0 < b) (ha : a < 2 ^ 31) (hb : b < 2 ^ 31) : nI a ≠ -nI b := by
  intro h
  have h1 : (nI a).toInt = (-nI b).toInt := by rw [h]
  rw [nI_toInt ha, ng_toInt hb] at h1
  omega
theorem ar_8 (r f : Nat) : nI r * (8 : Int32) + nI f = nI (8 * r + f) := by
  rw [show (8 : Int32) = nI 8 from rfl, pk_mul, nI_add, Nat.mul_comm]
theorem ar_80 (r : Nat) : nI r * (8 : Int32) = nI (8 * r) := by
  rw [show (8 : Int32) = nI 8 from rfl, pk_mul, Nat.mul_comm]
theorem ar_1 (n : Nat) : nI n + (1 : Int32) = nI (n + 1) := nI_1 n
theorem ar_m1 {n : Nat} (h : 0 < n) : nI n - (1 : Int32) = nI (n - 1) := by
  obtain ⟨k, rfl⟩ : ∃ k, n = k + 1 := ⟨n - 1, by omega⟩
  rw [nI_pred, Nat.add_sub_cancel]
theorem ne_m1 {n : Nat} (h : n < 2 ^ 31) : nI n ≠ (-1 : Int32) := by
  intro q
  have h1 := nI_toInt h
  rw [q] at h1
  have h2 : ((-1 : Int32)).toInt = -1 := by decide
  rw [h2] at h1
  omega
theorem cl {n : Nat} (h : n < 2 ^ 31) : (nI n).toNatClampNeg = n := nI_clamp h
/-- the number that a row of eight hashes to, before and behind the folding -/
def hc (v : Nat → Int32) (b : Nat) : Nat → Int32
  | 0 => 0
  | k + 1 => (31 : Int32) * hc v b k + v (b + k)
def mixed (h : Int32) : Int32 := (h ^^^ ((h.toUInt32 >>> ((20 : Int32).toUInt32 &&& Int32.toUInt32 31)).toInt32 ^^^ (h.toUInt32 >>> ((10 : Int32).toUInt32 &&& Int32.toUInt32 31)).toInt32)) &&& (1023 : Int32)
def chN (v : Nat → Int32) (b : Nat) : Nat := (mixed (hc v b 8)).toNatClampNeg
theorem chN_e (v : Nat → Int32) (b : Nat) : mixed (hc v b 8) = nI (chN v b) ∧ chN v b < 1024 := by
  obtain ⟨j, hj, e⟩ := pk_andE (hc v b 8 ^^^ (((hc v b 8).toUInt32 >>> ((20 : Int32).toUInt32 &&& Int32.toUInt32 31)).toInt32 ^^^ ((hc v b 8).toUInt32 >>> ((10 : Int32).toUInt32 &&& Int32.toUInt32 31)).toInt32)) (m := (1023 : Int32)) 10 (by decide)
  have e2 : mixed (hc v b 8) = nI j := e
  have e3 : chN v b = j := by
    unfold chN
    rw [e2, cl (by omega)]
  rw [e3]
  exact ⟨e2, hj⟩
theorem hc_congr {v v' : Nat → Int32} {b b' : Nat} : ∀ {k : Nat}, (∀ f, f < k → v (b + f) = v' (b' + f)) → hc v b k = hc v' b' k
  | 0, _ => rfl
  | k + 1, h => by
    show (31 : Int32) * hc v b k + v (b + k) = (31 : Int32) * hc v' b' k + v' (b' + k)
    rw [hc_congr (k := k) (fun f hf => h f (by omega)), h k (by omega)]
theorem chN_congr {v v' : Nat → Int32} {b b' : Nat} (h : ∀ f, f < 8 → v (b + f) = v' (b' + f)) : chN v b = chN v' b' := by
  unfold chN
  rw [hc_congr h]
theorem nd_len : ∀ (N : Nat) (l : List Nat), l.Nodup → (∀ x ∈ l, x < N) → l.length ≤ N
  | 0, l, _, h => by
    cases l with
    | nil => exact Nat.le_refl _
    | cons a t => exact absurd (h a List.mem_cons_self) (Nat.not_lt_zero _)
  | N + 1, l, hn, h => by
    by_cases e : N ∈ l
    · have h1 := nd_len N (l.erase N) (hn.erase N) (fun x hx => by
        have h2 := (hn.mem_erase_iff).mp hx
        have h3 := h x h2.2
        omega)
      rw [List.length_erase_of_mem e] at h1
      omega
    · have h1 := nd_len N l hn (fun x hx => by
        have h3 := h x hx
        have h4 : x ≠ N := fun q => e (q ▸ hx)
        omega)
      omega
/-- the chain that begins at x, by the numbers behind -/
def Lk (x : Int32) (b : Nat → Int32) : List Nat → Prop
  | [] => x = -1
  | r :: l => x = nI r ∧ Lk (b r) b l
theorem Lk_congr {b b' : Nat → Int32} : ∀ {l : List Nat} {x : Int32}, (∀ r ∈ l, b r = b' r) → Lk x b l → Lk x b' l
  | [], _, _, h => h
  | r :: l, x, he, h => by
    refine ⟨h.1, ?_⟩
    rw [← he r List.mem_cons_self]
    exact Lk_congr (fun q hq => he q (List.mem_cons_of_mem _ hq)) h.2
theorem Lk_upd {b : Nat → Int32} {l : List Nat} {x y : Int32} {p : Nat} (hp : p ∉ l) (h : Lk x b l) : Lk x (upd b p y) l :=
  Lk_congr (fun r hr => by
    unfold upd
    rw [if_neg (fun q : r = p => hp (by rw [← q]; exact hr))]) h
theorem Lk_cut {b : Nat → Int32} {p r : Nat} {l2 : List Nat} : ∀ {l1 : List Nat} {x : Int32}, (l1 ++ p :: r :: l2).Nodup → Lk x b (l1 ++ p :: r :: l2) → Lk x (upd b p (b r)) (l1 ++ p :: l2)
  | [], x, hn, h => by
    obtain ⟨h1, h2, h3⟩ := h
    refine ⟨h1, ?_⟩
    have e : upd b p (b r) p = b r := by unfold upd; rw [if_pos rfl]
    rw [e]
    have hp : p ∉ l2 := fun q => (List.nodup_cons.mp hn).1 (List.mem_cons_of_mem _ q)
    exact Lk_upd hp h3
  | a :: l1, x, hn, h => by
    have hn' := List.nodup_cons.mp hn
    refine ⟨h.1, ?_⟩
    have ha : a ≠ p := fun q => hn'.1 (by rw [q]; exact List.mem_append_right _ List.mem_cons_self)
    have e : upd b p (b r) a = b a := by unfold upd; rw [if_neg ha]
    rw [e]
    exact Lk_cut hn'.2 h.2
/-- the records: spare ones, chains, no two alike -/
def RI (σ : St) (lv : Nat → Bool) (L : Nat → List Nat) : Prop :=
  (∃ n, n ≤ 1028 ∧ σ 7 0 = nI n ∧ n + sm (fun r => (lv r).toNat) 1028 = 1028 ∧ (∀ i, i < n → ∃ r, r < 1028 ∧ σ 2 i = nI r ∧ lv r = false) ∧ ∀ i j, i < n → j < n → σ 2 i = σ 2 j → i = j) ∧
  (∀ c, c < 1024 → (L c).Nodup ∧ Lk (σ 3 c) (σ 4) (L c) ∧ ∀ r, r ∈ L c ↔ r < 1028 ∧ lv r = true ∧ chN (σ 0) (8 * r) = c) ∧
  ∀ r r', r < 1028 → r' < 1028 → lv r = true → lv r' = true → (∀ f, f < 8 → σ 0 (8 * r + f) = σ 0 (8 * r' + f)) → r = r'
theorem RI_congr {σ τ : St} {lv : Nat → Bool} {L : Nat → List Nat} (h0 : τ 0 = σ 0) (h2 : τ 2 = σ 2) (h3 : τ 3 = σ 3) (h4 : τ 4 = σ 4) (h7 : τ 7 = σ 7) (h : RI σ lv L) : RI τ lv L := by
  unfold RI
  rw [h0, h2, h3, h4, h7]
  exact h
theorem s_chainOf_values {σ : St} {Q : Int32 → St → Prop} {b : Nat} (hb : b + 8 ≤ 8224) (hQ : Q (nI (chN (σ 0) b)) σ) : F_Rc_chainOf_values (nI b) σ Q := by
  unfold F_Rc_chainOf_values
  intro z4 hz4
  unfold F_Rc_chainOf_values_L4
  refine ⟨fun v2 v3 τ => τ = σ ∧ ∃ k, k ≤ 8 ∧ v3 = nI (b + k) ∧ v2 = hc (σ 0) b k, fun _ v3 _ => b + 8 - v3.toNatClampNeg, ⟨rfl, 0, by omega, rfl, hz4⟩, ?_⟩
  intro v2 v3 τ n hI hm
  dsimp only at hm ⊢
  obtain ⟨rfl, k, hk, rfl, rfl⟩ := hI
  have e8 : nI b + (8 : Int32) = nI (b + 8) := nI_add b 8
  rw [cl (by omega)] at hm
  refine ⟨fun hc1 => ?_, fun hc1 => ?_⟩
  · rw [e8, nI_leI (by omega) (by omega)] at hc1
    have hk8 : k = 8 := by omega
    subst hk8
    intro z1 hz1
    rw [hz1]
    have h1 := (chN_e (τ 0) b).1
    unfold mixed at h1
    rw [h1]
    exact hQ
  · rw [e8, nI_leI (by omega) (by omega)] at hc1
    refine ⟨vp_in_nI (by omega) (by decide), ?_⟩
    intro z2 hz2 z3 hz3
    rw [cl (by omega)] at hz2
    rw [ar_1] at hz3
    refine ⟨⟨rfl, k + 1, by omega, hz3, hz2⟩, ?_⟩
    rw [hz3, cl (by omega)]
    omega
theorem s_chainOf_wanted {σ : St} {Q : Int32 → St → Prop} (hQ : Q (nI (chN (σ 6) 0)) σ) : F_Rc_chainOf_wanted (0 : Int32) σ Q := by
  unfold F_Rc_chainOf_wanted
  intro z4 hz4
  unfold F_Rc_chainOf_wanted_L4
  refine ⟨fun v2 v3 τ => τ = σ ∧ ∃ k, k ≤ 8 ∧ v3 = nI k ∧ v2 = hc (σ 6) 0 k, fun _ v3 _ => 8 - v3.toNatClampNeg, ⟨rfl, 0, by omega, rfl, hz4⟩, ?_⟩
  intro v2 v3 τ n hI hm
  dsimp only at hm ⊢
  obtain ⟨rfl, k, hk, rfl, rfl⟩ := hI
  have e8 : (0 : Int32) + (8 : Int32) = nI 8 := by decide
  rw [cl (by omega)] at hm
  refine ⟨fun hc1 => ?_, fun hc1 => ?_⟩
  · rw [e8, nI_leI (by omega) (by omega)] at hc1
    have hk8 : k = 8 := by omega
    subst hk8
    intro z1 hz1
    rw [hz1]
    have h1 := (chN_e (τ 6) 0).1
    unfold mixed at h1
    rw [h1]
    exact hQ
  · rw [e8, nI_leI (by omega) (by omega)] at hc1
    refine ⟨vp_in_nI (by omega) (by decide), ?_⟩
    intro z2 hz2 z3 hz3
    rw [cl (by omega)] at hz2
    rw [ar_1] at hz3
    refine ⟨⟨rfl, k + 1, by omega, hz3, ?_⟩, ?_⟩
    · show z2 = (31 : Int32) * hc (τ 6) 0 k + τ 6 (0 + k)
      rw [Nat.zero_add]
      exact hz2
    · rw [hz3, cl (by omega)]
      omega
theorem s_value {σ : St} {Q : Int32 → St → Prop} {r f : Nat} (hr : r < 1028) (hf : f < 8) (hQ : Q (σ 0 (8 * r + f)) σ) : F_Rc_value (nI r) (nI f) σ Q := by
  unfold F_Rc_value
  rw [ar_8, cl (by omega)]
  exact ⟨vp_in_nI (by omega) (by decide), hQ⟩
theorem s_hold {σ : St} {Q : St → Prop} {r : Nat} {t : Int32} (hr : r < 1028) (hQ : Q (sA σ 1 (upd (σ 1) r (σ 1 r + t)))) : F_Rc_hold (nI r) t σ Q := by
  unfold F_Rc_hold
  rw [cl (by omega)]
  refine ⟨vp_in_nI hr (by decide), vp_in_nI hr (by decide), ?_⟩
  intro σ1 h1
  rw [h1]
  exact hQ
/-- the record r holds what is wanted -/
def eqw (σ : St) (r : Nat) : Prop := ∀ f, f < 8 → σ 0 (8 * r + f) = σ 6 f
theorem s_isWanted {σ : St} {Q : Int32 → St → Prop} {r : Nat} (hr : r < 1028) (h1 : eqw σ r → Q 1 σ) (h0 : ¬ eqw σ r → Q 0 σ) : F_Rc_isWanted (nI r) σ Q := by
  unfold F_Rc_isWanted
  intro z2 hz2
  unfold F_Rc_isWanted_L2
  refine ⟨fun v2 τ => τ = σ ∧ ∃ k, k ≤ 8 ∧ v2 = nI k ∧ ∀ f, f < k → σ 0 (8 * r + f) = σ 6 f, fun v2 _ => 8 - v2.toNatClampNeg, ⟨rfl, 0, by omega, hz2, fun f hf => absurd hf (Nat.not_lt_zero _)⟩, ?_⟩
  intro v2 τ n hI hm
  dsimp only at hm ⊢
  obtain ⟨rfl, k, hk, rfl, hall⟩ := hI
  have e8 : (8 : Int32) = nI 8 := rfl
  rw [cl (by omega)] at hm
  refine ⟨fun hc1 => ?_, fun hc1 => ?_⟩
  · rw [e8, nI_leI (by omega) (by omega)] at hc1
    have hk8 : k = 8 := by omega
    subst hk8
    exact h1 hall
  · rw [e8, nI_leI (by omega) (by omega)] at hc1
    rw [ar_8, cl (by omega), cl (by omega)]
    refine ⟨vp_in_nI (by omega) (by decide), vp_in_nI (by omega) (by decide), fun hc2 => ?_, fun hc2 => h0 (fun q => hc2 (q k (by omega)))⟩
    intro z1 hz1
    rw [ar_1] at hz1
    refine ⟨⟨rfl, k + 1, by omega, hz1, fun f hf => ?_⟩, ?_⟩
    · by_cases e : f = k
      · subst e; exact hc2
      · exact hall f (by omega)
    · rw [hz1, cl (by omega)]
      omega
theorem s_findWanted {σ : St} {lv : Nat → Bool} {L : Nat → List Nat} {Q : Int32 → St → Prop} {c : Nat} (hR : RI σ lv L) (hc0 : c < 1024) (h1 : ∀ r, r ∈ L c → eqw σ r → Q (nI r) σ) (h0 : (∀ r, r ∈ L c → ¬ eqw σ r) → Q (-1) σ) : F_Rc_findWanted (nI c) σ Q := by
  obtain ⟨hnd, hlk, hmem⟩ := hR.2.1 c hc0
  have hlen : (L c).length ≤ 1028 := nd_len 1028 (L c) hnd (fun x hx => ((hmem x).mp hx).1)
  unfold F_Rc_findWanted
  refine ⟨vp_in_nI hc0 (by decide), ?_⟩
  rw [cl (by omega)]
  intro z5 hz5 z6 hz6
  unfold F_Rc_findWanted_L9
  refine ⟨fun v2 v3 τ => τ = σ ∧ ∃ l1 l2, L c = l1 ++ l2 ∧ v3 = nI l1.length ∧ Lk v2 (σ 4) l2 ∧ ∀ r ∈ l1, ¬ eqw σ r, fun _ v3 _ => 1029 - v3.toNatClampNeg, ⟨rfl, [], L c, rfl, hz6, by rw [hz5]; exact hlk, fun r hr => absurd hr List.not_mem_nil⟩, ?_⟩
  intro v2 v3 τ n hI hm
  dsimp only at hm ⊢
  obtain ⟨rfl, l1, l2, hl, rfl, hk2, hno⟩ := hI
  have hll : l1.length + l2.length ≤ 1028 := by rw [hl, List.length_append] at hlen; exact hlen
  have e8 : (1028 : Int32) = nI 1028 := rfl
  rw [cl (by omega)] at hm
  have hend : l2 = [] → Q (-1) τ := fun e => h0 (fun r hr => by
    rw [hl, e, List.append_nil] at hr
    exact hno r hr)
  refine ⟨fun hc1 => ?_, fun hc1 => ?_⟩
  · rw [e8, nI_leI (by omega) (by omega)] at hc1
    exact hend (List.eq_nil_of_length_eq_zero (by omega))
  · rw [e8, nI_leI (by omega) (by omega)] at hc1
    cases l2 with
    | nil => exact ⟨fun _ => hend rfl, fun hc2 => absurd hk2 hc2⟩
    | cons r l2 =>
      obtain ⟨e2, hk3⟩ := hk2
      have hr : r ∈ L c := by rw [hl]; exact List.mem_append_right _ List.mem_cons_self
      have hr8 : r < 1028 := ((hmem r).mp hr).1
      subst e2
      refine ⟨fun hc2 => absurd hc2 (ne_m1 (by omega)), fun _ => ?_⟩
      refine s_isWanted hr8 (fun hq => ⟨fun h => absurd h (by decide), fun _ => h1 r hr hq⟩) (fun hq => ⟨fun _ => ⟨vp_in_nI hr8 (by decide), ?_⟩, fun h => absurd rfl h⟩)
      intro z3 hz3 z4 hz4
      rw [cl (by omega)] at hz3
      rw [ar_1] at hz4
      refine ⟨⟨rfl, l1 ++ [r], l2, by rw [hl, List.append_assoc]; rfl, by rw [hz4, List.length_append]; rfl, by rw [hz3]; exact hk3, fun x hx => ?_⟩, ?_⟩
      · rcases List.mem_append.mp hx with h | h
        · exact hno x h
        · rw [List.mem_singleton.mp h]; exact hq
      · rw [hz4, cl (by omega)]
        omega
theorem s_fill_heads {σ : St} {Q : St → Prop} {x : Int32} (hQ : ∀ τ : St, (∀ j, j ≠ 3 → τ j = σ j) → (∀ i, i < 1024 → τ 3 i = x) → Q τ) : F_Ar_fill2_heads x σ Q := by
  unfold F_Ar_fill2_heads
  intro z3 hz3 z4 hz4
  unfold F_Ar_fill2_heads_L5
  refine ⟨fun v2 τ => (∀ j, j ≠ 3 → τ j = σ j) ∧ ∃ i, i ≤ 1024 ∧ v2 = nI i ∧ ∀ q, q < i → τ 3 q = x, fun v2 _ => 1024 - v2.toNatClampNeg, ⟨fun _ _ => rfl, 0, by omega, hz3, fun q hq => absurd hq (Nat.not_lt_zero _)⟩, ?_⟩
  intro v2 τ n5 hI hm
  dsimp only at hm ⊢
  obtain ⟨hfr, i, hi, rfl, hall⟩ := hI
  rw [cl (by omega)] at hm
  have e8 : z4 = nI 1024 := hz4
  refine ⟨fun hc1 => ?_, fun hc1 => ?_⟩
  · rw [e8, nI_leI (by omega) (by omega)] at hc1
    exact hQ τ hfr (fun q hq => hall q (by omega))
  · rw [e8, nI_leI (by omega) (by omega)] at hc1
    refine ⟨vp_in_nI (by omega) (by decide), ?_⟩
    intro σ1 h1 z2 hz2
    rw [cl (by omega)] at h1
    rw [ar_1] at hz2
    refine ⟨⟨fun j hj => by rw [h1, sA_n hj]; exact hfr j hj, i + 1, by omega, hz2, fun q hq => ?_⟩, ?_⟩
    · rw [h1, sA_s]
      unfold upd
      by_cases e : q = i
      · rw [if_pos e]
      · rw [if_neg e]
        exact hall q (by omega)
    · rw [hz2, cl (by omega)]
      omega
theorem s_fill_holders {σ : St} {Q : St → Prop} {x : Int32} (hQ : ∀ τ : St, (∀ j, j ≠ 1 → τ j = σ j) → (∀ i, i < 1028 → τ 1 i = x) → Q τ) : F_Ar_fill2_holders x σ Q := by
  unfold F_Ar_fill2_holders
  intro z3 hz3 z4 hz4
  unfold F_Ar_fill2_holders_L5
  refine ⟨fun v2 τ => (∀ j, j ≠ 1 → τ j = σ j) ∧ ∃ i, i ≤ 1028 ∧ v2 = nI i ∧ ∀ q, q < i → τ 1 q = x, fun v2 _ => 1028 - v2.toNatClampNeg, ⟨fun _ _ => rfl, 0, by omega, hz3, fun q hq => absurd hq (Nat.not_lt_zero _)⟩, ?_⟩
  intro v2 τ n5 hI hm
  dsimp only at hm ⊢
  obtain ⟨hfr, i, hi, rfl, hall⟩ := hI
  rw [cl (by omega)] at hm
  have e8 : z4 = nI 1028 := hz4
  refine ⟨fun hc1 => ?_, fun hc1 => ?_⟩
  · rw [e8, nI_leI (by omega) (by omega)] at hc1
    exact hQ τ hfr (fun q hq => hall q (by omega))
  · rw [e8, nI_leI (by omega) (by omega)] at hc1
    refine ⟨vp_in_nI (by omega) (by decide), ?_⟩
    intro σ1 h1 z2 hz2
    rw [cl (by omega)] at h1
    rw [ar_1] at hz2
    refine ⟨⟨fun j hj => by rw [h1, sA_n hj]; exact hfr j hj, i + 1, by omega, hz2, fun q hq => ?_⟩, ?_⟩
    · rw [h1, sA_s]
      unfold upd
      by_cases e : q = i
      · rw [if_pos e]
      · rw [if_neg e]
        exact hall q (by omega)
    · rw [hz2, cl (by omega)]
      omega
theorem s_fill_wanted {σ : St} {Q : St → Prop} {x : Int32} (hQ : ∀ τ : St, (∀ j, j ≠ 6 → τ j = σ j) → (∀ i, i < 8 → τ 6 i = x) → Q τ) : F_Ar_fill2_wanted x σ Q := by
  unfold F_Ar_fill2_wanted
  intro z3 hz3 z4 hz4
  unfold F_Ar_fill2_wanted_L5
  refine ⟨fun v2 τ => (∀ j, j ≠ 6 → τ j = σ j) ∧ ∃ i, i ≤ 8 ∧ v2 = nI i ∧ ∀ q, q < i → τ 6 q = x, fun v2 _ => 8 - v2.toNatClampNeg, ⟨fun _ _ => rfl, 0, by omega, hz3, fun q hq => absurd hq (Nat.not_lt_zero _)⟩, ?_⟩
  intro v2 τ n5 hI hm
  dsimp only at hm ⊢
  obtain ⟨hfr, i, hi, rfl, hall⟩ := hI
  rw [cl (by omega)] at hm
  have e8 : z4 = nI 8 := hz4
  refine ⟨fun hc1 => ?_, fun hc1 => ?_⟩
  · rw [e8, nI_leI (by omega) (by omega)] at hc1
    exact hQ τ hfr (fun q hq => hall q (by omega))
  · rw [e8, nI_leI (by omega) (by omega)] at hc1
    refine ⟨vp_in_nI (by omega) (by decide), ?_⟩
    intro σ1 h1 z2 hz2
    rw [cl (by omega)] at h1
    rw [ar_1] at hz2
    refine ⟨⟨fun j hj => by rw [h1, sA_n hj]; exact hfr j hj, i + 1, by omega, hz2, fun q hq => ?_⟩, ?_⟩
    · rw [h1, sA_s]
      unfold upd
      by_cases e : q = i
      · rw [if_pos e]
      · rw [if_neg e]
        exact hall q (by omega)
    · rw [hz2, cl (by omega)]
      omega
theorem s_fill_outcome {σ : St} {Q : St → Prop} {x : Int32} (hQ : ∀ τ : St, (∀ j, j ≠ 5 → τ j = σ j) → (∀ i, i < 1028 → τ 5 i = x) → Q τ) : F_Ar_fill2_outcome x σ Q := by
  unfold F_Ar_fill2_outcome
  intro z3 hz3 z4 hz4
  unfold F_Ar_fill2_outcome_L5
  refine ⟨fun v2 τ => (∀ j, j ≠ 5 → τ j = σ j) ∧ ∃ i, i ≤ 1028 ∧ v2 = nI i ∧ ∀ q, q < i → τ 5 q = x, fun v2 _ => 1028 - v2.toNatClampNeg, ⟨fun _ _ => rfl, 0, by omega, hz3, fun q hq => absurd hq (Nat.not_lt_zero _)⟩, ?_⟩
  intro v2 τ n5 hI hm
  dsimp only at hm ⊢
  obtain ⟨hfr, i, hi, rfl, hall⟩ := hI
  rw [cl (by omega)] at hm
  have e8 : z4 = nI 1028 := hz4
  refine ⟨fun hc1 => ?_, fun hc1 => ?_⟩
  · rw [e8, nI_leI (by omega) (by omega)] at hc1
    exact hQ τ hfr (fun q hq => hall q (by omega))
  · rw [e8, nI_leI (by omega) (by omega)] at hc1
    refine ⟨vp_in_nI (by omega) (by decide), ?_⟩
    intro σ1 h1 z2 hz2
    rw [cl (by omega)] at h1
    rw [ar_1] at hz2
    refine ⟨⟨fun j hj => by rw [h1, sA_n hj]; exact hfr j hj, i + 1, by omega, hz2, fun q hq => ?_⟩, ?_⟩
    · rw [h1, sA_s]
      unfold upd
      by_cases e : q = i
      · rw [if_pos e]
      · rw [if_neg e]
        exact hall q (by omega)
    · rw [hz2, cl (by omega)]
      omega
theorem s_fill4 {σ : St} {Q : St → Prop} {x : Int32} {b e : Nat} (hbe : b ≤ e) (he : e ≤ 66624) (hQ : ∀ τ : St, (∀ j, j ≠ 11 → τ j = σ j) → (∀ i, τ 11 i = if b ≤ i ∧ i < e then x else σ 11 i) → Q τ) : F_Ar_fill4_cells (nI b) (nI e) x σ Q := by
  unfold F_Ar_fill4_cells F_Ar_rangeCheck
  refine ⟨fun _ => ⟨fun _ => ⟨fun _ => ?_, fun h => h ((nI_leI (b := 66624) (by omega) (by omega)).mpr he)⟩, fun h => h (nI_pos' (by omega))⟩, fun h => h ((nI_leI (by omega) (by omega)).mpr hbe)⟩
  unfold F_Ar_fill4_cells_L10
  refine ⟨fun v4 τ => (∀ j, j ≠ 11 → τ j = σ j) ∧ ∃ i, b ≤ i ∧ i ≤ e ∧ v4 = nI i ∧ ∀ q, τ 11 q = if b ≤ q ∧ q < i then x else σ 11 q, fun v4 _ => e - v4.toNatClampNeg, ⟨fun _ _ => rfl, b, by omega, by omega, rfl, fun q => by rw [if_neg (by omega)]⟩, ?_⟩
  intro v4 τ n10 hI hm
  dsimp only at hm ⊢
  obtain ⟨hfr, i, hb, hi, rfl, hall⟩ := hI
  rw [cl (by omega)] at hm
  refine ⟨fun hc1 => ?_, fun hc1 => ?_⟩
  · rw [nI_leI (by omega) (by omega)] at hc1
    have hie : i = e := by omega
    subst hie
    exact hQ τ hfr hall
  · rw [nI_leI (by omega) (by omega)] at hc1
    refine ⟨vp_in_nI (by omega) (by decide), ?_⟩
    intro σ1 h1 z2 hz2
    rw [cl (by omega)] at h1
    rw [ar_1] at hz2
    refine ⟨⟨fun j hj => by rw [h1, sA_n hj]; exact hfr j hj, i + 1, by omega, by omega, hz2, fun q => ?_⟩, ?_⟩
    · rw [h1, sA_s]
      unfold upd
      by_cases e1 : q = i
      · rw [if_pos e1, if_pos (by omega)]
      · rw [if_neg e1, hall q]
        by_cases e2 : b ≤ q ∧ q < i
        · rw [if_pos e2, if_pos (by omega)]
        · rw [if_neg e2, if_neg (by omega)]
    · rw [hz2, cl (by omega)]
      omega
theorem bt_nat (b : Bool) : b.toNat = 0 ∨ b.toNat = 1 := by cases b <;> simp
theorem s_keepWanted {σ : St} {lv : Nat → Bool} {L : Nat → List Nat} {Q : Int32 → St → Prop} {c : Nat} (hR : RI σ lv L) (hc0 : c < 1024) (hc : c = chN (σ 6) 0) (hroom : sm (fun r => (lv r).toNat) 1028 < 1028)
    (hnew : ∀ r, r < 1028 → lv r = true → ¬ eqw σ r)
    (hQ : ∀ (r : Nat) (τ : St), r < 1028 → lv r = false → (∀ n, σ 7 0 = nI (n + 1) → n < 1028 → σ 2 n = nI r) → RI τ (fun x => lv x || x == r) (fun d => if d = c then r :: L c else L d) → (∀ j, j ≠ 0 → j ≠ 3 → j ≠ 4 → j ≠ 7 → τ j = σ j) →
      (∀ r' f, r' ≠ r → f < 8 → τ 0 (8 * r' + f) = σ 0 (8 * r' + f)) → eqw τ r → Q (nI r) τ) : F_Rc_keepWanted (nI c) σ Q := by
  obtain ⟨⟨n, hn, e7, hcount, hsp, hinj⟩, hch, hdf⟩ := hR
  have hn0 : 0 < n := by omega
  obtain ⟨r, hr, e2, hlr⟩ := hsp (n - 1) (by omega)
  unfold F_Rc_keepWanted
  intro σ1 h1
  have e17 : σ1 7 0 = nI (n - 1) := by rw [h1, sA_s, e7, ar_m1 hn0]
  have e12 : σ1 2 = σ 2 := by rw [h1, sA_n (by decide)]
  have e13 : σ1 3 = σ 3 := by rw [h1, sA_n (by decide)]
  have e14 : σ1 4 = σ 4 := by rw [h1, sA_n (by decide)]
  have e10 : σ1 0 = σ 0 := by rw [h1, sA_n (by decide)]
  have e16 : σ1 6 = σ 6 := by rw [h1, sA_n (by decide)]
  rw [e17, cl (by omega), e12, e2]
  refine ⟨vp_in_nI (by omega) (by decide), ?_⟩
  intro z2 hz2
  subst hz2
  rw [ar_80, cl (by omega)]
  refine ⟨by decide, nI_pos (by omega), by decide, by decide, ?_, ?_⟩
  · show 8 * r + 8 ≤ 8224
    omega
  intro σ3 h3
  have h3 : σ3 = sA σ1 0 (va_cpy (σ 6) (σ 0) 0 (8 * r) 8) := by rw [h3, e16, e10]; rfl
  have e30 : ∀ i, σ3 0 i = if 8 * r ≤ i ∧ i < 8 * r + 8 then σ 6 (0 + (i - 8 * r)) else σ 0 i := fun i => by rw [h3, sA_s]; rfl
  have e33 : σ3 3 = σ 3 := by rw [h3, sA_n (by decide), e13]
  have e34 : σ3 4 = σ 4 := by rw [h3, sA_n (by decide), e14]
  refine ⟨vp_in_nI hc0 (by decide), vp_in_nI hr (by decide), ?_⟩
  intro σ4 h4
  rw [cl (by omega), cl (by omega), e33, e34] at h4
  refine ⟨vp_in_nI hc0 (by decide), ?_⟩
  intro σ5 h5
  have e43 : σ4 3 = σ 3 := by rw [h4, sA_n (by decide), e33]
  rw [cl (by omega), e43] at h5
  have f0 : σ5 0 = σ3 0 := by rw [h5, sA_n (by decide), h4, sA_n (by decide)]
  have f3 : σ5 3 = upd (σ 3) c (nI r) := by rw [h5, sA_s]
  have f4 : σ5 4 = upd (σ 4) r (σ 3 c) := by rw [h5, sA_n (by decide), h4, sA_s]
  have fo : ∀ j, j ≠ 0 → j ≠ 3 → j ≠ 4 → j ≠ 7 → σ5 j = σ j := fun j a0 a3 a4 a7 => by
    rw [h5, sA_n a3, h4, sA_n a4, h3, sA_n a0, h1, sA_n a7]
  have f7 : σ5 7 0 = nI (n - 1) := by rw [h5, sA_n (by decide), h4, sA_n (by decide), h3, sA_n (by decide), e17]
  have gold : ∀ r' f, r' ≠ r → f < 8 → σ5 0 (8 * r' + f) = σ 0 (8 * r' + f) := fun r' f hne hf => by
    rw [f0, e30, if_neg (by omega)]
  have gnew : ∀ f, f < 8 → σ5 0 (8 * r + f) = σ 6 f := fun f hf => by
    rw [f0, e30, if_pos (by omega)]
    congr 1
    omega
  have chold : ∀ r', r' ≠ r → chN (σ5 0) (8 * r') = chN (σ 0) (8 * r') := fun r' hne => chN_congr (fun f hf => gold r' f hne hf)
  have chnew : chN (σ5 0) (8 * r) = c := by
    rw [hc]
    exact chN_congr (fun f hf => by rw [gnew f hf, Nat.zero_add])
  have hrL : ∀ d, d < 1024 → r ∉ L d := fun d hd hm => by
    have := ((hch d hd).2.2 r).mp hm
    rw [hlr] at this
    exact absurd this.2.1 (by decide)
  refine hQ r σ5 hr hlr (fun k hk hk2 => ?_) ⟨⟨n - 1, by omega, f7, ?_, ?_, ?_⟩, ?_, ?_⟩ fo gold (fun f hf => by rw [gnew f hf, fo 6 (by decide) (by decide) (by decide) (by decide)])
  · rw [e7] at hk
    have : n = k + 1 := nI_inj (by omega) (by omega) hk
    rw [show k = n - 1 by omega]
    exact e2
  · show n - 1 + sm (fun x => (lv x || x == r).toNat) 1028 = 1028
    have h6 := sm_one (f := fun x => (lv x || x == r).toNat) (g := fun x => (lv x).toNat) (k := r) (n := 1028) hr (fun i _ hne => by
      show (lv i || i == r).toNat = (lv i).toNat
      rw [beq_eq_false_iff_ne.mpr hne, Bool.or_false])
    simp only [hlr, Bool.false_or, beq_self_eq_true, Bool.toNat_true, Bool.toNat_false] at h6
    omega
  · intro i hi
    obtain ⟨x, hx, ex, hlx⟩ := hsp i (by omega)
    refine ⟨x, hx, by rw [fo 2 (by decide) (by decide) (by decide) (by decide)]; exact ex, ?_⟩
    have hne : x ≠ r := fun q => by
      have := hinj i (n - 1) (by omega) (by omega) (by rw [ex, e2, q])
      omega
    show (lv x || x == r) = false
    rw [hlx, beq_eq_false_iff_ne.mpr hne]
    rfl
  · intro i j hi hj hij
    rw [fo 2 (by decide) (by decide) (by decide) (by decide)] at hij
    exact hinj i j (by omega) (by omega) hij
  · intro d hd
    obtain ⟨n1, n2, n3⟩ := hch d hd
    dsimp only
    by_cases ed : d = c
    · subst ed
      rw [if_pos rfl, f3, f4]
      refine ⟨List.nodup_cons.mpr ⟨hrL d hd, n1⟩, ⟨?_, ?_⟩, fun x => ?_⟩
      · unfold upd; rw [if_pos rfl]
      · rw [show upd (σ 4) r (σ 3 d) r = σ 3 d by unfold upd; rw [if_pos rfl]]
        exact Lk_upd (hrL d hd) n2
      · rw [List.mem_cons]
        by_cases ex : x = r
        · subst ex
          refine ⟨fun _ => ⟨hr, by simp, chnew⟩, fun _ => Or.inl rfl⟩
        · rw [chold x ex, n3 x]
          simp [ex]
    · rw [if_neg ed, f3, f4]
      refine ⟨n1, ?_, fun x => ?_⟩
      · rw [show upd (σ 3) c (nI r) d = σ 3 d by unfold upd; rw [if_neg ed]]
        exact Lk_upd (hrL d hd) n2
      · by_cases ex : x = r
        · subst ex
          refine ⟨fun h => absurd h (hrL d hd), fun h => absurd (h.2.2.symm.trans chnew) ed⟩
        · rw [chold x ex, n3 x]
          simp [ex]
  · intro x y hx hy lx ly he
    by_cases ex : x = r
    · by_cases ey : y = r
      · rw [ex, ey]
      · exfalso
        have hly : lv y = true := by simpa [ey] using ly
        exact hnew y hy hly (fun f hf => by rw [← gold y f ey hf, ← he f hf, ex, gnew f hf])
    · have hlx : lv x = true := by simpa [ex] using lx
      by_cases ey : y = r
      · exfalso
        exact hnew x hx hlx (fun f hf => by rw [← gold x f ex hf, he f hf, ey, gnew f hf])
      · have hly : lv y = true := by simpa [ey] using ly
        exact hdf x y hx hy hlx hly (fun f hf => by rw [← gold x f ex hf, ← gold y f ey hf]; exact he f hf)
theorem s_dropJ95 {σ τ : St} {lv : Nat → Bool} {L : Nat → List Nat} {Q : St → Prop} {r : Nat} (hR : RI σ lv L) (hr : r < 1028) (hlr : lv r = true) (hfr : ∀ j, j ≠ 3 → j ≠ 4 → τ j = σ j) (hlk : ∀ d, d < 1024 → Lk (τ 3 d) (τ 4) ((L d).erase r))
    (hQ : ∀ ρ : St, RI ρ (fun x => lv x && x != r) (fun d => (L d).erase r) → (∀ j, j ≠ 2 → j ≠ 3 → j ≠ 4 → j ≠ 7 → ρ j = σ j) → Q ρ) : F_Rc_drop_J95 (nI r) τ Q := by
  obtain ⟨⟨n, hn, e7, hcount, hsp, hinj⟩, hch, hdf⟩ := hR
  have h6 := sm_one (f := fun x => (lv x && x != r).toNat) (g := fun x => (lv x).toNat) (k := r) (n := 1028) hr (fun i _ hne => by
    show (lv i && i != r).toNat = (lv i).toNat
    rw [bne_iff_ne.mpr hne, Bool.and_true])
  simp only [hlr, bne_self_eq_false, Bool.and_false, Bool.toNat_true, Bool.toNat_false] at h6
  have hn1 : n < 1028 := by omega
  have t7 : τ 7 0 = nI n := by rw [hfr 7 (by decide) (by decide)]; exact e7
  have t2 : τ 2 = σ 2 := hfr 2 (by decide) (by decide)
  unfold F_Rc_drop_J95
  rw [t7, cl (by omega), t2]
  refine ⟨vp_in_nI hn1 (by decide), ?_⟩
  intro σ1 h1 σ2 h2
  have e17 : σ1 7 0 = nI n := by rw [h1, sA_n (by decide)]; exact t7
  rw [e17, ar_1] at h2
  have g2 : σ2 2 = upd (σ 2) n (nI r) := by rw [h2, sA_n (by decide), h1, sA_s]
  have g7 : σ2 7 0 = nI (n + 1) := by rw [h2, sA_s]
  have go : ∀ j, j ≠ 2 → j ≠ 7 → σ2 j = τ j := fun j a2 a7 => by rw [h2, sA_n a7, h1, sA_n a2]
  have g0 : σ2 0 = σ 0 := by rw [go 0 (by decide) (by decide), hfr 0 (by decide) (by decide)]
  refine hQ σ2 ⟨⟨n + 1, by omega, g7, (by show n + 1 + sm (fun x => (lv x && x != r).toNat) 1028 = 1028; omega), ?_, ?_⟩, ?_, ?_⟩ (fun j a2 a3 a4 a7 => by rw [go j a2 a7, hfr j a3 a4])
  · intro i hi
    rw [g2]
    unfold upd
    by_cases ei : i = n
    · rw [if_pos ei]
      exact ⟨r, hr, rfl, by simp⟩
    · rw [if_neg ei]
      obtain ⟨x, hx, ex, hlx⟩ := hsp i (by omega)
      exact ⟨x, hx, ex, by show (lv x && x != r) = false; rw [hlx]; rfl⟩
  · have hno : ∀ i, i < n → σ 2 i ≠ nI r := fun i hi q => by
      obtain ⟨x, hx, ex, hlx⟩ := hsp i hi
      have := nI_inj (by omega) (by omega) (ex.symm.trans q)
      rw [this, hlr] at hlx
      exact absurd hlx (by decide)
    intro i j hi hj hij
    rw [g2] at hij
    unfold upd at hij
    by_cases ei : i = n
    · by_cases ej : j = n
      · rw [ei, ej]
      · rw [if_pos ei, if_neg ej] at hij
        exact absurd hij.symm (hno j (by omega))
    · by_cases ej : j = n
      · rw [if_neg ei, if_pos ej] at hij
        exact absurd hij (hno i (by omega))
      · rw [if_neg ei, if_neg ej] at hij
        exact hinj i j (by omega) (by omega) hij
  · intro d hd
    obtain ⟨n1, n2, n3⟩ := hch d hd
    refine ⟨n1.erase r, ?_, fun x => ?_⟩
    · rw [go 3 (by decide) (by decide), go 4 (by decide) (by decide)]
      exact hlk d hd
    · rw [n1.mem_erase_iff, n3 x, g0]
      by_cases ex : x = r
      · subst ex; simp
      · simp [ex]
  · intro x y hx hy lx ly he
    rw [g0] at he
    simp only [Bool.and_eq_true] at lx ly
    exact hdf x y hx hy lx.1 ly.1 he
theorem s_drop {σ : St} {lv : Nat → Bool} {L : Nat → List Nat} {Q : St → Prop} {r : Nat} (hR : RI σ lv L) (hr : r < 1028) (hlr : lv r = true)
    (hQ : ∀ ρ : St, RI ρ (fun x => lv x && x != r) (fun d => (L d).erase r) → (∀ j, j ≠ 2 → j ≠ 3 → j ≠ 4 → j ≠ 7 → ρ j = σ j) → Q ρ) : F_Rc_drop (nI r) σ Q := by
  have hR0 := hR
  obtain ⟨-, hch, -⟩ := hR
  obtain ⟨c, hcd⟩ : ∃ c, c = chN (σ 0) (8 * r) := ⟨_, rfl⟩
  have hc0 : c < 1024 := by rw [hcd]; exact (chN_e (σ 0) (8 * r)).2
  obtain ⟨hnd, hlk, hmem⟩ := hch c hc0
  have hrc : r ∈ L c := (hmem r).mpr ⟨hr, hlr, hcd.symm⟩
  have hlen : (L c).length ≤ 1028 := nd_len 1028 (L c) hnd (fun x hx => ((hmem x).mp hx).1)
  have hoth : ∀ d, d < 1024 → d ≠ c → ∀ x, x ∈ L c → x ∉ L d := fun d hd hne x hx hx2 => by
    have h1 := ((hmem x).mp hx).2.2
    have h2 := ((hch d hd).2.2 x).mp hx2
    exact hne (h2.2.2.symm.trans h1)
  unfold F_Rc_drop
  rw [ar_80]
  refine s_chainOf_values (by omega) ?_
  rw [← hcd]
  intro z9 hz9
  refine ⟨vp_in_nI hc0 (by decide), ?_⟩
  rw [cl (by omega)]
  intro z10 hz10 z11 hz11
  -- the chain's end: the record is found
  have hJ : ∀ (l1 l2 : List Nat) (v3 : Int32), L c = l1 ++ r :: l2 → (l1 = [] ∧ v3 = -1 ∨ ∃ l0 p, l1 = l0 ++ [p] ∧ v3 = nI p) → F_Rc_drop_J63 (nI r) (nI c) v3 σ Q := by
    intro l1 l2 v3 hl h3
    have hnl : (l1 ++ r :: l2).Nodup := by rw [← hl]; exact hnd
    have hr1 : r ∉ l1 := fun h => by
      have := List.nodup_append.mp hnl
      exact this.2.2 r h r List.mem_cons_self rfl
    have her : (L c).erase r = l1 ++ l2 := by
      rw [hl, List.erase_append_right _ hr1, List.erase_cons_head]
    have hk : Lk (σ 3 c) (σ 4) (l1 ++ r :: l2) := by rw [← hl]; exact hlk
    unfold F_Rc_drop_J63
    rw [cl (by omega), cl (by omega)]
    rcases h3 with ⟨e1, e3⟩ | ⟨l0, p, e1, e3⟩
    · refine ⟨fun _ => ?_, fun h => absurd e3 h⟩
      subst e1
      refine ⟨vp_in_nI hr (by decide), vp_in_nI hc0 (by decide), ?_⟩
      intro σ4 h4
      refine s_dropJ95 hR0 hr hlr (fun j a3 _ => by rw [h4, sA_n a3]) (fun d hd => ?_) hQ
      have g3 : σ4 3 = upd (σ 3) c (σ 4 r) := by rw [h4, sA_s]
      have g4 : σ4 4 = σ 4 := by rw [h4, sA_n (by decide)]
      rw [g3, g4]
      unfold upd
      by_cases ed : d = c
      · subst ed
        rw [if_pos rfl, her]
        exact hk.2
      · rw [if_neg ed, List.erase_of_not_mem (hoth d hd ed r hrc)]
        exact (hch d hd).2.1
    · subst e1
      have hp : p ∈ L c := by rw [hl]; exact List.mem_append_left _ (List.mem_append_right _ List.mem_cons_self)
      have hp8 : p < 1028 := ((hmem p).mp hp).1
      refine ⟨fun h => absurd (e3.symm.trans h) (ne_m1 (by omega)), fun _ => ?_⟩
      subst e3
      rw [cl (by omega)]
      refine ⟨vp_in_nI hr (by decide), vp_in_nI hp8 (by decide), ?_⟩
      intro σ3 h3
      refine s_dropJ95 hR0 hr hlr (fun j _ a4 => by rw [h3, sA_n a4]) (fun d hd => ?_) hQ
      have g3 : σ3 3 = σ 3 := by rw [h3, sA_n (by decide)]
      have g4 : σ3 4 = upd (σ 4) p (σ 4 r) := by rw [h3, sA_s]
      rw [g3, g4]
      by_cases ed : d = c
      · subst ed
        rw [her]
        rw [List.append_assoc] at hnl hk ⊢
        exact Lk_cut hnl hk
      · rw [List.erase_of_not_mem (hoth d hd ed r hrc)]
        exact Lk_upd (hoth d hd ed p hp) (hch d hd).2.1
  unfold F_Rc_drop_L25
  refine ⟨fun v3 v4 v5 τ => τ = σ ∧ ∃ l1 l2, L c = l1 ++ l2 ∧ v5 = nI l1.length ∧ Lk v4 (σ 4) l2 ∧ r ∈ l2 ∧ (l1 = [] ∧ v3 = -1 ∨ ∃ l0 p, l1 = l0 ++ [p] ∧ v3 = nI p), fun _ _ v5 _ => 1029 - v5.toNatClampNeg, ⟨rfl, [], L c, rfl, hz11, by rw [hz10]; exact hlk, hrc, Or.inl ⟨rfl, hz9⟩⟩, ?_⟩
  intro v3 v4 v5 τ n25 hI hm
  dsimp only at hm ⊢
  obtain ⟨rfl, l1, l2, hl, rfl, hk2, hr2, h3⟩ := hI
  have hll : l1.length + l2.length ≤ 1028 := by rw [hl, List.length_append] at hlen; exact hlen
  have e8 : (1028 : Int32) = nI 1028 := rfl
  cases l2 with
  | nil => exact absurd hr2 List.not_mem_nil
  | cons x l2 =>
    rw [List.length_cons] at hll
    rw [cl (by omega)] at hm
    obtain ⟨e4, hk3⟩ := hk2
    have hx : x ∈ L c := by rw [hl]; exact List.mem_append_right _ List.mem_cons_self
    have hx8 : x < 1028 := ((hmem x).mp hx).1
    subst e4
    refine ⟨fun hc1 => ?_, fun _ => ⟨fun hc2 => absurd hc2 (ne_m1 (by omega)), fun _ => ⟨fun hc3 => ?_, fun hc3 => ?_⟩⟩⟩
    · rw [e8, nI_leI (by omega) (by omega)] at hc1
      omega
    · have : x = r := nI_inj (by omega) (by omega) hc3
      subst this
      exact hJ l1 l2 v3 hl h3
    · have hne : x ≠ r := fun q => hc3 (by rw [q])
      refine ⟨vp_in_nI hx8 (by decide), ?_⟩
      rw [cl (by omega)]
      intro z5 hz5 z6 hz6
      rw [ar_1] at hz6
      refine ⟨⟨rfl, l1 ++ [x], l2, by rw [hl, List.append_assoc]; rfl, by rw [hz6, List.length_append]; rfl, by rw [hz5]; exact hk3, ?_, Or.inr ⟨l1, x, rfl, rfl⟩⟩, ?_⟩
      · rcases List.mem_cons.mp hr2 with h | h
        · exact absurd h.symm hne
        · exact h
      · rw [hz6, cl (by omega)]
        omega
theorem s_release {σ : St} {Q : St → Prop} {r h : Nat} {lv : Nat → Bool} {L : Nat → List Nat} (t : Nat) (hR : RI σ lv L) (hr : r < 1028) (hlr : lv r = true) (eh : σ 1 r = nI h) (hh : h < 2 ^ 30) (ht : t ≤ h)
    (hQ0 : h = t → ∀ ρ : St, RI ρ (fun x => lv x && x != r) (fun d => (L d).erase r) → (∀ j, j ≠ 1 → j ≠ 2 → j ≠ 3 → j ≠ 4 → j ≠ 7 → ρ j = σ j) → ρ 1 = upd (σ 1) r (nI 0) → Q ρ)
    (hQ1 : h ≠ t → Q (sA σ 1 (upd (σ 1) r (nI (h - t))))) : F_Rc_release (nI r) (nI t) σ Q := by
  unfold F_Rc_release
  rw [cl (by omega)]
  refine ⟨vp_in_nI hr (by decide), vp_in_nI hr (by decide), ?_⟩
  intro σ1 h1
  rw [eh, pk_sub ht] at h1
  refine ⟨vp_in_nI hr (by decide), ?_⟩
  have e1 : σ1 1 r = nI (h - t) := by
    rw [h1, sA_s]
    unfold upd
    rw [if_pos rfl]
  rw [e1]
  refine ⟨fun hz => ?_, fun hz => ?_⟩
  · have hht : h = t := by
      have : h - t = 0 := nI_inj (b := 0) (by omega) (by omega) hz
      omega
    have hR1 : RI σ1 lv L := RI_congr (by rw [h1, sA_n (by decide)]) (by rw [h1, sA_n (by decide)]) (by rw [h1, sA_n (by decide)]) (by rw [h1, sA_n (by decide)]) (by rw [h1, sA_n (by decide)]) hR
    refine s_drop hR1 hr hlr (fun ρ hρ hfr => hQ0 hht ρ hρ (fun j a1 a2 a3 a4 a7 => by rw [hfr j a2 a3 a4 a7, h1, sA_n a1]) ?_)
    rw [hfr 1 (by decide) (by decide) (by decide) (by decide), h1, sA_s, hht, Nat.sub_self]
  · rw [h1]
    refine hQ1 (fun q => hz ?_)
    rw [q, Nat.sub_self]
    rfl
theorem s_begin {σ : St} {Q : St → Prop} {f v k : Int32} (hQ : ∀ τ : St, τ 8 0 = f → τ 9 0 = v → τ 10 0 = k → (∀ i, i < 1028 → τ 5 i = -1) → (∀ j, j ≠ 5 → j ≠ 8 → j ≠ 9 → j ≠ 10 → τ j = σ j) → Q τ) : F_Rc_begin f v k σ Q := by
  unfold F_Rc_begin
  intro σ1 h1 σ2 h2 σ3 h3
  refine s_fill_outcome (fun τ hfr hall => hQ τ ?_ ?_ ?_ hall ?_)
  · rw [hfr 8 (by decide), h3, sA_n (by decide), h2, sA_n (by decide), h1, sA_s]
  · rw [hfr 9 (by decide), h3, sA_n (by decide), h2, sA_s]
  · rw [hfr 10 (by decide), h3, sA_s]
  · intro j a5 a8 a9 a10
    rw [hfr j a5, h3, sA_n a10, h2, sA_n a9, h1, sA_n a8]
/-- what the change under way makes of the record r's field f -/
def nv (σ : St) (fl r f : Nat) : Int32 := if f = fl then (σ 0 (8 * r + f) &&& σ 10 0) ||| σ 9 0 else σ 0 (8 * r + f)
theorem s_altered {σ : St} {lv : Nat → Bool} {L : Nat → List Nat} {Q : Int32 → St → Prop} {r fl : Nat} (hR : RI σ lv L) (hr : r < 1028) (hfl : fl < 8) (efl : σ 8 0 = nI fl) (hroom : sm (fun x => (lv x).toNat) 1028 < 1028)
    (hmemo : σ 5 r = -1 ∨ ∃ o, o < 1028 ∧ lv o = true ∧ σ 5 r = nI o ∧ ∀ f, f < 8 → σ 0 (8 * o + f) = nv σ fl r f)
    (hQ : ∀ (o : Nat) (τ : St) (lv' : Nat → Bool) (L' : Nat → List Nat), o < 1028 → RI τ lv' L' → (lv o = true ∧ lv' = lv ∨ lv o = false ∧ lv' = fun x => lv x || x == o) → (∀ x f, (lv o = false → x ≠ o) → f < 8 → τ 0 (8 * x + f) = σ 0 (8 * x + f)) →
      (∀ f, f < 8 → τ 0 (8 * o + f) = nv σ fl r f) → (∀ i, τ 5 i = if i = r then nI o else σ 5 i) → (∀ j, j ≠ 0 → j ≠ 3 → j ≠ 4 → j ≠ 5 → j ≠ 6 → j ≠ 7 → τ j = σ j) → Q (nI o) τ) : F_Rc_altered (nI r) σ Q := by
  unfold F_Rc_altered
  rw [cl (by omega)]
  refine ⟨vp_in_nI hr (by decide), fun hm => ?_, fun hm => ?_⟩
  · rw [ar_80, cl (by omega)]
    refine ⟨nI_pos (by omega), by decide, by decide, ?_, by decide, ?_⟩
    · show 8 * r + 8 ≤ 8224
      omega
    intro σ2 h2
    have e26 : ∀ i, i < 8 → σ2 6 i = σ 0 (8 * r + i) := fun i hi => by
      rw [h2, sA_s]
      show (if 0 ≤ i ∧ i < 0 + 8 then σ 0 (8 * r + (i - 0)) else σ 6 i) = _
      rw [if_pos (by omega), Nat.sub_zero]
    have e28 : σ2 8 0 = nI fl := by rw [h2, sA_n (by decide)]; exact efl
    have e2k : σ2 10 0 = σ 10 0 := by rw [h2, sA_n (by decide)]
    have e2v : σ2 9 0 = σ 9 0 := by rw [h2, sA_n (by decide)]
    rw [e28, cl (by omega), e2k, e2v]
    refine ⟨vp_in_nI hfl (by decide), vp_in_nI hfl (by decide), ?_⟩
    intro σ3 h3
    have e36 : ∀ i, i < 8 → σ3 6 i = nv σ fl r i := fun i hi => by
      rw [h3, sA_s]
      unfold upd nv
      by_cases e : i = fl
      · rw [if_pos e, if_pos e, e26 fl hfl, e]
      · rw [if_neg e, if_neg e, e26 i hi]
    have e3o : ∀ j, j ≠ 6 → σ3 j = σ j := fun j a6 => by rw [h3, sA_n a6, h2, sA_n a6]
    have hR3 : RI σ3 lv L := RI_congr (e3o 0 (by decide)) (e3o 2 (by decide)) (e3o 3 (by decide)) (e3o 4 (by decide)) (e3o 7 (by decide)) hR
    refine s_chainOf_wanted ?_
    have hc0 : chN (σ3 6) 0 < 1024 := (chN_e (σ3 6) 0).2
    -- the end: the outcome is written down
    have hJ : ∀ (o : Nat) (τ : St) (lv' : Nat → Bool) (L' : Nat → List Nat), o < 1028 → RI τ lv' L' → (lv o = true ∧ lv' = lv ∨ lv o = false ∧ lv' = fun x => lv x || x == o) → (∀ x f, (lv o = false → x ≠ o) → f < 8 → τ 0 (8 * x + f) = σ 0 (8 * x + f)) →
        (∀ f, f < 8 → τ 0 (8 * o + f) = nv σ fl r f) → (∀ j, j ≠ 0 → j ≠ 3 → j ≠ 4 → j ≠ 6 → j ≠ 7 → τ j = σ j) → F_Rc_altered_J93 (nI r) (nI o) τ Q := by
      intro o τ lv' L' ho hRo hlo hold hnew hfr
      unfold F_Rc_altered_J93
      rw [cl (by omega)]
      refine ⟨vp_in_nI hr (by decide), ?_⟩
      intro σ1 h1
      refine ⟨vp_in_nI hr (by decide), ?_⟩
      have g5 : ∀ i, σ1 5 i = if i = r then nI o else σ 5 i := fun i => by
        rw [h1, sA_s]
        unfold upd
        rw [hfr 5 (by decide) (by decide) (by decide) (by decide) (by decide)]
      have go : ∀ j, j ≠ 5 → σ1 j = τ j := fun j a5 => by rw [h1, sA_n a5]
      rw [g5 r, if_pos rfl]
      refine hQ o σ1 lv' L' ho (RI_congr (go 0 (by decide)) (go 2 (by decide)) (go 3 (by decide)) (go 4 (by decide)) (go 7 (by decide)) hRo) hlo ?_ ?_ g5 ?_
      · intro x f hx hf
        rw [go 0 (by decide)]
        exact hold x f hx hf
      · intro f hf
        rw [go 0 (by decide)]
        exact hnew f hf
      · intro j a0 a3 a4 a5 a6 a7
        rw [go j a5, hfr j a0 a3 a4 a6 a7]
    refine s_findWanted hR3 hc0 (fun o ho hq => ?_) (fun hno => ?_)
    · obtain ⟨ho8, hlo, -⟩ := ((hR3.2.1 _ hc0).2.2 o).mp ho
      refine ⟨fun h => absurd h (ne_m1 (by omega)), fun _ => ?_⟩
      refine hJ o σ3 lv L ho8 hR3 (Or.inl ⟨hlo, rfl⟩) (fun x f _ _ => by rw [e3o 0 (by decide)]) (fun f hf => ?_) (fun j _ _ _ a6 _ => e3o j a6)
      rw [hq f hf, e36 f hf]
    · have hroom3 : ∃ n, 0 < n ∧ n ≤ 1028 ∧ σ3 7 0 = nI n := by
        obtain ⟨⟨n, hn, e7, hcount, -, -⟩, -, -⟩ := hR3
        exact ⟨n, by omega, hn, e7⟩
      obtain ⟨n, hn0, hn8, e7⟩ := hroom3
      refine ⟨fun _ => ⟨fun h => ?_, fun _ => ?_⟩, fun h => absurd rfl h⟩
      · rw [e7] at h
        exact absurd h (nI_nle hn0 (by omega))
      · have hnone : ∀ x, x < 1028 → lv x = true → ¬ eqw σ3 x := fun x hx hlx hq => by
          have hch : chN (σ3 0) (8 * x) = chN (σ3 6) 0 := chN_congr (fun f hf => by rw [hq f hf, Nat.zero_add])
          exact hno x (((hR3.2.1 _ hc0).2.2 x).mpr ⟨hx, hlx, hch⟩) hq
        refine s_keepWanted hR3 hc0 rfl hroom hnone (fun o τ ho hlo _ hRo hfr hold hnew => ?_)
        refine hJ o τ _ _ ho hRo (Or.inr ⟨hlo, rfl⟩) (fun x f hx hf => ?_) (fun f hf => ?_) (fun j a0 a3 a4 a6 a7 => ?_)
        · rw [hold x f (hx hlo) hf, e3o 0 (by decide)]
        · rw [hnew f hf, hfr 6 (by decide) (by decide) (by decide) (by decide), e36 f hf]
        · rw [hfr j a0 a3 a4 a7, e3o j a6]
  · rcases hmemo with h | ⟨o, ho, hlo, e5, hnew⟩
    · exact absurd h hm
    · refine ⟨vp_in_nI hr (by decide), ?_⟩
      rw [e5]
      refine hQ o σ lv L ho hR (Or.inl ⟨hlo, rfl⟩) (fun _ _ _ _ => rfl) hnew (fun i => ?_) (fun _ _ _ _ _ _ _ => rfl)
      by_cases e : i = r
      · rw [if_pos e, e, e5]
      · rw [if_neg e]
/-- all records spare but the first, which is of zeros and held once -/
theorem s_Rempty {σ : St} {Q : St → Prop} (hQ : ∀ τ : St, RI τ (fun x => x == 0) (fun d => if d = chN (fun _ => 0) 0 then [0] else []) → (∀ r, r < 1028 → τ 1 r = if r = 0 then 1 else 0) → (∀ f, f < 8 → τ 0 f = 0) → (∀ j, j ≠ 0 → j ≠ 1 → j ≠ 2 → j ≠ 3 → j ≠ 4 → j ≠ 6 → j ≠ 7 → τ j = σ j) → Q τ) : F_Rc_empty σ Q := by
  unfold F_Rc_empty
  refine s_fill_heads (fun σ10 f10 a10 => ?_)
  refine s_fill_holders (fun σ11 f11 a11 => ?_)
  intro z12 hz12
  unfold F_Rc_empty_L18
  refine ⟨fun v1 τ => (∀ j, j ≠ 2 → τ j = σ11 j) ∧ ∃ i, i ≤ 1028 ∧ v1 = nI i ∧ ∀ q, q < i → τ 2 q = nI (1027 - q), fun v1 _ => 1028 - v1.toNatClampNeg, ⟨fun _ _ => rfl, 0, by omega, hz12, fun q hq => absurd hq (Nat.not_lt_zero _)⟩, ?_⟩
  intro v1 τ n18 hI hm
  dsimp only at hm ⊢
  obtain ⟨hfr, i, hi, rfl, hall⟩ := hI
  rw [cl (by omega)] at hm
  have e8 : (1028 : Int32) = nI 1028 := rfl
  refine ⟨fun hc1 => ?_, fun hc1 => ?_⟩
  · rw [e8, nI_leI (by omega) (by omega)] at hc1
    have hi8 : i = 1028 := by omega
    subst hi8
    intro σ1 h1
    refine s_fill_wanted (fun σ2 f2 a2 => ?_)
    refine s_chainOf_wanted ?_
    have o2 : ∀ j, j ≠ 6 → j ≠ 7 → j ≠ 2 → σ2 j = σ11 j := fun j b6 b7 b2 => by rw [f2 j b6, h1, sA_n b7, hfr j b2]
    have g3 : ∀ d, d < 1024 → σ2 3 d = -1 := fun d hd => by rw [o2 3 (by decide) (by decide) (by decide), f11 3 (by decide)]; exact a10 d hd
    have g7 : σ2 7 0 = nI 1028 := by rw [f2 7 (by decide), h1, sA_s]; rfl
    have g2 : ∀ q, q < 1028 → σ2 2 q = nI (1027 - q) := fun q hq => by rw [f2 2 (by decide), h1, sA_n (by decide)]; exact hall q hq
    have hz : sm (fun _ => (false : Bool).toNat) 1028 = 0 := sm_zero (fun _ _ => rfl)
    have hR2 : RI σ2 (fun _ => false) (fun _ => []) := by
      refine ⟨⟨1028, by omega, g7, by rw [hz], fun q hq => ⟨1027 - q, by omega, g2 q hq, rfl⟩, fun q j hq hj hqj => ?_⟩, fun d hd => ⟨List.nodup_nil, g3 d hd, fun r => ?_⟩, fun r r' _ _ h => by simp at h⟩
      · rw [g2 q hq, g2 j hj] at hqj
        have := nI_inj (by omega) (by omega) hqj
        omega
      · simp
    have hcz : chN (σ2 6) 0 = chN (fun _ => 0) 0 := chN_congr (fun f hf => by rw [Nat.zero_add]; exact a2 f hf)
    refine s_keepWanted hR2 (chN_e _ _).2 rfl (by rw [hz]; decide) (fun r _ h => by simp at h) (fun r ρ hr _ hidx hRo hfo _ hnew => ?_)
    have hr0 : r = 0 := by
      have h1 := hidx 1027 g7 (by omega)
      rw [g2 1027 (by omega)] at h1
      exact (nI_inj (by omega) (by omega) h1).symm
    subst hr0
    refine s_hold hr ?_
    have p1 : ∀ x, x < 1028 → ρ 1 x = 0 := fun x hx => by
      rw [hfo 1 (by decide) (by decide) (by decide) (by decide), o2 1 (by decide) (by decide) (by decide)]
      exact a11 x hx
    refine hQ _ ?_ ?_ ?_ ?_
    · have hR3 : RI ρ (fun x => x == 0) (fun d => if d = chN (fun _ => 0) 0 then [0] else []) := by
        rw [hcz] at hRo
        exact hRo
      exact RI_congr (sA_n (by decide)) (sA_n (by decide)) (sA_n (by decide)) (sA_n (by decide)) (sA_n (by decide)) hR3
    · intro x hx
      rw [sA_s]
      unfold upd
      by_cases e : x = 0
      · rw [if_pos e, if_pos e, p1 0 (by omega)]
        rfl
      · rw [if_neg e, if_neg e, p1 x hx]
    · intro f hf
      rw [sA_n (by decide)]
      have h1 := hnew f hf
      rw [Nat.mul_zero, Nat.zero_add] at h1
      rw [h1, hfo 6 (by decide) (by decide) (by decide) (by decide)]
      exact a2 f hf
    · intro j b0 b1 b2 b3 b4 b6 b7
      rw [sA_n b1, hfo j b0 b3 b4 b7, o2 j b6 b7 b2, f11 j b1, f10 j b3]
  · rw [e8, nI_leI (by omega) (by omega)] at hc1
    refine ⟨vp_in_nI (by omega) (by decide), ?_⟩
    intro σ8 h8 z9 hz9
    rw [cl (by omega), show (1027 : Int32) = nI 1027 from rfl, pk_sub (by omega)] at h8
    rw [ar_1] at hz9
    refine ⟨⟨fun j b2 => by rw [h8, sA_n b2]; exact hfr j b2, i + 1, by omega, hz9, fun q hq => ?_⟩, ?_⟩
    · rw [h8, sA_s]
      unfold upd
      by_cases e : q = i
      · rw [if_pos e, e]
      · rw [if_neg e]
        exact hall q (by omega)
    · rw [hz9, cl (by omega)]
      omega
