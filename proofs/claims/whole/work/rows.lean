section
abbrev St : Type := Nat → Nat → Int32
/-- a component gets new contents -/
def sA (σ : St) (k : Nat) (f : Nat → Int32) : St := fun j => cond (Nat.beq j k) f (σ j)
theorem sA_s (σ : St) (k : Nat) (f : Nat → Int32) : sA σ k f k = f := by
  unfold sA
  rw [show Nat.beq k k = true from Nat.beq_refl k]
  rfl
theorem sA_n {σ : St} {k : Nat} {f : Nat → Int32} {j : Nat} (h : j ≠ k) : sA σ k f j = σ j := by
  unfold sA
  cases e : Nat.beq j k with
  | true => exact absurd (Nat.eq_of_beq_eq_true e) h
  | false => rfl
theorem sA_e (σ : St) (k : Nat) (f : Nat → Int32) (j : Nat) : sA σ k f j = if j = k then f else σ j := by
  by_cases h : j = k
  · rw [if_pos h, h, sA_s]
  · rw [if_neg h, sA_n h]
def F_Ar_fill2_heads_L5 (v1 : Int32) (v2 : Int32) (v3 : Int32) (σ : St) (Q : St → Prop) : Prop :=
  ∃ (I5 : Int32 → St → Prop) (m5 : Int32 → St → Nat), I5 v2 σ ∧ ∀ (v2 : Int32) (σ : St) (n5 : Nat), I5 v2 σ → m5 v2 σ = n5 →
  ((v3 ≤ v2 →
  Q σ) ∧ (¬ v3 ≤ v2 →
  vp_in v2 1024 ∧ ∀ σ1 : St, σ1 = sA σ 3 (upd (σ 3) v2.toNatClampNeg v1) →
  ∀ z2 : Int32, z2 = v2 + (1 : Int32) →
  I5 z2 σ1 ∧ m5 z2 σ1 < n5))
def F_Ar_fill2_heads (x1 : Int32) (σ : St) (Q : St → Prop) : Prop :=
  ∀ z3 : Int32, z3 = (0 : Int32) →
  ∀ z4 : Int32, z4 = (1024 : Int32) →
  F_Ar_fill2_heads_L5 x1 z3 z4 σ Q
def F_Ar_fill2_holders_L5 (v1 : Int32) (v2 : Int32) (v3 : Int32) (σ : St) (Q : St → Prop) : Prop :=
  ∃ (I5 : Int32 → St → Prop) (m5 : Int32 → St → Nat), I5 v2 σ ∧ ∀ (v2 : Int32) (σ : St) (n5 : Nat), I5 v2 σ → m5 v2 σ = n5 →
  ((v3 ≤ v2 →
  Q σ) ∧ (¬ v3 ≤ v2 →
  vp_in v2 1028 ∧ ∀ σ1 : St, σ1 = sA σ 1 (upd (σ 1) v2.toNatClampNeg v1) →
  ∀ z2 : Int32, z2 = v2 + (1 : Int32) →
  I5 z2 σ1 ∧ m5 z2 σ1 < n5))
def F_Ar_fill2_holders (x1 : Int32) (σ : St) (Q : St → Prop) : Prop :=
  ∀ z3 : Int32, z3 = (0 : Int32) →
  ∀ z4 : Int32, z4 = (1028 : Int32) →
  F_Ar_fill2_holders_L5 x1 z3 z4 σ Q
def F_Ar_fill2_wanted_L5 (v1 : Int32) (v2 : Int32) (v3 : Int32) (σ : St) (Q : St → Prop) : Prop :=
  ∃ (I5 : Int32 → St → Prop) (m5 : Int32 → St → Nat), I5 v2 σ ∧ ∀ (v2 : Int32) (σ : St) (n5 : Nat), I5 v2 σ → m5 v2 σ = n5 →
  ((v3 ≤ v2 →
  Q σ) ∧ (¬ v3 ≤ v2 →
  vp_in v2 8 ∧ ∀ σ1 : St, σ1 = sA σ 6 (upd (σ 6) v2.toNatClampNeg v1) →
  ∀ z2 : Int32, z2 = v2 + (1 : Int32) →
  I5 z2 σ1 ∧ m5 z2 σ1 < n5))
def F_Ar_fill2_wanted (x1 : Int32) (σ : St) (Q : St → Prop) : Prop :=
  ∀ z3 : Int32, z3 = (0 : Int32) →
  ∀ z4 : Int32, z4 = (8 : Int32) →
  F_Ar_fill2_wanted_L5 x1 z3 z4 σ Q
def F_Ar_fill2_outcome_L5 (v1 : Int32) (v2 : Int32) (v3 : Int32) (σ : St) (Q : St → Prop) : Prop :=
  ∃ (I5 : Int32 → St → Prop) (m5 : Int32 → St → Nat), I5 v2 σ ∧ ∀ (v2 : Int32) (σ : St) (n5 : Nat), I5 v2 σ → m5 v2 σ = n5 →
  ((v3 ≤ v2 →
  Q σ) ∧ (¬ v3 ≤ v2 →
  vp_in v2 1028 ∧ ∀ σ1 : St, σ1 = sA σ 5 (upd (σ 5) v2.toNatClampNeg v1) →
  ∀ z2 : Int32, z2 = v2 + (1 : Int32) →
  I5 z2 σ1 ∧ m5 z2 σ1 < n5))
def F_Ar_fill2_outcome (x1 : Int32) (σ : St) (Q : St → Prop) : Prop :=
  ∀ z3 : Int32, z3 = (0 : Int32) →
  ∀ z4 : Int32, z4 = (1028 : Int32) →
  F_Ar_fill2_outcome_L5 x1 z3 z4 σ Q
def F_Ar_rangeCheck (x0 : Int32) (x1 : Int32) (x2 : Int32) (σ : St) (Q : St → Prop) : Prop :=
  ((x1 ≤ x2 →
  ((0 ≤ x1 →
  ((x2 ≤ x0 →
  Q σ) ∧ (¬ x2 ≤ x0 →
  False))) ∧ (¬ 0 ≤ x1 →
  False))) ∧ (¬ x1 ≤ x2 →
  False))
def F_Ar_fill4_cells_L10 (v2 : Int32) (v3 : Int32) (v4 : Int32) (σ : St) (Q : St → Prop) : Prop :=
  ∃ (I10 : Int32 → St → Prop) (m10 : Int32 → St → Nat), I10 v4 σ ∧ ∀ (v4 : Int32) (σ : St) (n10 : Nat), I10 v4 σ → m10 v4 σ = n10 →
  ((v2 ≤ v4 →
  Q σ) ∧ (¬ v2 ≤ v4 →
  vp_in v4 66624 ∧ ∀ σ1 : St, σ1 = sA σ 11 (upd (σ 11) v4.toNatClampNeg v3) →
  ∀ z2 : Int32, z2 = v4 + (1 : Int32) →
  I10 z2 σ1 ∧ m10 z2 σ1 < n10))
def F_Ar_fill4_cells (x1 : Int32) (x2 : Int32) (x3 : Int32) (σ : St) (Q : St → Prop) : Prop :=
  F_Ar_rangeCheck (66624 : Int32) x1 x2 σ (fun σ3 =>
  F_Ar_fill4_cells_L10 x2 x3 x1 σ3 Q)
def F_Rc_chainOf_values_L4 (v1 : Int32) (v2 : Int32) (v3 : Int32) (σ : St) (Q : Int32 → St → Prop) : Prop :=
  ∃ (I4 : Int32 → Int32 → St → Prop) (m4 : Int32 → Int32 → St → Nat), I4 v2 v3 σ ∧ ∀ (v2 v3 : Int32) (σ : St) (n4 : Nat), I4 v2 v3 σ → m4 v2 v3 σ = n4 →
  (((v1 + (8 : Int32)) ≤ v3 →
  ∀ z1 : Int32, z1 = (v2 ^^^ ((v2.toUInt32 >>> ((20 : Int32).toUInt32 &&& Int32.toUInt32 31)).toInt32 ^^^ (v2.toUInt32 >>> ((10 : Int32).toUInt32 &&& Int32.toUInt32 31)).toInt32)) →
  Q (z1 &&& (1023 : Int32)) σ) ∧ (¬ (v1 + (8 : Int32)) ≤ v3 →
  vp_in v3 8224 ∧
  ∀ z2 : Int32, z2 = (((31 : Int32) * v2) + (σ 0 v3.toNatClampNeg)) →
  ∀ z3 : Int32, z3 = v3 + (1 : Int32) →
  I4 z2 z3 σ ∧ m4 z2 z3 σ < n4))
def F_Rc_chainOf_values (x1 : Int32) (σ : St) (Q : Int32 → St → Prop) : Prop :=
  ∀ z4 : Int32, z4 = (0 : Int32) →
  F_Rc_chainOf_values_L4 x1 z4 x1 σ Q
def F_Rc_chainOf_wanted_L4 (v1 : Int32) (v2 : Int32) (v3 : Int32) (σ : St) (Q : Int32 → St → Prop) : Prop :=
  ∃ (I4 : Int32 → Int32 → St → Prop) (m4 : Int32 → Int32 → St → Nat), I4 v2 v3 σ ∧ ∀ (v2 v3 : Int32) (σ : St) (n4 : Nat), I4 v2 v3 σ → m4 v2 v3 σ = n4 →
  (((v1 + (8 : Int32)) ≤ v3 →
  ∀ z1 : Int32, z1 = (v2 ^^^ ((v2.toUInt32 >>> ((20 : Int32).toUInt32 &&& Int32.toUInt32 31)).toInt32 ^^^ (v2.toUInt32 >>> ((10 : Int32).toUInt32 &&& Int32.toUInt32 31)).toInt32)) →
  Q (z1 &&& (1023 : Int32)) σ) ∧ (¬ (v1 + (8 : Int32)) ≤ v3 →
  vp_in v3 8 ∧
  ∀ z2 : Int32, z2 = (((31 : Int32) * v2) + (σ 6 v3.toNatClampNeg)) →
  ∀ z3 : Int32, z3 = v3 + (1 : Int32) →
  I4 z2 z3 σ ∧ m4 z2 z3 σ < n4))
def F_Rc_chainOf_wanted (x1 : Int32) (σ : St) (Q : Int32 → St → Prop) : Prop :=
  ∀ z4 : Int32, z4 = (0 : Int32) →
  F_Rc_chainOf_wanted_L4 x1 z4 x1 σ Q
def F_Rc_value (x1 : Int32) (x2 : Int32) (σ : St) (Q : Int32 → St → Prop) : Prop :=
  vp_in ((x1 * (8 : Int32)) + x2) 8224 ∧
  Q (σ 0 ((x1 * (8 : Int32)) + x2).toNatClampNeg) σ
def F_Rc_hold (x1 : Int32) (x2 : Int32) (σ : St) (Q : St → Prop) : Prop :=
  vp_in x1 1028 ∧
  vp_in x1 1028 ∧ ∀ σ1 : St, σ1 = sA σ 1 (upd (σ 1) x1.toNatClampNeg ((σ 1 x1.toNatClampNeg) + x2)) →
  Q σ1
def F_Rc_isWanted_L2 (v1 : Int32) (v2 : Int32) (σ : St) (Q : Int32 → St → Prop) : Prop :=
  ∃ (I2 : Int32 → St → Prop) (m2 : Int32 → St → Nat), I2 v2 σ ∧ ∀ (v2 : Int32) (σ : St) (n2 : Nat), I2 v2 σ → m2 v2 σ = n2 →
  (((8 : Int32) ≤ v2 →
  Q (1 : Int32) σ) ∧ (¬ (8 : Int32) ≤ v2 →
  vp_in ((v1 * (8 : Int32)) + v2) 8224 ∧
  vp_in v2 8 ∧
  (((σ 0 ((v1 * (8 : Int32)) + v2).toNatClampNeg) = (σ 6 v2.toNatClampNeg) →
  ∀ z1 : Int32, z1 = v2 + (1 : Int32) →
  I2 z1 σ ∧ m2 z1 σ < n2) ∧ (¬ (σ 0 ((v1 * (8 : Int32)) + v2).toNatClampNeg) = (σ 6 v2.toNatClampNeg) →
  Q (0 : Int32) σ))))
def F_Rc_isWanted (x1 : Int32) (σ : St) (Q : Int32 → St → Prop) : Prop :=
  ∀ z2 : Int32, z2 = (0 : Int32) →
  F_Rc_isWanted_L2 x1 z2 σ Q
def F_Rc_findWanted_L9 (v2 : Int32) (v3 : Int32) (σ : St) (Q : Int32 → St → Prop) : Prop :=
  ∃ (I9 : Int32 → Int32 → St → Prop) (m9 : Int32 → Int32 → St → Nat), I9 v2 v3 σ ∧ ∀ (v2 v3 : Int32) (σ : St) (n9 : Nat), I9 v2 v3 σ → m9 v2 v3 σ = n9 →
  (((1028 : Int32) ≤ v3 →
  Q (-1 : Int32) σ) ∧ (¬ (1028 : Int32) ≤ v3 →
  ((v2 = (-1 : Int32) →
  Q (-1 : Int32) σ) ∧ (¬ v2 = (-1 : Int32) →
  F_Rc_isWanted v2 σ (fun r2 σ1 =>
  ((r2 = 0 →
  vp_in v2 1028 ∧
  ∀ z3 : Int32, z3 = (σ1 4 v2.toNatClampNeg) →
  ∀ z4 : Int32, z4 = v3 + (1 : Int32) →
  I9 z3 z4 σ1 ∧ m9 z3 z4 σ1 < n9) ∧ (¬ r2 = 0 →
  Q v2 σ1)))))))
def F_Rc_findWanted (x1 : Int32) (σ : St) (Q : Int32 → St → Prop) : Prop :=
  vp_in x1 1024 ∧
  ∀ z5 : Int32, z5 = (σ 3 x1.toNatClampNeg) →
  ∀ z6 : Int32, z6 = (0 : Int32) →
  F_Rc_findWanted_L9 z5 z6 σ Q
def F_Rc_keepWanted (x1 : Int32) (σ : St) (Q : Int32 → St → Prop) : Prop :=
  ∀ σ1 : St, σ1 = sA σ 7 (fun _ => ((σ 7 0) - (1 : Int32))) →
  vp_in (σ1 7 0) 1028 ∧
  ∀ z2 : Int32, z2 = (σ1 2 (σ1 7 0).toNatClampNeg) →
  ¬ (0 : Int32) < 0 ∧ ¬ (z2 * (8 : Int32)) < 0 ∧ ¬ (8 : Int32) < 0 ∧ (0 : Int32).toNatClampNeg + (8 : Int32).toNatClampNeg ≤ 8 ∧ (z2 * (8 : Int32)).toNatClampNeg + (8 : Int32).toNatClampNeg ≤ 8224 ∧ ∀ σ3 : St, σ3 = sA σ1 0 (va_cpy (σ1 6) (σ1 0) (0 : Int32).toNatClampNeg (z2 * (8 : Int32)).toNatClampNeg (8 : Int32).toNatClampNeg) →
  vp_in x1 1024 ∧
  vp_in z2 1028 ∧ ∀ σ4 : St, σ4 = sA σ3 4 (upd (σ3 4) z2.toNatClampNeg (σ3 3 x1.toNatClampNeg)) →
  vp_in x1 1024 ∧ ∀ σ5 : St, σ5 = sA σ4 3 (upd (σ4 3) x1.toNatClampNeg z2) →
  Q z2 σ5
def F_Rc_drop_J95 (v1 : Int32) (σ : St) (Q : St → Prop) : Prop :=
  vp_in (σ 7 0) 1028 ∧ ∀ σ1 : St, σ1 = sA σ 2 (upd (σ 2) (σ 7 0).toNatClampNeg v1) →
  ∀ σ2 : St, σ2 = sA σ1 7 (fun _ => ((σ1 7 0) + (1 : Int32))) →
  Q σ2
def F_Rc_drop_J63 (v1 : Int32) (v2 : Int32) (v3 : Int32) (σ : St) (Q : St → Prop) : Prop :=
  ((v3 = (-1 : Int32) →
  vp_in v1 1028 ∧
  vp_in v2 1024 ∧ ∀ σ4 : St, σ4 = sA σ 3 (upd (σ 3) v2.toNatClampNeg (σ 4 v1.toNatClampNeg)) →
  F_Rc_drop_J95 v1 σ4 Q) ∧ (¬ v3 = (-1 : Int32) →
  vp_in v1 1028 ∧
  vp_in v3 1028 ∧ ∀ σ3 : St, σ3 = sA σ 4 (upd (σ 4) v3.toNatClampNeg (σ 4 v1.toNatClampNeg)) →
  F_Rc_drop_J95 v1 σ3 Q))
def F_Rc_drop_L25 (v1 : Int32) (v2 : Int32) (v3 : Int32) (v4 : Int32) (v5 : Int32) (σ : St) (Q : St → Prop) : Prop :=
  ∃ (I25 : Int32 → Int32 → Int32 → St → Prop) (m25 : Int32 → Int32 → Int32 → St → Nat), I25 v3 v4 v5 σ ∧ ∀ (v3 v4 v5 : Int32) (σ : St) (n25 : Nat), I25 v3 v4 v5 σ → m25 v3 v4 v5 σ = n25 →
  (((1028 : Int32) ≤ v5 →
  F_Rc_drop_J63 v1 v2 v3 σ Q) ∧ (¬ (1028 : Int32) ≤ v5 →
  ((v4 = (-1 : Int32) →
  F_Rc_drop_J63 v1 v2 v3 σ Q) ∧ (¬ v4 = (-1 : Int32) →
  ((v4 = v1 →
  F_Rc_drop_J63 v1 v2 v3 σ Q) ∧ (¬ v4 = v1 →
  vp_in v4 1028 ∧
  ∀ z5 : Int32, z5 = (σ 4 v4.toNatClampNeg) →
  ∀ z6 : Int32, z6 = v5 + (1 : Int32) →
  I25 v4 z5 z6 σ ∧ m25 v4 z5 z6 σ < n25))))))
def F_Rc_drop (x1 : Int32) (σ : St) (Q : St → Prop) : Prop :=
  F_Rc_chainOf_values (x1 * (8 : Int32)) σ (fun r8 σ7 =>
  ∀ z9 : Int32, z9 = (-1 : Int32) →
  vp_in r8 1024 ∧
  ∀ z10 : Int32, z10 = (σ7 3 r8.toNatClampNeg) →
  ∀ z11 : Int32, z11 = (0 : Int32) →
  F_Rc_drop_L25 x1 r8 z9 z10 z11 σ7 Q)
def F_Rc_release (x1 : Int32) (x2 : Int32) (σ : St) (Q : St → Prop) : Prop :=
  vp_in x1 1028 ∧
  vp_in x1 1028 ∧ ∀ σ1 : St, σ1 = sA σ 1 (upd (σ 1) x1.toNatClampNeg ((σ 1 x1.toNatClampNeg) - x2)) →
  vp_in x1 1028 ∧
  (((σ1 1 x1.toNatClampNeg) = 0 →
  F_Rc_drop x1 σ1 (fun σ2 =>
  Q σ2)) ∧ (¬ (σ1 1 x1.toNatClampNeg) = 0 →
  Q σ1))
def F_Rc_begin (x1 : Int32) (x2 : Int32) (x3 : Int32) (σ : St) (Q : St → Prop) : Prop :=
  ∀ σ1 : St, σ1 = sA σ 8 (fun _ => x1) →
  ∀ σ2 : St, σ2 = sA σ1 9 (fun _ => x2) →
  ∀ σ3 : St, σ3 = sA σ2 10 (fun _ => x3) →
  F_Ar_fill2_outcome (-1 : Int32) σ3 (fun σ4 =>
  Q σ4)
def F_Rc_altered_J93 (v1 : Int32) (v3 : Int32) (σ : St) (Q : Int32 → St → Prop) : Prop :=
  vp_in v1 1028 ∧ ∀ σ1 : St, σ1 = sA σ 5 (upd (σ 5) v1.toNatClampNeg v3) →
  vp_in v1 1028 ∧
  Q (σ1 5 v1.toNatClampNeg) σ1
def F_Rc_altered (x1 : Int32) (σ : St) (Q : Int32 → St → Prop) : Prop :=
  vp_in x1 1028 ∧
  (((σ 5 x1.toNatClampNeg) = (-1 : Int32) →
  ¬ (x1 * (8 : Int32)) < 0 ∧ ¬ (0 : Int32) < 0 ∧ ¬ (8 : Int32) < 0 ∧ (x1 * (8 : Int32)).toNatClampNeg + (8 : Int32).toNatClampNeg ≤ 8224 ∧ (0 : Int32).toNatClampNeg + (8 : Int32).toNatClampNeg ≤ 8 ∧ ∀ σ2 : St, σ2 = sA σ 6 (va_cpy (σ 0) (σ 6) (x1 * (8 : Int32)).toNatClampNeg (0 : Int32).toNatClampNeg (8 : Int32).toNatClampNeg) →
  vp_in (σ2 8 0) 8 ∧
  vp_in (σ2 8 0) 8 ∧ ∀ σ3 : St, σ3 = sA σ2 6 (upd (σ2 6) (σ2 8 0).toNatClampNeg (((σ2 6 (σ2 8 0).toNatClampNeg) &&& (σ2 10 0)) ||| (σ2 9 0))) →
  F_Rc_chainOf_wanted (0 : Int32) σ3 (fun r5 σ4 =>
  F_Rc_findWanted r5 σ4 (fun r7 σ6 =>
  ((r7 = (-1 : Int32) →
  (((σ6 7 0) ≤ 0 →
  F_Rc_altered_J93 x1 x1 σ6 Q) ∧ (¬ (σ6 7 0) ≤ 0 →
  F_Rc_keepWanted r5 σ6 (fun r9 σ8 =>
  F_Rc_altered_J93 x1 r9 σ8 Q)))) ∧ (¬ r7 = (-1 : Int32) →
  F_Rc_altered_J93 x1 r7 σ6 Q))))) ∧ (¬ (σ 5 x1.toNatClampNeg) = (-1 : Int32) →
  vp_in x1 1028 ∧
  Q (σ 5 x1.toNatClampNeg) σ))
def F_Rc_empty_L18 (v1 : Int32) (σ : St) (Q : St → Prop) : Prop :=
  ∃ (I18 : Int32 → St → Prop) (m18 : Int32 → St → Nat), I18 v1 σ ∧ ∀ (v1 : Int32) (σ : St) (n18 : Nat), I18 v1 σ → m18 v1 σ = n18 →
  (((1028 : Int32) ≤ v1 →
  ∀ σ1 : St, σ1 = sA σ 7 (fun _ => (1028 : Int32)) →
  F_Ar_fill2_wanted (0 : Int32) σ1 (fun σ2 =>
  F_Rc_chainOf_wanted (0 : Int32) σ2 (fun r4 σ3 =>
  F_Rc_keepWanted r4 σ3 (fun r6 σ5 =>
  F_Rc_hold r6 (1 : Int32) σ5 (fun σ7 =>
  Q σ7))))) ∧ (¬ (1028 : Int32) ≤ v1 →
  vp_in v1 1028 ∧ ∀ σ8 : St, σ8 = sA σ 2 (upd (σ 2) v1.toNatClampNeg ((1027 : Int32) - v1)) →
  ∀ z9 : Int32, z9 = v1 + (1 : Int32) →
  I18 z9 σ8 ∧ m18 z9 σ8 < n18))
def F_Rc_empty (σ : St) (Q : St → Prop) : Prop :=
  F_Ar_fill2_heads (-1 : Int32) σ (fun σ10 =>
  F_Ar_fill2_holders (0 : Int32) σ10 (fun σ11 =>
  ∀ z12 : Int32, z12 = (0 : Int32) →
  F_Rc_empty_L18 z12 σ11 Q))
def F_Bl_find_J53 (v1 : Int32) (v2 : Int32) (σ : St) (Q : St → Prop) : Prop :=
  ∀ z1 : Int32, z1 = (((1 : Int32) <<< (v2 &&& 31)) - (1 : Int32)) →
  ∀ σ2 : St, σ2 = sA σ 15 (fun _ => (v1 &&& (z1 ^^^ (-1 : Int32)))) →
  ∀ σ3 : St, σ3 = sA σ2 16 (fun _ => (v1 ||| z1)) →
  Q σ3
def F_Bl_find_L10 (v1 : Int32) (v2 : Int32) (σ : St) (Q : St → Prop) : Prop :=
  ∃ (I10 : Int32 → St → Prop) (m10 : Int32 → St → Nat), I10 v2 σ ∧ ∀ (v2 : Int32) (σ : St) (n10 : Nat), I10 v2 σ → m10 v2 σ = n10 →
  ((v2 ≤ 0 →
  F_Bl_find_J53 v1 v2 σ Q) ∧ (¬ v2 ≤ 0 →
  vp_in (σ 14 0) 66624 ∧
  ((0 ≤ (σ 11 (σ 14 0).toNatClampNeg) →
  F_Bl_find_J53 v1 v2 σ Q) ∧ (¬ 0 ≤ (σ 11 (σ 14 0).toNatClampNeg) →
  ∀ z4 : Int32, z4 = v2 + (-5 : Int32) →
  vp_in (σ 14 0) 66624 ∧
  ∀ σ5 : St, σ5 = sA σ 14 (fun _ => ((-(σ 11 (σ 14 0).toNatClampNeg)) + ((v1 >>> (z4 &&& 31)) &&& (31 : Int32)))) →
  I10 z4 σ5 ∧ m10 z4 σ5 < n10))))
def F_Bl_find (x1 : Int32) (σ : St) (Q : St → Prop) : Prop :=
  ∀ z6 : Int32, z6 = (10 : Int32) →
  ∀ σ7 : St, σ7 = sA σ 14 (fun _ => (x1 >>> (z6 &&& 31))) →
  F_Bl_find_L10 x1 z6 σ7 Q
def F_Bl_recordOf (x1 : Int32) (σ : St) (Q : Int32 → St → Prop) : Prop :=
  F_Bl_find x1 σ (fun σ1 =>
  vp_in (σ1 14 0) 66624 ∧
  Q (σ1 11 (σ1 14 0).toNatClampNeg) σ1)
def F_Bl_split (x1 : Int32) (σ : St) (Q : St → Prop) : Prop :=
  (((σ 13 0) ≤ 0 →
  Q σ) ∧ (¬ (σ 13 0) ≤ 0 →
  ∀ σ1 : St, σ1 = sA σ 13 (fun _ => ((σ 13 0) - (1 : Int32))) →
  vp_in (σ1 13 0) 2048 ∧
  ∀ z2 : Int32, z2 = (σ1 12 (σ1 13 0).toNatClampNeg) →
  vp_in x1 66624 ∧
  ∀ z3 : Int32, z3 = (σ1 11 x1.toNatClampNeg) →
  F_Ar_fill4_cells z2 (z2 + (32 : Int32)) z3 σ1 (fun σ4 =>
  F_Rc_hold z3 (31 : Int32) σ4 (fun σ5 =>
  vp_in x1 66624 ∧ ∀ σ6 : St, σ6 = sA σ5 11 (upd (σ5 11) x1.toNatClampNeg (-z2)) →
  Q σ6))))
def F_Bl_splitBefore_L8 (v1 : Int32) (v2 : Int32) (σ : St) (Q : St → Prop) : Prop :=
  ∃ (I8 : Int32 → St → Prop) (m8 : Int32 → St → Nat), I8 v2 σ ∧ ∀ (v2 : Int32) (σ : St) (n8 : Nat), I8 v2 σ → m8 v2 σ = n8 →
  ((v2 ≤ 0 →
  Q σ) ∧ (¬ v2 ≤ 0 →
  ((v1 ≤ (σ 15 0) →
  Q σ) ∧ (¬ v1 ≤ (σ 15 0) →
  F_Bl_split (σ 14 0) σ (fun σ1 =>
  F_Bl_find v1 σ1 (fun σ2 =>
  ∀ z3 : Int32, z3 = v2 + (-5 : Int32) →
  I8 z3 σ2 ∧ m8 z3 σ2 < n8))))))
def F_Bl_splitBefore (x1 : Int32) (σ : St) (Q : St → Prop) : Prop :=
  F_Bl_find x1 σ (fun σ4 =>
  ∀ z5 : Int32, z5 = (10 : Int32) →
  F_Bl_splitBefore_L8 x1 z5 σ4 Q)
def F_Bl_replace (x1 : Int32) (σ : St) (Q : St → Prop) : Prop :=
  vp_in x1 66624 ∧
  ∀ z1 : Int32, z1 = (σ 11 x1.toNatClampNeg) →
  F_Rc_altered z1 σ (fun r3 σ2 =>
  ((r3 = z1 →
  Q σ2) ∧ (¬ r3 = z1 →
  vp_in x1 66624 ∧ ∀ σ4 : St, σ4 = sA σ2 11 (upd (σ2 11) x1.toNatClampNeg r3) →
  F_Rc_hold r3 (1 : Int32) σ4 (fun σ5 =>
  F_Rc_release z1 (1 : Int32) σ5 (fun σ6 =>
  Q σ6)))))
def F_Bl_isAllAlike_L15 (v1 : Int32) (v2 : Int32) (v3 : Int32) (σ : St) (Q : Int32 → St → Prop) : Prop :=
  ∃ (I15 : Int32 → St → Prop) (m15 : Int32 → St → Nat), I15 v3 σ ∧ ∀ (v3 : Int32) (σ : St) (n15 : Nat), I15 v3 σ → m15 v3 σ = n15 →
  (((32 : Int32) ≤ v3 →
  Q (1 : Int32) σ) ∧ (¬ (32 : Int32) ≤ v3 →
  vp_in (v1 + v3) 66624 ∧
  (((σ 11 (v1 + v3).toNatClampNeg) = v2 →
  ∀ z1 : Int32, z1 = v3 + (1 : Int32) →
  I15 z1 σ ∧ m15 z1 σ < n15) ∧ (¬ (σ 11 (v1 + v3).toNatClampNeg) = v2 →
  Q (0 : Int32) σ))))
def F_Bl_isAllAlike (x1 : Int32) (σ : St) (Q : Int32 → St → Prop) : Prop :=
  vp_in x1 66624 ∧
  ∀ z2 : Int32, z2 = (σ 11 x1.toNatClampNeg) →
  ((0 ≤ z2 →
  ∀ z3 : Int32, z3 = (1 : Int32) →
  F_Bl_isAllAlike_L15 x1 z2 z3 σ Q) ∧ (¬ 0 ≤ z2 →
  Q (0 : Int32) σ))
def F_Bl_join (x1 : Int32) (σ : St) (Q : St → Prop) : Prop :=
  vp_in x1 66624 ∧
  ∀ z1 : Int32, z1 = (-(σ 11 x1.toNatClampNeg)) →
  ((z1 ≤ 0 →
  Q σ) ∧ (¬ z1 ≤ 0 →
  F_Bl_isAllAlike z1 σ (fun r3 σ2 =>
  ((r3 = 0 →
  Q σ2) ∧ (¬ r3 = 0 →
  vp_in z1 66624 ∧
  ∀ z4 : Int32, z4 = (σ2 11 z1.toNatClampNeg) →
  vp_in x1 66624 ∧ ∀ σ5 : St, σ5 = sA σ2 11 (upd (σ2 11) x1.toNatClampNeg z4) →
  F_Rc_release z4 (31 : Int32) σ5 (fun σ6 =>
  vp_in (σ6 13 0) 2048 ∧ ∀ σ7 : St, σ7 = sA σ6 12 (upd (σ6 12) (σ6 13 0).toNatClampNeg z1) →
  ∀ σ8 : St, σ8 = sA σ7 13 (fun _ => ((σ7 13 0) + (1 : Int32))) →
  Q σ8))))))
def F_Bl_joinBelow_L14 (v1 : Int32) (v2 : Int32) (v3 : Int32) (σ : St) (Q : St → Prop) : Prop :=
  ∃ (I14 : Int32 → St → Prop) (m14 : Int32 → St → Nat), I14 v3 σ ∧ ∀ (v3 : Int32) (σ : St) (n14 : Nat), I14 v3 σ → m14 v3 σ = n14 →
  (((32 : Int32) ≤ v3 →
  F_Bl_join v1 σ (fun σ1 =>
  Q σ1)) ∧ (¬ (32 : Int32) ≤ v3 →
  F_Bl_join (v2 + v3) σ (fun σ2 =>
  ∀ z3 : Int32, z3 = v3 + (1 : Int32) →
  I14 z3 σ2 ∧ m14 z3 σ2 < n14)))
def F_Bl_joinBelow (x1 : Int32) (σ : St) (Q : St → Prop) : Prop :=
  vp_in x1 66624 ∧
  ∀ z4 : Int32, z4 = (-(σ 11 x1.toNatClampNeg)) →
  ((z4 ≤ 0 →
  Q σ) ∧ (¬ z4 ≤ 0 →
  ∀ z5 : Int32, z5 = (0 : Int32) →
  F_Bl_joinBelow_L14 x1 z4 z5 σ Q))
def F_Bl_alter_L67 (v2 : Int32) (v4 : Int32) (σ : St) (Q : St → Prop) : Prop :=
  ∃ (I67 : Int32 → St → Prop) (m67 : Int32 → St → Nat), I67 v4 σ ∧ ∀ (v4 : Int32) (σ : St) (n67 : Nat), I67 v4 σ → m67 v4 σ = n67 →
  (((v2 >>> ((10 : Int32) &&& 31)) < v4 →
  Q σ) ∧ (¬ (v2 >>> ((10 : Int32) &&& 31)) < v4 →
  F_Bl_joinBelow v4 σ (fun σ1 =>
  ∀ z2 : Int32, z2 = v4 + (1 : Int32) →
  I67 z2 σ1 ∧ m67 z2 σ1 < n67)))
def F_Bl_alter_L29 (v1 : Int32) (v2 : Int32) (v3 : Int32) (σ : St) (Q : St → Prop) : Prop :=
  ∃ (I29 : Int32 → St → Prop) (m29 : Int32 → St → Nat), I29 v3 σ ∧ ∀ (v3 : Int32) (σ : St) (n29 : Nat), I29 v3 σ → m29 v3 σ = n29 →
  ((v2 < v3 →
  ∀ z3 : Int32, z3 = (v1 >>> ((10 : Int32) &&& 31)) →
  F_Bl_alter_L67 v2 z3 σ Q) ∧ (¬ v2 < v3 →
  F_Bl_find v3 σ (fun σ4 =>
  F_Bl_replace (σ4 14 0) σ4 (fun σ5 =>
  ∀ z6 : Int32, z6 = ((if v3 < (σ5 16 0) then (σ5 16 0) else v3) + (1 : Int32)) →
  I29 z6 σ5 ∧ m29 z6 σ5 < n29))))
def F_Bl_alter (x1 : Int32) (x2 : Int32) (σ : St) (Q : St → Prop) : Prop :=
  (((4 : Int32) ≤ (σ 13 0) →
  F_Bl_splitBefore x1 σ (fun σ7 =>
  (((1114111 : Int32) ≤ x2 →
  F_Bl_alter_L29 x1 x2 x1 σ7 Q) ∧ (¬ (1114111 : Int32) ≤ x2 →
  F_Bl_splitBefore (x2 + (1 : Int32)) σ7 (fun σ8 =>
  F_Bl_alter_L29 x1 x2 x1 σ8 Q))))) ∧ (¬ (4 : Int32) ≤ (σ 13 0) →
  Q σ))
def F_Bl_empty_L32 (v1 : Int32) (σ : St) (Q : St → Prop) : Prop :=
  ∃ (I32 : Int32 → St → Prop) (m32 : Int32 → St → Nat), I32 v1 σ ∧ ∀ (v1 : Int32) (σ : St) (n32 : Nat), I32 v1 σ → m32 v1 σ = n32 →
  (((2048 : Int32) ≤ v1 →
  ∀ σ1 : St, σ1 = sA σ 13 (fun _ => (2048 : Int32)) →
  Q σ1) ∧ (¬ (2048 : Int32) ≤ v1 →
  vp_in v1 2048 ∧ ∀ σ2 : St, σ2 = sA σ 12 (upd (σ 12) v1.toNatClampNeg ((1088 : Int32) + (v1 * (32 : Int32)))) →
  ∀ z3 : Int32, z3 = v1 + (1 : Int32) →
  I32 z3 σ2 ∧ m32 z3 σ2 < n32))
def F_Bl_empty (σ : St) (Q : St → Prop) : Prop :=
  F_Rc_empty  σ (fun σ4 =>
  F_Ar_fill4_cells (0 : Int32) (1088 : Int32) (0 : Int32) σ4 (fun σ5 =>
  F_Rc_hold (0 : Int32) (1088 : Int32) σ5 (fun σ6 =>
  ∀ z7 : Int32, z7 = (0 : Int32) →
  F_Bl_empty_L32 z7 σ6 Q)))
def F_Pt_valueAt (x1 : Int32) (x2 : Int32) (σ : St) (Q : Int32 → St → Prop) : Prop :=
  F_Bl_recordOf x1 σ (fun r2 σ1 =>
  F_Rc_value r2 x2 σ1 (fun r4 σ3 =>
  Q r4 σ3))
def F_Pt_clear_L4 (v1 : Int32) (v2 : Int32) (σ : St) (Q : Int32 → St → Prop) : Prop :=
  ∃ (I4 : Int32 → Int32 → St → Prop) (m4 : Int32 → Int32 → St → Nat), I4 v1 v2 σ ∧ ∀ (v1 v2 : Int32) (σ : St) (n4 : Nat), I4 v1 v2 σ → m4 v1 v2 σ = n4 →
  (((1024 : Int32) ≤ v2 →
  F_Bl_empty  σ (fun σ1 =>
  Q v1 σ1)) ∧ (¬ (1024 : Int32) ≤ v2 →
  F_Bl_recordOf v2 σ (fun r3 σ2 =>
  ((r3 = 0 →
  ∀ z7 : Int32, z7 = (1 : Int32) →
  ∀ z8 : Int32, z8 = ((if v2 < (σ2 16 0) then (σ2 16 0) else v2) + (1 : Int32)) →
  ((z7 = 0 →
  ∀ z9 : Int32, z9 = (v1 + (z8 - v2)) →
  I4 z9 z8 σ2 ∧ m4 z9 z8 σ2 < n4) ∧ (¬ z7 = 0 →
  I4 v1 z8 σ2 ∧ m4 v1 z8 σ2 < n4))) ∧ (¬ r3 = 0 →
  ∀ z4 : Int32, z4 = (0 : Int32) →
  ∀ z5 : Int32, z5 = ((if v2 < (σ2 16 0) then (σ2 16 0) else v2) + (1 : Int32)) →
  ((z4 = 0 →
  ∀ z6 : Int32, z6 = (v1 + (z5 - v2)) →
  I4 z6 z5 σ2 ∧ m4 z6 z5 σ2 < n4) ∧ (¬ z4 = 0 →
  I4 v1 z5 σ2 ∧ m4 v1 z5 σ2 < n4)))))))
def F_Pt_clear (σ : St) (Q : Int32 → St → Prop) : Prop :=
  ∀ z10 : Int32, z10 = (0 : Int32) →
  ∀ z11 : Int32, z11 = (0 : Int32) →
  F_Pt_clear_L4 z10 z11 σ Q
def F_Pt_checkPoint (x0 : Int32) (σ : St) (Q : St → Prop) : Prop :=
  ((x0 < 0 →
  False) ∧ (¬ x0 < 0 →
  ((x0 ≤ (1114111 : Int32) →
  Q σ) ∧ (¬ x0 ≤ (1114111 : Int32) →
  False))))
def F_Pt_checkRange (x0 : Int32) (x1 : Int32) (σ : St) (Q : St → Prop) : Prop :=
  ((x0 < 0 →
  False) ∧ (¬ x0 < 0 →
  ((x1 < x0 →
  False) ∧ (¬ x1 < x0 →
  ((x1 ≤ (1114111 : Int32) →
  Q σ) ∧ (¬ x1 ≤ (1114111 : Int32) →
  False))))))
def F_Pt_checkField (x0 : Int32) (σ : St) (Q : St → Prop) : Prop :=
  ((x0 < 0 →
  False) ∧ (¬ x0 < 0 →
  ((x0 < (8 : Int32) →
  Q σ) ∧ (¬ x0 < (8 : Int32) →
  False))))
def F_Pt_checkLength (x0 : Int32) (σ : St) (Q : St → Prop) : Prop :=
  ((x0 ≤ (4000 : Int32) →
  Q σ) ∧ (¬ x0 ≤ (4000 : Int32) →
  False))
def F_Pt_get (x1 : Int32) (x2 : Int32) (σ : St) (Q : Int32 → St → Prop) : Prop :=
  F_Pt_checkPoint x1 σ (fun σ1 =>
  F_Pt_checkField x2 σ1 (fun σ2 =>
  F_Pt_valueAt x1 x2 σ2 (fun r4 σ3 =>
  Q r4 σ3)))
def F_Pt_change_L18 (v2 : Int32) (v3 : Int32) (v4 : Int32) (σ : St) (Q : Int32 → St → Prop) : Prop :=
  ∃ (I18 : Int32 → St → Prop) (m18 : Int32 → St → Nat), I18 v4 σ ∧ ∀ (v4 : Int32) (σ : St) (n18 : Nat), I18 v4 σ → m18 v4 σ = n18 →
  (((1114111 : Int32) < v4 →
  Q (-1 : Int32) σ) ∧ (¬ (1114111 : Int32) < v4 →
  F_Pt_valueAt v4 v2 σ (fun r2 σ1 =>
  ((r2 = v3 →
  ∀ z3 : Int32, z3 = ((if v4 < (σ1 16 0) then (σ1 16 0) else v4) + (1 : Int32)) →
  I18 z3 σ1 ∧ m18 z3 σ1 < n18) ∧ (¬ r2 = v3 →
  Q v4 σ1)))))
def F_Pt_change (x1 : Int32) (x2 : Int32) (σ : St) (Q : Int32 → St → Prop) : Prop :=
  F_Pt_checkPoint x1 σ (fun σ4 =>
  F_Pt_checkField x2 σ4 (fun σ5 =>
  F_Pt_valueAt x1 x2 σ5 (fun r7 σ6 =>
  F_Pt_change_L18 x2 r7 x1 σ6 Q)))
def F_Pt_alike (x1 : Int32) (x2 : Int32) (σ : St) (Q : Int32 → St → Prop) : Prop :=
  F_Pt_checkPoint x1 σ (fun σ1 =>
  F_Pt_checkPoint x2 σ1 (fun σ2 =>
  F_Bl_recordOf x1 σ2 (fun r4 σ3 =>
  F_Bl_recordOf x2 σ3 (fun r6 σ5 =>
  ((r4 = r6 →
  Q (1 : Int32) σ5) ∧ (¬ r4 = r6 →
  Q (0 : Int32) σ5))))))
def F_Pt_hash_J60 (v2 : Int32) (v3 : Int32) (v4 : Int32) (v5 : Int32) (v6 : Int32) (v7 : Int32) (σ : St) (K29 : Int32 → Int32 → Int32 → Int32 → St → Prop) (Q : Int32 → St → Prop) : Prop :=
  ∀ z1 : Int32, z1 = (((31 : Int32) * v4) + v5) →
  ∀ z2 : Int32, z2 = v7 + (1 : Int32) →
  K29 z1 v5 v6 z2 σ
def F_Pt_hash_L29 (v2 : Int32) (v3 : Int32) (v4 : Int32) (v5 : Int32) (v6 : Int32) (v7 : Int32) (σ : St) (Q : Int32 → St → Prop) : Prop :=
  ∃ (I29 : Int32 → Int32 → Int32 → Int32 → St → Prop) (m29 : Int32 → Int32 → Int32 → Int32 → St → Nat), I29 v4 v5 v6 v7 σ ∧ ∀ (v4 v5 v6 v7 : Int32) (σ : St) (n29 : Nat), I29 v4 v5 v6 v7 σ → m29 v4 v5 v6 v7 σ = n29 →
  ((v2 < v7 →
  Q v4 σ) ∧ (¬ v2 < v7 →
  ((v7 ≤ v6 →
  F_Pt_hash_J60 v2 v3 v4 v5 v6 v7 σ (fun b4 b5 b6 b7 τ => I29 b4 b5 b6 b7 τ ∧ m29 b4 b5 b6 b7 τ < n29) Q) ∧ (¬ v7 ≤ v6 →
  F_Pt_valueAt v7 v3 σ (fun r4 σ3 =>
  ∀ z5 : Int32, z5 = (σ3 16 0) →
  F_Pt_hash_J60 v2 v3 v4 r4 z5 v7 σ3 (fun b4 b5 b6 b7 τ => I29 b4 b5 b6 b7 τ ∧ m29 b4 b5 b6 b7 τ < n29) Q)))))
def F_Pt_hash (x1 : Int32) (x2 : Int32) (x3 : Int32) (σ : St) (Q : Int32 → St → Prop) : Prop :=
  F_Pt_checkRange x1 x2 σ (fun σ6 =>
  F_Pt_checkLength ((x2 - x1) + (1 : Int32)) σ6 (fun σ7 =>
  F_Pt_checkField x3 σ7 (fun σ8 =>
  ∀ z9 : Int32, z9 = (1 : Int32) →
  ∀ z10 : Int32, z10 = (0 : Int32) →
  ∀ z11 : Int32, z11 = (-1 : Int32) →
  F_Pt_hash_L29 x2 x3 z9 z10 z11 x1 σ8 Q)))
def F_Pt_mark (x1 : Int32) (x2 : Int32) (x3 : Int32) (x4 : Int32) (x5 : Int32) (σ : St) (Q : Int32 → St → Prop) : Prop :=
  F_Pt_checkRange x1 x2 σ (fun σ1 =>
  F_Pt_checkField x3 σ1 (fun σ2 =>
  F_Rc_begin x3 x4 x5 σ2 (fun σ3 =>
  F_Bl_alter x1 x2 σ3 (fun σ4 =>
  Q ((x2 - x1) + (1 : Int32)) σ4))))
def F_Pt_set (x1 : Int32) (x2 : Int32) (x3 : Int32) (x4 : Int32) (σ : St) (Q : Int32 → St → Prop) : Prop :=
  F_Pt_mark x1 x2 x3 x4 (0 : Int32) σ (fun r2 σ1 =>
  Q r2 σ1)
def F_Mo_thrown (σ : St) (Q : Int32 → St → Prop) : Prop :=
  Q (σ 19 0) σ
def F_Mo_fail (x1 : Int32) (σ : St) (Q : Int32 → St → Prop) : Prop :=
  ∀ σ1 : St, σ1 = sA σ 19 (fun _ => x1) →
  Q (0 : Int32) σ1
def F_Mo_at_L9 (v1 : Int32) (v2 : Int32) (v3 : Int32) (σ : St) (Q : Int32 → St → Prop) : Prop :=
  ∃ (I9 : Int32 → Int32 → St → Prop) (m9 : Int32 → Int32 → St → Nat), I9 v2 v3 σ ∧ ∀ (v2 v3 : Int32) (σ : St) (n9 : Nat), I9 v2 v3 σ → m9 v2 v3 σ = n9 →
  ((v3 ≤ v2 →
  Q v2 σ) ∧ (¬ v3 ≤ v2 →
  ∀ z1 : Int32, z1 = (((v2 + v3) + (1 : Int32)) / (2 : Int32)) →
  vp_in z1 9000 ∧
  ((v1 < (σ 17 z1.toNatClampNeg) →
  ∀ z2 : Int32, z2 = (z1 - (1 : Int32)) →
  I9 v2 z2 σ ∧ m9 v2 z2 σ < n9) ∧ (¬ v1 < (σ 17 z1.toNatClampNeg) →
  I9 z1 v3 σ ∧ m9 z1 v3 σ < n9))))
def F_Mo_at (x1 : Int32) (σ : St) (Q : Int32 → St → Prop) : Prop :=
  ∀ z3 : Int32, z3 = (0 : Int32) →
  ∀ z4 : Int32, z4 = ((σ 20 0) - (1 : Int32)) →
  F_Mo_at_L9 x1 z3 z4 σ Q
def F_Mo_out (x1 : Int32) (σ : St) (Q : Int32 → St → Prop) : Prop :=
  ((x1 < 0 →
  Q (1 : Int32) σ) ∧ (¬ x1 < 0 →
  ((x1 ≤ (1114111 : Int32) →
  Q (0 : Int32) σ) ∧ (¬ x1 ≤ (1114111 : Int32) →
  Q (1 : Int32) σ))))
def F_Mo_cut_L110 (v2 : Int32) (v3 : Int32) (σ : St) (Q : St → Prop) : Prop :=
  ∃ (I110 : Int32 → St → Prop) (m110 : Int32 → St → Nat), I110 v3 σ ∧ ∀ (v3 : Int32) (σ : St) (n110 : Nat), I110 v3 σ → m110 v3 σ = n110 →
  (((8 : Int32) ≤ v3 →
  ∀ σ1 : St, σ1 = sA σ 20 (fun _ => ((σ 20 0) + (1 : Int32))) →
  Q σ1) ∧ (¬ (8 : Int32) ≤ v3 →
  vp_in (((8 : Int32) * v2) + v3) 72000 ∧
  vp_in ((((8 : Int32) * v2) + (8 : Int32)) + v3) 72000 ∧ ∀ σ2 : St, σ2 = sA σ 18 (upd (σ 18) ((((8 : Int32) * v2) + (8 : Int32)) + v3).toNatClampNeg (σ 18 (((8 : Int32) * v2) + v3).toNatClampNeg)) →
  ∀ z3 : Int32, z3 = v3 + (1 : Int32) →
  I110 z3 σ2 ∧ m110 z3 σ2 < n110))
def F_Mo_cut_L53 (v1 : Int32) (v2 : Int32) (v3 : Int32) (v4 : Int32) (σ : St) (K29 : Int32 → St → Prop) (Q : St → Prop) : Prop :=
  ∃ (I53 : Int32 → St → Prop) (m53 : Int32 → St → Nat), I53 v4 σ ∧ ∀ (v4 : Int32) (σ : St) (n53 : Nat), I53 v4 σ → m53 v4 σ = n53 →
  (((8 : Int32) ≤ v4 →
  ∀ z4 : Int32, z4 = v3 + (-1 : Int32) →
  K29 z4 σ) ∧ (¬ (8 : Int32) ≤ v4 →
  vp_in ((((8 : Int32) * v3) - (8 : Int32)) + v4) 72000 ∧
  vp_in (((8 : Int32) * v3) + v4) 72000 ∧ ∀ σ5 : St, σ5 = sA σ 18 (upd (σ 18) (((8 : Int32) * v3) + v4).toNatClampNeg (σ 18 ((((8 : Int32) * v3) - (8 : Int32)) + v4).toNatClampNeg)) →
  ∀ z6 : Int32, z6 = v4 + (1 : Int32) →
  I53 z6 σ5 ∧ m53 z6 σ5 < n53))
def F_Mo_cut_L29 (v1 : Int32) (v2 : Int32) (v3 : Int32) (σ : St) (Q : St → Prop) : Prop :=
  ∃ (I29 : Int32 → St → Prop) (m29 : Int32 → St → Nat), I29 v3 σ ∧ ∀ (v3 : Int32) (σ : St) (n29 : Nat), I29 v3 σ → m29 v3 σ = n29 →
  ((v3 ≤ (v2 + (1 : Int32)) →
  vp_in (v2 + (1 : Int32)) 9000 ∧ ∀ σ7 : St, σ7 = sA σ 17 (upd (σ 17) (v2 + (1 : Int32)).toNatClampNeg v1) →
  ∀ z8 : Int32, z8 = (0 : Int32) →
  F_Mo_cut_L110 v2 z8 σ7 Q) ∧ (¬ v3 ≤ (v2 + (1 : Int32)) →
  vp_in (v3 - (1 : Int32)) 9000 ∧
  vp_in v3 9000 ∧ ∀ σ9 : St, σ9 = sA σ 17 (upd (σ 17) v3.toNatClampNeg (σ 17 (v3 - (1 : Int32)).toNatClampNeg)) →
  ∀ z10 : Int32, z10 = (0 : Int32) →
  F_Mo_cut_L53 v1 v2 v3 z10 σ9 (fun b3 τ => I29 b3 τ ∧ m29 b3 τ < n29) Q))
def F_Mo_cut (x1 : Int32) (σ : St) (Q : St → Prop) : Prop :=
  ((x1 ≤ (1114111 : Int32) →
  F_Mo_at x1 σ (fun r12 σ11 =>
  vp_in r12 9000 ∧
  (((σ11 17 r12.toNatClampNeg) = x1 →
  Q σ11) ∧ (¬ (σ11 17 r12.toNatClampNeg) = x1 →
  ∀ z13 : Int32, z13 = (σ11 20 0) →
  F_Mo_cut_L29 x1 r12 z13 σ11 Q)))) ∧ (¬ x1 ≤ (1114111 : Int32) →
  Q σ))
def F_Mo_mark_J117 (v1 : Int32) (v2 : Int32) (σ : St) (Q : Int32 → St → Prop) : Prop :=
  Q ((v2 - v1) + (1 : Int32)) σ
def F_Mo_mark_L61 (v1 : Int32) (v2 : Int32) (v3 : Int32) (v4 : Int32) (v5 : Int32) (v6 : Int32) (σ : St) (Q : Int32 → St → Prop) : Prop :=
  ∃ (I61 : Int32 → St → Prop) (m61 : Int32 → St → Nat), I61 v6 σ ∧ ∀ (v6 : Int32) (σ : St) (n61 : Nat), I61 v6 σ → m61 v6 σ = n61 →
  (((σ 20 0) ≤ v6 →
  F_Mo_mark_J117 v1 v2 σ Q) ∧ (¬ (σ 20 0) ≤ v6 →
  vp_in v6 9000 ∧
  ((v2 < (σ 17 v6.toNatClampNeg) →
  F_Mo_mark_J117 v1 v2 σ Q) ∧ (¬ v2 < (σ 17 v6.toNatClampNeg) →
  vp_in (((8 : Int32) * v6) + v3) 72000 ∧
  vp_in (((8 : Int32) * v6) + v3) 72000 ∧ ∀ σ1 : St, σ1 = sA σ 18 (upd (σ 18) (((8 : Int32) * v6) + v3).toNatClampNeg (((σ 18 (((8 : Int32) * v6) + v3).toNatClampNeg) &&& v5) ||| v4)) →
  ∀ z2 : Int32, z2 = v6 + (1 : Int32) →
  I61 z2 σ1 ∧ m61 z2 σ1 < n61))))
def F_Mo_mark (x1 : Int32) (x2 : Int32) (x3 : Int32) (x4 : Int32) (x5 : Int32) (σ : St) (Q : Int32 → St → Prop) : Prop :=
  ∀ σ3 : St, σ3 = sA σ 19 (fun _ => (0 : Int32)) →
  F_Mo_out x1 σ3 (fun r5 σ4 =>
  ((r5 = 0 →
  F_Mo_out x2 σ4 (fun r9 σ8 =>
  ((r9 = 0 →
  ((x2 < x1 →
  F_Mo_fail (1 : Int32) σ8 (fun r13 σ12 =>
  Q r13 σ12)) ∧ (¬ x2 < x1 →
  ((x3 < 0 →
  F_Mo_fail (1 : Int32) σ8 (fun r15 σ14 =>
  Q r15 σ14)) ∧ (¬ x3 < 0 →
  ((x3 ≤ (7 : Int32) →
  F_Mo_cut x1 σ8 (fun σ16 =>
  F_Mo_cut (x2 + (1 : Int32)) σ16 (fun σ17 =>
  F_Mo_at x1 σ17 (fun r19 σ18 =>
  F_Mo_mark_L61 x1 x2 x3 x4 x5 r19 σ18 Q)))) ∧ (¬ x3 ≤ (7 : Int32) →
  F_Mo_fail (1 : Int32) σ8 (fun r21 σ20 =>
  Q r21 σ20)))))))) ∧ (¬ r9 = 0 →
  F_Mo_fail (1 : Int32) σ8 (fun r11 σ10 =>
  Q r11 σ10))))) ∧ (¬ r5 = 0 →
  F_Mo_fail (1 : Int32) σ4 (fun r7 σ6 =>
  Q r7 σ6))))
def F_Mo_set (x1 : Int32) (x2 : Int32) (x3 : Int32) (x4 : Int32) (σ : St) (Q : Int32 → St → Prop) : Prop :=
  F_Mo_mark x1 x2 x3 x4 (0 : Int32) σ (fun r2 σ1 =>
  Q r2 σ1)
def F_Mo_get (x1 : Int32) (x2 : Int32) (σ : St) (Q : Int32 → St → Prop) : Prop :=
  ∀ σ1 : St, σ1 = sA σ 19 (fun _ => (0 : Int32)) →
  F_Mo_out x1 σ1 (fun r3 σ2 =>
  ((r3 = 0 →
  ((x2 < 0 →
  F_Mo_fail (1 : Int32) σ2 (fun r7 σ6 =>
  Q r7 σ6)) ∧ (¬ x2 < 0 →
  ((x2 ≤ (7 : Int32) →
  F_Mo_at x1 σ2 (fun r9 σ8 =>
  vp_in (((8 : Int32) * r9) + x2) 72000 ∧
  Q (σ8 18 (((8 : Int32) * r9) + x2).toNatClampNeg) σ8)) ∧ (¬ x2 ≤ (7 : Int32) →
  F_Mo_fail (1 : Int32) σ2 (fun r11 σ10 =>
  Q r11 σ10)))))) ∧ (¬ r3 = 0 →
  F_Mo_fail (1 : Int32) σ2 (fun r5 σ4 =>
  Q r5 σ4))))
def F_Mo_change_J78 (v3 : Int32) (σ : St) (Q : Int32 → St → Prop) : Prop :=
  ((v3 = (σ 20 0) →
  Q (-1 : Int32) σ) ∧ (¬ v3 = (σ 20 0) →
  vp_in v3 9000 ∧
  Q (σ 17 v3.toNatClampNeg) σ))
def F_Mo_change_L48 (v2 : Int32) (v3 : Int32) (v4 : Int32) (σ : St) (Q : Int32 → St → Prop) : Prop :=
  ∃ (I48 : Int32 → St → Prop) (m48 : Int32 → St → Nat), I48 v3 σ ∧ ∀ (v3 : Int32) (σ : St) (n48 : Nat), I48 v3 σ → m48 v3 σ = n48 →
  (((σ 20 0) ≤ v3 →
  F_Mo_change_J78 v3 σ Q) ∧ (¬ (σ 20 0) ≤ v3 →
  vp_in (((8 : Int32) * v3) + v2) 72000 ∧
  (((σ 18 (((8 : Int32) * v3) + v2).toNatClampNeg) = v4 →
  ∀ z1 : Int32, z1 = v3 + (1 : Int32) →
  I48 z1 σ ∧ m48 z1 σ < n48) ∧ (¬ (σ 18 (((8 : Int32) * v3) + v2).toNatClampNeg) = v4 →
  F_Mo_change_J78 v3 σ Q))))
def F_Mo_change (x1 : Int32) (x2 : Int32) (σ : St) (Q : Int32 → St → Prop) : Prop :=
  ∀ σ2 : St, σ2 = sA σ 19 (fun _ => (0 : Int32)) →
  F_Mo_out x1 σ2 (fun r4 σ3 =>
  ((r4 = 0 →
  ((x2 < 0 →
  F_Mo_fail (1 : Int32) σ3 (fun r8 σ7 =>
  Q r8 σ7)) ∧ (¬ x2 < 0 →
  ((x2 ≤ (7 : Int32) →
  F_Mo_at x1 σ3 (fun r10 σ9 =>
  vp_in (((8 : Int32) * r10) + x2) 72000 ∧
  ∀ z11 : Int32, z11 = (σ9 18 (((8 : Int32) * r10) + x2).toNatClampNeg) →
  F_Mo_change_L48 x2 r10 z11 σ9 Q)) ∧ (¬ x2 ≤ (7 : Int32) →
  F_Mo_fail (1 : Int32) σ3 (fun r13 σ12 =>
  Q r13 σ12)))))) ∧ (¬ r4 = 0 →
  F_Mo_fail (1 : Int32) σ3 (fun r6 σ5 =>
  Q r6 σ5))))
def F_Mo_alike_L37 (v1 : Int32) (v2 : Int32) (v3 : Int32) (σ : St) (Q : Int32 → St → Prop) : Prop :=
  ∃ (I37 : Int32 → St → Prop) (m37 : Int32 → St → Nat), I37 v3 σ ∧ ∀ (v3 : Int32) (σ : St) (n37 : Nat), I37 v3 σ → m37 v3 σ = n37 →
  (((8 : Int32) ≤ v3 →
  Q (1 : Int32) σ) ∧ (¬ (8 : Int32) ≤ v3 →
  F_Mo_at v1 σ (fun r2 σ1 =>
  vp_in (((8 : Int32) * r2) + v3) 72000 ∧
  F_Mo_at v2 σ1 (fun r4 σ3 =>
  vp_in (((8 : Int32) * r4) + v3) 72000 ∧
  (((σ1 18 (((8 : Int32) * r2) + v3).toNatClampNeg) = (σ3 18 (((8 : Int32) * r4) + v3).toNatClampNeg) →
  ∀ z5 : Int32, z5 = v3 + (1 : Int32) →
  I37 z5 σ3 ∧ m37 z5 σ3 < n37) ∧ (¬ (σ1 18 (((8 : Int32) * r2) + v3).toNatClampNeg) = (σ3 18 (((8 : Int32) * r4) + v3).toNatClampNeg) →
  Q (0 : Int32) σ3))))))
def F_Mo_alike_J21 (σ : St) (Q : Int32 → St → Prop) : Prop :=
  F_Mo_fail (1 : Int32) σ (fun r7 σ6 =>
  ((r7 ≤ 0 →
  Q (0 : Int32) σ6) ∧ (¬ r7 ≤ 0 →
  Q (1 : Int32) σ6)))
def F_Mo_alike (x1 : Int32) (x2 : Int32) (σ : St) (Q : Int32 → St → Prop) : Prop :=
  ∀ σ8 : St, σ8 = sA σ 19 (fun _ => (0 : Int32)) →
  F_Mo_out x1 σ8 (fun r10 σ9 =>
  ((r10 = 0 →
  F_Mo_out x2 σ9 (fun r12 σ11 =>
  ((r12 = 0 →
  ∀ z13 : Int32, z13 = (0 : Int32) →
  F_Mo_alike_L37 x1 x2 z13 σ11 Q) ∧ (¬ r12 = 0 →
  F_Mo_alike_J21  σ11 Q)))) ∧ (¬ r10 = 0 →
  F_Mo_alike_J21  σ9 Q)))
def F_Mo_hash_L57 (v2 : Int32) (v3 : Int32) (v4 : Int32) (v5 : Int32) (σ : St) (Q : Int32 → St → Prop) : Prop :=
  ∃ (I57 : Int32 → Int32 → St → Prop) (m57 : Int32 → Int32 → St → Nat), I57 v4 v5 σ ∧ ∀ (v4 v5 : Int32) (σ : St) (n57 : Nat), I57 v4 v5 σ → m57 v4 v5 σ = n57 →
  ((v2 < v5 →
  Q v4 σ) ∧ (¬ v2 < v5 →
  F_Mo_at v5 σ (fun r2 σ1 =>
  vp_in (((8 : Int32) * r2) + v3) 72000 ∧
  ∀ z3 : Int32, z3 = (((31 : Int32) * v4) + (σ1 18 (((8 : Int32) * r2) + v3).toNatClampNeg)) →
  ∀ z4 : Int32, z4 = v5 + (1 : Int32) →
  I57 z3 z4 σ1 ∧ m57 z3 z4 σ1 < n57)))
def F_Mo_hash (x1 : Int32) (x2 : Int32) (x3 : Int32) (σ : St) (Q : Int32 → St → Prop) : Prop :=
  ∀ σ5 : St, σ5 = sA σ 19 (fun _ => (0 : Int32)) →
  F_Mo_out x1 σ5 (fun r7 σ6 =>
  ((r7 = 0 →
  F_Mo_out x2 σ6 (fun r11 σ10 =>
  ((r11 = 0 →
  ((x2 < x1 →
  F_Mo_fail (1 : Int32) σ10 (fun r15 σ14 =>
  Q r15 σ14)) ∧ (¬ x2 < x1 →
  (((3999 : Int32) < (x2 - x1) →
  F_Mo_fail (1 : Int32) σ10 (fun r17 σ16 =>
  Q r17 σ16)) ∧ (¬ (3999 : Int32) < (x2 - x1) →
  ((x3 < 0 →
  F_Mo_fail (1 : Int32) σ10 (fun r19 σ18 =>
  Q r19 σ18)) ∧ (¬ x3 < 0 →
  ((x3 ≤ (7 : Int32) →
  ∀ z20 : Int32, z20 = (1 : Int32) →
  F_Mo_hash_L57 x2 x3 z20 x1 σ10 Q) ∧ (¬ x3 ≤ (7 : Int32) →
  F_Mo_fail (1 : Int32) σ10 (fun r22 σ21 =>
  Q r22 σ21)))))))))) ∧ (¬ r11 = 0 →
  F_Mo_fail (1 : Int32) σ10 (fun r13 σ12 =>
  Q r13 σ12))))) ∧ (¬ r7 = 0 →
  F_Mo_fail (1 : Int32) σ6 (fun r9 σ8 =>
  Q r9 σ8))))
def F_Mo_clear_L80 (v1 : Int32) (v2 : Int32) (σ : St) (Q : Int32 → St → Prop) : Prop :=
  ∃ (I80 : Int32 → St → Prop) (m80 : Int32 → St → Nat), I80 v2 σ ∧ ∀ (v2 : Int32) (σ : St) (n80 : Nat), I80 v2 σ → m80 v2 σ = n80 →
  (((8 : Int32) ≤ v2 →
  Q v1 σ) ∧ (¬ (8 : Int32) ≤ v2 →
  vp_in v2 72000 ∧ ∀ σ1 : St, σ1 = sA σ 18 (upd (σ 18) v2.toNatClampNeg (0 : Int32)) →
  ∀ z2 : Int32, z2 = v2 + (1 : Int32) →
  I80 z2 σ1 ∧ m80 z2 σ1 < n80))
def F_Mo_clear_L21 (v1 : Int32) (v2 : Int32) (v3 : Int32) (v4 : Int32) (σ : St) (K9 : Int32 → Int32 → St → Prop) (Q : Int32 → St → Prop) : Prop :=
  ∃ (I21 : Int32 → Int32 → St → Prop) (m21 : Int32 → Int32 → St → Nat), I21 v3 v4 σ ∧ ∀ (v3 v4 : Int32) (σ : St) (n21 : Nat), I21 v3 v4 σ → m21 v3 v4 σ = n21 →
  (((8 : Int32) ≤ v4 →
  ((v3 = 0 →
  ∀ z3 : Int32, z3 = (v1 + (0 : Int32)) →
  ∀ z4 : Int32, z4 = v2 + (1 : Int32) →
  K9 z3 z4 σ) ∧ (¬ v3 = 0 →
  ∀ z5 : Int32, z5 = (v1 + (1 : Int32)) →
  ∀ z6 : Int32, z6 = v2 + (1 : Int32) →
  K9 z5 z6 σ))) ∧ (¬ (8 : Int32) ≤ v4 →
  F_Mo_at v2 σ (fun r8 σ7 =>
  vp_in (((8 : Int32) * r8) + v4) 72000 ∧
  (((σ7 18 (((8 : Int32) * r8) + v4).toNatClampNeg) = 0 →
  ∀ z9 : Int32, z9 = v4 + (1 : Int32) →
  I21 v3 z9 σ7 ∧ m21 v3 z9 σ7 < n21) ∧ (¬ (σ7 18 (((8 : Int32) * r8) + v4).toNatClampNeg) = 0 →
  ∀ z10 : Int32, z10 = (1 : Int32) →
  ∀ z11 : Int32, z11 = v4 + (1 : Int32) →
  I21 z10 z11 σ7 ∧ m21 z10 z11 σ7 < n21)))))
def F_Mo_clear_L9 (v1 : Int32) (v2 : Int32) (σ : St) (Q : Int32 → St → Prop) : Prop :=
  ∃ (I9 : Int32 → Int32 → St → Prop) (m9 : Int32 → Int32 → St → Nat), I9 v1 v2 σ ∧ ∀ (v1 v2 : Int32) (σ : St) (n9 : Nat), I9 v1 v2 σ → m9 v1 v2 σ = n9 →
  (((1024 : Int32) ≤ v2 →
  ∀ σ12 : St, σ12 = sA σ 20 (fun _ => (1 : Int32)) →
  ∀ z13 : Int32, z13 = (0 : Int32) →
  F_Mo_clear_L80 v1 z13 σ12 Q) ∧ (¬ (1024 : Int32) ≤ v2 →
  ∀ z14 : Int32, z14 = (0 : Int32) →
  ∀ z15 : Int32, z15 = (0 : Int32) →
  F_Mo_clear_L21 v1 v2 z14 z15 σ (fun b1 b2 τ => I9 b1 b2 τ ∧ m9 b1 b2 τ < n9) Q))
def F_Mo_clear (σ : St) (Q : Int32 → St → Prop) : Prop :=
  ∀ σ16 : St, σ16 = sA σ 19 (fun _ => (0 : Int32)) →
  ∀ z17 : Int32, z17 = (0 : Int32) →
  ∀ z18 : Int32, z18 = (0 : Int32) →
  F_Mo_clear_L9 z17 z18 σ16 Q
end
section
/-- sums -/
def sm (f : Nat → Nat) : Nat → Nat
  | 0 => 0
  | n + 1 => sm f n + f n
theorem sm_s (f : Nat → Nat) (n : Nat) : sm f (n + 1) = sm f n + f n := rfl
theorem sm_congr {f g : Nat → Nat} : ∀ {n : Nat}, (∀ i, i < n → f i = g i) → sm f n = sm g n
  | 0, _ => rfl
  | n + 1, h => by
    rw [sm_s, sm_s, sm_congr (n := n) (fun i hi => h i (by omega)), h n (by omega)]
theorem sm_le {f g : Nat → Nat} : ∀ {n : Nat}, (∀ i, i < n → f i ≤ g i) → sm f n ≤ sm g n
  | 0, _ => Nat.le_refl _
  | n + 1, h => by
    have h1 := sm_le (n := n) (fun i hi => h i (by omega))
    have h2 := h n (by omega)
    rw [sm_s, sm_s]
    omega
theorem sm_zero {f : Nat → Nat} : ∀ {n : Nat}, (∀ i, i < n → f i = 0) → sm f n = 0
  | 0, _ => rfl
  | n + 1, h => by rw [sm_s, sm_zero (n := n) (fun i hi => h i (by omega)), h n (by omega)]
theorem sm_const {f : Nat → Nat} {c : Nat} : ∀ {n : Nat}, (∀ i, i < n → f i = c) → sm f n = n * c
  | 0, _ => by rw [Nat.zero_mul]; rfl
  | n + 1, h => by rw [sm_s, sm_const (n := n) (fun i hi => h i (by omega)), h n (by omega), Nat.succ_mul]
theorem sm_one {f g : Nat → Nat} {k : Nat} : ∀ {n : Nat}, k < n → (∀ i, i < n → i ≠ k → f i = g i) → sm f n + g k = sm g n + f k
  | 0, hk, _ => absurd hk (Nat.not_lt_zero _)
  | n + 1, hk, h => by
    rw [sm_s, sm_s]
    by_cases e : k = n
    · subst e
      have h1 : sm f k = sm g k := sm_congr (fun i hi => h i (by omega) (by omega))
      omega
    · have h1 := sm_one (n := n) (by omega) (fun i hi hne => h i (by omega) hne)
      have h2 := h n (by omega) (fun q => e q.symm)
      omega
theorem sm_pos {f : Nat → Nat} : ∀ {n : Nat}, 0 < sm f n → ∃ i, i < n ∧ 0 < f i
  | 0, h => absurd h (Nat.lt_irrefl _)
  | n + 1, h => by
    rw [sm_s] at h
    by_cases e : 0 < f n
    · exact ⟨n, by omega, e⟩
    · obtain ⟨i, h1, h2⟩ := sm_pos (f := f) (n := n) (by omega)
      exact ⟨i, by omega, h2⟩
theorem sm_ge {f : Nat → Nat} {k : Nat} : ∀ {n : Nat}, k < n → f k ≤ sm f n
  | 0, h => absurd h (Nat.not_lt_zero _)
  | n + 1, h => by
    rw [sm_s]
    by_cases e : k = n
    · subst e; omega
    · have := sm_ge (n := n) (f := f) (k := k) (by omega)
      omega
theorem sm_two {f : Nat → Nat} {j k : Nat} (hjk : j ≠ k) : ∀ {n : Nat}, j < n → k < n → f j + f k ≤ sm f n
  | 0, h, _ => absurd h (Nat.not_lt_zero _)
  | n + 1, h, h' => by
    rw [sm_s]
    by_cases e : k = n
    · subst e
      have := sm_ge (n := k) (f := f) (k := j) (by omega)
      omega
    · by_cases e2 : j = n
      · subst e2
        have := sm_ge (n := j) (f := f) (k := k) (by omega)
        omega
      · have := sm_two (f := f) hjk (n := n) (by omega) (by omega)
        omega
/-- a stretch of m places, each c more -/
theorem sm_blk {g : Nat → Nat} {n b c : Nat} : ∀ (m : Nat) (f : Nat → Nat), b + m ≤ n → (∀ i, b ≤ i → i < b + m → f i = g i + c) → (∀ i, i < n → (i < b ∨ b + m ≤ i) → f i = g i) → sm f n = sm g n + m * c
  | 0, f, _, _, h2 => by rw [Nat.zero_mul, Nat.add_zero]; exact sm_congr (fun i hi => h2 i hi (by omega))
  | m + 1, f, hb, h1, h2 => by
    have e : sm (fun i => if i = b + m then g i else f i) n = sm g n + m * c := by
      refine sm_blk (g := g) (n := n) (b := b) (c := c) m _ (by omega) (fun i a1 a2 => ?_) (fun i a1 a2 => ?_)
      · rw [if_neg (by omega)]; exact h1 i a1 (by omega)
      · by_cases q : i = b + m
        · rw [if_pos q]
        · rw [if_neg q]; exact h2 i a1 (by omega)
    have h3 := sm_one (f := f) (g := fun i => if i = b + m then g i else f i) (k := b + m) (n := n) (by omega) (fun i _ hne => by rw [if_neg hne])
    rw [if_pos rfl, e] at h3
    have h4 := h1 (b + m) (by omega) (by omega)
    rw [Nat.succ_mul]
    omega
/-- as many different values as there are breaks, and one -/
theorem sm_dist (f : Nat → Nat) (R : Nat) : ∀ (N : Nat) (q : Nat → Bool), (∀ r, r < R → q r = true → ∃ p, p ≤ N ∧ f p = r) → sm (fun r => (q r).toNat) R ≤ 1 + sm (fun p => (f p != f (p + 1)).toNat) N
  | 0, q, h => by
    by_cases hR : f 0 < R
    · have h1 := sm_one (f := fun r => (q r).toNat) (g := fun _ => 0) (k := f 0) (n := R) hR (fun i hi hne => by
        cases e : q i with
        | false => rfl
        | true =>
          obtain ⟨p, hp, hf⟩ := h i hi e
          have : p = 0 := by omega
          subst this
          exact absurd hf.symm hne)
      have h2 : sm (fun _ => 0) R = 0 := sm_zero (fun _ _ => rfl)
      have h3 : (q (f 0)).toNat ≤ 1 := by cases q (f 0) <;> decide
      try dsimp only at h1
      omega
    · have h1 : sm (fun r => (q r).toNat) R = 0 := sm_zero (fun i hi => by
        cases e : q i with
        | false => rfl
        | true =>
          obtain ⟨p, hp, hf⟩ := h i hi e
          have : p = 0 := by omega
          subst this
          omega)
      omega
  | N + 1, q, h => by
    rw [sm_s]
    by_cases e : f N = f (N + 1)
    · have h1 := sm_dist f R N q (fun r hr hq => by
        obtain ⟨p, hp, hf⟩ := h r hr hq
        by_cases ep : p = N + 1
        · exact ⟨N, Nat.le_refl _, by rw [e, ← ep]; exact hf⟩
        · exact ⟨p, by omega, hf⟩)
      omega
    · have h1 := sm_dist f R N (fun r => q r && (r != f (N + 1))) (fun r hr hq => by
        simp only [Bool.and_eq_true, bne_iff_ne, ne_eq] at hq
        obtain ⟨p, hp, hf⟩ := h r hr hq.1
        by_cases ep : p = N + 1
        · subst ep; exact absurd hf.symm hq.2
        · exact ⟨p, by omega, hf⟩)
      have h2 : (f N != f (N + 1)).toNat = 1 := by rw [bne_iff_ne.mpr e]; rfl
      have h3 : sm (fun r => (q r).toNat) R ≤ sm (fun r => (q r && (r != f (N + 1))).toNat) R + 1 := by
        by_cases hR : f (N + 1) < R
        · have h4 := sm_one (f := fun r => (q r).toNat) (g := fun r => (q r && (r != f (N + 1))).toNat) (k := f (N + 1)) (n := R) hR (fun i _ hne => by
            show (q i).toNat = (q i && (i != f (N + 1))).toNat
            rw [bne_iff_ne.mpr hne, Bool.and_true])
          have h5 : (q (f (N + 1))).toNat ≤ 1 := by cases q (f (N + 1)) <;> decide
          try dsimp only at h4
          omega
        · have h4 : sm (fun r => (q r).toNat) R = sm (fun r => (q r && (r != f (N + 1))).toNat) R := sm_congr (fun i hi => by
            show (q i).toNat = (q i && (i != f (N + 1))).toNat
            rw [bne_iff_ne.mpr (show i ≠ f (N + 1) by omega), Bool.and_true])
          omega
      omega
/-- numbers -/
theorem nI_inj {a b : Nat} (ha : a < 2 ^ 31) (hb : b < 2 ^ 31) (h : nI a = nI b) : a = b := (nI_eq ha hb).mp h
theorem ng_toInt {n : Nat} (h : n < 2 ^ 31) : (-nI n).toInt = -(n : Int) := sb_negT h
theorem ng_lt {n : Nat} (h0 : 0 < n) (h : n < 2 ^ 31) : -nI n < 0 := by
  rw [Int32.lt_iff_toInt_lt, ng_toInt h, Int32.toInt_zero]
  omega
theorem ng_ng (x : Int32) : -(-x) = x := Int32.neg_neg
theorem ng_inj {a b : Nat} (ha : a < 2 ^ 31) (hb : b < 2 ^ 31) (h : -nI a = -nI b) : a = b := by
  have h1 : (-nI a).toInt = (-nI b).toInt := by rw [h]
  rw [ng_toInt ha, ng_toInt hb] at h1
  omega
theorem ng_ne {a b : Nat} (h0 : 0 < b) (ha : a < 2 ^ 31) (hb : b < 2 ^ 31) : nI a ≠ -nI b := by
  intro h
  have h1 : (nI a).toInt = (-nI b).toInt := by rw [h]
  rw [nI_toInt ha, ng_toInt hb] at h1
  omega
theorem ar_8 (r f : Nat) : nI r * (8 : Int32) + nI f = nI (8 * r + f) := by
  rw [show (8 : Int32) = nI 8 from rfl, pk_mul, nI_add, Nat.mul_comm]
theorem ar_80 (r : Nat) : nI r * (8 : Int32) = nI (8 * r) := by
  rw [show (8 : Int32) = nI 8 from rfl, pk_mul, Nat.mul_comm]
theorem ar_1 (n : Nat) : nI n + (1 : Int32) = nI (n + 1) := nI_1 n
theorem ar_m1 {n : Nat} (h : 0 < n) : nI n - (1 : Int32) = nI (n - 1) := by
  obtain ⟨k, rfl⟩ : ∃ k, n = k + 1 := ⟨n - 1, by omega⟩
  rw [nI_pred, Nat.add_sub_cancel]
theorem ne_m1 {n : Nat} (h : n < 2 ^ 31) : nI n ≠ (-1 : Int32) := by
  intro q
  have h1 := nI_toInt h
  rw [q] at h1
  have h2 : ((-1 : Int32)).toInt = -1 := by decide
  rw [h2] at h1
  omega
theorem cl {n : Nat} (h : n < 2 ^ 31) : (nI n).toNatClampNeg = n := nI_clamp h
/-- the number that a row of eight hashes to, before and behind the folding -/
def hc (v : Nat → Int32) (b : Nat) : Nat → Int32
  | 0 => 0
  | k + 1 => (31 : Int32) * hc v b k + v (b + k)
def mixed (h : Int32) : Int32 := (h ^^^ ((h.toUInt32 >>> ((20 : Int32).toUInt32 &&& Int32.toUInt32 31)).toInt32 ^^^ (h.toUInt32 >>> ((10 : Int32).toUInt32 &&& Int32.toUInt32 31)).toInt32)) &&& (1023 : Int32)
def chN (v : Nat → Int32) (b : Nat) : Nat := (mixed (hc v b 8)).toNatClampNeg
theorem chN_e (v : Nat → Int32) (b : Nat) : mixed (hc v b 8) = nI (chN v b) ∧ chN v b < 1024 := by
  obtain ⟨j, hj, e⟩ := pk_andE (hc v b 8 ^^^ (((hc v b 8).toUInt32 >>> ((20 : Int32).toUInt32 &&& Int32.toUInt32 31)).toInt32 ^^^ ((hc v b 8).toUInt32 >>> ((10 : Int32).toUInt32 &&& Int32.toUInt32 31)).toInt32)) (m := (1023 : Int32)) 10 (by decide)
  have e2 : mixed (hc v b 8) = nI j := e
  have e3 : chN v b = j := by
    unfold chN
    rw [e2, cl (by omega)]
  rw [e3]
  exact ⟨e2, hj⟩
theorem hc_congr {v v' : Nat → Int32} {b b' : Nat} : ∀ {k : Nat}, (∀ f, f < k → v (b + f) = v' (b' + f)) → hc v b k = hc v' b' k
  | 0, _ => rfl
  | k + 1, h => by
    show (31 : Int32) * hc v b k + v (b + k) = (31 : Int32) * hc v' b' k + v' (b' + k)
    rw [hc_congr (k := k) (fun f hf => h f (by omega)), h k (by omega)]
theorem chN_congr {v v' : Nat → Int32} {b b' : Nat} (h : ∀ f, f < 8 → v (b + f) = v' (b' + f)) : chN v b = chN v' b' := by
  unfold chN
  rw [hc_congr h]
theorem nd_len : ∀ (N : Nat) (l : List Nat), l.Nodup → (∀ x ∈ l, x < N) → l.length ≤ N
  | 0, l, _, h => by
    cases l with
    | nil => exact Nat.le_refl _
    | cons a t => exact absurd (h a List.mem_cons_self) (Nat.not_lt_zero _)
  | N + 1, l, hn, h => by
    by_cases e : N ∈ l
    · have h1 := nd_len N (l.erase N) (hn.erase N) (fun x hx => by
        have h2 := (hn.mem_erase_iff).mp hx
        have h3 := h x h2.2
        omega)
      rw [List.length_erase_of_mem e] at h1
      omega
    · have h1 := nd_len N l hn (fun x hx => by
        have h3 := h x hx
        have h4 : x ≠ N := fun q => e (q ▸ hx)
        omega)
      omega
/-- the chain that begins at x, by the numbers behind -/
def Lk (x : Int32) (b : Nat → Int32) : List Nat → Prop
  | [] => x = -1
  | r :: l => x = nI r ∧ Lk (b r) b l
theorem Lk_congr {b b' : Nat → Int32} : ∀ {l : List Nat} {x : Int32}, (∀ r ∈ l, b r = b' r) → Lk x b l → Lk x b' l
  | [], _, _, h => h
  | r :: l, x, he, h => by
    refine ⟨h.1, ?_⟩
    rw [← he r List.mem_cons_self]
    exact Lk_congr (fun q hq => he q (List.mem_cons_of_mem _ hq)) h.2
theorem Lk_upd {b : Nat → Int32} {l : List Nat} {x y : Int32} {p : Nat} (hp : p ∉ l) (h : Lk x b l) : Lk x (upd b p y) l :=
  Lk_congr (fun r hr => by
    unfold upd
    rw [if_neg (fun q : r = p => hp (by rw [← q]; exact hr))]) h
theorem Lk_cut {b : Nat → Int32} {p r : Nat} {l2 : List Nat} : ∀ {l1 : List Nat} {x : Int32}, (l1 ++ p :: r :: l2).Nodup → Lk x b (l1 ++ p :: r :: l2) → Lk x (upd b p (b r)) (l1 ++ p :: l2)
  | [], x, hn, h => by
    obtain ⟨h1, h2, h3⟩ := h
    refine ⟨h1, ?_⟩
    have e : upd b p (b r) p = b r := by unfold upd; rw [if_pos rfl]
    rw [e]
    have hp : p ∉ l2 := fun q => (List.nodup_cons.mp hn).1 (List.mem_cons_of_mem _ q)
    exact Lk_upd hp h3
  | a :: l1, x, hn, h => by
    have hn' := List.nodup_cons.mp hn
    refine ⟨h.1, ?_⟩
    have ha : a ≠ p := fun q => hn'.1 (by rw [q]; exact List.mem_append_right _ List.mem_cons_self)
    have e : upd b p (b r) a = b a := by unfold upd; rw [if_neg ha]
    rw [e]
    exact Lk_cut hn'.2 h.2
/-- the records: spare ones, chains, no two alike -/
def RI (σ : St) (lv : Nat → Bool) (L : Nat → List Nat) : Prop :=
  (∃ n, n ≤ 1028 ∧ σ 7 0 = nI n ∧ n + sm (fun r => (lv r).toNat) 1028 = 1028 ∧ (∀ i, i < n → ∃ r, r < 1028 ∧ σ 2 i = nI r ∧ lv r = false) ∧ ∀ i j, i < n → j < n → σ 2 i = σ 2 j → i = j) ∧
  (∀ c, c < 1024 → (L c).Nodup ∧ Lk (σ 3 c) (σ 4) (L c) ∧ ∀ r, r ∈ L c ↔ r < 1028 ∧ lv r = true ∧ chN (σ 0) (8 * r) = c) ∧
  ∀ r r', r < 1028 → r' < 1028 → lv r = true → lv r' = true → (∀ f, f < 8 → σ 0 (8 * r + f) = σ 0 (8 * r' + f)) → r = r'
theorem RI_congr {σ τ : St} {lv : Nat → Bool} {L : Nat → List Nat} (h0 : τ 0 = σ 0) (h2 : τ 2 = σ 2) (h3 : τ 3 = σ 3) (h4 : τ 4 = σ 4) (h7 : τ 7 = σ 7) (h : RI σ lv L) : RI τ lv L := by
  unfold RI
  rw [h0, h2, h3, h4, h7]
  exact h
theorem s_chainOf_values {σ : St} {Q : Int32 → St → Prop} {b : Nat} (hb : b + 8 ≤ 8224) (hQ : Q (nI (chN (σ 0) b)) σ) : F_Rc_chainOf_values (nI b) σ Q := by
  unfold F_Rc_chainOf_values
  intro z4 hz4
  unfold F_Rc_chainOf_values_L4
  refine ⟨fun v2 v3 τ => τ = σ ∧ ∃ k, k ≤ 8 ∧ v3 = nI (b + k) ∧ v2 = hc (σ 0) b k, fun _ v3 _ => b + 8 - v3.toNatClampNeg, ⟨rfl, 0, by omega, rfl, hz4⟩, ?_⟩
  intro v2 v3 τ n hI hm
  dsimp only at hm ⊢
  obtain ⟨rfl, k, hk, rfl, rfl⟩ := hI
  have e8 : nI b + (8 : Int32) = nI (b + 8) := nI_add b 8
  rw [cl (by omega)] at hm
  refine ⟨fun hc1 => ?_, fun hc1 => ?_⟩
  · rw [e8, nI_leI (by omega) (by omega)] at hc1
    have hk8 : k = 8 := by omega
    subst hk8
    intro z1 hz1
    rw [hz1]
    have h1 := (chN_e (τ 0) b).1
    unfold mixed at h1
    rw [h1]
    exact hQ
  · rw [e8, nI_leI (by omega) (by omega)] at hc1
    refine ⟨vp_in_nI (by omega) (by decide), ?_⟩
    intro z2 hz2 z3 hz3
    rw [cl (by omega)] at hz2
    rw [ar_1] at hz3
    refine ⟨⟨rfl, k + 1, by omega, hz3, hz2⟩, ?_⟩
    rw [hz3, cl (by omega)]
    omega
theorem s_chainOf_wanted {σ : St} {Q : Int32 → St → Prop} (hQ : Q (nI (chN (σ 6) 0)) σ) : F_Rc_chainOf_wanted (0 : Int32) σ Q := by
  unfold F_Rc_chainOf_wanted
  intro z4 hz4
  unfold F_Rc_chainOf_wanted_L4
  refine ⟨fun v2 v3 τ => τ = σ ∧ ∃ k, k ≤ 8 ∧ v3 = nI k ∧ v2 = hc (σ 6) 0 k, fun _ v3 _ => 8 - v3.toNatClampNeg, ⟨rfl, 0, by omega, rfl, hz4⟩, ?_⟩
  intro v2 v3 τ n hI hm
  dsimp only at hm ⊢
  obtain ⟨rfl, k, hk, rfl, rfl⟩ := hI
  have e8 : (0 : Int32) + (8 : Int32) = nI 8 := by decide
  rw [cl (by omega)] at hm
  refine ⟨fun hc1 => ?_, fun hc1 => ?_⟩
  · rw [e8, nI_leI (by omega) (by omega)] at hc1
    have hk8 : k = 8 := by omega
    subst hk8
    intro z1 hz1
    rw [hz1]
    have h1 := (chN_e (τ 6) 0).1
    unfold mixed at h1
    rw [h1]
    exact hQ
  · rw [e8, nI_leI (by omega) (by omega)] at hc1
    refine ⟨vp_in_nI (by omega) (by decide), ?_⟩
    intro z2 hz2 z3 hz3
    rw [cl (by omega)] at hz2
    rw [ar_1] at hz3
    refine ⟨⟨rfl, k + 1, by omega, hz3, ?_⟩, ?_⟩
    · show z2 = (31 : Int32) * hc (τ 6) 0 k + τ 6 (0 + k)
      rw [Nat.zero_add]
      exact hz2
    · rw [hz3, cl (by omega)]
      omega
theorem s_value {σ : St} {Q : Int32 → St → Prop} {r f : Nat} (hr : r < 1028) (hf : f < 8) (hQ : Q (σ 0 (8 * r + f)) σ) : F_Rc_value (nI r) (nI f) σ Q := by
  unfold F_Rc_value
  rw [ar_8, cl (by omega)]
  exact ⟨vp_in_nI (by omega) (by decide), hQ⟩
theorem s_hold {σ : St} {Q : St → Prop} {r : Nat} {t : Int32} (hr : r < 1028) (hQ : Q (sA σ 1 (upd (σ 1) r (σ 1 r + t)))) : F_Rc_hold (nI r) t σ Q := by
  unfold F_Rc_hold
  rw [cl (by omega)]
  refine ⟨vp_in_nI hr (by decide), vp_in_nI hr (by decide), ?_⟩
  intro σ1 h1
  rw [h1]
  exact hQ
/-- the record r holds what is wanted -/
def eqw (σ : St) (r : Nat) : Prop := ∀ f, f < 8 → σ 0 (8 * r + f) = σ 6 f
theorem s_isWanted {σ : St} {Q : Int32 → St → Prop} {r : Nat} (hr : r < 1028) (h1 : eqw σ r → Q 1 σ) (h0 : ¬ eqw σ r → Q 0 σ) : F_Rc_isWanted (nI r) σ Q := by
  unfold F_Rc_isWanted
  intro z2 hz2
  unfold F_Rc_isWanted_L2
  refine ⟨fun v2 τ => τ = σ ∧ ∃ k, k ≤ 8 ∧ v2 = nI k ∧ ∀ f, f < k → σ 0 (8 * r + f) = σ 6 f, fun v2 _ => 8 - v2.toNatClampNeg, ⟨rfl, 0, by omega, hz2, fun f hf => absurd hf (Nat.not_lt_zero _)⟩, ?_⟩
  intro v2 τ n hI hm
  dsimp only at hm ⊢
  obtain ⟨rfl, k, hk, rfl, hall⟩ := hI
  have e8 : (8 : Int32) = nI 8 := rfl
  rw [cl (by omega)] at hm
  refine ⟨fun hc1 => ?_, fun hc1 => ?_⟩
  · rw [e8, nI_leI (by omega) (by omega)] at hc1
    have hk8 : k = 8 := by omega
    subst hk8
    exact h1 hall
  · rw [e8, nI_leI (by omega) (by omega)] at hc1
    rw [ar_8, cl (by omega), cl (by omega)]
    refine ⟨vp_in_nI (by omega) (by decide), vp_in_nI (by omega) (by decide), fun hc2 => ?_, fun hc2 => h0 (fun q => hc2 (q k (by omega)))⟩
    intro z1 hz1
    rw [ar_1] at hz1
    refine ⟨⟨rfl, k + 1, by omega, hz1, fun f hf => ?_⟩, ?_⟩
    · by_cases e : f = k
      · subst e; exact hc2
      · exact hall f (by omega)
    · rw [hz1, cl (by omega)]
      omega
theorem s_findWanted {σ : St} {lv : Nat → Bool} {L : Nat → List Nat} {Q : Int32 → St → Prop} {c : Nat} (hR : RI σ lv L) (hc0 : c < 1024) (h1 : ∀ r, r ∈ L c → eqw σ r → Q (nI r) σ) (h0 : (∀ r, r ∈ L c → ¬ eqw σ r) → Q (-1) σ) : F_Rc_findWanted (nI c) σ Q := by
  obtain ⟨hnd, hlk, hmem⟩ := hR.2.1 c hc0
  have hlen : (L c).length ≤ 1028 := nd_len 1028 (L c) hnd (fun x hx => ((hmem x).mp hx).1)
  unfold F_Rc_findWanted
  refine ⟨vp_in_nI hc0 (by decide), ?_⟩
  rw [cl (by omega)]
  intro z5 hz5 z6 hz6
  unfold F_Rc_findWanted_L9
  refine ⟨fun v2 v3 τ => τ = σ ∧ ∃ l1 l2, L c = l1 ++ l2 ∧ v3 = nI l1.length ∧ Lk v2 (σ 4) l2 ∧ ∀ r ∈ l1, ¬ eqw σ r, fun _ v3 _ => 1029 - v3.toNatClampNeg, ⟨rfl, [], L c, rfl, hz6, by rw [hz5]; exact hlk, fun r hr => absurd hr List.not_mem_nil⟩, ?_⟩
  intro v2 v3 τ n hI hm
  dsimp only at hm ⊢
  obtain ⟨rfl, l1, l2, hl, rfl, hk2, hno⟩ := hI
  have hll : l1.length + l2.length ≤ 1028 := by rw [hl, List.length_append] at hlen; exact hlen
  have e8 : (1028 : Int32) = nI 1028 := rfl
  rw [cl (by omega)] at hm
  have hend : l2 = [] → Q (-1) τ := fun e => h0 (fun r hr => by
    rw [hl, e, List.append_nil] at hr
    exact hno r hr)
  refine ⟨fun hc1 => ?_, fun hc1 => ?_⟩
  · rw [e8, nI_leI (by omega) (by omega)] at hc1
    exact hend (List.eq_nil_of_length_eq_zero (by omega))
  · rw [e8, nI_leI (by omega) (by omega)] at hc1
    cases l2 with
    | nil => exact ⟨fun _ => hend rfl, fun hc2 => absurd hk2 hc2⟩
    | cons r l2 =>
      obtain ⟨e2, hk3⟩ := hk2
      have hr : r ∈ L c := by rw [hl]; exact List.mem_append_right _ List.mem_cons_self
      have hr8 : r < 1028 := ((hmem r).mp hr).1
      subst e2
      refine ⟨fun hc2 => absurd hc2 (ne_m1 (by omega)), fun _ => ?_⟩
      refine s_isWanted hr8 (fun hq => ⟨fun h => absurd h (by decide), fun _ => h1 r hr hq⟩) (fun hq => ⟨fun _ => ⟨vp_in_nI hr8 (by decide), ?_⟩, fun h => absurd rfl h⟩)
      intro z3 hz3 z4 hz4
      rw [cl (by omega)] at hz3
      rw [ar_1] at hz4
      refine ⟨⟨rfl, l1 ++ [r], l2, by rw [hl, List.append_assoc]; rfl, by rw [hz4, List.length_append]; rfl, by rw [hz3]; exact hk3, fun x hx => ?_⟩, ?_⟩
      · rcases List.mem_append.mp hx with h | h
        · exact hno x h
        · rw [List.mem_singleton.mp h]; exact hq
      · rw [hz4, cl (by omega)]
        omega
theorem s_fill_heads {σ : St} {Q : St → Prop} {x : Int32} (hQ : ∀ τ : St, (∀ j, j ≠ 3 → τ j = σ j) → (∀ i, i < 1024 → τ 3 i = x) → Q τ) : F_Ar_fill2_heads x σ Q := by
  unfold F_Ar_fill2_heads
  intro z3 hz3 z4 hz4
  unfold F_Ar_fill2_heads_L5
  refine ⟨fun v2 τ => (∀ j, j ≠ 3 → τ j = σ j) ∧ ∃ i, i ≤ 1024 ∧ v2 = nI i ∧ ∀ q, q < i → τ 3 q = x, fun v2 _ => 1024 - v2.toNatClampNeg, ⟨fun _ _ => rfl, 0, by omega, hz3, fun q hq => absurd hq (Nat.not_lt_zero _)⟩, ?_⟩
  intro v2 τ n5 hI hm
  dsimp only at hm ⊢
  obtain ⟨hfr, i, hi, rfl, hall⟩ := hI
  rw [cl (by omega)] at hm
  have e8 : z4 = nI 1024 := hz4
  refine ⟨fun hc1 => ?_, fun hc1 => ?_⟩
  · rw [e8, nI_leI (by omega) (by omega)] at hc1
    exact hQ τ hfr (fun q hq => hall q (by omega))
  · rw [e8, nI_leI (by omega) (by omega)] at hc1
    refine ⟨vp_in_nI (by omega) (by decide), ?_⟩
    intro σ1 h1 z2 hz2
    rw [cl (by omega)] at h1
    rw [ar_1] at hz2
    refine ⟨⟨fun j hj => by rw [h1, sA_n hj]; exact hfr j hj, i + 1, by omega, hz2, fun q hq => ?_⟩, ?_⟩
    · rw [h1, sA_s]
      unfold upd
      by_cases e : q = i
      · rw [if_pos e]
      · rw [if_neg e]
        exact hall q (by omega)
    · rw [hz2, cl (by omega)]
      omega
theorem s_fill_holders {σ : St} {Q : St → Prop} {x : Int32} (hQ : ∀ τ : St, (∀ j, j ≠ 1 → τ j = σ j) → (∀ i, i < 1028 → τ 1 i = x) → Q τ) : F_Ar_fill2_holders x σ Q := by
  unfold F_Ar_fill2_holders
  intro z3 hz3 z4 hz4
  unfold F_Ar_fill2_holders_L5
  refine ⟨fun v2 τ => (∀ j, j ≠ 1 → τ j = σ j) ∧ ∃ i, i ≤ 1028 ∧ v2 = nI i ∧ ∀ q, q < i → τ 1 q = x, fun v2 _ => 1028 - v2.toNatClampNeg, ⟨fun _ _ => rfl, 0, by omega, hz3, fun q hq => absurd hq (Nat.not_lt_zero _)⟩, ?_⟩
  intro v2 τ n5 hI hm
  dsimp only at hm ⊢
  obtain ⟨hfr, i, hi, rfl, hall⟩ := hI
  rw [cl (by omega)] at hm
  have e8 : z4 = nI 1028 := hz4
  refine ⟨fun hc1 => ?_, fun hc1 => ?_⟩
  · rw [e8, nI_leI (by omega) (by omega)] at hc1
    exact hQ τ hfr (fun q hq => hall q (by omega))
  · rw [e8, nI_leI (by omega) (by omega)] at hc1
    refine ⟨vp_in_nI (by omega) (by decide), ?_⟩
    intro σ1 h1 z2 hz2
    rw [cl (by omega)] at h1
    rw [ar_1] at hz2
    refine ⟨⟨fun j hj => by rw [h1, sA_n hj]; exact hfr j hj, i + 1, by omega, hz2, fun q hq => ?_⟩, ?_⟩
    · rw [h1, sA_s]
      unfold upd
      by_cases e : q = i
      · rw [if_pos e]
      · rw [if_neg e]
        exact hall q (by omega)
    · rw [hz2, cl (by omega)]
      omega
theorem s_fill_wanted {σ : St} {Q : St → Prop} {x : Int32} (hQ : ∀ τ : St, (∀ j, j ≠ 6 → τ j = σ j) → (∀ i, i < 8 → τ 6 i = x) → Q τ) : F_Ar_fill2_wanted x σ Q := by
  unfold F_Ar_fill2_wanted
  intro z3 hz3 z4 hz4
  unfold F_Ar_fill2_wanted_L5
  refine ⟨fun v2 τ => (∀ j, j ≠ 6 → τ j = σ j) ∧ ∃ i, i ≤ 8 ∧ v2 = nI i ∧ ∀ q, q < i → τ 6 q = x, fun v2 _ => 8 - v2.toNatClampNeg, ⟨fun _ _ => rfl, 0, by omega, hz3, fun q hq => absurd hq (Nat.not_lt_zero _)⟩, ?_⟩
  intro v2 τ n5 hI hm
  dsimp only at hm ⊢
  obtain ⟨hfr, i, hi, rfl, hall⟩ := hI
  rw [cl (by omega)] at hm
  have e8 : z4 = nI 8 := hz4
  refine ⟨fun hc1 => ?_, fun hc1 => ?_⟩
  · rw [e8, nI_leI (by omega) (by omega)] at hc1
    exact hQ τ hfr (fun q hq => hall q (by omega))
  · rw [e8, nI_leI (by omega) (by omega)] at hc1
    refine ⟨vp_in_nI (by omega) (by decide), ?_⟩
    intro σ1 h1 z2 hz2
    rw [cl (by omega)] at h1
    rw [ar_1] at hz2
    refine ⟨⟨fun j hj => by rw [h1, sA_n hj]; exact hfr j hj, i + 1, by omega, hz2, fun q hq => ?_⟩, ?_⟩
    · rw [h1, sA_s]
      unfold upd
      by_cases e : q = i
      · rw [if_pos e]
      · rw [if_neg e]
        exact hall q (by omega)
    · rw [hz2, cl (by omega)]
      omega
theorem s_fill_outcome {σ : St} {Q : St → Prop} {x : Int32} (hQ : ∀ τ : St, (∀ j, j ≠ 5 → τ j = σ j) → (∀ i, i < 1028 → τ 5 i = x) → Q τ) : F_Ar_fill2_outcome x σ Q := by
  unfold F_Ar_fill2_outcome
  intro z3 hz3 z4 hz4
  unfold F_Ar_fill2_outcome_L5
  refine ⟨fun v2 τ => (∀ j, j ≠ 5 → τ j = σ j) ∧ ∃ i, i ≤ 1028 ∧ v2 = nI i ∧ ∀ q, q < i → τ 5 q = x, fun v2 _ => 1028 - v2.toNatClampNeg, ⟨fun _ _ => rfl, 0, by omega, hz3, fun q hq => absurd hq (Nat.not_lt_zero _)⟩, ?_⟩
  intro v2 τ n5 hI hm
  dsimp only at hm ⊢
  obtain ⟨hfr, i, hi, rfl, hall⟩ := hI
  rw [cl (by omega)] at hm
  have e8 : z4 = nI 1028 := hz4
  refine ⟨fun hc1 => ?_, fun hc1 => ?_⟩
  · rw [e8, nI_leI (by omega) (by omega)] at hc1
    exact hQ τ hfr (fun q hq => hall q (by omega))
  · rw [e8, nI_leI (by omega) (by omega)] at hc1
    refine ⟨vp_in_nI (by omega) (by decide), ?_⟩
    intro σ1 h1 z2 hz2
    rw [cl (by omega)] at h1
    rw [ar_1] at hz2
    refine ⟨⟨fun j hj => by rw [h1, sA_n hj]; exact hfr j hj, i + 1, by omega, hz2, fun q hq => ?_⟩, ?_⟩
    · rw [h1, sA_s]
      unfold upd
      by_cases e : q = i
      · rw [if_pos e]
      · rw [if_neg e]
        exact hall q (by omega)
    · rw [hz2, cl (by omega)]
      omega
theorem s_fill4 {σ : St} {Q : St → Prop} {x : Int32} {b e : Nat} (hbe : b ≤ e) (he : e ≤ 66624) (hQ : ∀ τ : St, (∀ j, j ≠ 11 → τ j = σ j) → (∀ i, τ 11 i = if b ≤ i ∧ i < e then x else σ 11 i) → Q τ) : F_Ar_fill4_cells (nI b) (nI e) x σ Q := by
  unfold F_Ar_fill4_cells F_Ar_rangeCheck
  refine ⟨fun _ => ⟨fun _ => ⟨fun _ => ?_, fun h => h ((nI_leI (b := 66624) (by omega) (by omega)).mpr he)⟩, fun h => h (nI_pos' (by omega))⟩, fun h => h ((nI_leI (by omega) (by omega)).mpr hbe)⟩
  unfold F_Ar_fill4_cells_L10
  refine ⟨fun v4 τ => (∀ j, j ≠ 11 → τ j = σ j) ∧ ∃ i, b ≤ i ∧ i ≤ e ∧ v4 = nI i ∧ ∀ q, τ 11 q = if b ≤ q ∧ q < i then x else σ 11 q, fun v4 _ => e - v4.toNatClampNeg, ⟨fun _ _ => rfl, b, by omega, by omega, rfl, fun q => by rw [if_neg (by omega)]⟩, ?_⟩
  intro v4 τ n10 hI hm
  dsimp only at hm ⊢
  obtain ⟨hfr, i, hb, hi, rfl, hall⟩ := hI
  rw [cl (by omega)] at hm
  refine ⟨fun hc1 => ?_, fun hc1 => ?_⟩
  · rw [nI_leI (by omega) (by omega)] at hc1
    have hie : i = e := by omega
    subst hie
    exact hQ τ hfr hall
  · rw [nI_leI (by omega) (by omega)] at hc1
    refine ⟨vp_in_nI (by omega) (by decide), ?_⟩
    intro σ1 h1 z2 hz2
    rw [cl (by omega)] at h1
    rw [ar_1] at hz2
    refine ⟨⟨fun j hj => by rw [h1, sA_n hj]; exact hfr j hj, i + 1, by omega, by omega, hz2, fun q => ?_⟩, ?_⟩
    · rw [h1, sA_s]
      unfold upd
      by_cases e1 : q = i
      · rw [if_pos e1, if_pos (by omega)]
      · rw [if_neg e1, hall q]
        by_cases e2 : b ≤ q ∧ q < i
        · rw [if_pos e2, if_pos (by omega)]
        · rw [if_neg e2, if_neg (by omega)]
    · rw [hz2, cl (by omega)]
      omega
theorem bt_nat (b : Bool) : b.toNat = 0 ∨ b.toNat = 1 := by cases b <;> simp
theorem s_keepWanted {σ : St} {lv : Nat → Bool} {L : Nat → List Nat} {Q : Int32 → St → Prop} {c : Nat} (hR : RI σ lv L) (hc0 : c < 1024) (hc : c = chN (σ 6) 0) (hroom : sm (fun r => (lv r).toNat) 1028 < 1028)
    (hnew : ∀ r, r < 1028 → lv r = true → ¬ eqw σ r)
    (hQ : ∀ (r : Nat) (τ : St), r < 1028 → lv r = false → (∀ n, σ 7 0 = nI (n + 1) → n < 1028 → σ 2 n = nI r) → RI τ (fun x => lv x || x == r) (fun d => if d = c then r :: L c else L d) → (∀ j, j ≠ 0 → j ≠ 3 → j ≠ 4 → j ≠ 7 → τ j = σ j) →
      (∀ r' f, r' ≠ r → f < 8 → τ 0 (8 * r' + f) = σ 0 (8 * r' + f)) → eqw τ r → Q (nI r) τ) : F_Rc_keepWanted (nI c) σ Q := by
  obtain ⟨⟨n, hn, e7, hcount, hsp, hinj⟩, hch, hdf⟩ := hR
  have hn0 : 0 < n := by omega
  obtain ⟨r, hr, e2, hlr⟩ := hsp (n - 1) (by omega)
  unfold F_Rc_keepWanted
  intro σ1 h1
  have e17 : σ1 7 0 = nI (n - 1) := by rw [h1, sA_s, e7, ar_m1 hn0]
  have e12 : σ1 2 = σ 2 := by rw [h1, sA_n (by decide)]
  have e13 : σ1 3 = σ 3 := by rw [h1, sA_n (by decide)]
  have e14 : σ1 4 = σ 4 := by rw [h1, sA_n (by decide)]
  have e10 : σ1 0 = σ 0 := by rw [h1, sA_n (by decide)]
  have e16 : σ1 6 = σ 6 := by rw [h1, sA_n (by decide)]
  rw [e17, cl (by omega), e12, e2]
  refine ⟨vp_in_nI (by omega) (by decide), ?_⟩
  intro z2 hz2
  subst hz2
  rw [ar_80, cl (by omega)]
  refine ⟨by decide, nI_pos (by omega), by decide, by decide, ?_, ?_⟩
  · show 8 * r + 8 ≤ 8224
    omega
  intro σ3 h3
  have h3 : σ3 = sA σ1 0 (va_cpy (σ 6) (σ 0) 0 (8 * r) 8) := by rw [h3, e16, e10]; rfl
  have e30 : ∀ i, σ3 0 i = if 8 * r ≤ i ∧ i < 8 * r + 8 then σ 6 (0 + (i - 8 * r)) else σ 0 i := fun i => by rw [h3, sA_s]; rfl
  have e33 : σ3 3 = σ 3 := by rw [h3, sA_n (by decide), e13]
  have e34 : σ3 4 = σ 4 := by rw [h3, sA_n (by decide), e14]
  refine ⟨vp_in_nI hc0 (by decide), vp_in_nI hr (by decide), ?_⟩
  intro σ4 h4
  rw [cl (by omega), cl (by omega), e33, e34] at h4
  refine ⟨vp_in_nI hc0 (by decide), ?_⟩
  intro σ5 h5
  have e43 : σ4 3 = σ 3 := by rw [h4, sA_n (by decide), e33]
  rw [cl (by omega), e43] at h5
  have f0 : σ5 0 = σ3 0 := by rw [h5, sA_n (by decide), h4, sA_n (by decide)]
  have f3 : σ5 3 = upd (σ 3) c (nI r) := by rw [h5, sA_s]
  have f4 : σ5 4 = upd (σ 4) r (σ 3 c) := by rw [h5, sA_n (by decide), h4, sA_s]
  have fo : ∀ j, j ≠ 0 → j ≠ 3 → j ≠ 4 → j ≠ 7 → σ5 j = σ j := fun j a0 a3 a4 a7 => by
    rw [h5, sA_n a3, h4, sA_n a4, h3, sA_n a0, h1, sA_n a7]
  have f7 : σ5 7 0 = nI (n - 1) := by rw [h5, sA_n (by decide), h4, sA_n (by decide), h3, sA_n (by decide), e17]
  have gold : ∀ r' f, r' ≠ r → f < 8 → σ5 0 (8 * r' + f) = σ 0 (8 * r' + f) := fun r' f hne hf => by
    rw [f0, e30, if_neg (by omega)]
  have gnew : ∀ f, f < 8 → σ5 0 (8 * r + f) = σ 6 f := fun f hf => by
    rw [f0, e30, if_pos (by omega)]
    congr 1
    omega
  have chold : ∀ r', r' ≠ r → chN (σ5 0) (8 * r') = chN (σ 0) (8 * r') := fun r' hne => chN_congr (fun f hf => gold r' f hne hf)
  have chnew : chN (σ5 0) (8 * r) = c := by
    rw [hc]
    exact chN_congr (fun f hf => by rw [gnew f hf, Nat.zero_add])
  have hrL : ∀ d, d < 1024 → r ∉ L d := fun d hd hm => by
    have := ((hch d hd).2.2 r).mp hm
    rw [hlr] at this
    exact absurd this.2.1 (by decide)
  refine hQ r σ5 hr hlr (fun k hk hk2 => ?_) ⟨⟨n - 1, by omega, f7, ?_, ?_, ?_⟩, ?_, ?_⟩ fo gold (fun f hf => by rw [gnew f hf, fo 6 (by decide) (by decide) (by decide) (by decide)])
  · rw [e7] at hk
    have : n = k + 1 := nI_inj (by omega) (by omega) hk
    rw [show k = n - 1 by omega]
    exact e2
  · show n - 1 + sm (fun x => (lv x || x == r).toNat) 1028 = 1028
    have h6 := sm_one (f := fun x => (lv x || x == r).toNat) (g := fun x => (lv x).toNat) (k := r) (n := 1028) hr (fun i _ hne => by
      show (lv i || i == r).toNat = (lv i).toNat
      rw [beq_eq_false_iff_ne.mpr hne, Bool.or_false])
    simp only [hlr, Bool.false_or, beq_self_eq_true, Bool.toNat_true, Bool.toNat_false] at h6
    omega
  · intro i hi
    obtain ⟨x, hx, ex, hlx⟩ := hsp i (by omega)
    refine ⟨x, hx, by rw [fo 2 (by decide) (by decide) (by decide) (by decide)]; exact ex, ?_⟩
    have hne : x ≠ r := fun q => by
      have := hinj i (n - 1) (by omega) (by omega) (by rw [ex, e2, q])
      omega
    show (lv x || x == r) = false
    rw [hlx, beq_eq_false_iff_ne.mpr hne]
    rfl
  · intro i j hi hj hij
    rw [fo 2 (by decide) (by decide) (by decide) (by decide)] at hij
    exact hinj i j (by omega) (by omega) hij
  · intro d hd
    obtain ⟨n1, n2, n3⟩ := hch d hd
    dsimp only
    by_cases ed : d = c
    · subst ed
      rw [if_pos rfl, f3, f4]
      refine ⟨List.nodup_cons.mpr ⟨hrL d hd, n1⟩, ⟨?_, ?_⟩, fun x => ?_⟩
      · unfold upd; rw [if_pos rfl]
      · rw [show upd (σ 4) r (σ 3 d) r = σ 3 d by unfold upd; rw [if_pos rfl]]
        exact Lk_upd (hrL d hd) n2
      · rw [List.mem_cons]
        by_cases ex : x = r
        · subst ex
          refine ⟨fun _ => ⟨hr, by simp, chnew⟩, fun _ => Or.inl rfl⟩
        · rw [chold x ex, n3 x]
          simp [ex]
    · rw [if_neg ed, f3, f4]
      refine ⟨n1, ?_, fun x => ?_⟩
      · rw [show upd (σ 3) c (nI r) d = σ 3 d by unfold upd; rw [if_neg ed]]
        exact Lk_upd (hrL d hd) n2
      · by_cases ex : x = r
        · subst ex
          refine ⟨fun h => absurd h (hrL d hd), fun h => absurd (h.2.2.symm.trans chnew) ed⟩
        · rw [chold x ex, n3 x]
          simp [ex]
  · intro x y hx hy lx ly he
    by_cases ex : x = r
    · by_cases ey : y = r
      · rw [ex, ey]
      · exfalso
        have hly : lv y = true := by simpa [ey] using ly
        exact hnew y hy hly (fun f hf => by rw [← gold y f ey hf, ← he f hf, ex, gnew f hf])
    · have hlx : lv x = true := by simpa [ex] using lx
      by_cases ey : y = r
      · exfalso
        exact hnew x hx hlx (fun f hf => by rw [← gold x f ex hf, he f hf, ey, gnew f hf])
      · have hly : lv y = true := by simpa [ey] using ly
        exact hdf x y hx hy hlx hly (fun f hf => by rw [← gold x f ex hf, ← gold y f ey hf]; exact he f hf)
theorem s_dropJ95 {σ τ : St} {lv : Nat → Bool} {L : Nat → List Nat} {Q : St → Prop} {r : Nat} (hR : RI σ lv L) (hr : r < 1028) (hlr : lv r = true) (hfr : ∀ j, j ≠ 3 → j ≠ 4 → τ j = σ j) (hlk : ∀ d, d < 1024 → Lk (τ 3 d) (τ 4) ((L d).erase r))
    (hQ : ∀ ρ : St, RI ρ (fun x => lv x && x != r) (fun d => (L d).erase r) → (∀ j, j ≠ 2 → j ≠ 3 → j ≠ 4 → j ≠ 7 → ρ j = σ j) → Q ρ) : F_Rc_drop_J95 (nI r) τ Q := by
  obtain ⟨⟨n, hn, e7, hcount, hsp, hinj⟩, hch, hdf⟩ := hR
  have h6 := sm_one (f := fun x => (lv x && x != r).toNat) (g := fun x => (lv x).toNat) (k := r) (n := 1028) hr (fun i _ hne => by
    show (lv i && i != r).toNat = (lv i).toNat
    rw [bne_iff_ne.mpr hne, Bool.and_true])
  simp only [hlr, bne_self_eq_false, Bool.and_false, Bool.toNat_true, Bool.toNat_false] at h6
  have hn1 : n < 1028 := by omega
  have t7 : τ 7 0 = nI n := by rw [hfr 7 (by decide) (by decide)]; exact e7
  have t2 : τ 2 = σ 2 := hfr 2 (by decide) (by decide)
  unfold F_Rc_drop_J95
  rw [t7, cl (by omega), t2]
  refine ⟨vp_in_nI hn1 (by decide), ?_⟩
  intro σ1 h1 σ2 h2
  have e17 : σ1 7 0 = nI n := by rw [h1, sA_n (by decide)]; exact t7
  rw [e17, ar_1] at h2
  have g2 : σ2 2 = upd (σ 2) n (nI r) := by rw [h2, sA_n (by decide), h1, sA_s]
  have g7 : σ2 7 0 = nI (n + 1) := by rw [h2, sA_s]
  have go : ∀ j, j ≠ 2 → j ≠ 7 → σ2 j = τ j := fun j a2 a7 => by rw [h2, sA_n a7, h1, sA_n a2]
  have g0 : σ2 0 = σ 0 := by rw [go 0 (by decide) (by decide), hfr 0 (by decide) (by decide)]
  refine hQ σ2 ⟨⟨n + 1, by omega, g7, (by show n + 1 + sm (fun x => (lv x && x != r).toNat) 1028 = 1028; omega), ?_, ?_⟩, ?_, ?_⟩ (fun j a2 a3 a4 a7 => by rw [go j a2 a7, hfr j a3 a4])
  · intro i hi
    rw [g2]
    unfold upd
    by_cases ei : i = n
    · rw [if_pos ei]
      exact ⟨r, hr, rfl, by simp⟩
    · rw [if_neg ei]
      obtain ⟨x, hx, ex, hlx⟩ := hsp i (by omega)
      exact ⟨x, hx, ex, by show (lv x && x != r) = false; rw [hlx]; rfl⟩
  · have hno : ∀ i, i < n → σ 2 i ≠ nI r := fun i hi q => by
      obtain ⟨x, hx, ex, hlx⟩ := hsp i hi
      have := nI_inj (by omega) (by omega) (ex.symm.trans q)
      rw [this, hlr] at hlx
      exact absurd hlx (by decide)
    intro i j hi hj hij
    rw [g2] at hij
    unfold upd at hij
    by_cases ei : i = n
    · by_cases ej : j = n
      · rw [ei, ej]
      · rw [if_pos ei, if_neg ej] at hij
        exact absurd hij.symm (hno j (by omega))
    · by_cases ej : j = n
      · rw [if_neg ei, if_pos ej] at hij
        exact absurd hij (hno i (by omega))
      · rw [if_neg ei, if_neg ej] at hij
        exact hinj i j (by omega) (by omega) hij
  · intro d hd
    obtain ⟨n1, n2, n3⟩ := hch d hd
    refine ⟨n1.erase r, ?_, fun x => ?_⟩
    · rw [go 3 (by decide) (by decide), go 4 (by decide) (by decide)]
      exact hlk d hd
    · rw [n1.mem_erase_iff, n3 x, g0]
      by_cases ex : x = r
      · subst ex; simp
      · simp [ex]
  · intro x y hx hy lx ly he
    rw [g0] at he
    simp only [Bool.and_eq_true] at lx ly
    exact hdf x y hx hy lx.1 ly.1 he
theorem s_drop {σ : St} {lv : Nat → Bool} {L : Nat → List Nat} {Q : St → Prop} {r : Nat} (hR : RI σ lv L) (hr : r < 1028) (hlr : lv r = true)
    (hQ : ∀ ρ : St, RI ρ (fun x => lv x && x != r) (fun d => (L d).erase r) → (∀ j, j ≠ 2 → j ≠ 3 → j ≠ 4 → j ≠ 7 → ρ j = σ j) → Q ρ) : F_Rc_drop (nI r) σ Q := by
  have hR0 := hR
  obtain ⟨-, hch, -⟩ := hR
  obtain ⟨c, hcd⟩ : ∃ c, c = chN (σ 0) (8 * r) := ⟨_, rfl⟩
  have hc0 : c < 1024 := by rw [hcd]; exact (chN_e (σ 0) (8 * r)).2
  obtain ⟨hnd, hlk, hmem⟩ := hch c hc0
  have hrc : r ∈ L c := (hmem r).mpr ⟨hr, hlr, hcd.symm⟩
  have hlen : (L c).length ≤ 1028 := nd_len 1028 (L c) hnd (fun x hx => ((hmem x).mp hx).1)
  have hoth : ∀ d, d < 1024 → d ≠ c → ∀ x, x ∈ L c → x ∉ L d := fun d hd hne x hx hx2 => by
    have h1 := ((hmem x).mp hx).2.2
    have h2 := ((hch d hd).2.2 x).mp hx2
    exact hne (h2.2.2.symm.trans h1)
  unfold F_Rc_drop
  rw [ar_80]
  refine s_chainOf_values (by omega) ?_
  rw [← hcd]
  intro z9 hz9
  refine ⟨vp_in_nI hc0 (by decide), ?_⟩
  rw [cl (by omega)]
  intro z10 hz10 z11 hz11
  -- the chain's end: the record is found
  have hJ : ∀ (l1 l2 : List Nat) (v3 : Int32), L c = l1 ++ r :: l2 → (l1 = [] ∧ v3 = -1 ∨ ∃ l0 p, l1 = l0 ++ [p] ∧ v3 = nI p) → F_Rc_drop_J63 (nI r) (nI c) v3 σ Q := by
    intro l1 l2 v3 hl h3
    have hnl : (l1 ++ r :: l2).Nodup := by rw [← hl]; exact hnd
    have hr1 : r ∉ l1 := fun h => by
      have := List.nodup_append.mp hnl
      exact this.2.2 r h r List.mem_cons_self rfl
    have her : (L c).erase r = l1 ++ l2 := by
      rw [hl, List.erase_append_right _ hr1, List.erase_cons_head]
    have hk : Lk (σ 3 c) (σ 4) (l1 ++ r :: l2) := by rw [← hl]; exact hlk
    unfold F_Rc_drop_J63
    rw [cl (by omega), cl (by omega)]
    rcases h3 with ⟨e1, e3⟩ | ⟨l0, p, e1, e3⟩
    · refine ⟨fun _ => ?_, fun h => absurd e3 h⟩
      subst e1
      refine ⟨vp_in_nI hr (by decide), vp_in_nI hc0 (by decide), ?_⟩
      intro σ4 h4
      refine s_dropJ95 hR0 hr hlr (fun j a3 _ => by rw [h4, sA_n a3]) (fun d hd => ?_) hQ
      have g3 : σ4 3 = upd (σ 3) c (σ 4 r) := by rw [h4, sA_s]
      have g4 : σ4 4 = σ 4 := by rw [h4, sA_n (by decide)]
      rw [g3, g4]
      unfold upd
      by_cases ed : d = c
      · subst ed
        rw [if_pos rfl, her]
        exact hk.2
      · rw [if_neg ed, List.erase_of_not_mem (hoth d hd ed r hrc)]
        exact (hch d hd).2.1
    · subst e1
      have hp : p ∈ L c := by rw [hl]; exact List.mem_append_left _ (List.mem_append_right _ List.mem_cons_self)
      have hp8 : p < 1028 := ((hmem p).mp hp).1
      refine ⟨fun h => absurd (e3.symm.trans h) (ne_m1 (by omega)), fun _ => ?_⟩
      subst e3
      rw [cl (by omega)]
      refine ⟨vp_in_nI hr (by decide), vp_in_nI hp8 (by decide), ?_⟩
      intro σ3 h3
      refine s_dropJ95 hR0 hr hlr (fun j _ a4 => by rw [h3, sA_n a4]) (fun d hd => ?_) hQ
      have g3 : σ3 3 = σ 3 := by rw [h3, sA_n (by decide)]
      have g4 : σ3 4 = upd (σ 4) p (σ 4 r) := by rw [h3, sA_s]
      rw [g3, g4]
      by_cases ed : d = c
      · subst ed
        rw [her]
        rw [List.append_assoc] at hnl hk ⊢
        exact Lk_cut hnl hk
      · rw [List.erase_of_not_mem (hoth d hd ed r hrc)]
        exact Lk_upd (hoth d hd ed p hp) (hch d hd).2.1
  unfold F_Rc_drop_L25
  refine ⟨fun v3 v4 v5 τ => τ = σ ∧ ∃ l1 l2, L c = l1 ++ l2 ∧ v5 = nI l1.length ∧ Lk v4 (σ 4) l2 ∧ r ∈ l2 ∧ (l1 = [] ∧ v3 = -1 ∨ ∃ l0 p, l1 = l0 ++ [p] ∧ v3 = nI p), fun _ _ v5 _ => 1029 - v5.toNatClampNeg, ⟨rfl, [], L c, rfl, hz11, by rw [hz10]; exact hlk, hrc, Or.inl ⟨rfl, hz9⟩⟩, ?_⟩
  intro v3 v4 v5 τ n25 hI hm
  dsimp only at hm ⊢
  obtain ⟨rfl, l1, l2, hl, rfl, hk2, hr2, h3⟩ := hI
  have hll : l1.length + l2.length ≤ 1028 := by rw [hl, List.length_append] at hlen; exact hlen
  have e8 : (1028 : Int32) = nI 1028 := rfl
  cases l2 with
  | nil => exact absurd hr2 List.not_mem_nil
  | cons x l2 =>
    rw [List.length_cons] at hll
    rw [cl (by omega)] at hm
    obtain ⟨e4, hk3⟩ := hk2
    have hx : x ∈ L c := by rw [hl]; exact List.mem_append_right _ List.mem_cons_self
    have hx8 : x < 1028 := ((hmem x).mp hx).1
    subst e4
    refine ⟨fun hc1 => ?_, fun _ => ⟨fun hc2 => absurd hc2 (ne_m1 (by omega)), fun _ => ⟨fun hc3 => ?_, fun hc3 => ?_⟩⟩⟩
    · rw [e8, nI_leI (by omega) (by omega)] at hc1
      omega
    · have : x = r := nI_inj (by omega) (by omega) hc3
      subst this
      exact hJ l1 l2 v3 hl h3
    · have hne : x ≠ r := fun q => hc3 (by rw [q])
      refine ⟨vp_in_nI hx8 (by decide), ?_⟩
      rw [cl (by omega)]
      intro z5 hz5 z6 hz6
      rw [ar_1] at hz6
      refine ⟨⟨rfl, l1 ++ [x], l2, by rw [hl, List.append_assoc]; rfl, by rw [hz6, List.length_append]; rfl, by rw [hz5]; exact hk3, ?_, Or.inr ⟨l1, x, rfl, rfl⟩⟩, ?_⟩
      · rcases List.mem_cons.mp hr2 with h | h
        · exact absurd h.symm hne
        · exact h
      · rw [hz6, cl (by omega)]
        omega
theorem s_release {σ : St} {Q : St → Prop} {r h : Nat} {lv : Nat → Bool} {L : Nat → List Nat} (t : Nat) (hR : RI σ lv L) (hr : r < 1028) (hlr : lv r = true) (eh : σ 1 r = nI h) (hh : h < 2 ^ 30) (ht : t ≤ h)
    (hQ0 : h = t → ∀ ρ : St, RI ρ (fun x => lv x && x != r) (fun d => (L d).erase r) → (∀ j, j ≠ 1 → j ≠ 2 → j ≠ 3 → j ≠ 4 → j ≠ 7 → ρ j = σ j) → ρ 1 = upd (σ 1) r (nI 0) → Q ρ)
    (hQ1 : h ≠ t → Q (sA σ 1 (upd (σ 1) r (nI (h - t))))) : F_Rc_release (nI r) (nI t) σ Q := by
  unfold F_Rc_release
  rw [cl (by omega)]
  refine ⟨vp_in_nI hr (by decide), vp_in_nI hr (by decide), ?_⟩
  intro σ1 h1
  rw [eh, pk_sub ht] at h1
  refine ⟨vp_in_nI hr (by decide), ?_⟩
  have e1 : σ1 1 r = nI (h - t) := by
    rw [h1, sA_s]
    unfold upd
    rw [if_pos rfl]
  rw [e1]
  refine ⟨fun hz => ?_, fun hz => ?_⟩
  · have hht : h = t := by
      have : h - t = 0 := nI_inj (b := 0) (by omega) (by omega) hz
      omega
    have hR1 : RI σ1 lv L := RI_congr (by rw [h1, sA_n (by decide)]) (by rw [h1, sA_n (by decide)]) (by rw [h1, sA_n (by decide)]) (by rw [h1, sA_n (by decide)]) (by rw [h1, sA_n (by decide)]) hR
    refine s_drop hR1 hr hlr (fun ρ hρ hfr => hQ0 hht ρ hρ (fun j a1 a2 a3 a4 a7 => by rw [hfr j a2 a3 a4 a7, h1, sA_n a1]) ?_)
    rw [hfr 1 (by decide) (by decide) (by decide) (by decide), h1, sA_s, hht, Nat.sub_self]
  · rw [h1]
    refine hQ1 (fun q => hz ?_)
    rw [q, Nat.sub_self]
    rfl
theorem s_begin {σ : St} {Q : St → Prop} {f v k : Int32} (hQ : ∀ τ : St, τ 8 0 = f → τ 9 0 = v → τ 10 0 = k → (∀ i, i < 1028 → τ 5 i = -1) → (∀ j, j ≠ 5 → j ≠ 8 → j ≠ 9 → j ≠ 10 → τ j = σ j) → Q τ) : F_Rc_begin f v k σ Q := by
  unfold F_Rc_begin
  intro σ1 h1 σ2 h2 σ3 h3
  refine s_fill_outcome (fun τ hfr hall => hQ τ ?_ ?_ ?_ hall ?_)
  · rw [hfr 8 (by decide), h3, sA_n (by decide), h2, sA_n (by decide), h1, sA_s]
  · rw [hfr 9 (by decide), h3, sA_n (by decide), h2, sA_s]
  · rw [hfr 10 (by decide), h3, sA_s]
  · intro j a5 a8 a9 a10
    rw [hfr j a5, h3, sA_n a10, h2, sA_n a9, h1, sA_n a8]
/-- what the change under way makes of the record r's field f -/
def nv (σ : St) (fl r f : Nat) : Int32 := if f = fl then (σ 0 (8 * r + f) &&& σ 10 0) ||| σ 9 0 else σ 0 (8 * r + f)
theorem s_altered {σ : St} {lv : Nat → Bool} {L : Nat → List Nat} {Q : Int32 → St → Prop} {r fl : Nat} (hR : RI σ lv L) (hr : r < 1028) (hfl : fl < 8) (efl : σ 8 0 = nI fl) (hroom : sm (fun x => (lv x).toNat) 1028 < 1028)
    (hmemo : σ 5 r = -1 ∨ ∃ o, o < 1028 ∧ lv o = true ∧ σ 5 r = nI o ∧ ∀ f, f < 8 → σ 0 (8 * o + f) = nv σ fl r f)
    (hQ : ∀ (o : Nat) (τ : St) (lv' : Nat → Bool) (L' : Nat → List Nat), o < 1028 → RI τ lv' L' → (lv o = true ∧ lv' = lv ∨ lv o = false ∧ lv' = fun x => lv x || x == o) → (∀ x f, (lv o = false → x ≠ o) → f < 8 → τ 0 (8 * x + f) = σ 0 (8 * x + f)) →
      (∀ f, f < 8 → τ 0 (8 * o + f) = nv σ fl r f) → (∀ i, τ 5 i = if i = r then nI o else σ 5 i) → (∀ j, j ≠ 0 → j ≠ 3 → j ≠ 4 → j ≠ 5 → j ≠ 6 → j ≠ 7 → τ j = σ j) → Q (nI o) τ) : F_Rc_altered (nI r) σ Q := by
  unfold F_Rc_altered
  rw [cl (by omega)]
  refine ⟨vp_in_nI hr (by decide), fun hm => ?_, fun hm => ?_⟩
  · rw [ar_80, cl (by omega)]
    refine ⟨nI_pos (by omega), by decide, by decide, ?_, by decide, ?_⟩
    · show 8 * r + 8 ≤ 8224
      omega
    intro σ2 h2
    have e26 : ∀ i, i < 8 → σ2 6 i = σ 0 (8 * r + i) := fun i hi => by
      rw [h2, sA_s]
      show (if 0 ≤ i ∧ i < 0 + 8 then σ 0 (8 * r + (i - 0)) else σ 6 i) = _
      rw [if_pos (by omega), Nat.sub_zero]
    have e28 : σ2 8 0 = nI fl := by rw [h2, sA_n (by decide)]; exact efl
    have e2k : σ2 10 0 = σ 10 0 := by rw [h2, sA_n (by decide)]
    have e2v : σ2 9 0 = σ 9 0 := by rw [h2, sA_n (by decide)]
    rw [e28, cl (by omega), e2k, e2v]
    refine ⟨vp_in_nI hfl (by decide), vp_in_nI hfl (by decide), ?_⟩
    intro σ3 h3
    have e36 : ∀ i, i < 8 → σ3 6 i = nv σ fl r i := fun i hi => by
      rw [h3, sA_s]
      unfold upd nv
      by_cases e : i = fl
      · rw [if_pos e, if_pos e, e26 fl hfl, e]
      · rw [if_neg e, if_neg e, e26 i hi]
    have e3o : ∀ j, j ≠ 6 → σ3 j = σ j := fun j a6 => by rw [h3, sA_n a6, h2, sA_n a6]
    have hR3 : RI σ3 lv L := RI_congr (e3o 0 (by decide)) (e3o 2 (by decide)) (e3o 3 (by decide)) (e3o 4 (by decide)) (e3o 7 (by decide)) hR
    refine s_chainOf_wanted ?_
    have hc0 : chN (σ3 6) 0 < 1024 := (chN_e (σ3 6) 0).2
    -- the end: the outcome is written down
    have hJ : ∀ (o : Nat) (τ : St) (lv' : Nat → Bool) (L' : Nat → List Nat), o < 1028 → RI τ lv' L' → (lv o = true ∧ lv' = lv ∨ lv o = false ∧ lv' = fun x => lv x || x == o) → (∀ x f, (lv o = false → x ≠ o) → f < 8 → τ 0 (8 * x + f) = σ 0 (8 * x + f)) →
        (∀ f, f < 8 → τ 0 (8 * o + f) = nv σ fl r f) → (∀ j, j ≠ 0 → j ≠ 3 → j ≠ 4 → j ≠ 6 → j ≠ 7 → τ j = σ j) → F_Rc_altered_J93 (nI r) (nI o) τ Q := by
      intro o τ lv' L' ho hRo hlo hold hnew hfr
      unfold F_Rc_altered_J93
      rw [cl (by omega)]
      refine ⟨vp_in_nI hr (by decide), ?_⟩
      intro σ1 h1
      refine ⟨vp_in_nI hr (by decide), ?_⟩
      have g5 : ∀ i, σ1 5 i = if i = r then nI o else σ 5 i := fun i => by
        rw [h1, sA_s]
        unfold upd
        rw [hfr 5 (by decide) (by decide) (by decide) (by decide) (by decide)]
      have go : ∀ j, j ≠ 5 → σ1 j = τ j := fun j a5 => by rw [h1, sA_n a5]
      rw [g5 r, if_pos rfl]
      refine hQ o σ1 lv' L' ho (RI_congr (go 0 (by decide)) (go 2 (by decide)) (go 3 (by decide)) (go 4 (by decide)) (go 7 (by decide)) hRo) hlo ?_ ?_ g5 ?_
      · intro x f hx hf
        rw [go 0 (by decide)]
        exact hold x f hx hf
      · intro f hf
        rw [go 0 (by decide)]
        exact hnew f hf
      · intro j a0 a3 a4 a5 a6 a7
        rw [go j a5, hfr j a0 a3 a4 a6 a7]
    refine s_findWanted hR3 hc0 (fun o ho hq => ?_) (fun hno => ?_)
    · obtain ⟨ho8, hlo, -⟩ := ((hR3.2.1 _ hc0).2.2 o).mp ho
      refine ⟨fun h => absurd h (ne_m1 (by omega)), fun _ => ?_⟩
      refine hJ o σ3 lv L ho8 hR3 (Or.inl ⟨hlo, rfl⟩) (fun x f _ _ => by rw [e3o 0 (by decide)]) (fun f hf => ?_) (fun j _ _ _ a6 _ => e3o j a6)
      rw [hq f hf, e36 f hf]
    · have hroom3 : ∃ n, 0 < n ∧ n ≤ 1028 ∧ σ3 7 0 = nI n := by
        obtain ⟨⟨n, hn, e7, hcount, -, -⟩, -, -⟩ := hR3
        exact ⟨n, by omega, hn, e7⟩
      obtain ⟨n, hn0, hn8, e7⟩ := hroom3
      refine ⟨fun _ => ⟨fun h => ?_, fun _ => ?_⟩, fun h => absurd rfl h⟩
      · rw [e7] at h
        exact absurd h (nI_nle hn0 (by omega))
      · have hnone : ∀ x, x < 1028 → lv x = true → ¬ eqw σ3 x := fun x hx hlx hq => by
          have hch : chN (σ3 0) (8 * x) = chN (σ3 6) 0 := chN_congr (fun f hf => by rw [hq f hf, Nat.zero_add])
          exact hno x (((hR3.2.1 _ hc0).2.2 x).mpr ⟨hx, hlx, hch⟩) hq
        refine s_keepWanted hR3 hc0 rfl hroom hnone (fun o τ ho hlo _ hRo hfr hold hnew => ?_)
        refine hJ o τ _ _ ho hRo (Or.inr ⟨hlo, rfl⟩) (fun x f hx hf => ?_) (fun f hf => ?_) (fun j a0 a3 a4 a6 a7 => ?_)
        · rw [hold x f (hx hlo) hf, e3o 0 (by decide)]
        · rw [hnew f hf, hfr 6 (by decide) (by decide) (by decide) (by decide), e36 f hf]
        · rw [hfr j a0 a3 a4 a7, e3o j a6]
  · rcases hmemo with h | ⟨o, ho, hlo, e5, hnew⟩
    · exact absurd h hm
    · refine ⟨vp_in_nI hr (by decide), ?_⟩
      rw [e5]
      refine hQ o σ lv L ho hR (Or.inl ⟨hlo, rfl⟩) (fun _ _ _ _ => rfl) hnew (fun i => ?_) (fun _ _ _ _ _ _ _ => rfl)
      by_cases e : i = r
      · rw [if_pos e, e, e5]
      · rw [if_neg e]
/-- all records spare but the first, which is of zeros and held once -/
theorem s_Rempty {σ : St} {Q : St → Prop} (hQ : ∀ τ : St, RI τ (fun x => x == 0) (fun d => if d = chN (fun _ => 0) 0 then [0] else []) → (∀ r, r < 1028 → τ 1 r = if r = 0 then 1 else 0) → (∀ f, f < 8 → τ 0 f = 0) → (∀ j, j ≠ 0 → j ≠ 1 → j ≠ 2 → j ≠ 3 → j ≠ 4 → j ≠ 6 → j ≠ 7 → τ j = σ j) → Q τ) : F_Rc_empty σ Q := by
  unfold F_Rc_empty
  refine s_fill_heads (fun σ10 f10 a10 => ?_)
  refine s_fill_holders (fun σ11 f11 a11 => ?_)
  intro z12 hz12
  unfold F_Rc_empty_L18
  refine ⟨fun v1 τ => (∀ j, j ≠ 2 → τ j = σ11 j) ∧ ∃ i, i ≤ 1028 ∧ v1 = nI i ∧ ∀ q, q < i → τ 2 q = nI (1027 - q), fun v1 _ => 1028 - v1.toNatClampNeg, ⟨fun _ _ => rfl, 0, by omega, hz12, fun q hq => absurd hq (Nat.not_lt_zero _)⟩, ?_⟩
  intro v1 τ n18 hI hm
  dsimp only at hm ⊢
  obtain ⟨hfr, i, hi, rfl, hall⟩ := hI
  rw [cl (by omega)] at hm
  have e8 : (1028 : Int32) = nI 1028 := rfl
  refine ⟨fun hc1 => ?_, fun hc1 => ?_⟩
  · rw [e8, nI_leI (by omega) (by omega)] at hc1
    have hi8 : i = 1028 := by omega
    subst hi8
    intro σ1 h1
    refine s_fill_wanted (fun σ2 f2 a2 => ?_)
    refine s_chainOf_wanted ?_
    have o2 : ∀ j, j ≠ 6 → j ≠ 7 → j ≠ 2 → σ2 j = σ11 j := fun j b6 b7 b2 => by rw [f2 j b6, h1, sA_n b7, hfr j b2]
    have g3 : ∀ d, d < 1024 → σ2 3 d = -1 := fun d hd => by rw [o2 3 (by decide) (by decide) (by decide), f11 3 (by decide)]; exact a10 d hd
    have g7 : σ2 7 0 = nI 1028 := by rw [f2 7 (by decide), h1, sA_s]; rfl
    have g2 : ∀ q, q < 1028 → σ2 2 q = nI (1027 - q) := fun q hq => by rw [f2 2 (by decide), h1, sA_n (by decide)]; exact hall q hq
    have hz : sm (fun _ => (false : Bool).toNat) 1028 = 0 := sm_zero (fun _ _ => rfl)
    have hR2 : RI σ2 (fun _ => false) (fun _ => []) := by
      refine ⟨⟨1028, by omega, g7, by rw [hz], fun q hq => ⟨1027 - q, by omega, g2 q hq, rfl⟩, fun q j hq hj hqj => ?_⟩, fun d hd => ⟨List.nodup_nil, g3 d hd, fun r => ?_⟩, fun r r' _ _ h => by simp at h⟩
      · rw [g2 q hq, g2 j hj] at hqj
        have := nI_inj (by omega) (by omega) hqj
        omega
      · simp
    have hcz : chN (σ2 6) 0 = chN (fun _ => 0) 0 := chN_congr (fun f hf => by rw [Nat.zero_add]; exact a2 f hf)
    refine s_keepWanted hR2 (chN_e _ _).2 rfl (by rw [hz]; decide) (fun r _ h => by simp at h) (fun r ρ hr _ hidx hRo hfo _ hnew => ?_)
    have hr0 : r = 0 := by
      have h1 := hidx 1027 g7 (by omega)
      rw [g2 1027 (by omega)] at h1
      exact (nI_inj (by omega) (by omega) h1).symm
    subst hr0
    refine s_hold hr ?_
    have p1 : ∀ x, x < 1028 → ρ 1 x = 0 := fun x hx => by
      rw [hfo 1 (by decide) (by decide) (by decide) (by decide), o2 1 (by decide) (by decide) (by decide)]
      exact a11 x hx
    refine hQ _ ?_ ?_ ?_ ?_
    · have hR3 : RI ρ (fun x => x == 0) (fun d => if d = chN (fun _ => 0) 0 then [0] else []) := by
        rw [hcz] at hRo
        exact hRo
      exact RI_congr (sA_n (by decide)) (sA_n (by decide)) (sA_n (by decide)) (sA_n (by decide)) (sA_n (by decide)) hR3
    · intro x hx
      rw [sA_s]
      unfold upd
      by_cases e : x = 0
      · rw [if_pos e, if_pos e, p1 0 (by omega)]
        rfl
      · rw [if_neg e, if_neg e, p1 x hx]
    · intro f hf
      rw [sA_n (by decide)]
      have h1 := hnew f hf
      rw [Nat.mul_zero, Nat.zero_add] at h1
      rw [h1, hfo 6 (by decide) (by decide) (by decide) (by decide)]
      exact a2 f hf
    · intro j b0 b1 b2 b3 b4 b6 b7
      rw [sA_n b1, hfo j b0 b3 b4 b7, o2 j b6 b7 b2, f11 j b1, f10 j b3]
  · rw [e8, nI_leI (by omega) (by omega)] at hc1
    refine ⟨vp_in_nI (by omega) (by decide), ?_⟩
    intro σ8 h8 z9 hz9
    rw [cl (by omega), show (1027 : Int32) = nI 1027 from rfl, pk_sub (by omega)] at h8
    rw [ar_1] at hz9
    refine ⟨⟨fun j b2 => by rw [h8, sA_n b2]; exact hfr j b2, i + 1, by omega, hz9, fun q hq => ?_⟩, ?_⟩
    · rw [h8, sA_s]
      unfold upd
      by_cases e : q = i
      · rw [if_pos e, e]
      · rw [if_neg e]
        exact hall q (by omega)
    · rw [hz9, cl (by omega)]
      omega
end
section
/-- a row's first cell -/
def Rw (j : Nat) : Nat := 1088 + 32 * j
/-- i is a cell in use; its block is the 2^b points from p on -/
def Cl (lev st : Nat → Nat) (i b p : Nat) : Prop :=
  (b = 10 ∧ i < 1088 ∧ p = 1024 * i) ∨ (b = 5 ∧ ∃ j k, j < 2048 ∧ k < 32 ∧ lev j = 1 ∧ i = Rw j + k ∧ p = st j + 32 * k) ∨ (b = 0 ∧ ∃ j k, j < 2048 ∧ k < 32 ∧ lev j = 2 ∧ i = Rw j + k ∧ p = st j + k)
/-- the level of the rows under a cell -/
def lb (b : Nat) : Nat := if b = 10 then 1 else 2
/-- the cell points to the row j of its own block -/
def Pn (c : Nat → Int32) (lev st : Nat → Nat) (i b p j : Nat) : Prop := 0 < b ∧ j < 2048 ∧ lev j = lb b ∧ st j = p ∧ c i = -nI (Rw j)
/-- the tree -/
def TI (c : Nat → Int32) (lev st : Nat → Nat) (lv : Nat → Bool) : Prop :=
  (∀ i b p, Cl lev st i b p → (∃ r, r < 1028 ∧ lv r = true ∧ c i = nI r) ∨ ∃ j, Pn c lev st i b p j) ∧
  ∀ j, j < 2048 → lev j ≠ 0 → ∃ i b p, Cl lev st i b p ∧ Pn c lev st i b p j
theorem Cl_b {lev st : Nat → Nat} {i b p : Nat} (h : Cl lev st i b p) : b = 10 ∨ b = 5 ∨ b = 0 := by
  rcases h with h | h | h
  · exact Or.inl h.1
  · exact Or.inr (Or.inl h.1)
  · exact Or.inr (Or.inr h.1)
theorem Cl_i {lev st : Nat → Nat} {i b p : Nat} (h : Cl lev st i b p) : i < 66624 := by
  rcases h with ⟨-, h, -⟩ | ⟨-, j, k, hj, hk, -, rfl, -⟩ | ⟨-, j, k, hj, hk, -, rfl, -⟩
  · omega
  · unfold Rw; omega
  · unfold Rw; omega
/-- a row's first point -/
theorem TI_st {c : Nat → Int32} {lev st : Nat → Nat} {lv : Nat → Bool} (hT : TI c lev st lv) {j : Nat} (hj : j < 2048) : (lev j = 1 → ∃ t, t < 1088 ∧ st j = 1024 * t ∧ c t = -nI (Rw j)) ∧
    (lev j = 2 → ∃ i k, i < 2048 ∧ k < 32 ∧ lev i = 1 ∧ st j = st i + 32 * k ∧ c (Rw i + k) = -nI (Rw j)) := by
  refine ⟨fun hl => ?_, fun hl => ?_⟩
  · obtain ⟨i, b, p, h1, h2, h3, h4, h5, h6⟩ := hT.2 j hj (by omega)
    rcases h1 with ⟨rfl, h, rfl⟩ | ⟨rfl, h⟩ | ⟨rfl, h⟩
    · exact ⟨i, h, h5, h6⟩
    · exfalso
      rw [hl] at h4
      exact absurd h4 (by decide)
    · omega
  · obtain ⟨i, b, p, h1, h2, h3, h4, h5, h6⟩ := hT.2 j hj (by omega)
    rcases h1 with ⟨rfl, h, rfl⟩ | ⟨rfl, i', k, a1, a2, a3, a4, a5⟩ | ⟨rfl, h⟩
    · exfalso
      rw [hl] at h4
      exact absurd h4 (by decide)
    · exact ⟨i', k, a1, a2, a3, by rw [h5, a5], by rw [← a4]; exact h6⟩
    · omega
theorem Cl_al {c : Nat → Int32} {lev st : Nat → Nat} {lv : Nat → Bool} (hT : TI c lev st lv) {i b p : Nat} (h : Cl lev st i b p) : p % 2 ^ b = 0 ∧ p + 2 ^ b ≤ 1114112 := by
  rcases h with ⟨rfl, h, rfl⟩ | ⟨rfl, j, k, hj, hk, hl, rfl, rfl⟩ | ⟨rfl, j, k, hj, hk, hl, rfl, rfl⟩
  · omega
  · obtain ⟨t, h1, h2, -⟩ := (TI_st hT hj).1 hl
    omega
  · obtain ⟨i', k', a1, a2, a3, a4, -⟩ := (TI_st hT hj).2 hl
    obtain ⟨t, h1, h2, -⟩ := (TI_st hT a1).1 a3
    omega
/-- two cells in use with records, and a point in both: one cell -/
theorem Cl_one {c : Nat → Int32} {lev st : Nat → Nat} {lv : Nat → Bool} (hT : TI c lev st lv) {i b q i' b' q' r r' p : Nat} (h : Cl lev st i b q) (h' : Cl lev st i' b' q') (hr : r < 2 ^ 31) (hr' : r' < 2 ^ 31) (e : c i = nI r) (e' : c i' = nI r')
    (p1 : q ≤ p) (p2 : p < q + 2 ^ b) (p1' : q' ≤ p) (p2' : p < q' + 2 ^ b') : i = i' ∧ b = b' ∧ q = q' := by
  have hno : ∀ {x j r : Nat}, r < 2 ^ 31 → j < 2048 → c x = nI r → c x = -nI (Rw j) → False := fun {x j r} hr hj a1 a2 => by
    refine ng_ne (b := Rw j) ?_ hr ?_ (a1.symm.trans a2) <;> unfold Rw <;> omega
  -- the row that a middle or low cell stands in, and the top cell above it
  have mid : ∀ {j : Nat}, j < 2048 → lev j = 1 → ∀ x, st j ≤ x → x < st j + 1024 → c (x / 1024) = -nI (Rw j) := fun {j} hj hl x x1 x2 => by
    obtain ⟨t, h1, h2, h3⟩ := (TI_st hT hj).1 hl
    rw [show x / 1024 = t by omega]
    exact h3
  have same : ∀ {j j' : Nat}, j < 2048 → j' < 2048 → -nI (Rw j) = -nI (Rw j') → j = j' := fun {j j'} hj hj' he => by
    have := ng_inj (a := Rw j) (b := Rw j') (by unfold Rw; omega) (by unfold Rw; omega) he
    unfold Rw at this
    omega
  have low : ∀ {j : Nat}, j < 2048 → lev j = 2 → ∃ a, a < 2048 ∧ lev a = 1 ∧ st a ≤ st j ∧ st j + 32 ≤ st a + 1024 ∧ (st j - st a) % 32 = 0 ∧ c (Rw a + (st j - st a) / 32) = -nI (Rw j) := fun {j} hj hl => by
    obtain ⟨a, k, a1, a2, a3, a4, a5⟩ := (TI_st hT hj).2 hl
    refine ⟨a, a1, a3, by omega, by omega, by omega, ?_⟩
    rw [show (st j - st a) / 32 = k by omega]
    exact a5
  rcases h with ⟨rfl, h1, rfl⟩ | ⟨rfl, j, k, hj, hk, hl, rfl, rfl⟩ | ⟨rfl, j, k, hj, hk, hl, rfl, rfl⟩ <;>
    rcases h' with ⟨rfl, h1', rfl⟩ | ⟨rfl, j', k', hj', hk', hl', rfl, rfl⟩ | ⟨rfl, j', k', hj', hk', hl', rfl, rfl⟩
  · have : i = i' := by omega
    subst this
    exact ⟨rfl, rfl, rfl⟩
  · exfalso
    have := mid hj' hl' p (by omega) (by omega)
    rw [show p / 1024 = i by omega] at this
    exact hno hr hj' e this
  · exfalso
    obtain ⟨a, a1, a2, a3, a4, a5, a6⟩ := low hj' hl'
    have := mid a1 a2 p (by omega) (by omega)
    rw [show p / 1024 = i by omega] at this
    exact hno hr a1 e this
  · exfalso
    have := mid hj hl p (by omega) (by omega)
    rw [show p / 1024 = i' by omega] at this
    exact hno hr' hj e' this
  · have e1 := mid hj hl p (by omega) (by omega)
    have e2 := mid hj' hl' p (by omega) (by omega)
    have : j = j' := same hj hj' (e1.symm.trans e2)
    subst this
    have : k = k' := by omega
    subst this
    exact ⟨rfl, rfl, rfl⟩
  · exfalso
    obtain ⟨a, a1, a2, a3, a4, a5, a6⟩ := low hj' hl'
    have e1 := mid hj hl p (by omega) (by omega)
    have e2 := mid a1 a2 p (by omega) (by omega)
    have : j = a := same hj a1 (e1.symm.trans e2)
    subst this
    rw [show (st j' - st j) / 32 = k by omega] at a6
    exact hno hr hj' e a6
  · exfalso
    obtain ⟨a, a1, a2, a3, a4, a5, a6⟩ := low hj hl
    have := mid a1 a2 p (by omega) (by omega)
    rw [show p / 1024 = i' by omega] at this
    exact hno hr' a1 e' this
  · exfalso
    obtain ⟨a, a1, a2, a3, a4, a5, a6⟩ := low hj hl
    have e1 := mid hj' hl' p (by omega) (by omega)
    have e2 := mid a1 a2 p (by omega) (by omega)
    have : j' = a := same hj' a1 (e1.symm.trans e2)
    subst this
    rw [show (st j - st j') / 32 = k' by omega] at a6
    exact hno hr' hj e' a6
  · obtain ⟨a, a1, a2, a3, a4, a5, a6⟩ := low hj hl
    obtain ⟨a', a1', a2', a3', a4', a5', a6'⟩ := low hj' hl'
    have e1 := mid a1 a2 p (by omega) (by omega)
    have e2 := mid a1' a2' p (by omega) (by omega)
    have : a = a' := same a1 a1' (e1.symm.trans e2)
    subst this
    have e3 : (st j - st a) / 32 = (st j' - st a) / 32 := by omega
    rw [e3] at a6
    have : j = j' := same hj hj' (a6.symm.trans a6')
    subst this
    have : k = k' := by omega
    subst this
    exact ⟨rfl, rfl, rfl⟩
/-- a pointing cell's block has no record cell of the same or a larger size over it: the row under it -/
theorem row_cl {lev st : Nat → Nat} {i b p j k : Nat} (h : Cl lev st i b p) (h0 : 0 < b) (hj : j < 2048) (hl : lev j = lb b) (hs : st j = p) (hk : k < 32) : Cl lev st (Rw j + k) (b - 5) (p + 2 ^ (b - 5) * k) := by
  rcases Cl_b h with rfl | rfl | rfl
  · exact Or.inr (Or.inl ⟨rfl, j, k, hj, hk, hl, rfl, by rw [hs]⟩)
  · exact Or.inr (Or.inr ⟨rfl, j, k, hj, hk, hl, rfl, by rw [hs]; omega⟩)
  · omega
/-- bits -/
theorem i_ext {x y : Int32} (h : x.toBitVec.toNat = y.toBitVec.toNat) : x = y := Int32.toBitVec_inj.mp (BitVec.eq_of_toNat_eq h)
theorem or_lo {p m : Nat} (b : Nat) (hm : m = 2 ^ b - 1) (hb : b ≤ 10) (hp : p < 2 ^ 31) : nI p ||| nI m = nI (p / 2 ^ b * 2 ^ b + m) := by
  have hmb : m < 2 ^ 10 := by
    rw [hm]
    have : 2 ^ b ≤ 2 ^ 10 := Nat.pow_le_pow_right (by decide) hb
    have : 0 < 2 ^ b := Nat.pow_pos (by decide)
    omega
  have hle : p / 2 ^ b * 2 ^ b ≤ p := Nat.div_mul_le_self p (2 ^ b)
  refine i_ext ?_
  rw [Int32.toBitVec_or, BitVec.toNat_or, pk_tn (by omega), pk_tn (by omega), pk_tn (by omega)]
  have e : p / 2 ^ b * 2 ^ b + m = (p / 2 ^ b * 2 ^ b) ||| m := by
    rw [Nat.mul_comm, hm]
    exact Nat.two_pow_add_eq_or_of_lt (by have : 0 < 2 ^ b := Nat.pow_pos (by decide); omega) _
  rw [e]
  refine Nat.eq_of_testBit_eq fun i => ?_
  rw [Nat.testBit_or, Nat.testBit_or, hm, Nat.testBit_two_pow_sub_one, ← Nat.shiftRight_eq_div_pow, ← Nat.shiftLeft_eq, Nat.testBit_shiftLeft, Nat.testBit_shiftRight]
  by_cases h : i < b
  · simp [h]
  · simp only [h, decide_false, Bool.or_false]
    rw [decide_eq_true (by omega), Bool.true_and, show b + (i - b) = i by omega]
theorem and_hi {p m : Nat} (b : Nat) (hm : m = 2 ^ b - 1) (hb : b ≤ 10) (hp : p < 2 ^ 31) : nI p &&& (nI m ^^^ (-1 : Int32)) = nI (p / 2 ^ b * 2 ^ b) := by
  have hmb : m < 2 ^ 10 := by
    rw [hm]
    have : 2 ^ b ≤ 2 ^ 10 := Nat.pow_le_pow_right (by decide) hb
    have : 0 < 2 ^ b := Nat.pow_pos (by decide)
    omega
  have hle : p / 2 ^ b * 2 ^ b ≤ p := Nat.div_mul_le_self p (2 ^ b)
  refine i_ext ?_
  rw [Int32.toBitVec_and, BitVec.toNat_and, Int32.toBitVec_xor, BitVec.toNat_xor, pk_tn (by omega), pk_tn (by omega), pk_tn (by omega), show ((-1 : Int32)).toBitVec.toNat = 2 ^ 32 - 1 by decide]
  refine Nat.eq_of_testBit_eq fun i => ?_
  rw [Nat.testBit_and, Nat.testBit_xor, hm, Nat.testBit_two_pow_sub_one, Nat.testBit_two_pow_sub_one, ← Nat.shiftRight_eq_div_pow, ← Nat.shiftLeft_eq, Nat.testBit_shiftLeft, Nat.testBit_shiftRight]
  by_cases h : i < b
  · have h32 : i < 32 := by omega
    simp [h, h32, show ¬ b ≤ i by omega]
  · by_cases h32 : i < 32
    · rw [decide_eq_true h32, decide_eq_false h, decide_eq_true (show i ≥ b by omega), show b + (i - b) = i by omega]
      simp
    · have : p.testBit i = false := Nat.testBit_lt_two_pow (Nat.lt_of_lt_of_le hp (Nat.pow_le_pow_right (by decide) (by omega)))
      rw [show b + (i - b) = i by omega, this]
      simp
theorem p2_pos (b : Nat) : 0 < 2 ^ b := Nat.pow_pos (by decide)
theorem al_div {p q b : Nat} (h : q % 2 ^ b = 0) (h1 : q ≤ p) (h2 : p < q + 2 ^ b) : p / 2 ^ b * 2 ^ b = q := by
  obtain ⟨d, hd⟩ := Nat.dvd_of_mod_eq_zero h
  have hpos := p2_pos b
  have e : p / 2 ^ b = d := by
    rw [Nat.div_eq_iff hpos]
    rw [Nat.mul_comm] at hd
    constructor
    · omega
    · have : d * 2 ^ b + 2 ^ b = (d + 1) * 2 ^ b := by rw [Nat.succ_mul]
      omega
  rw [e, hd, Nat.mul_comm]
theorem s_find {σ : St} {lev st : Nat → Nat} {lv : Nat → Bool} {Q : St → Prop} {p : Nat} (hT : TI (σ 11) lev st lv) (hp : p < 1114112)
    (hQ : ∀ (τ : St) (i b q r : Nat), Cl lev st i b q → q ≤ p → p < q + 2 ^ b → r < 1028 → lv r = true → σ 11 i = nI r → (∀ j, j ≠ 14 → j ≠ 15 → j ≠ 16 → τ j = σ j) → τ 14 0 = nI i → τ 15 0 = nI q → τ 16 0 = nI (q + 2 ^ b - 1) → Q τ) : F_Bl_find (nI p) σ Q := by
  have hJ : ∀ (i b q r : Nat) (τ : St), Cl lev st i b q → q ≤ p → p < q + 2 ^ b → r < 1028 → lv r = true → σ 11 i = nI r → (∀ j, j ≠ 14 → τ j = σ j) → τ 14 0 = nI i → F_Bl_find_J53 (nI p) (nI b) τ Q := by
    intro i b q r τ hC q1 q2 hr hlr er hfr ei
    have hal := (Cl_al hT hC).1
    have hbb : b ≤ 10 := by rcases Cl_b hC with h | h | h <;> omega
    have hpos := p2_pos b
    unfold F_Bl_find_J53
    intro z1 hz1
    have e1 : z1 = nI (2 ^ b - 1) := by
      rw [hz1]
      rcases Cl_b hC with rfl | rfl | rfl <;> decide
    intro σ2 h2 σ3 h3
    rw [e1, and_hi b rfl hbb (by omega), al_div hal q1 q2] at h2
    rw [e1, or_lo b rfl hbb (by omega), al_div hal q1 q2] at h3
    refine hQ σ3 i b q r hC q1 q2 hr hlr er (fun j a1 a2 a3 => by rw [h3, sA_n a3, h2, sA_n a2]; exact hfr j a1) ?_ ?_ ?_
    · rw [h3, sA_n (by decide), h2, sA_n (by decide)]; exact ei
    · rw [h3, sA_n (by decide), h2, sA_s]
    · rw [h3, sA_s]
      congr 1
      omega
  unfold F_Bl_find
  intro z6 hz6 σ7 h7
  have hsh : nI p >>> ((10 : Int32) &&& 31) = nI (p / 1024) := pk_shrN (by omega) _ 10 (by decide)
  rw [hz6, hsh] at h7
  unfold F_Bl_find_L10
  refine ⟨fun v2 τ => (∀ j, j ≠ 14 → τ j = σ j) ∧ ∃ i b q, Cl lev st i b q ∧ q ≤ p ∧ p < q + 2 ^ b ∧ v2 = nI b ∧ τ 14 0 = nI i, fun v2 _ => v2.toNatClampNeg, ⟨fun j a => by rw [h7, sA_n a], p / 1024, 10, 1024 * (p / 1024), Or.inl ⟨rfl, by omega, rfl⟩, by omega, by omega, hz6, by rw [h7, sA_s]⟩, ?_⟩
  intro v2 τ n hI hm
  dsimp only at hm ⊢
  obtain ⟨hfr, i, b, q, hC, q1, q2, rfl, ei⟩ := hI
  have hi := Cl_i hC
  have hbb : b ≤ 10 := by rcases Cl_b hC with h | h | h <;> omega
  have e11 : τ 11 = σ 11 := hfr 11 (by decide)
  rw [cl (by omega)] at hm
  rw [ei, cl (by omega), e11]
  have hb0 : nI b ≤ 0 ↔ b = 0 := by
    rw [show (0 : Int32) = nI 0 from rfl, nI_leI (by omega) (by omega)]
    omega
  refine ⟨fun hc => ?_, fun hc => ⟨vp_in_nI hi (by decide), fun hc2 => ?_, fun hc2 => ?_⟩⟩
  · rcases hT.1 i b q hC with ⟨r, h1, h2, h3⟩ | ⟨j, h1, -⟩
    · exact hJ i b q r τ hC q1 q2 h1 h2 h3 hfr ei
    · exact absurd (hb0.mp hc) (by omega)
  · rcases hT.1 i b q hC with ⟨r, h1, h2, h3⟩ | ⟨j, h1, h2, h3, h4, h5⟩
    · exact hJ i b q r τ hC q1 q2 h1 h2 h3 hfr ei
    · exfalso
      rw [h5] at hc2
      have := ng_lt (n := Rw j) (by unfold Rw; omega) (by unfold Rw; omega)
      exact Int32.not_lt.mpr hc2 this
  · rcases hT.1 i b q hC with ⟨r, h1, h2, h3⟩ | ⟨j, h1, h2, h3, h4, h5⟩
    · exfalso
      rw [h3] at hc2
      exact hc2 (nI_pos' (by omega))
    · intro z4 hz4
      have hb5 : b = 10 ∨ b = 5 := by rcases Cl_b hC with h | h | h <;> omega
      have e4 : z4 = nI (b - 5) := by
        rw [hz4]
        rcases hb5 with rfl | rfl <;> decide
      refine ⟨vp_in_nI hi (by decide), ?_⟩
      intro σ5 hσ5
      have hal := (Cl_al hT hC).1
      have ek : (nI p >>> (nI (b - 5) &&& 31)) &&& (31 : Int32) = nI (p / 2 ^ (b - 5) % 32) := by
        have e : nI p >>> (nI (b - 5) &&& 31) = nI (p / 2 ^ (b - 5)) := by
          refine pk_shrN (by omega) _ (b - 5) ?_
          rcases hb5 with rfl | rfl <;> decide
        rw [e]
        exact pk_andN (Nat.lt_of_le_of_lt (Nat.div_le_self _ _) (by omega)) 5 (by decide)
      rw [h5, ng_ng, e4, ek, nI_add] at hσ5
      rw [e4]
      have hk : p / 2 ^ (b - 5) % 32 < 32 := Nat.mod_lt _ (by decide)
      refine ⟨⟨fun x a => by rw [hσ5, sA_n a]; exact hfr x a, Rw j + p / 2 ^ (b - 5) % 32, b - 5, q + 2 ^ (b - 5) * (p / 2 ^ (b - 5) % 32), row_cl hC h1 h2 h3 h4 hk, ?_, ?_, rfl, by rw [hσ5, sA_s]⟩, ?_⟩
      · rcases hb5 with rfl | rfl <;> omega
      · rcases hb5 with rfl | rfl <;> omega
      · rw [cl (by omega)]
        omega
theorem s_recordOf {σ : St} {lev st : Nat → Nat} {lv : Nat → Bool} {Q : Int32 → St → Prop} {p : Nat} (hT : TI (σ 11) lev st lv) (hp : p < 1114112)
    (hQ : ∀ (τ : St) (i b q r : Nat), Cl lev st i b q → q ≤ p → p < q + 2 ^ b → r < 1028 → lv r = true → σ 11 i = nI r → (∀ j, j ≠ 14 → j ≠ 15 → j ≠ 16 → τ j = σ j) → τ 14 0 = nI i → τ 15 0 = nI q → τ 16 0 = nI (q + 2 ^ b - 1) → Q (nI r) τ) : F_Bl_recordOf (nI p) σ Q := by
  unfold F_Bl_recordOf
  refine s_find hT hp (fun τ i b q r hC q1 q2 hr hlr er hfr e14 e15 e16 => ?_)
  have hi := Cl_i hC
  rw [e14, cl (by omega), hfr 11 (by decide) (by decide) (by decide), er]
  exact ⟨vp_in_nI hi (by decide), hQ τ i b q r hC q1 q2 hr hlr er hfr e14 e15 e16⟩
/-- a cell is in use -/
def us (lev : Nat → Nat) (i : Nat) : Bool := decide (i < 1088) || lev ((i - 1088) / 32) != 0
/-- how often a record is held -/
def hN (c : Nat → Int32) (lev : Nat → Nat) (r : Nat) : Nat := sm (fun i => (us lev i && c i == nI r).toNat) 66624 + (r == 0).toNat
/-- the records of the cells in use say what V says of their points -/
def VI (σ : St) (lev st : Nat → Nat) (V : Nat → Nat → Int32) : Prop := ∀ i b q r, Cl lev st i b q → r < 1028 → σ 11 i = nI r → ∀ p, q ≤ p → p < q + 2 ^ b → ∀ f, f < 8 → σ 0 (8 * r + f) = V p f
/-- the spare rows -/
def SI (σ : St) (lev : Nat → Nat) (n : Nat) : Prop := n ≤ 2048 ∧ σ 13 0 = nI n ∧ n + sm (fun j => (lev j != 0).toNat) 2048 = 2048 ∧ (∀ q, q < n → ∃ j, j < 2048 ∧ σ 12 q = nI (Rw j) ∧ lev j = 0) ∧ ∀ i j, i < n → j < n → σ 12 i = σ 12 j → i = j
def HI (σ : St) (lev : Nat → Nat) (lv : Nat → Bool) : Prop := ∀ r, r < 1028 → σ 1 r = nI (hN (σ 11) lev r) ∧ (lv r = true ↔ 0 < hN (σ 11) lev r)
/-- the class's state -/
def BI (σ : St) (lev st : Nat → Nat) (lv : Nat → Bool) (L : Nat → List Nat) (V : Nat → Nat → Int32) (n : Nat) : Prop :=
  RI σ lv L ∧ TI (σ 11) lev st lv ∧ VI σ lev st V ∧ SI σ lev n ∧ HI σ lev lv ∧ ∀ f, f < 8 → σ 0 f = 0
theorem BI_congr {σ τ : St} {lev st : Nat → Nat} {lv : Nat → Bool} {L : Nat → List Nat} {V : Nat → Nat → Int32} {n : Nat} (h : ∀ j, j ≠ 5 → j ≠ 6 → j ≠ 8 → j ≠ 9 → j ≠ 10 → j < 14 → τ j = σ j) (hB : BI σ lev st lv L V n) : BI τ lev st lv L V n := by
  have e0 := h 0 (by decide) (by decide) (by decide) (by decide) (by decide) (by decide)
  have e1 := h 1 (by decide) (by decide) (by decide) (by decide) (by decide) (by decide)
  have e2 := h 2 (by decide) (by decide) (by decide) (by decide) (by decide) (by decide)
  have e3 := h 3 (by decide) (by decide) (by decide) (by decide) (by decide) (by decide)
  have e4 := h 4 (by decide) (by decide) (by decide) (by decide) (by decide) (by decide)
  have e7 := h 7 (by decide) (by decide) (by decide) (by decide) (by decide) (by decide)
  have e11 := h 11 (by decide) (by decide) (by decide) (by decide) (by decide) (by decide)
  have e12 := h 12 (by decide) (by decide) (by decide) (by decide) (by decide) (by decide)
  have e13 := h 13 (by decide) (by decide) (by decide) (by decide) (by decide) (by decide)
  unfold BI RI VI SI HI at *
  rw [e0, e1, e2, e3, e4, e7, e11, e12, e13]
  exact hB
theorem us_cl {lev st : Nat → Nat} {i b q : Nat} (h : Cl lev st i b q) : us lev i = true := by
  unfold us
  rcases h with ⟨-, h, -⟩ | ⟨-, j, k, hj, hk, hl, rfl, -⟩ | ⟨-, j, k, hj, hk, hl, rfl, -⟩
  · rw [decide_eq_true h]; rfl
  · rw [show (Rw j + k - 1088) / 32 = j by unfold Rw; omega, hl]
    simp
  · rw [show (Rw j + k - 1088) / 32 = j by unfold Rw; omega, hl]
    simp
theorem TI_lev {c : Nat → Int32} {lev st : Nat → Nat} {lv : Nat → Bool} (hT : TI c lev st lv) {j : Nat} (hj : j < 2048) : lev j = 0 ∨ lev j = 1 ∨ lev j = 2 := by
  by_cases h : lev j = 0
  · exact Or.inl h
  · obtain ⟨i, b, p, -, -, -, h4, -⟩ := hT.2 j hj h
    unfold lb at h4
    by_cases e : b = 10
    · rw [if_pos e] at h4; exact Or.inr (Or.inl h4)
    · rw [if_neg e] at h4; exact Or.inr (Or.inr h4)
/-- a cell in use has a block -/
theorem cl_us {c : Nat → Int32} {lev st : Nat → Nat} {lv : Nat → Bool} (hT : TI c lev st lv) {i : Nat} (hi : i < 66624) (h : us lev i = true) : ∃ b q, Cl lev st i b q := by
  unfold us at h
  by_cases e : i < 1088
  · exact ⟨10, 1024 * i, Or.inl ⟨rfl, e, rfl⟩⟩
  · rw [decide_eq_false e, Bool.false_or, bne_iff_ne] at h
    have hj : (i - 1088) / 32 < 2048 := by omega
    have hk : (i - 1088) % 32 < 32 := by omega
    have ei : i = Rw ((i - 1088) / 32) + (i - 1088) % 32 := by unfold Rw; omega
    rcases TI_lev hT hj with h0 | h1 | h2
    · exact absurd h0 h
    · exact ⟨5, _, Or.inr (Or.inl ⟨rfl, _, _, hj, hk, h1, ei, rfl⟩)⟩
    · exact ⟨0, _, Or.inr (Or.inr ⟨rfl, _, _, hj, hk, h2, ei, rfl⟩)⟩
theorem hN_pos {c : Nat → Int32} {lev : Nat → Nat} {r i : Nat} (hi : i < 66624) (hu : us lev i = true) (e : c i = nI r) : 0 < hN c lev r := by
  unfold hN
  have h1 := sm_ge (f := fun i => (us lev i && c i == nI r).toNat) (k := i) (n := 66624) hi
  have h2 : (us lev i && c i == nI r).toNat = 1 := by rw [hu, e]; simp
  try dsimp only at h1
  omega
theorem hN_at {c : Nat → Int32} {lev : Nat → Nat} {r : Nat} (h0 : r ≠ 0) (h : 0 < hN c lev r) : ∃ i, i < 66624 ∧ us lev i = true ∧ c i = nI r := by
  unfold hN at h
  rw [beq_eq_false_iff_ne.mpr h0] at h
  obtain ⟨i, hi, h1⟩ := sm_pos (f := fun i => (us lev i && c i == nI r).toNat) (n := 66624) (by simpa using h)
  have h2 : (us lev i && c i == nI r) = true := by
    cases e : (us lev i && c i == nI r) with
    | true => rfl
    | false => rw [e] at h1; exact absurd h1 (by decide)
  rw [Bool.and_eq_true, beq_iff_eq] at h2
  exact ⟨i, hi, h2.1, h2.2⟩
theorem hN_le (c : Nat → Int32) (lev : Nat → Nat) (r : Nat) : hN c lev r ≤ 66625 := by
  unfold hN
  have h1 : sm (fun i => (us lev i && c i == nI r).toNat) 66624 ≤ sm (fun _ => 1) 66624 := sm_le (fun i _ => by
    show (us lev i && c i == nI r).toNat ≤ 1
    rcases bt_nat (us lev i && c i == nI r) with h | h <;> omega)
  have h2 : sm (fun _ => 1) 66624 = 66624 * 1 := sm_const (fun _ _ => rfl)
  rcases bt_nat (r == 0) with h | h <;> omega
/-- one cell in use gets another content -/
theorem hN_set {c : Nat → Int32} {lev : Nat → Nat} {i r : Nat} {x : Int32} (hi : i < 66624) (hu : us lev i = true) : hN (upd c i x) lev r + (c i == nI r).toNat = hN c lev r + (x == nI r).toNat := by
  unfold hN
  have h1 := sm_one (f := fun k => (us lev k && upd c i x k == nI r).toNat) (g := fun k => (us lev k && c k == nI r).toNat) (k := i) (n := 66624) hi (fun k _ hne => by
    show (us lev k && upd c i x k == nI r).toNat = (us lev k && c k == nI r).toNat
    rw [show upd c i x k = c k by unfold upd; rw [if_neg hne]])
  have h2 : upd c i x i = x := by unfold upd; rw [if_pos rfl]
  simp only [hu, h2, Bool.true_and] at h1
  omega
/-- a row comes into use, all of one record -/
theorem hN_row {c c' : Nat → Int32} {lev : Nat → Nat} {j l r s : Nat} (hj : j < 2048) (h0 : lev j = 0) (hl : l ≠ 0) (hc : ∀ i, i < 66624 → (i < Rw j ∨ Rw j + 32 ≤ i) → c' i = c i) (hr : ∀ k, k < 32 → c' (Rw j + k) = nI s) :
    hN c' (fun x => if x = j then l else lev x) r = hN c lev r + 32 * (nI s == nI r).toNat := by
  unfold hN
  have h1 := sm_blk (g := fun i => (us lev i && c i == nI r).toNat) (n := 66624) (b := Rw j) (c := (nI s == nI r).toNat) 32 (fun i => (us (fun x => if x = j then l else lev x) i && c' i == nI r).toNat) (by unfold Rw; omega) (fun i a1 a2 => ?_) (fun i a1 a2 => ?_)
  · omega
  · have e1 : (i - 1088) / 32 = j := by unfold Rw at a1 a2; omega
    have e2 : ¬ i < 1088 := by unfold Rw at a1; omega
    have e3 : us (fun x => if x = j then l else lev x) i = true := by
      unfold us
      rw [e1]
      dsimp only
      rw [if_pos rfl, bne_iff_ne.mpr hl]
      simp
    have e4 : us lev i = false := by
      unfold us
      rw [e1, h0, decide_eq_false e2]
      rfl
    have e5 : c' i = nI s := by
      have := hr (i - Rw j) (by omega)
      rw [show Rw j + (i - Rw j) = i by omega] at this
      exact this
    show (us (fun x => if x = j then l else lev x) i && c' i == nI r).toNat = (us lev i && c i == nI r).toNat + _
    rw [e3, e4, e5, Bool.true_and, Bool.false_and]
    simp
  · have e1 : i < 1088 ∨ (i - 1088) / 32 ≠ j := by unfold Rw at a2; omega
    have e3 : us (fun x => if x = j then l else lev x) i = us lev i := by
      unfold us
      rcases e1 with e | e
      · rw [decide_eq_true e]; rfl
      · dsimp only
        rw [if_neg e]
    show (us (fun x => if x = j then l else lev x) i && c' i == nI r).toNat = (us lev i && c i == nI r).toNat
    rw [e3, hc i a1 a2]
/-- a row of one record goes out of use -/
theorem hN_unrow {c : Nat → Int32} {lev : Nat → Nat} {j r s : Nat} (hj : j < 2048) (h0 : lev j ≠ 0) (hr : ∀ k, k < 32 → c (Rw j + k) = nI s) : hN c lev r = hN c (fun x => if x = j then 0 else lev x) r + 32 * (nI s == nI r).toNat := by
  have h1 := hN_row (c := c) (c' := c) (lev := fun x => if x = j then 0 else lev x) (j := j) (l := lev j) (r := r) (s := s) hj (by rw [if_pos rfl]) h0 (fun _ _ _ => rfl) hr
  have e : (fun x => if x = j then lev j else (fun x => if x = j then 0 else lev x) x) = lev := by
    funext x
    by_cases q : x = j
    · simp [q]
    · simp [q]
  rw [e] at h1
  exact h1
theorem nI_beq {a b : Nat} (ha : a < 2 ^ 31) (hb : b < 2 ^ 31) : (nI a == nI b) = (a == b) := by
  by_cases h : a = b
  · subst h; simp
  · rw [beq_eq_false_iff_ne.mpr h, beq_eq_false_iff_ne.mpr (fun q => h (nI_inj ha hb q))]
abbrev fu (f : Nat → Nat) (j x : Nat) : Nat → Nat := fun i => if i = j then x else f i
theorem fu_s (f : Nat → Nat) (j x : Nat) : fu f j x j = x := if_pos rfl
theorem fu_n {f : Nat → Nat} {j x i : Nat} (h : i ≠ j) : fu f j x i = f i := if_neg h
theorem Cl_fun {lev st : Nat → Nat} {i b q b' q' : Nat} (h : Cl lev st i b q) (h' : Cl lev st i b' q') : b = b' ∧ q = q' := by
  rcases h with ⟨rfl, h1, rfl⟩ | ⟨rfl, j, k, hj, hk, hl, rfl, rfl⟩ | ⟨rfl, j, k, hj, hk, hl, rfl, rfl⟩ <;>
    rcases h' with ⟨rfl, h1', rfl⟩ | ⟨rfl, j', k', hj', hk', hl', e, rfl⟩ | ⟨rfl, j', k', hj', hk', hl', e, rfl⟩
  · exact ⟨rfl, rfl⟩
  · exfalso; unfold Rw at e; omega
  · exfalso; unfold Rw at e; omega
  · exfalso; unfold Rw at h1'; omega
  · have : j = j' := by unfold Rw at e; omega
    subst this
    have : k = k' := by omega
    subst this
    exact ⟨rfl, rfl⟩
  · exfalso
    have : j = j' := by unfold Rw at e; omega
    subst this
    omega
  · exfalso; unfold Rw at h1'; omega
  · exfalso
    have : j = j' := by unfold Rw at e; omega
    subst this
    omega
  · have : j = j' := by unfold Rw at e; omega
    subst this
    have : k = k' := by omega
    subst this
    exact ⟨rfl, rfl⟩
/-- cells in use lie in rows in use -/
theorem Cl_row {lev st : Nat → Nat} {i b q j : Nat} (h : Cl lev st i b q) (hj : lev j = 0) : i < Rw j ∨ Rw j + 32 ≤ i := by
  rcases h with ⟨rfl, h1, rfl⟩ | ⟨rfl, j', k, hj', hk, hl, rfl, rfl⟩ | ⟨rfl, j', k, hj', hk, hl, rfl, rfl⟩
  · unfold Rw; omega
  · have : j ≠ j' := fun e => by rw [e] at hj; omega
    unfold Rw; omega
  · have : j ≠ j' := fun e => by rw [e] at hj; omega
    unfold Rw; omega
theorem Cl_up {lev st : Nat → Nat} {i b q j l p : Nat} (h : Cl lev st i b q) (hj : lev j = 0) : Cl (fu lev j l) (fu st j p) i b q := by
  rcases h with ⟨rfl, h1, rfl⟩ | ⟨rfl, j', k, hj', hk, hl, rfl, rfl⟩ | ⟨rfl, j', k, hj', hk, hl, rfl, rfl⟩
  · exact Or.inl ⟨rfl, h1, rfl⟩
  · have : j' ≠ j := fun e => by rw [e] at hl; omega
    exact Or.inr (Or.inl ⟨rfl, j', k, hj', hk, by rw [fu_n this]; exact hl, rfl, by rw [fu_n this]⟩)
  · have : j' ≠ j := fun e => by rw [e] at hl; omega
    exact Or.inr (Or.inr ⟨rfl, j', k, hj', hk, by rw [fu_n this]; exact hl, rfl, by rw [fu_n this]⟩)
theorem Cl_down {lev st : Nat → Nat} {i b q j l p : Nat} (h : Cl (fu lev j l) (fu st j p) i b q) (hj : lev j = 0) (hl : l = 1 ∨ l = 2) : Cl lev st i b q ∨ ∃ k, k < 32 ∧ i = Rw j + k ∧ b = (if l = 1 then 5 else 0) ∧ q = p + 2 ^ b * k := by
  rcases h with ⟨rfl, h1, rfl⟩ | ⟨rfl, j', k, hj', hk, h2, rfl, rfl⟩ | ⟨rfl, j', k, hj', hk, h2, rfl, rfl⟩
  · exact Or.inl (Or.inl ⟨rfl, h1, rfl⟩)
  · by_cases e : j' = j
    · subst e
      rw [fu_s] at h2
      refine Or.inr ⟨k, hk, rfl, by rw [if_pos h2], ?_⟩
      rw [fu_s]
    · rw [fu_n e] at h2
      refine Or.inl (Or.inr (Or.inl ⟨rfl, j', k, hj', hk, h2, rfl, ?_⟩))
      rw [fu_n e]
  · by_cases e : j' = j
    · subst e
      rw [fu_s] at h2
      refine Or.inr ⟨k, hk, rfl, by rw [if_neg (by omega)], ?_⟩
      rw [fu_s]
      omega
    · rw [fu_n e] at h2
      refine Or.inl (Or.inr (Or.inr ⟨rfl, j', k, hj', hk, h2, rfl, ?_⟩))
      rw [fu_n e]
theorem lb_12 (b : Nat) : lb b = 1 ∨ lb b = 2 := by
  unfold lb
  by_cases h : b = 10
  · rw [if_pos h]; exact Or.inl rfl
  · rw [if_neg h]; exact Or.inr rfl
theorem rec_no {c : Nat → Int32} {i r j : Nat} (hr : r < 2 ^ 31) (hj : j < 2048) (h1 : c i = nI r) (h2 : c i = -nI (Rw j)) : False :=
  ng_ne (b := Rw j) (by unfold Rw; omega) hr (by unfold Rw; omega) (h1.symm.trans h2)
section SPLIT
variable {c c' : Nat → Int32} {lev st : Nat → Nat} {lv : Nat → Bool} {i b q r j : Nat}
theorem Cl_dn2 (hC : Cl lev st i b q) (hb : 0 < b) (h0 : lev j = 0) {i' b' q' : Nat} (h : Cl (fu lev j (lb b)) (fu st j q) i' b' q') : Cl lev st i' b' q' ∨ ∃ k, k < 32 ∧ i' = Rw j + k ∧ b' = b - 5 ∧ q' = q + 2 ^ b' * k := by
  rcases Cl_down h h0 (lb_12 b) with h1 | ⟨k, h1, h2, h3, h4⟩
  · exact Or.inl h1
  · refine Or.inr ⟨k, h1, h2, ?_, h4⟩
    rw [h3]
    rcases Cl_b hC with rfl | rfl | rfl
    · rfl
    · rfl
    · omega
theorem TI_split (hT : TI c lev st lv) (hC : Cl lev st i b q) (hb : 0 < b) (hj : j < 2048) (h0 : lev j = 0) (hr : r < 1028) (hlr : lv r = true) (er : c i = nI r)
    (e1 : c' i = -nI (Rw j)) (e2 : ∀ k, k < 32 → c' (Rw j + k) = nI r) (e3 : ∀ x, x ≠ i → (x < Rw j ∨ Rw j + 32 ≤ x) → c' x = c x) : TI c' (fu lev j (lb b)) (fu st j q) lv := by
  refine ⟨fun i' b' q' h => ?_, fun j' hj' hl' => ?_⟩
  · rcases Cl_dn2 hC hb h0 h with h1 | ⟨k, hk, rfl, -, -⟩
    · by_cases ei : i' = i
      · subst ei
        obtain ⟨rfl, rfl⟩ := Cl_fun hC h1
        exact Or.inr ⟨j, hb, hj, fu_s _ _ _, fu_s _ _ _, e1⟩
      · rw [show c' i' = c i' from e3 i' ei (Cl_row h1 h0)]
        rcases hT.1 i' b' q' h1 with h2 | ⟨j2, a1, a2, a3, a4, a5⟩
        · exact Or.inl h2
        · have hne : j2 ≠ j := fun e => by
            rw [e, h0] at a3
            rcases lb_12 b' with h | h <;> omega
          exact Or.inr ⟨j2, a1, a2, by rw [fu_n hne]; exact a3, by rw [fu_n hne]; exact a4, by rw [e3 i' ei (Cl_row h1 h0)]; exact a5⟩
    · exact Or.inl ⟨r, hr, hlr, e2 k hk⟩
  · by_cases ej : j' = j
    · subst ej
      exact ⟨i, b, q, Cl_up hC h0, hb, hj, fu_s _ _ _, fu_s _ _ _, e1⟩
    · rw [fu_n ej] at hl'
      obtain ⟨i', b', q', h1, a1, a2, a3, a4, a5⟩ := hT.2 j' hj' hl'
      have ei : i' ≠ i := fun e => by
        rw [e] at a5
        exact rec_no (by omega) hj' er a5
      exact ⟨i', b', q', Cl_up h1 h0, a1, a2, by rw [fu_n ej]; exact a3, by rw [fu_n ej]; exact a4, by rw [e3 i' ei (Cl_row h1 h0)]; exact a5⟩
theorem VI_split {σ τ : St} {V : Nat → Nat → Int32} (hV : VI σ lev st V) (hC : Cl lev st i b q) (hb : 0 < b) (hj : j < 2048) (h0 : lev j = 0) (hr : r < 1028) (er : σ 11 i = nI r) (ev : τ 0 = σ 0)
    (e1 : τ 11 i = -nI (Rw j)) (e2 : ∀ k, k < 32 → τ 11 (Rw j + k) = nI r) (e3 : ∀ x, x ≠ i → (x < Rw j ∨ Rw j + 32 ≤ x) → τ 11 x = σ 11 x) : VI τ (fu lev j (lb b)) (fu st j q) V := by
  intro i' b' q' r' h hr' er' p p1 p2 f hf
  rw [ev]
  rcases Cl_dn2 hC hb h0 h with h1 | ⟨k, hk, rfl, hb', hq'⟩
  · have ei : i' ≠ i := fun e => by
      rw [e] at er'
      exact rec_no (by omega) hj er' e1
    rw [e3 i' ei (Cl_row h1 h0)] at er'
    exact hV i' b' q' r' h1 hr' er' p p1 p2 f hf
  · have : r' = r := nI_inj (by omega) (by omega) (er'.symm.trans (e2 k hk))
    subst this
    refine hV i b q r' hC hr er p ?_ ?_ f hf
    · have : q ≤ q' := by rw [hq']; exact Nat.le_add_right _ _
      omega
    · rcases Cl_b hC with rfl | rfl | rfl
      · rw [hb'] at p2 hq'; omega
      · rw [hb'] at p2 hq'; omega
      · omega
end SPLIT
/-- a block begins at x -/
def Bg (c : Nat → Int32) (lev st : Nat → Nat) (x : Nat) : Prop := ∃ i b r, Cl lev st i b x ∧ r < 1028 ∧ c i = nI r
theorem s_split {σ : St} {lev st : Nat → Nat} {lv : Nat → Bool} {L : Nat → List Nat} {V : Nat → Nat → Int32} {n i b q r : Nat} {Q : St → Prop} (hB : BI σ lev st lv L V n) (hn : 0 < n) (hC : Cl lev st i b q) (hb : 0 < b) (hr : r < 1028) (hlr : lv r = true) (er : σ 11 i = nI r)
    (hQ : ∀ (τ : St) (j : Nat), j < 2048 → lev j = 0 → BI τ (fu lev j (lb b)) (fu st j q) lv L V (n - 1) → (∀ k, k ≠ 1 → k ≠ 11 → k ≠ 13 → τ k = σ k) → τ 11 i = -nI (Rw j) → (∀ k, k < 32 → τ 11 (Rw j + k) = nI r) → (∀ x, x ≠ i → (x < Rw j ∨ Rw j + 32 ≤ x) → τ 11 x = σ 11 x) → Q τ) : F_Bl_split (nI i) σ Q := by
  obtain ⟨hR, hT, hV, ⟨hn8, e13, hcount, hsp, hinj⟩, hH, hZ⟩ := hB
  have hi := Cl_i hC
  unfold F_Bl_split
  rw [e13]
  refine ⟨fun h => absurd h (nI_nle hn (by omega)), fun _ => ?_⟩
  intro σ1 h1
  rw [ar_m1 hn] at h1
  have e113 : σ1 13 0 = nI (n - 1) := by rw [h1, sA_s]
  have e1o : ∀ k, k ≠ 13 → σ1 k = σ k := fun k a => by rw [h1, sA_n a]
  obtain ⟨j, hj, ej, h0⟩ := hsp (n - 1) (by omega)
  rw [e113, cl (by omega), cl (by omega), e1o 12 (by decide), e1o 11 (by decide), ej, er]
  refine ⟨vp_in_nI (by omega) (by decide), ?_⟩
  intro z2 hz2
  subst hz2
  refine ⟨vp_in_nI hi (by decide), ?_⟩
  intro z3 hz3
  subst hz3
  have hrw : Rw j + 32 ≤ 66624 := by unfold Rw; omega
  have e32 : nI (Rw j) + (32 : Int32) = nI (Rw j + 32) := nI_add _ 32
  rw [e32]
  refine s_fill4 (by omega) hrw (fun σ4 f4 a4 => ?_)
  refine s_hold hr ?_
  refine ⟨vp_in_nI hi (by decide), ?_⟩
  intro σ6 h6
  have hout := Cl_row hC h0
  have g5 : ∀ k, k ≠ 1 → k ≠ 11 → k ≠ 13 → σ6 k = σ k := fun k a1 a11 a13 => by rw [h6, sA_n a11, sA_n a1, f4 k a11, e1o k a13]
  have g11 : ∀ x, σ6 11 x = if x = i then -nI (Rw j) else if Rw j ≤ x ∧ x < Rw j + 32 then nI r else σ 11 x := fun x => by
    rw [h6, sA_s]
    unfold upd
    by_cases e : x = i
    · rw [if_pos e, if_pos e]
    · rw [if_neg e, if_neg e, sA_n (by decide), a4 x, e1o 11 (by decide)]
  have c1 : σ6 11 i = -nI (Rw j) := by rw [g11, if_pos rfl]
  have c2 : ∀ k, k < 32 → σ6 11 (Rw j + k) = nI r := fun k hk => by rw [g11, if_neg (by omega), if_pos (by omega)]
  have c3 : ∀ x, x ≠ i → (x < Rw j ∨ Rw j + 32 ≤ x) → σ6 11 x = σ 11 x := fun x a1 a2 => by rw [g11, if_neg a1, if_neg (by omega)]
  have g13 : σ6 13 0 = nI (n - 1) := by rw [h6, sA_n (by decide), sA_n (by decide), f4 13 (by decide)]; exact e113
  have g1 : ∀ x, σ6 1 x = if x = r then σ 1 r + 31 else σ 1 x := fun x => by
    rw [h6, sA_n (by decide), sA_s]
    unfold upd
    rw [f4 1 (by decide), e1o 1 (by decide)]
  refine hQ σ6 j hj h0 ⟨RI_congr (g5 0 (by decide) (by decide) (by decide)) (g5 2 (by decide) (by decide) (by decide)) (g5 3 (by decide) (by decide) (by decide)) (g5 4 (by decide) (by decide) (by decide)) (g5 7 (by decide) (by decide) (by decide)) hR,
    TI_split hT hC hb hj h0 hr hlr er c1 c2 c3, VI_split hV hC hb hj h0 hr er (g5 0 (by decide) (by decide) (by decide)) c1 c2 c3, ⟨by omega, g13, ?_, ?_, ?_⟩, ?_, fun f hf => by rw [g5 0 (by decide) (by decide) (by decide)]; exact hZ f hf⟩ g5 c1 c2 c3
  · have h3 := sm_one (f := fun x => (fu lev j (lb b) x != 0).toNat) (g := fun x => (lev x != 0).toNat) (k := j) (n := 2048) hj (fun x _ hne => by
      show (fu lev j (lb b) x != 0).toNat = (lev x != 0).toNat
      rw [fu_n hne])
    have h4 : (fu lev j (lb b) j != 0).toNat = 1 := by rw [fu_s]; rcases lb_12 b with h | h <;> rw [h] <;> rfl
    have h5 : (lev j != 0).toNat = 0 := by rw [h0]; rfl
    try dsimp only at h3
    omega
  · intro x hx
    obtain ⟨j', a1, a2, a3⟩ := hsp x (by omega)
    have hne : j' ≠ j := fun e => by
      have := hinj x (n - 1) (by omega) (by omega) (by rw [a2, ej, e])
      omega
    exact ⟨j', a1, by rw [g5 12 (by decide) (by decide) (by decide)]; exact a2, by rw [fu_n hne]; exact a3⟩
  · intro x y hx hy hxy
    rw [g5 12 (by decide) (by decide) (by decide)] at hxy
    exact hinj x y (by omega) (by omega) hxy
  · have hfun : σ6 11 = upd (fun x => if Rw j ≤ x ∧ x < Rw j + 32 then nI r else σ 11 x) i (-nI (Rw j)) := by
      funext x
      rw [g11]
      rfl
    have hu : us (fu lev j (lb b)) i = true := us_cl (Cl_up (l := lb b) (p := q) hC h0)
    have hl0 : lb b ≠ 0 := by rcases lb_12 b with h | h <;> omega
    have hcnt : ∀ x, x < 1028 → hN (σ6 11) (fu lev j (lb b)) x + (r == x).toNat = hN (σ 11) lev x + 32 * (r == x).toNat := fun x hx => by
      have k1 : hN (fun x => if Rw j ≤ x ∧ x < Rw j + 32 then nI r else σ 11 x) (fu lev j (lb b)) x = hN (σ 11) lev x + 32 * (nI r == nI x).toNat := hN_row (c := σ 11) (c' := fun x => if Rw j ≤ x ∧ x < Rw j + 32 then nI r else σ 11 x) (lev := lev) (j := j) (l := lb b) (r := x) (s := r) hj h0 hl0 (fun y _ a2 => by rw [if_neg (by omega)]) (fun k hk => by rw [if_pos (by omega)])
      have k2 := hN_set (c := fun x => if Rw j ≤ x ∧ x < Rw j + 32 then nI r else σ 11 x) (lev := fu lev j (lb b)) (i := i) (r := x) (x := -nI (Rw j)) hi hu
      rw [← hfun] at k2
      have k3 : ((-nI (Rw j)) == nI x) = false := beq_eq_false_iff_ne.mpr (fun e => ng_ne (b := Rw j) (by unfold Rw; omega) (by omega) (by unfold Rw; omega) e.symm)
      have k4 : (if Rw j ≤ i ∧ i < Rw j + 32 then nI r else σ 11 i) = nI r := by rw [if_neg (by omega), er]
      simp only [k3, k4, nI_beq (show r < 2 ^ 31 by omega) (show x < 2 ^ 31 by omega), Bool.toNat_false] at k1 k2
      omega
    intro x hx
    have h2 := hcnt x hx
    obtain ⟨a1, a2⟩ := hH x hx
    by_cases e : x = r
    · subst e
      rw [beq_self_eq_true] at h2
      simp only [Bool.toNat_true] at h2
      have hle := hN_le (σ 11) lev x
      refine ⟨?_, ⟨fun _ => by omega, fun _ => hlr⟩⟩
      rw [g1, if_pos rfl, a1, show (31 : Int32) = nI 31 from rfl, nI_add]
      exact congrArg nI (by omega)
    · rw [beq_eq_false_iff_ne.mpr (fun h => e h.symm)] at h2
      simp only [Bool.toNat_false] at h2
      rw [g1, if_neg e, show hN (σ6 11) (fu lev j (lb b)) x = hN (σ 11) lev x by omega]
      exact ⟨a1, a2⟩
theorem Bg_split {c c' : Nat → Int32} {lev st : Nat → Nat} {i b q r j x : Nat} (hC : Cl lev st i b q) (hb : 0 < b) (hj : j < 2048) (h0 : lev j = 0) (hr : r < 1028) (e2 : ∀ k, k < 32 → c' (Rw j + k) = nI r) (e3 : ∀ x, x ≠ i → (x < Rw j ∨ Rw j + 32 ≤ x) → c' x = c x) (h : Bg c lev st x) : Bg c' (fu lev j (lb b)) (fu st j q) x := by
  obtain ⟨i', b', r', h1, h2, h3⟩ := h
  by_cases ei : i' = i
  · subst ei
    obtain ⟨rfl, rfl⟩ := Cl_fun hC h1
    have h4 := row_cl (k := 0) (Cl_up (j := j) (l := lb b) (p := q) hC h0) hb hj (fu_s _ _ _) (fu_s _ _ _) (by decide)
    rw [Nat.mul_zero, Nat.add_zero, Nat.add_zero] at h4
    have h5 := e2 0 (by decide)
    rw [Nat.add_zero] at h5
    exact ⟨Rw j, b - 5, r, h4, hr, h5⟩
  · exact ⟨i', b', r', Cl_up h1 h0, h2, by rw [e3 i' ei (Cl_row h1 h0)]; exact h3⟩
theorem s_splitBefore {σ : St} {lev st : Nat → Nat} {lv : Nat → Bool} {L : Nat → List Nat} {V : Nat → Nat → Int32} {n p : Nat} {Q : St → Prop} (hB : BI σ lev st lv L V n) (hn : 2 ≤ n) (hp : p < 1114112)
    (hQ : ∀ (τ : St) (lev' st' : Nat → Nat) (n' : Nat), n ≤ n' + 2 → n' ≤ n → BI τ lev' st' lv L V n' → Bg (τ 11) lev' st' p → (∀ x, Bg (σ 11) lev st x → Bg (τ 11) lev' st' x) → (∀ k, k ≠ 1 → k ≠ 11 → k ≠ 13 → k ≠ 14 → k ≠ 15 → k ≠ 16 → τ k = σ k) → Q τ) : F_Bl_splitBefore (nI p) σ Q := by
  have hn8 : n ≤ 2048 := hB.2.2.2.1.1
  unfold F_Bl_splitBefore
  refine s_find hB.2.1 hp (fun τ0 i0 b0 q0 r0 hC0 q1 q2 hr0 hlr0 er0 hf0 e14 e15 _ => ?_)
  intro z5 hz5
  have hB0 : BI τ0 lev st lv L V n := BI_congr (fun j _ _ _ _ _ a => hf0 j (by omega) (by omega) (by omega)) hB
  have e11 : τ0 11 = σ 11 := hf0 11 (by decide) (by decide) (by decide)
  have hb0 : b0 ≤ 10 := by rcases Cl_b hC0 with h | h | h <;> omega
  unfold F_Bl_splitBefore_L8
  refine ⟨fun v2 τ => ∃ (lev' st' : Nat → Nat) (n' B i b q r : Nat), v2 = nI B ∧ (B = 10 ∨ B = 5 ∨ B = 0) ∧ b ≤ B ∧ n ≤ n' + (10 - B) / 5 ∧ n' ≤ n ∧ BI τ lev' st' lv L V n' ∧ Cl lev' st' i b q ∧ q ≤ p ∧ p < q + 2 ^ b ∧ r < 1028 ∧ lv r = true ∧ τ 11 i = nI r ∧ τ 14 0 = nI i ∧ τ 15 0 = nI q ∧ (∀ x, Bg (σ 11) lev st x → Bg (τ 11) lev' st' x) ∧ ∀ k, k ≠ 1 → k ≠ 11 → k ≠ 13 → k ≠ 14 → k ≠ 15 → k ≠ 16 → τ k = σ k,
    fun v2 _ => v2.toNatClampNeg, ⟨lev, st, n, 10, i0, b0, q0, r0, hz5, Or.inl rfl, hb0, by omega, by omega, hB0, hC0, q1, q2, hr0, hlr0, by rw [e11]; exact er0, e14, e15, fun x h => by rw [e11]; exact h, fun k _ _ _ a1 a2 a3 => hf0 k a1 a2 a3⟩, ?_⟩
  intro v2 τ m hI hm
  dsimp only at hm ⊢
  obtain ⟨lev', st', n', B, i, b, q, r, rfl, hB3, hbB, hn1, hn2, hBI, hC, p1, p2, hr, hlr, er, g14, g15, hbg, hfr⟩ := hI
  have hi := Cl_i hC
  rw [cl (by omega)] at hm
  have hend : q = p → Q τ := fun e => hQ τ lev' st' n' (by omega) hn2 hBI ⟨i, b, r, by rw [← e]; exact hC, hr, er⟩ hbg hfr
  have hBz : nI B ≤ 0 ↔ B = 0 := by
    rw [show (0 : Int32) = nI 0 from rfl, nI_leI (by omega) (by omega)]
    omega
  rw [g15, g14]
  have hal := (Cl_al hBI.2.1 hC).2
  refine ⟨fun hc => ?_, fun hc => ⟨fun hc2 => ?_, fun hc2 => ?_⟩⟩
  · have hb : b = 0 := by have := hBz.mp hc; omega
    subst hb
    exact hend (by omega)
  · rw [nI_leI (by omega) (by omega)] at hc2
    exact hend (by omega)
  · rw [nI_leI (by omega) (by omega)] at hc2
    have hB0' : 0 < B := by
      rcases Nat.eq_zero_or_pos B with h | h
      · exact absurd (hBz.mpr h) hc
      · exact h
    have hb : 0 < b := by
      rcases Nat.eq_zero_or_pos b with h | h
      · subst h; omega
      · exact h
    refine s_split hBI (by omega) hC hb hr hlr er (fun σ1 j hj h0 hB1 hf1 c1 c2 c3 => ?_)
    refine s_find hB1.2.1 hp (fun σ2 i' b' q' r' hC' q1' q2' hr' hlr' er' hf2 k14 k15 _ => ?_)
    intro z3 hz3
    have hb5 : b = 10 ∨ b = 5 := by rcases Cl_b hC with h | h | h <;> omega
    have hB5 : B = 10 ∨ B = 5 := by omega
    have ez : z3 = nI (B - 5) := by
      rw [hz3]
      rcases hB5 with rfl | rfl <;> decide
    have halq := (Cl_al hBI.2.1 hC).1
    -- the new cell over p has five bits less
    have hbb : b' = b - 5 := by
      have hk : (p - q) / 2 ^ (b - 5) < 32 := by
        rcases hb5 with rfl | rfl <;> omega
      have h4 := row_cl (k := (p - q) / 2 ^ (b - 5)) (Cl_up (j := j) (l := lb b) (p := q) hC h0) hb hj (fu_s _ _ _) (fu_s _ _ _) hk
      have h5 := Cl_one hB1.2.1 hC' h4 (by omega) (show r < 2 ^ 31 by omega) er' (c2 _ hk) q1' q2' (by rcases hb5 with rfl | rfl <;> omega) (by rcases hb5 with rfl | rfl <;> omega)
      exact h5.2.1
    refine ⟨⟨fu lev' j (lb b), fu st' j q, n' - 1, B - 5, i', b', q', r', ez, by omega, by omega, by omega, by omega, BI_congr (fun x _ _ _ _ _ a => hf2 x (by omega) (by omega) (by omega)) hB1, hC', q1', q2', hr', hlr', by rw [hf2 11 (by decide) (by decide) (by decide)]; exact er', k14, k15, fun x h => ?_, fun k a1 a11 a13 a14 a15 a16 => by rw [hf2 k a14 a15 a16, hf1 k a1 a11 a13]; exact hfr k a1 a11 a13 a14 a15 a16⟩, ?_⟩
    · rw [hf2 11 (by decide) (by decide) (by decide)]
      exact Bg_split hC hb hj h0 hr c2 c3 (hbg x h)
    · rw [ez, cl (by omega)]
      omega
end
section
/-- what the change makes of V on the points from a up to (not with) z -/
def chg (V : Nat → Nat → Int32) (fl : Nat) (v k : Int32) (a z : Nat) : Nat → Nat → Int32 := fun p f => if a ≤ p ∧ p < z ∧ f = fl then (V p f &&& k) ||| v else V p f
theorem TI_set {c : Nat → Int32} {lev st : Nat → Nat} {lv lv' : Nat → Bool} {i b q r o : Nat} (hT : TI c lev st lv) (hC : Cl lev st i b q) (hr : r < 1028) (er : c i = nI r) (ho : o < 1028) (hlo : lv' o = true)
    (hlv : ∀ i' x, us lev i' = true → i' < 66624 → i' ≠ i → x < 1028 → c i' = nI x → lv x = true → lv' x = true) : TI (upd c i (nI o)) lev st lv' := by
  refine ⟨fun i' b' q' h => ?_, fun j hj hl => ?_⟩
  · by_cases ei : i' = i
    · subst ei
      exact Or.inl ⟨o, ho, hlo, by unfold upd; rw [if_pos rfl]⟩
    · have e : upd c i (nI o) i' = c i' := by unfold upd; rw [if_neg ei]
      rcases hT.1 i' b' q' h with ⟨x, h1, h2, h3⟩ | ⟨j, h1, h2, h3, h4, h5⟩
      · exact Or.inl ⟨x, h1, hlv i' x (us_cl h) (Cl_i h) ei h1 h3 h2, e.trans h3⟩
      · exact Or.inr ⟨j, h1, h2, h3, h4, e.trans h5⟩
  · obtain ⟨i', b', q', h, h1, h2, h3, h4, h5⟩ := hT.2 j hj hl
    have ei : i' ≠ i := fun e => by
      rw [e] at h5
      exact rec_no (by omega) hj er h5
    exact ⟨i', b', q', h, h1, h2, h3, h4, by unfold upd; rw [if_neg ei]; exact h5⟩
theorem TI_mono {c : Nat → Int32} {lev st : Nat → Nat} {lv lv' : Nat → Bool} (hT : TI c lev st lv) (h : ∀ x, lv x = true → lv' x = true) : TI c lev st lv' := by
  refine ⟨fun i b q hC => ?_, hT.2⟩
  rcases hT.1 i b q hC with ⟨r, h1, h2, h3⟩ | h1
  · exact Or.inl ⟨r, h1, h r h2, h3⟩
  · exact Or.inr h1
/-- the outcomes that are written down, for the records of the cells from point z on -/
def MI (σ : St) (lev st : Nat → Nat) (fl z : Nat) : Prop := ∀ i b q x, Cl lev st i b q → z ≤ q → x < 1028 → σ 11 i = nI x → σ 5 x = -1 ∨ ∃ o, o < 1028 ∧ σ 5 x = nI o ∧ (∀ f, f < 8 → σ 0 (8 * o + f) = nv σ fl x f) ∧ (o = x ∨ ∃ i2 b2 q2, Cl lev st i2 b2 q2 ∧ q2 < z ∧ σ 11 i2 = nI o)
theorem lv_at' {σ : St} {lev : Nat → Nat} {lv : Nat → Bool} (hH : HI σ lev lv) {i x : Nat} (hi : i < 66624) (hu : us lev i = true) (hx : x < 1028) (e : σ 11 i = nI x) : lv x = true := ((hH x hx).2).mpr (hN_pos hi hu e)
theorem s_replace {σ : St} {lev st : Nat → Nat} {lv : Nat → Bool} {L : Nat → List Nat} {V : Nat → Nat → Int32} {n i b q r fl : Nat} {Q : St → Prop} (hB : BI σ lev st lv L V n) (hM : MI σ lev st fl q) (hfl : fl < 8) (efl : σ 8 0 = nI fl) (hroom : sm (fun x => (lv x).toNat) 1028 < 1028)
    (hC : Cl lev st i b q) (hr : r < 1028) (er : σ 11 i = nI r)
    (hQ : ∀ (τ : St) (lv' : Nat → Bool) (L' : Nat → List Nat), BI τ lev st lv' L' (chg V fl (σ 9 0) (σ 10 0) q (q + 2 ^ b)) n → MI τ lev st fl (q + 2 ^ b) → (∀ x, Bg (σ 11) lev st x → Bg (τ 11) lev st x) → (∀ k, 7 < k → k ≠ 11 → τ k = σ k) → Q τ) : F_Bl_replace (nI i) σ Q := by
  obtain ⟨hR, hT, hV, hS, hH, hZ⟩ := hB
  have hi := Cl_i hC
  have hu := us_cl hC
  have hpos := p2_pos b
  have hlr : lv r = true := lv_at' hH hi hu hr er
  have hl0 : lv 0 = true := ((hH 0 (by decide)).2).mpr (by unfold hN; simp)
  unfold F_Bl_replace
  rw [cl (by omega)]
  refine ⟨vp_in_nI hi (by decide), ?_⟩
  intro z1 hz1
  rw [er] at hz1
  subst hz1
  have hmemo : σ 5 r = -1 ∨ ∃ o, o < 1028 ∧ lv o = true ∧ σ 5 r = nI o ∧ ∀ f, f < 8 → σ 0 (8 * o + f) = nv σ fl r f := by
    rcases hM i b q r hC (Nat.le_refl _) hr er with h | ⟨o, h1, h2, h3, h4⟩
    · exact Or.inl h
    · refine Or.inr ⟨o, h1, ?_, h2, h3⟩
      rcases h4 with h | ⟨i2, b2, q2, a1, -, a3⟩
      · rw [h]; exact hlr
      · exact lv_at' hH (Cl_i a1) (us_cl a1) h1 a3
  refine s_altered hR hr hfl efl hroom hmemo (fun o τ lv1 L1 ho hR1 hcase hold hnew h5 hfr => ?_)
  have t11 : τ 11 = σ 11 := hfr 11 (by decide) (by decide) (by decide) (by decide) (by decide) (by decide)
  have t1 : τ 1 = σ 1 := hfr 1 (by decide) (by decide) (by decide) (by decide) (by decide) (by decide)
  have tk : ∀ k, 7 < k → τ k = σ k := fun k h => hfr k (by omega) (by omega) (by omega) (by omega) (by omega) (by omega)
  -- a live record is not the new one
  have hliv : ∀ x f, lv x = true → f < 8 → τ 0 (8 * x + f) = σ 0 (8 * x + f) := fun x f hx hf => hold x f (fun h e => by rw [e, h] at hx; exact absurd hx (by decide)) hf
  have hnv : ∀ (ρ : St) x f, ρ 0 = τ 0 → ρ 9 = σ 9 → ρ 10 = σ 10 → lv x = true → f < 8 → nv ρ fl x f = nv σ fl x f := fun ρ x f a0 a9 a10 hx hf => by
    unfold nv
    rw [a0, a9, a10, hliv x f hx hf]
  -- what the change makes of the block's points
  have hblk : ∀ p f, q ≤ p → p < q + 2 ^ b → f < 8 → nv σ fl r f = chg V fl (σ 9 0) (σ 10 0) q (q + 2 ^ b) p f := fun p f p1 p2 hf => by
    unfold nv chg
    by_cases e : f = fl
    · rw [if_pos e, if_pos ⟨p1, p2, e⟩, hV i b q r hC hr er p p1 p2 f hf]
    · rw [if_neg e, if_neg (fun h => e h.2.2), hV i b q r hC hr er p p1 p2 f hf]
  have hout : ∀ p f, (p < q ∨ q + 2 ^ b ≤ p) → chg V fl (σ 9 0) (σ 10 0) q (q + 2 ^ b) p f = V p f := fun p f h => by
    unfold chg
    rw [if_neg (by omega)]
  have hl1 : ∀ x, lv1 x = true ↔ lv x = true ∨ x = o := fun x => by
    rcases hcase with ⟨h1, h2⟩ | ⟨h1, h2⟩
    · rw [h2]
      exact ⟨Or.inl, fun h => by rcases h with h | h; exact h; rw [h]; exact h1⟩
    · rw [h2]
      simp
  refine ⟨fun hc => ?_, fun hc => ?_⟩
  · have hor : o = r := nI_inj (by omega) (by omega) hc
    subst hor
    have hlv1 : lv1 = lv := by
      rcases hcase with ⟨-, h2⟩ | ⟨h1, -⟩
      · exact h2
      · rw [hlr] at h1; exact absurd h1 (by decide)
    subst hlv1
    refine hQ τ lv1 L1 ⟨hR1, by rw [t11]; exact hT, ?_, ?_, ?_, fun f hf => ?_⟩ ?_ (fun x h => by rw [t11]; exact h) (fun k h _ => tk k h)
    · intro i' b' q' r' hC' hr' er' p p1 p2 f hf
      rw [t11] at er'
      have hl' : lv1 r' = true := lv_at' hH (Cl_i hC') (us_cl hC') hr' er'
      by_cases hin : q ≤ p ∧ p < q + 2 ^ b
      · obtain ⟨rfl, -, -⟩ := Cl_one hT hC hC' (by omega) (by omega) er er' hin.1 hin.2 p1 p2
        have : r' = o := nI_inj (by omega) (by omega) (er'.symm.trans er)
        subst this
        rw [hnew f hf]
        exact hblk p f hin.1 hin.2 hf
      · rw [hliv r' f hl' hf, hout p f (by omega)]
        exact hV i' b' q' r' hC' hr' er' p p1 p2 f hf
    · obtain ⟨s1, s2, s3, s4, s5⟩ := hS
      exact ⟨s1, by rw [tk 13 (by decide)]; exact s2, s3, by rw [tk 12 (by decide)]; exact s4, by rw [tk 12 (by decide)]; exact s5⟩
    · intro x hx
      rw [t1, t11]
      exact hH x hx
    · have := hliv 0 f hl0 hf
      rw [Nat.mul_zero, Nat.zero_add] at this
      rw [this]
      exact hZ f hf
    · intro i' b' q' x hC' hq' hx ex
      rw [t11] at ex
      have hlx : lv1 x = true := lv_at' hH (Cl_i hC') (us_cl hC') hx ex
      rw [h5]
      by_cases e : x = o
      · rw [if_pos e]
        refine Or.inr ⟨o, ho, rfl, fun f hf => ?_, Or.inl e.symm⟩
        rw [hnew f hf, e, hnv τ o f rfl (tk 9 (by decide)) (tk 10 (by decide)) hlr hf]
      · rw [if_neg e]
        rcases hM i' b' q' x hC' (by omega) hx ex with h | ⟨o2, a1, a2, a3, a4⟩
        · exact Or.inl h
        · have hlo2 : lv1 o2 = true := by
            rcases a4 with h | ⟨i2, b2, q2, c1, -, c3⟩
            · rw [h]; exact hlx
            · exact lv_at' hH (Cl_i c1) (us_cl c1) a1 c3
          refine Or.inr ⟨o2, a1, a2, fun f hf => ?_, ?_⟩
          · rw [hliv o2 f hlo2 hf, a3 f hf, hnv τ x f rfl (tk 9 (by decide)) (tk 10 (by decide)) hlx hf]
          · rcases a4 with h | ⟨i2, b2, q2, c1, c2, c3⟩
            · exact Or.inl h
            · exact Or.inr ⟨i2, b2, q2, c1, by omega, by rw [t11]; exact c3⟩
  · have hor : o ≠ r := fun e => hc (by rw [e])
    refine ⟨vp_in_nI hi (by decide), ?_⟩
    intro σ4 h4
    rw [t11] at h4
    have k11 : σ4 11 = upd (σ 11) i (nI o) := by rw [h4, sA_s]
    have ko : ∀ k, k ≠ 11 → σ4 k = τ k := fun k a => by rw [h4, sA_n a]
    have hcnt : ∀ x, x < 1028 → hN (upd (σ 11) i (nI o)) lev x + (r == x).toNat = hN (σ 11) lev x + (o == x).toNat := fun x hx => by
      have h1 := hN_set (c := σ 11) (lev := lev) (i := i) (r := x) (x := nI o) hi hu
      rw [er, nI_beq (by omega) (by omega), nI_beq (by omega) (by omega)] at h1
      exact h1
    -- the end, whether the old record was dropped or not
    have fin : ∀ (ρ : St) (lv' : Nat → Bool) (L' : Nat → List Nat), RI ρ lv' L' → ρ 11 = upd (σ 11) i (nI o) → ρ 0 = τ 0 → ρ 5 = τ 5 → (∀ k, 7 < k → k ≠ 11 → ρ k = σ k) →
        (∀ x, x < 1028 → ρ 1 x = nI (hN (upd (σ 11) i (nI o)) lev x) ∧ (lv' x = true ↔ 0 < hN (upd (σ 11) i (nI o)) lev x)) → Q ρ := by
      intro ρ lv' L' hRρ g11 g0 g5 gk gH
      have ci : upd (σ 11) i (nI o) i = nI o := by unfold upd; rw [if_pos rfl]
      have cn : ∀ x, x ≠ i → upd (σ 11) i (nI o) x = σ 11 x := fun x h => by unfold upd; rw [if_neg h]
      have hlo : lv' o = true := ((gH o ho).2).mpr (hN_pos hi hu ci)
      refine hQ ρ lv' L' ⟨hRρ, ?_, ?_, ?_, ?_, fun f hf => ?_⟩ ?_ ?_ gk
      · rw [g11]
        exact TI_set hT hC hr er ho hlo (fun i' x u1 u2 u3 u4 u5 _ => ((gH x u4).2).mpr (hN_pos u2 u1 ((cn i' u3).trans u5)))
      · intro i' b' q' r' hC' hr' er' p p1 p2 f hf
        rw [g11] at er'
        rw [g0]
        by_cases ei : i' = i
        · subst ei
          obtain ⟨rfl, rfl⟩ := Cl_fun hC hC'
          have : r' = o := nI_inj (by omega) (by omega) (er'.symm.trans ci)
          subst this
          rw [hnew f hf]
          exact hblk p f p1 p2 hf
        · rw [cn i' ei] at er'
          have hl' : lv r' = true := lv_at' hH (Cl_i hC') (us_cl hC') hr' er'
          have hnin : p < q ∨ q + 2 ^ b ≤ p := by
            by_cases hin : q ≤ p ∧ p < q + 2 ^ b
            · obtain ⟨h1, -, -⟩ := Cl_one hT hC hC' (by omega) (by omega) er er' hin.1 hin.2 p1 p2
              exact absurd h1.symm ei
            · omega
          rw [hliv r' f hl' hf, hout p f hnin]
          exact hV i' b' q' r' hC' hr' er' p p1 p2 f hf
      · obtain ⟨s1, s2, s3, s4, s5⟩ := hS
        exact ⟨s1, by rw [gk 13 (by decide) (by decide)]; exact s2, s3, by rw [gk 12 (by decide) (by decide)]; exact s4, by rw [gk 12 (by decide) (by decide)]; exact s5⟩
      · intro x hx
        rw [g11]
        exact gH x hx
      · have := hliv 0 f hl0 hf
        rw [Nat.mul_zero, Nat.zero_add] at this
        rw [g0, this]
        exact hZ f hf
      · intro i' b' q' x hC' hq' hx ex
        have ei : i' ≠ i := fun e => by
          subst e
          have := (Cl_fun hC hC').2
          omega
        rw [g11, cn i' ei] at ex
        have hlx : lv x = true := lv_at' hH (Cl_i hC') (us_cl hC') hx ex
        rw [g5, h5]
        by_cases e : x = r
        · rw [if_pos e]
          refine Or.inr ⟨o, ho, rfl, fun f hf => ?_, Or.inr ⟨i, b, q, hC, by omega, by rw [g11]; exact ci⟩⟩
          rw [g0, hnew f hf, e, hnv ρ r f g0 (gk 9 (by decide) (by decide)) (gk 10 (by decide) (by decide)) hlr hf]
        · rw [if_neg e]
          rcases hM i' b' q' x hC' (by omega) hx ex with h | ⟨o2, a1, a2, a3, a4⟩
          · exact Or.inl h
          · have hlo2 : lv o2 = true := by
              rcases a4 with h | ⟨i2, b2, q2, c1, -, c3⟩
              · rw [h]; exact hlx
              · exact lv_at' hH (Cl_i c1) (us_cl c1) a1 c3
            refine Or.inr ⟨o2, a1, a2, fun f hf => ?_, ?_⟩
            · rw [g0, hliv o2 f hlo2 hf, a3 f hf, hnv ρ x f g0 (gk 9 (by decide) (by decide)) (gk 10 (by decide) (by decide)) hlx hf]
            · rcases a4 with h | ⟨i2, b2, q2, c1, c2, c3⟩
              · exact Or.inl h
              · have e2 : i2 ≠ i := fun e => by
                  subst e
                  have := (Cl_fun hC c1).2
                  omega
                exact Or.inr ⟨i2, b2, q2, c1, by omega, by rw [g11, cn i2 e2]; exact c3⟩
      · intro x h
        obtain ⟨i', b', r', a1, a2, a3⟩ := h
        rw [g11]
        by_cases ei : i' = i
        · subst ei
          exact ⟨i', b', o, a1, ho, ci⟩
        · exact ⟨i', b', r', a1, a2, (cn i' ei).trans a3⟩
    have hor' : (r == o) = false := beq_eq_false_iff_ne.mpr (fun e => hor e.symm)
    have ho' : (o == r) = false := beq_eq_false_iff_ne.mpr hor
    have hleo := hN_le (σ 11) lev o
    have hler := hN_le (σ 11) lev r
    have hco := hcnt o ho
    have hcr := hcnt r hr
    rw [hor', beq_self_eq_true] at hco
    rw [ho', beq_self_eq_true] at hcr
    simp only [Bool.toNat_true, Bool.toNat_false] at hco hcr
    have hr1 : 0 < hN (σ 11) lev r := hN_pos hi hu er
    refine s_hold ho ?_
    have k1 : σ4 1 = σ 1 := by rw [ko 1 (by decide), t1]
    rw [k1, (hH o ho).1, show (1 : Int32) = nI 1 from rfl, nI_add]
    generalize hσ5 : sA σ4 1 (upd (σ 1) o (nI (hN (σ 11) lev o + 1))) = σ5
    have m1 : ∀ x, σ5 1 x = if x = o then nI (hN (σ 11) lev o + 1) else σ 1 x := fun x => by rw [← hσ5, sA_s]; rfl
    have mo : ∀ k, k ≠ 1 → k ≠ 11 → σ5 k = τ k := fun k a1 a11 => by rw [← hσ5, sA_n a1]; exact ko k a11
    have m11 : σ5 11 = upd (σ 11) i (nI o) := by rw [← hσ5, sA_n (by decide)]; exact k11
    have hR5 : RI σ5 lv1 L1 := RI_congr (mo 0 (by decide) (by decide)) (mo 2 (by decide) (by decide)) (mo 3 (by decide) (by decide)) (mo 4 (by decide) (by decide)) (mo 7 (by decide) (by decide)) hR1
    have e5r : σ5 1 r = nI (hN (σ 11) lev r) := by rw [m1, if_neg (fun e => hor e.symm)]; exact (hH r hr).1
    refine s_release 1 hR5 hr ((hl1 r).mpr (Or.inl hlr)) e5r (by omega) hr1 (fun hh ρ hρ hfρ e1 => ?_) (fun hh => ?_)
    · refine fin ρ _ _ hρ ?_ ?_ ?_ ?_ ?_
      · rw [hfρ 11 (by decide) (by decide) (by decide) (by decide) (by decide)]; exact m11
      · rw [hfρ 0 (by decide) (by decide) (by decide) (by decide) (by decide)]; exact mo 0 (by decide) (by decide)
      · rw [hfρ 5 (by decide) (by decide) (by decide) (by decide) (by decide)]; exact mo 5 (by decide) (by decide)
      · intro k hk hk11
        rw [hfρ k (by omega) (by omega) (by omega) (by omega) (by omega), mo k (by omega) hk11, tk k hk]
      · intro x hx
        have hcx := hcnt x hx
        rw [e1]
        by_cases exr : x = r
        · subst exr
          rw [pk_us]
          refine ⟨congrArg nI (by omega), ?_⟩
          simp only [bne_self_eq_false, Bool.and_false]
          constructor
          · intro h; exact absurd h (by decide)
          · intro h; omega
        · rw [pk_un exr, m1]
          have hxr : (r == x) = false := beq_eq_false_iff_ne.mpr (fun e => exr e.symm)
          rw [hxr] at hcx
          by_cases exo : x = o
          · subst exo
            rw [beq_self_eq_true] at hcx
            simp only [Bool.toNat_true, Bool.toNat_false] at hcx
            rw [if_pos rfl]
            refine ⟨congrArg nI (by omega), ?_⟩
            rw [Bool.and_eq_true, bne_iff_ne]
            exact ⟨fun _ => by omega, fun _ => ⟨(hl1 x).mpr (Or.inr rfl), exr⟩⟩
          · have hxo : (o == x) = false := beq_eq_false_iff_ne.mpr (fun e => exo e.symm)
            rw [hxo] at hcx
            simp only [Bool.toNat_false] at hcx
            rw [if_neg exo, show hN (upd (σ 11) i (nI o)) lev x = hN (σ 11) lev x by omega]
            refine ⟨(hH x hx).1, ?_⟩
            rw [Bool.and_eq_true, bne_iff_ne, hl1 x, ← (hH x hx).2]
            exact ⟨fun h => by rcases h.1 with h1 | h1; exact h1; exact absurd h1 exo, fun h => ⟨Or.inl h, exr⟩⟩
    · have g : ∀ k, k ≠ 1 → (sA σ5 1 (upd (σ5 1) r (nI (hN (σ 11) lev r - 1)))) k = σ5 k := fun k a => sA_n a
      refine fin _ lv1 L1 (RI_congr (g 0 (by decide)) (g 2 (by decide)) (g 3 (by decide)) (g 4 (by decide)) (g 7 (by decide)) hR5) ?_ ?_ ?_ ?_ ?_
      · rw [g 11 (by decide)]; exact m11
      · rw [g 0 (by decide)]; exact mo 0 (by decide) (by decide)
      · rw [g 5 (by decide)]; exact mo 5 (by decide) (by decide)
      · intro k hk hk11
        rw [g k (by omega), mo k (by omega) hk11, tk k hk]
      · intro x hx
        have hcx := hcnt x hx
        rw [sA_s]
        by_cases exr : x = r
        · subst exr
          rw [pk_us]
          exact ⟨congrArg nI (by omega), ⟨fun _ => by omega, fun _ => (hl1 x).mpr (Or.inl hlr)⟩⟩
        · rw [pk_un exr, m1]
          have hxr : (r == x) = false := beq_eq_false_iff_ne.mpr (fun e => exr e.symm)
          rw [hxr] at hcx
          by_cases exo : x = o
          · subst exo
            rw [beq_self_eq_true] at hcx
            simp only [Bool.toNat_true, Bool.toNat_false] at hcx
            rw [if_pos rfl]
            exact ⟨congrArg nI (by omega), ⟨fun _ => by omega, fun _ => (hl1 x).mpr (Or.inr rfl)⟩⟩
          · have hxo : (o == x) = false := beq_eq_false_iff_ne.mpr (fun e => exo e.symm)
            rw [hxo] at hcx
            simp only [Bool.toNat_false] at hcx
            rw [if_neg exo, show hN (upd (σ 11) i (nI o)) lev x = hN (σ 11) lev x by omega]
            refine ⟨(hH x hx).1, ?_⟩
            rw [hl1 x, ← (hH x hx).2]
            exact ⟨fun h => by rcases h with h1 | h1; exact h1; exact absurd h1 exo, Or.inl⟩
theorem Cl_inj {c : Nat → Int32} {lev st : Nat → Nat} {lv : Nat → Bool} (hT : TI c lev st lv) {i i' b q : Nat} (hb : 0 < b) (h : Cl lev st i b q) (h' : Cl lev st i' b q) : i = i' := by
  rcases h with ⟨rfl, h1, rfl⟩ | ⟨rfl, j, k, hj, hk, hl, rfl, rfl⟩ | ⟨rfl, h⟩
  · rcases h' with ⟨-, h1', e⟩ | ⟨e, -⟩ | ⟨e, -⟩ <;> omega
  · rcases h' with ⟨e, -⟩ | ⟨-, j', k', hj', hk', hl', rfl, e⟩ | ⟨e, -⟩
    · omega
    · obtain ⟨t, a1, a2, a3⟩ := (TI_st hT hj).1 hl
      obtain ⟨t', a1', a2', a3'⟩ := (TI_st hT hj').1 hl'
      have : t = t' := by omega
      subst this
      have e2 := ng_inj (a := Rw j) (b := Rw j') (by unfold Rw; omega) (by unfold Rw; omega) (a3.symm.trans a3')
      unfold Rw at e2 ⊢
      omega
    · omega
  · omega
theorem Cl_off {lev st : Nat → Nat} {i b q j : Nat} (h : Cl (fu lev j 0) st i b q) : Cl lev st i b q ∧ (i < Rw j ∨ Rw j + 32 ≤ i) := by
  rcases h with ⟨rfl, h1, rfl⟩ | ⟨rfl, j', k, hj', hk, hl, rfl, rfl⟩ | ⟨rfl, j', k, hj', hk, hl, rfl, rfl⟩
  · exact ⟨Or.inl ⟨rfl, h1, rfl⟩, by unfold Rw; omega⟩
  · have hne : j' ≠ j := fun e => by rw [e, fu_s] at hl; omega
    rw [fu_n hne] at hl
    exact ⟨Or.inr (Or.inl ⟨rfl, j', k, hj', hk, hl, rfl, rfl⟩), by unfold Rw; omega⟩
  · have hne : j' ≠ j := fun e => by rw [e, fu_s] at hl; omega
    rw [fu_n hne] at hl
    exact ⟨Or.inr (Or.inr ⟨rfl, j', k, hj', hk, hl, rfl, rfl⟩), by unfold Rw; omega⟩
theorem Cl_on {lev st : Nat → Nat} {i b q j : Nat} (h : Cl lev st i b q) (hi : i < Rw j ∨ Rw j + 32 ≤ i) : Cl (fu lev j 0) st i b q := by
  rcases h with ⟨rfl, h1, rfl⟩ | ⟨rfl, j', k, hj', hk, hl, rfl, rfl⟩ | ⟨rfl, j', k, hj', hk, hl, rfl, rfl⟩
  · exact Or.inl ⟨rfl, h1, rfl⟩
  · have hne : j' ≠ j := fun e => by subst e; omega
    exact Or.inr (Or.inl ⟨rfl, j', k, hj', hk, by rw [fu_n hne]; exact hl, rfl, rfl⟩)
  · have hne : j' ≠ j := fun e => by subst e; omega
    exact Or.inr (Or.inr ⟨rfl, j', k, hj', hk, by rw [fu_n hne]; exact hl, rfl, rfl⟩)
section JOIN
variable {c : Nat → Int32} {lev st : Nat → Nat} {lv : Nat → Bool} {i b q r j : Nat}
/-- a pointing cell lies outside the row that it points to -/
theorem Pn_out (hT : TI c lev st lv) (hC : Cl lev st i b q) (hp : Pn c lev st i b q j) : i < Rw j ∨ Rw j + 32 ≤ i := by
  obtain ⟨hb, hj, hl, hs, -⟩ := hp
  rcases hC with ⟨rfl, h1, rfl⟩ | ⟨rfl, j', k, hj', hk, hl', rfl, rfl⟩ | ⟨rfl, h⟩
  · unfold Rw; omega
  · have hne : j' ≠ j := fun e => by
      subst e
      rw [hl'] at hl
      exact absurd hl (by decide)
    unfold Rw; omega
  · omega
theorem TI_join (hT : TI c lev st lv) (hC : Cl lev st i b q) (hp : Pn c lev st i b q j) (hr : r < 1028) (hlr : lv r = true) (hrow : ∀ k, k < 32 → c (Rw j + k) = nI r) : TI (upd c i (nI r)) (fu lev j 0) st lv := by
  have hp0 := hp
  obtain ⟨hb, hj, hl, hs, hc⟩ := hp
  have ci : upd c i (nI r) i = nI r := by unfold upd; rw [if_pos rfl]
  have cn : ∀ x, x ≠ i → upd c i (nI r) x = c x := fun x h => by unfold upd; rw [if_neg h]
  refine ⟨fun i' b' q' h => ?_, fun j' hj' hl' => ?_⟩
  · obtain ⟨h1, h2⟩ := Cl_off h
    by_cases ei : i' = i
    · rw [ei]
      exact Or.inl ⟨r, hr, hlr, ci⟩
    · rcases hT.1 i' b' q' h1 with ⟨x, a1, a2, a3⟩ | ⟨j2, a1, a2, a3, a4, a5⟩
      · exact Or.inl ⟨x, a1, a2, (cn i' ei).trans a3⟩
      · have hne : j2 ≠ j := fun e => by
          subst e
          have hq : q' = q := a4.symm.trans hs
          have hbb : b' = b := by
            have h3 : lb b' = lb b := a3.symm.trans hl
            unfold lb at h3
            rcases Cl_b hC with rfl | rfl | rfl <;> rcases Cl_b h1 with rfl | rfl | rfl <;> simp at h3 ⊢ <;> omega
          subst hq hbb
          exact ei (Cl_inj hT a1 h1 hC)
        exact Or.inr ⟨j2, a1, a2, by rw [fu_n hne]; exact a3, a4, (cn i' ei).trans a5⟩
  · have hne : j' ≠ j := fun e => by rw [e, fu_s] at hl'; exact hl' rfl
    rw [fu_n hne] at hl'
    obtain ⟨i', b', q', h1, a1, a2, a3, a4, a5⟩ := hT.2 j' hj' hl'
    have ei : i' ≠ i := fun e => by
      subst e
      have := ng_inj (a := Rw j') (b := Rw j) (by unfold Rw; omega) (by unfold Rw; omega) (a5.symm.trans hc)
      unfold Rw at this
      omega
    have hout : i' < Rw j ∨ Rw j + 32 ≤ i' := by
      by_cases hin : Rw j ≤ i' ∧ i' < Rw j + 32
      · exfalso
        have h3 := hrow (i' - Rw j) (by omega)
        rw [show Rw j + (i' - Rw j) = i' by omega] at h3
        exact rec_no (by omega) hj' h3 a5
      · omega
    exact ⟨i', b', q', Cl_on h1 hout, a1, a2, by rw [fu_n hne]; exact a3, a4, (cn i' ei).trans a5⟩
theorem VI_join {σ τ : St} {V : Nat → Nat → Int32} (hT : TI (σ 11) lev st lv) (hV : VI σ lev st V) (hC : Cl lev st i b q) (hp : Pn (σ 11) lev st i b q j) (hr : r < 1028) (hrow : ∀ k, k < 32 → σ 11 (Rw j + k) = nI r) (ev : τ 0 = σ 0) (ec : τ 11 = upd (σ 11) i (nI r)) : VI τ (fu lev j 0) st V := by
  obtain ⟨hb, hj, hl, hs, hc⟩ := hp
  intro i' b' q' r' h hr' er' p p1 p2 f hf
  obtain ⟨h1, h2⟩ := Cl_off h
  rw [ev]
  rw [ec] at er'
  unfold upd at er'
  by_cases ei : i' = i
  · rw [if_pos ei] at er'
    subst ei
    obtain ⟨rfl, rfl⟩ := Cl_fun hC h1
    have : r' = r := (nI_inj (by omega) (by omega) er').symm
    subst this
    have hb5 : b = 10 ∨ b = 5 := by rcases Cl_b hC with h | h | h <;> omega
    have hk : (p - q) / 2 ^ (b - 5) < 32 := by rcases hb5 with rfl | rfl <;> omega
    have h4 := row_cl hC hb hj hl hs hk
    exact hV _ _ _ r' h4 hr (hrow _ hk) p (by rcases hb5 with rfl | rfl <;> omega) (by rcases hb5 with rfl | rfl <;> omega) f hf
  · rw [if_neg ei] at er'
    exact hV i' b' q' r' h1 hr' er' p p1 p2 f hf
end JOIN
theorem s_isAllAlike {σ : St} {Q : Int32 → St → Prop} {j : Nat} (hj : j < 2048) (h1 : (∀ k, k < 32 → σ 11 (Rw j + k) = σ 11 (Rw j)) → ¬ σ 11 (Rw j) < 0 → Q 1 σ) (h0 : Q 0 σ) : F_Bl_isAllAlike (nI (Rw j)) σ Q := by
  have hrw : Rw j + 32 ≤ 66624 := by unfold Rw; omega
  unfold F_Bl_isAllAlike
  rw [cl (by omega)]
  refine ⟨vp_in_nI (by omega) (by decide), ?_⟩
  intro z2 hz2
  refine ⟨fun hc => ?_, fun _ => h0⟩
  intro z3 hz3
  unfold F_Bl_isAllAlike_L15
  refine ⟨fun v3 τ => τ = σ ∧ ∃ k, 1 ≤ k ∧ k ≤ 32 ∧ v3 = nI k ∧ ∀ x, x < k → σ 11 (Rw j + x) = z2, fun v3 _ => 32 - v3.toNatClampNeg, ⟨rfl, 1, by omega, by omega, hz3, fun x hx => by rw [show x = 0 by omega, Nat.add_zero]; exact hz2.symm⟩, ?_⟩
  intro v3 τ n hI hm
  dsimp only at hm ⊢
  obtain ⟨rfl, k, hk1, hk, rfl, hall⟩ := hI
  rw [cl (by omega)] at hm
  have e8 : (32 : Int32) = nI 32 := rfl
  refine ⟨fun hc1 => ?_, fun hc1 => ?_⟩
  · rw [e8, nI_leI (by omega) (by omega)] at hc1
    refine h1 (fun x hx => by rw [hall x (by omega), hz2]) (fun h => ?_)
    rw [← hz2] at h
    exact Int32.not_lt.mpr hc h
  · rw [e8, nI_leI (by omega) (by omega)] at hc1
    rw [nI_add, cl (by omega)]
    refine ⟨vp_in_nI (by omega) (by decide), fun hc2 => ?_, fun _ => h0⟩
    intro z1 hz1
    rw [ar_1] at hz1
    refine ⟨⟨rfl, k + 1, by omega, by omega, hz1, fun x hx => ?_⟩, ?_⟩
    · by_cases e : x = k
      · rw [e]; exact hc2
      · exact hall x (by omega)
    · rw [hz1, cl (by omega)]
      omega
theorem s_join {σ : St} {lev st : Nat → Nat} {lv : Nat → Bool} {L : Nat → List Nat} {V : Nat → Nat → Int32} {n i b q : Nat} {Q : St → Prop} (hB : BI σ lev st lv L V n) (hC : Cl lev st i b q)
    (hQ : ∀ (τ : St) (lev' : Nat → Nat) (n' : Nat), n ≤ n' → BI τ lev' st lv L V n' → (∀ x, lev x ≠ lb b → lev' x = lev x) → (∀ x, x ≠ i → τ 11 x = σ 11 x) → (∀ k, k ≠ 1 → k ≠ 11 → k ≠ 12 → k ≠ 13 → τ k = σ k) → Q τ) : F_Bl_join (nI i) σ Q := by
  have hB0 := hB
  obtain ⟨hR, hT, hV, ⟨hn8, e13, hcount, hsp, hinj⟩, hH, hZ⟩ := hB
  have hi := Cl_i hC
  have hu := us_cl hC
  have hstay : Q σ := hQ σ lev n (Nat.le_refl _) hB0 (fun _ _ => rfl) (fun _ _ => rfl) (fun _ _ _ _ _ => rfl)
  unfold F_Bl_join
  rw [cl (by omega)]
  refine ⟨vp_in_nI hi (by decide), ?_⟩
  intro z1 hz1
  refine ⟨fun _ => hstay, fun hc => ?_⟩
  rcases hT.1 i b q hC with ⟨r, h1, h2, h3⟩ | ⟨j, hp⟩
  · exfalso
    refine hc ?_
    rw [hz1, h3, Int32.le_iff_toInt_le, ng_toInt (by omega), Int32.toInt_zero]
    omega
  · have hp0 := hp
    obtain ⟨hb, hj, hl, hs, hcell⟩ := hp
    rw [hcell, ng_ng] at hz1
    subst hz1
    have hrw : Rw j + 32 ≤ 66624 := by unfold Rw; omega
    refine s_isAllAlike hj (fun hall hpos => ?_) ⟨fun _ => hstay, fun h => absurd rfl h⟩
    refine ⟨fun h => absurd h (by decide), fun _ => ?_⟩
    -- the row's record
    have hrec : ∃ r, r < 1028 ∧ lv r = true ∧ σ 11 (Rw j) = nI r := by
      have h4 := row_cl (k := 0) hC hb hj hl hs (by decide)
      rw [Nat.add_zero] at h4
      rcases hT.1 _ _ _ h4 with h5 | ⟨j2, a1, a2, a3, a4, a5⟩
      · exact h5
      · exfalso
        rw [a5] at hpos
        exact hpos (ng_lt (by unfold Rw; omega) (by unfold Rw; omega))
    obtain ⟨r, hr, hlr, er⟩ := hrec
    have hrow : ∀ k, k < 32 → σ 11 (Rw j + k) = nI r := fun k hk => by rw [hall k hk, er]
    rw [cl (by omega)]
    refine ⟨vp_in_nI (by omega) (by decide), ?_⟩
    intro z4 hz4
    rw [er] at hz4
    subst hz4
    refine ⟨vp_in_nI hi (by decide), ?_⟩
    intro σ5 h5
    have k11 : σ5 11 = upd (σ 11) i (nI r) := by rw [h5, sA_s]
    have ko : ∀ k, k ≠ 11 → σ5 k = σ k := fun k a => by rw [h5, sA_n a]
    have hR5 : RI σ5 lv L := RI_congr (ko 0 (by decide)) (ko 2 (by decide)) (ko 3 (by decide)) (ko 4 (by decide)) (ko 7 (by decide)) hR
    have hout := Pn_out hT hC hp0
    have hlj : lev j ≠ 0 := by rw [hl]; rcases lb_12 b with h | h <;> omega
    have hu' : us (fu lev j 0) i = true := us_cl (Cl_on hC hout)
    have hcnt : ∀ x, x < 1028 → hN (upd (σ 11) i (nI r)) (fu lev j 0) x + 32 * (r == x).toNat = hN (σ 11) lev x + (r == x).toNat := fun x hx => by
      have a1 := hN_unrow (c := σ 11) (lev := lev) (j := j) (r := x) (s := r) hj hlj hrow
      have a2 := hN_set (c := σ 11) (lev := fu lev j 0) (i := i) (r := x) (x := nI r) hi hu'
      have a3 : (σ 11 i == nI x) = false := beq_eq_false_iff_ne.mpr (fun e => rec_no (c := σ 11) (i := i) (show x < 2 ^ 31 by omega) hj e hcell)
      rw [a3, nI_beq (by omega) (by omega)] at a2
      rw [nI_beq (by omega) (by omega)] at a1
      simp only [Bool.toNat_false] at a2
      have a4 : hN (σ 11) (fun x => if x = j then 0 else lev x) x = hN (σ 11) (fu lev j 0) x := rfl
      omega
    have hcr := hcnt r hr
    rw [beq_self_eq_true] at hcr
    simp only [Bool.toNat_true] at hcr
    have hle := hN_le (σ 11) lev r
    have hpos' : 0 < hN (upd (σ 11) i (nI r)) (fu lev j 0) r := hN_pos hi hu' (by unfold upd; rw [if_pos rfl])
    refine s_release 31 hR5 hr hlr (show σ5 1 r = nI (hN (σ 11) lev r) by rw [ko 1 (by decide)]; exact (hH r hr).1) (by omega) (by omega) (fun hh => by omega) (fun _ => ?_)
    generalize hσ6 : sA σ5 1 (upd (σ5 1) r (nI (hN (σ 11) lev r - 31))) = σ6
    have m1 : ∀ x, σ6 1 x = if x = r then nI (hN (σ 11) lev r - 31) else σ 1 x := fun x => by rw [← hσ6, sA_s, ko 1 (by decide)]; rfl
    have mo : ∀ k, k ≠ 1 → σ6 k = σ5 k := fun k a => by rw [← hσ6, sA_n a]
    have hn1 : n < 2048 := by
      have h7 := sm_ge (f := fun x => (lev x != 0).toNat) (k := j) (n := 2048) hj
      have h8 : (lev j != 0).toNat = 1 := by rw [bne_iff_ne.mpr hlj]; rfl
      try dsimp only at h7
      omega
    have e613 : σ6 13 0 = nI n := by rw [mo 13 (by decide), ko 13 (by decide)]; exact e13
    rw [e613, cl (by omega)]
    refine ⟨vp_in_nI hn1 (by decide), ?_⟩
    intro σ7 h7 σ8 h8
    have e713 : σ7 13 0 = nI n := by rw [h7, sA_n (by decide)]; exact e613
    rw [e713, ar_1] at h8
    have g : ∀ k, k ≠ 12 → k ≠ 13 → σ8 k = σ6 k := fun k a1 a2 => by rw [h8, sA_n a2, h7, sA_n a1]
    have g12 : ∀ x, σ8 12 x = if x = n then nI (Rw j) else σ 12 x := fun x => by rw [h8, sA_n (by decide), h7, sA_s, mo 12 (by decide), ko 12 (by decide)]; rfl
    have g13 : σ8 13 0 = nI (n + 1) := by rw [h8, sA_s]
    have g11 : σ8 11 = upd (σ 11) i (nI r) := by rw [g 11 (by decide) (by decide), mo 11 (by decide)]; exact k11
    have gk : ∀ k, k ≠ 1 → k ≠ 11 → k ≠ 12 → k ≠ 13 → σ8 k = σ k := fun k a1 a11 a12 a13 => by rw [g k a12 a13, mo k a1, ko k a11]
    refine hQ σ8 (fu lev j 0) (n + 1) (by omega) ⟨RI_congr (gk 0 (by decide) (by decide) (by decide) (by decide)) (gk 2 (by decide) (by decide) (by decide) (by decide)) (gk 3 (by decide) (by decide) (by decide) (by decide)) (gk 4 (by decide) (by decide) (by decide) (by decide)) (gk 7 (by decide) (by decide) (by decide) (by decide)) hR,
      by rw [g11]; exact TI_join hT hC hp0 hr hlr hrow, VI_join hT hV hC hp0 hr hrow (gk 0 (by decide) (by decide) (by decide) (by decide)) g11, ⟨by omega, g13, ?_, ?_, ?_⟩, ?_, fun f hf => by rw [gk 0 (by decide) (by decide) (by decide) (by decide)]; exact hZ f hf⟩ (fun x hx => fu_n (fun e => hx (by rw [e]; exact hl))) (fun x hx => by rw [g11]; unfold upd; rw [if_neg hx]) gk
    · have h9 := sm_one (f := fun x => (fu lev j 0 x != 0).toNat) (g := fun x => (lev x != 0).toNat) (k := j) (n := 2048) hj (fun x _ hne => by
        show (fu lev j 0 x != 0).toNat = (lev x != 0).toNat
        rw [fu_n hne])
      have h10 : (fu lev j 0 j != 0).toNat = 0 := by rw [fu_s]; rfl
      have h11 : (lev j != 0).toNat = 1 := by rw [bne_iff_ne.mpr hlj]; rfl
      try dsimp only at h9
      omega
    · intro x hx
      rw [g12]
      by_cases e : x = n
      · rw [if_pos e]
        exact ⟨j, hj, rfl, fu_s _ _ _⟩
      · rw [if_neg e]
        obtain ⟨j', a1, a2, a3⟩ := hsp x (by omega)
        have hne : j' ≠ j := fun e => by rw [e] at a3; exact hlj a3
        exact ⟨j', a1, a2, by rw [fu_n hne]; exact a3⟩
    · have hno : ∀ x, x < n → σ 12 x ≠ nI (Rw j) := fun x hx e => by
        obtain ⟨j', a1, a2, a3⟩ := hsp x hx
        have := nI_inj (a := Rw j') (b := Rw j) (by unfold Rw; omega) (by unfold Rw; omega) (a2.symm.trans e)
        have : j' = j := by unfold Rw at this; omega
        rw [this] at a3
        exact hlj a3
      intro x y hx hy hxy
      rw [g12, g12] at hxy
      by_cases e1 : x = n
      · by_cases e2 : y = n
        · rw [e1, e2]
        · rw [if_pos e1, if_neg e2] at hxy
          exact absurd hxy.symm (hno y (by omega))
      · by_cases e2 : y = n
        · rw [if_neg e1, if_pos e2] at hxy
          exact absurd hxy (hno x (by omega))
        · rw [if_neg e1, if_neg e2] at hxy
          exact hinj x y (by omega) (by omega) hxy
    · intro x hx
      have hcx := hcnt x hx
      rw [g 1 (by decide) (by decide), m1, g11]
      by_cases e : x = r
      · subst e
        rw [if_pos rfl]
        exact ⟨by congr 1; omega, ⟨fun _ => hpos', fun _ => hlr⟩⟩
      · rw [beq_eq_false_iff_ne.mpr (fun h => e h.symm)] at hcx
        simp only [Bool.toNat_false] at hcx
        rw [if_neg e, show hN (upd (σ 11) i (nI r)) (fu lev j 0) x = hN (σ 11) lev x by omega]
        exact hH x hx
theorem s_joinBelow {σ : St} {lev st : Nat → Nat} {lv : Nat → Bool} {L : Nat → List Nat} {V : Nat → Nat → Int32} {n t : Nat} {Q : St → Prop} (hB : BI σ lev st lv L V n) (ht : t < 1088)
    (hQ : ∀ (τ : St) (lev' : Nat → Nat) (n' : Nat), n ≤ n' → BI τ lev' st lv L V n' → (∀ k, k ≠ 1 → k ≠ 11 → k ≠ 12 → k ≠ 13 → τ k = σ k) → Q τ) : F_Bl_joinBelow (nI t) σ Q := by
  have hC : Cl lev st t 10 (1024 * t) := Or.inl ⟨rfl, ht, rfl⟩
  unfold F_Bl_joinBelow
  rw [cl (by omega)]
  refine ⟨vp_in_nI (by omega) (by decide), ?_⟩
  intro z4 hz4
  refine ⟨fun _ => hQ σ lev n (Nat.le_refl _) hB (fun _ _ _ _ _ => rfl), fun hc => ?_⟩
  rcases hB.2.1.1 t 10 (1024 * t) hC with ⟨r, h1, h2, h3⟩ | ⟨j, hb, hj, hl, hs, hcell⟩
  · exfalso
    refine hc ?_
    rw [hz4, h3, Int32.le_iff_toInt_le, ng_toInt (by omega), Int32.toInt_zero]
    omega
  · rw [hcell, ng_ng] at hz4
    subst hz4
    have hrw : Rw j + 32 ≤ 66624 := by unfold Rw; omega
    intro z5 hz5
    unfold F_Bl_joinBelow_L14
    refine ⟨fun v3 τ => ∃ (lev' : Nat → Nat) (n' k : Nat), v3 = nI k ∧ k ≤ 32 ∧ n ≤ n' ∧ BI τ lev' st lv L V n' ∧ lev' j = 1 ∧ ∀ x, x ≠ 1 → x ≠ 11 → x ≠ 12 → x ≠ 13 → τ x = σ x, fun v3 _ => 32 - v3.toNatClampNeg, ⟨lev, n, 0, hz5, by omega, by omega, hB, hl, fun _ _ _ _ _ => rfl⟩, ?_⟩
    intro v3 τ m hI hm
    dsimp only at hm ⊢
    obtain ⟨lev', n', k, rfl, hk, hn, hB', hl', hfr⟩ := hI
    rw [cl (by omega)] at hm
    have e8 : (32 : Int32) = nI 32 := rfl
    refine ⟨fun hc1 => ?_, fun hc1 => ?_⟩
    · refine s_join hB' (Or.inl ⟨rfl, ht, rfl⟩ : Cl lev' st t 10 (1024 * t)) (fun ρ lev2 n2 a1 a2 _ _ a5 => ?_)
      exact hQ ρ lev2 n2 (by omega) a2 (fun x b1 b11 b12 b13 => by rw [a5 x b1 b11 b12 b13]; exact hfr x b1 b11 b12 b13)
    · rw [e8, nI_leI (by omega) (by omega)] at hc1
      rw [nI_add]
      refine s_join hB' (Or.inr (Or.inl ⟨rfl, j, k, hj, by omega, hl', rfl, rfl⟩) : Cl lev' st (Rw j + k) 5 (st j + 32 * k)) (fun ρ lev2 n2 a1 a2 a3 _ a5 => ?_)
      intro z3 hz3
      rw [ar_1] at hz3
      refine ⟨⟨lev2, n2, k + 1, hz3, by omega, by omega, a2, ?_, fun x b1 b11 b12 b13 => by rw [a5 x b1 b11 b12 b13]; exact hfr x b1 b11 b12 b13⟩, ?_⟩
      · rw [a3 j (by rw [hl']; decide)]; exact hl'
      · rw [hz3, cl (by omega)]
        omega
/-- the next point's fields are others -/
def bk (V : Nat → Nat → Int32) (p : Nat) : Bool := (List.range 8).any (fun f => V p f != V (p + 1) f)
def brk (V : Nat → Nat → Int32) : Nat := sm (fun p => (bk V p).toNat) 1114111
theorem bk_f {V : Nat → Nat → Int32} {p : Nat} : bk V p = false ↔ ∀ f, f < 8 → V p f = V (p + 1) f := by
  unfold bk
  rw [List.any_eq_false]
  constructor
  · intro h f hf
    have := h f (List.mem_range.mpr hf)
    simpa using this
  · intro h f hf
    rw [h f (List.mem_range.mp hf)]
    simp
theorem sm_ind (a : Nat) : ∀ n, sm (fun p => (p == a).toNat) n ≤ 1
  | 0 => Nat.zero_le _
  | n + 1 => by
    rw [sm_s]
    by_cases e : n = a
    · have h1 : sm (fun p => (p == a).toNat) n = 0 := sm_zero (fun i hi => by
        show (i == a).toNat = 0
        rw [beq_eq_false_iff_ne.mpr (by omega)]
        rfl)
      rcases bt_nat (n == a) with h | h <;> omega
    · have h1 := sm_ind a n
      rw [beq_eq_false_iff_ne.mpr e]
      simpa using h1
theorem sm_plus (f g : Nat → Nat) : ∀ n, sm (fun i => f i + g i) n = sm f n + sm g n
  | 0 => rfl
  | n + 1 => by
    rw [sm_s, sm_s, sm_s, sm_plus f g n]
    omega
theorem brk_chg {V : Nat → Nat → Int32} {fl a z : Nat} {v k : Int32} : brk (chg V fl v k a z) ≤ brk V + 2 := by
  unfold brk
  have h1 : sm (fun p => (bk (chg V fl v k a z) p).toNat) 1114111 ≤ sm (fun p => (bk V p).toNat + ((p == a - 1).toNat + (p == z - 1).toNat)) 1114111 := sm_le (fun p _ => by
    show (bk (chg V fl v k a z) p).toNat ≤ (bk V p).toNat + ((p == a - 1).toNat + (p == z - 1).toNat)
    by_cases e1 : p = a - 1
    · rw [e1, beq_self_eq_true]
      rcases bt_nat (bk (chg V fl v k a z) (a - 1)) with h | h <;> simp only [Bool.toNat_true] <;> omega
    · by_cases e2 : p = z - 1
      · rw [e2, beq_self_eq_true]
        rcases bt_nat (bk (chg V fl v k a z) (z - 1)) with h | h <;> simp only [Bool.toNat_true] <;> omega
      · cases hb : bk V p with
        | true => rcases bt_nat (bk (chg V fl v k a z) p) with h | h <;> simp only [Bool.toNat_true] <;> omega
        | false =>
          have hb' : bk (chg V fl v k a z) p = false := bk_f.mpr (fun f hf => by
            have h2 := bk_f.mp hb f hf
            unfold chg
            by_cases hin : a ≤ p ∧ p < z ∧ f = fl
            · rw [if_pos hin, if_pos (by omega), h2]
            · rw [if_neg hin, if_neg (by omega), h2])
          rw [hb']
          simp)
  have h2 := sm_plus (fun p => (bk V p).toNat) (fun p => (p == a - 1).toNat + (p == z - 1).toNat) 1114111
  have h3 := sm_plus (fun p => (p == a - 1).toNat) (fun p => (p == z - 1).toNat) 1114111
  have h4 := sm_ind (a - 1) 1114111
  have h5 := sm_ind (z - 1) 1114111
  omega
/-- every point lies in a cell with a record -/
theorem rec_ex {c : Nat → Int32} {lev st : Nat → Nat} {lv : Nat → Bool} (hT : TI c lev st lv) {p : Nat} (hp : p < 1114112) : ∃ i b q r, Cl lev st i b q ∧ q ≤ p ∧ p < q + 2 ^ b ∧ r < 1028 ∧ lv r = true ∧ c i = nI r := by
  have step : ∀ i b q, Cl lev st i b q → q ≤ p → p < q + 2 ^ b → (∃ r, r < 1028 ∧ lv r = true ∧ c i = nI r) ∨ (0 < b ∧ ∃ i' q', Cl lev st i' (b - 5) q' ∧ q' ≤ p ∧ p < q' + 2 ^ (b - 5)) := fun i b q hC p1 p2 => by
    rcases hT.1 i b q hC with h | ⟨j, hb, hj, hl, hs, hc⟩
    · exact Or.inl h
    · have hb5 : b = 10 ∨ b = 5 := by rcases Cl_b hC with h | h | h <;> omega
      have hk : (p - q) / 2 ^ (b - 5) < 32 := by rcases hb5 with rfl | rfl <;> omega
      exact Or.inr ⟨hb, _, _, row_cl hC hb hj hl hs hk, by rcases hb5 with rfl | rfl <;> omega, by rcases hb5 with rfl | rfl <;> omega⟩
  have h10 : Cl lev st (p / 1024) 10 (1024 * (p / 1024)) := Or.inl ⟨rfl, by omega, rfl⟩
  rcases step _ _ _ h10 (by omega) (by omega) with ⟨r, a1, a2, a3⟩ | ⟨-, i', q', b1, b2, b3⟩
  · exact ⟨_, _, _, r, h10, by omega, by omega, a1, a2, a3⟩
  · rcases step _ _ _ b1 b2 b3 with ⟨r, a1, a2, a3⟩ | ⟨-, i2, q2, c1, c2, c3⟩
    · exact ⟨_, _, _, r, b1, b2, b3, a1, a2, a3⟩
    · rcases step _ _ _ c1 c2 c3 with ⟨r, a1, a2, a3⟩ | ⟨h0, -⟩
      · exact ⟨_, _, _, r, c1, c2, c3, a1, a2, a3⟩
      · exact absurd h0 (by decide)
/-- the number of a point's record -/
def RecAt (c : Nat → Int32) (lev st : Nat → Nat) (p r : Nat) : Prop := ∃ i b q, Cl lev st i b q ∧ q ≤ p ∧ p < q + 2 ^ b ∧ r < 1028 ∧ c i = nI r
theorem RecAt_one {c : Nat → Int32} {lev st : Nat → Nat} {lv : Nat → Bool} (hT : TI c lev st lv) {p r r' : Nat} (h : RecAt c lev st p r) (h' : RecAt c lev st p r') : r = r' := by
  obtain ⟨i, b, q, a1, a2, a3, a4, a5⟩ := h
  obtain ⟨i', b', q', a1', a2', a3', a4', a5'⟩ := h'
  obtain ⟨rfl, -, -⟩ := Cl_one hT a1 a1' (by omega) (by omega) a5 a5' a2 a3 a2' a3'
  exact nI_inj (by omega) (by omega) (a5.symm.trans a5')
theorem room_le {σ : St} {lev st : Nat → Nat} {lv : Nat → Bool} {L : Nat → List Nat} {V : Nat → Nat → Int32} {n : Nat} (hB : BI σ lev st lv L V n) : sm (fun x => (lv x).toNat) 1028 ≤ 2 + brk V := by
  obtain ⟨hR, hT, hV, hS, hH, hZ⟩ := hB
  have hsp : ∀ p, p < 1114112 → RecAt (σ 11) lev st p (Classical.epsilon (fun r => RecAt (σ 11) lev st p r)) := fun p hp => by
    obtain ⟨i, b, q, r, a1, a2, a3, a4, -, a6⟩ := rec_ex hT hp
    exact Classical.epsilon_spec (p := fun r => RecAt (σ 11) lev st p r) ⟨r, i, b, q, a1, a2, a3, a4, a6⟩
  have h1 := sm_dist (fun p => Classical.epsilon (fun r => RecAt (σ 11) lev st p r)) 1028 1114111 (fun x => lv x && x != 0) (fun x hx hq => by
    rw [Bool.and_eq_true, bne_iff_ne] at hq
    obtain ⟨i, hi, hu, e⟩ := hN_at hq.2 (((hH x hx).2).mp hq.1)
    obtain ⟨b, q, hC⟩ := cl_us hT hi hu
    have h2 := Cl_al hT hC
    have hpos := p2_pos b
    refine ⟨q, by omega, ?_⟩
    exact RecAt_one hT (hsp q (by omega)) ⟨i, b, q, hC, Nat.le_refl _, by omega, hx, e⟩)
  have h2 : sm (fun p => ((fun p => Classical.epsilon (fun r => RecAt (σ 11) lev st p r)) p != (fun p => Classical.epsilon (fun r => RecAt (σ 11) lev st p r)) (p + 1)).toNat) 1114111 ≤ brk V := by
    unfold brk
    refine sm_le (fun p hp => ?_)
    cases hb : bk V p with
    | true => rcases bt_nat ((fun p => Classical.epsilon (fun r => RecAt (σ 11) lev st p r)) p != (fun p => Classical.epsilon (fun r => RecAt (σ 11) lev st p r)) (p + 1)) with h | h <;> rw [h] <;> simp
    | false =>
      have h3 := hsp p (by omega)
      have h4 := hsp (p + 1) (by omega)
      obtain ⟨i, b, q, a1, a2, a3, a4, a5⟩ := h3
      obtain ⟨i', b', q', a1', a2', a3', a4', a5'⟩ := h4
      have e := hR.2.2 _ _ a4 a4' (lv_at' hH (Cl_i a1) (us_cl a1) a4 a5) (lv_at' hH (Cl_i a1') (us_cl a1') a4' a5') (fun f hf => by
        rw [hV i b q _ a1 a4 a5 p a2 a3 f hf, hV i' b' q' _ a1' a4' a5' (p + 1) a2' a3' f hf]
        exact bk_f.mp hb f hf)
      show ((Classical.epsilon (fun r => RecAt (σ 11) lev st p r)) != Classical.epsilon (fun r => RecAt (σ 11) lev st (p + 1) r)).toNat ≤ _
      rw [← e]
      simp
  have h3 := sm_one (f := fun x => (lv x).toNat) (g := fun x => (lv x && x != 0).toNat) (k := 0) (n := 1028) (by decide) (fun x _ hne => by
    show (lv x).toNat = (lv x && x != 0).toNat
    rw [bne_iff_ne.mpr hne, Bool.and_true])
  have h4 : (lv 0 && (0 : Nat) != 0).toNat = 0 := by simp
  have h5 : (lv 0).toNat ≤ 1 := by rcases bt_nat (lv 0) with h | h <;> omega
  simp only [h4] at h3
  dsimp only at h2
  omega
theorem Bg_next {c : Nat → Int32} {lev st : Nat → Nat} {lv : Nat → Bool} (hT : TI c lev st lv) {i b q r : Nat} (hC : Cl lev st i b q) (hr : r < 1028) (er : c i = nI r) (h : q + 2 ^ b < 1114112) : Bg c lev st (q + 2 ^ b) := by
  have hpos := p2_pos b
  obtain ⟨i', b', q', r', a1, a2, a3, a4, -, a6⟩ := rec_ex hT h
  by_cases e : q' = q + 2 ^ b
  · subst e
    exact ⟨i', b', r', a1, a4, a6⟩
  · exfalso
    have h1 := Cl_one hT hC a1 (by omega) (by omega) er a6 (show q ≤ q + 2 ^ b - 1 by omega) (by omega) (by omega) (by omega)
    obtain ⟨-, rfl, rfl⟩ := h1
    omega
theorem Bg_at {c : Nat → Int32} {lev st : Nat → Nat} {lv : Nat → Bool} (hT : TI c lev st lv) {i b q r p : Nat} (hC : Cl lev st i b q) (hr : r < 1028) (er : c i = nI r) (h1 : q ≤ p) (h2 : p < q + 2 ^ b) (hg : Bg c lev st p) : q = p := by
  obtain ⟨i', b', r', a1, a2, a3⟩ := hg
  have hpos := p2_pos b'
  exact (Cl_one hT hC a1 (by omega) (by omega) er a3 h1 h2 (Nat.le_refl _) (by omega)).2.2
theorem chg_chg {V : Nat → Nat → Int32} {fl a x y : Nat} {v k : Int32} (h1 : a ≤ x) (h2 : x ≤ y) : chg (chg V fl v k a x) fl v k x y = chg V fl v k a y := by
  funext p f
  unfold chg
  by_cases e1 : x ≤ p ∧ p < y ∧ f = fl
  · rw [if_pos e1, if_neg (by omega), if_pos (by omega)]
  · rw [if_neg e1]
    by_cases e2 : a ≤ p ∧ p < x ∧ f = fl
    · rw [if_pos e2, if_pos (by omega)]
    · rw [if_neg e2, if_neg (by omega)]
theorem chg_none {V : Nat → Nat → Int32} {fl a : Nat} {v k : Int32} : chg V fl v k a a = V := by
  funext p f
  unfold chg
  rw [if_neg (by omega)]
theorem MI_congr {σ τ : St} {lev st : Nat → Nat} {fl z : Nat} (h0 : τ 0 = σ 0) (h5 : τ 5 = σ 5) (h9 : τ 9 = σ 9) (h10 : τ 10 = σ 10) (h11 : τ 11 = σ 11) (h : MI σ lev st fl z) : MI τ lev st fl z := by
  unfold MI nv at *
  rw [h0, h5, h9, h10, h11]
  exact h
theorem s_alterL67 {σ : St} {lev st : Nat → Nat} {lv : Nat → Bool} {L : Nat → List Nat} {V : Nat → Nat → Int32} {n z t0 : Nat} {Q : St → Prop} (hB : BI σ lev st lv L V n) (hz : z < 1114112) (ht0 : t0 ≤ z / 1024 + 1)
    (hQ : ∀ (τ : St) (lev' : Nat → Nat) (n' : Nat), n ≤ n' → BI τ lev' st lv L V n' → (∀ k, k ≠ 1 → k ≠ 11 → k ≠ 12 → k ≠ 13 → τ k = σ k) → Q τ) : F_Bl_alter_L67 (nI z) (nI t0) σ Q := by
  unfold F_Bl_alter_L67
  have hsh : nI z >>> ((10 : Int32) &&& 31) = nI (z / 1024) := pk_shrN (by omega) _ 10 (by decide)
  refine ⟨fun v4 τ => ∃ (lev' : Nat → Nat) (n' t : Nat), v4 = nI t ∧ t ≤ z / 1024 + 1 ∧ n ≤ n' ∧ BI τ lev' st lv L V n' ∧ ∀ x, x ≠ 1 → x ≠ 11 → x ≠ 12 → x ≠ 13 → τ x = σ x, fun v4 _ => 2000 - v4.toNatClampNeg, ⟨lev, n, t0, rfl, ht0, by omega, hB, fun _ _ _ _ _ => rfl⟩, ?_⟩
  intro v4 τ m hI hm
  dsimp only at hm ⊢
  obtain ⟨lev', n', t, rfl, ht, hn, hB', hfr⟩ := hI
  rw [cl (by omega)] at hm
  rw [hsh, nI_ltI (by omega) (by omega)]
  refine ⟨fun _ => hQ τ lev' n' hn hB' hfr, fun hc => ?_⟩
  refine s_joinBelow hB' (by omega) (fun ρ lev2 n2 a1 a2 a3 => ?_)
  intro z2 hz2
  rw [ar_1] at hz2
  refine ⟨⟨lev2, n2, t + 1, hz2, by omega, by omega, a2, fun x b1 b11 b12 b13 => by rw [a3 x b1 b11 b12 b13]; exact hfr x b1 b11 b12 b13⟩, ?_⟩
  rw [hz2, cl (by omega)]
  omega
theorem s_alterL29 {σ : St} {lev st : Nat → Nat} {lv : Nat → Bool} {L : Nat → List Nat} {V : Nat → Nat → Int32} {n a z fl : Nat} {Q : St → Prop} (hB : BI σ lev st lv L V n) (haz : a ≤ z) (hz : z < 1114112) (hfl : fl < 8) (efl : σ 8 0 = nI fl) (hout : ∀ i, i < 1028 → σ 5 i = -1) (hbr : brk V ≤ 1022)
    (hga : Bg (σ 11) lev st a) (hgz : z + 1 < 1114112 → Bg (σ 11) lev st (z + 1))
    (hQ : ∀ (τ : St) (lev' : Nat → Nat) (lv' : Nat → Bool) (L' : Nat → List Nat) (n' : Nat), n ≤ n' → BI τ lev' st lv' L' (chg V fl (σ 9 0) (σ 10 0) a (z + 1)) n' → (∀ k, 16 < k → τ k = σ k) → Q τ) : F_Bl_alter_L29 (nI a) (nI z) (nI a) σ Q := by
  unfold F_Bl_alter_L29
  have hsh : nI a >>> ((10 : Int32) &&& 31) = nI (a / 1024) := pk_shrN (by omega) _ 10 (by decide)
  refine ⟨fun v3 τ => ∃ (lv' : Nat → Bool) (L' : Nat → List Nat) (x : Nat), v3 = nI x ∧ a ≤ x ∧ x ≤ z + 1 ∧ BI τ lev st lv' L' (chg V fl (σ 9 0) (σ 10 0) a x) n ∧ MI τ lev st fl x ∧ (x ≤ z → Bg (τ 11) lev st x) ∧ (z + 1 < 1114112 → Bg (τ 11) lev st (z + 1)) ∧ τ 8 = σ 8 ∧ τ 9 = σ 9 ∧ τ 10 = σ 10 ∧ ∀ k, 16 < k → τ k = σ k,
    fun v3 _ => 1114200 - v3.toNatClampNeg, ⟨lv, L, a, rfl, Nat.le_refl _, by omega, by rw [chg_none]; exact hB, fun i b q x _ _ hx _ => Or.inl (hout x hx), fun _ => hga, hgz, rfl, rfl, rfl, fun _ _ => rfl⟩, ?_⟩
  intro v3 τ m hI hm
  dsimp only at hm ⊢
  obtain ⟨lv', L', x, rfl, hax, hxz, hB', hM, hgx, hgz', e8, e9, e10, hfr⟩ := hI
  rw [cl (by omega)] at hm
  rw [nI_ltI (by omega) (by omega)]
  refine ⟨fun hc => ?_, fun hc => ?_⟩
  · have : x = z + 1 := by omega
    subst this
    intro z3 hz3
    rw [hz3, hsh]
    refine s_alterL67 hB' hz (by omega) (fun ρ lev2 n2 a1 a2 a3 => ?_)
    exact hQ ρ lev2 lv' L' n2 a1 a2 (fun k hk => by rw [a3 k (by omega) (by omega) (by omega) (by omega)]; exact hfr k hk)
  · refine s_find hB'.2.1 (by omega) (fun σ4 i b q r hC q1 q2 hr hlr er hf4 g14 g15 g16 => ?_)
    have hq : q = x := Bg_at hB'.2.1 hC hr er q1 q2 (hgx (by omega))
    subst hq
    have hpos := p2_pos b
    have hal := (Cl_al hB'.2.1 hC).2
    have f4 : ∀ k, k < 14 → σ4 k = τ k := fun k hk => hf4 k (by omega) (by omega) (by omega)
    have hB4 : BI σ4 lev st lv' L' (chg V fl (σ 9 0) (σ 10 0) a q) n := BI_congr (fun k _ _ _ _ _ hk => f4 k hk) hB'
    have hM4 : MI σ4 lev st fl q := MI_congr (f4 0 (by decide)) (f4 5 (by decide)) (f4 9 (by decide)) (f4 10 (by decide)) (f4 11 (by decide)) hM
    have hroom : sm (fun y => (lv' y).toNat) 1028 < 1028 := by
      have h1 := room_le hB'
      have h2 := brk_chg (V := V) (fl := fl) (a := a) (z := q) (v := σ 9 0) (k := σ 10 0)
      omega
    rw [g14]
    refine s_replace hB4 hM4 hfl (by rw [f4 8 (by decide), e8]; exact efl) hroom hC hr (by rw [f4 11 (by decide)]; exact er) (fun σ5 lv5 L5 hB5 hM5 hg5 hf5 => ?_)
    rw [f4 9 (by decide), e9, f4 10 (by decide), e10, chg_chg hax (by omega)] at hB5
    intro z6 hz6
    have e16 : σ5 16 0 = nI (q + 2 ^ b - 1) := by rw [hf5 16 (by decide) (by decide)]; exact g16
    have ez : z6 = nI (q + 2 ^ b) := by
      rw [hz6, e16]
      by_cases hlt : nI q < nI (q + 2 ^ b - 1)
      · rw [if_pos hlt, ar_1]
        congr 1
        omega
      · rw [if_neg hlt, ar_1]
        rw [nI_ltI (by omega) (by omega)] at hlt
        congr 1
        omega
    have g11 : σ4 11 = τ 11 := f4 11 (by decide)
    have hle : q + 2 ^ b ≤ z + 1 := by
      by_cases hzl : z + 1 < 1114112
      · by_cases hgt : q + 2 ^ b ≤ z + 1
        · exact hgt
        · exfalso
          have := Bg_at hB'.2.1 hC hr er (show q ≤ z + 1 by omega) (by omega) (hgz' hzl)
          omega
      · omega
    refine ⟨⟨lv5, L5, q + 2 ^ b, ez, by omega, hle, hB5, hM5, fun hx => ?_, fun hzl => hg5 _ (by rw [g11]; exact hgz' hzl), by rw [hf5 8 (by decide) (by decide), f4 8 (by decide)]; exact e8, by rw [hf5 9 (by decide) (by decide), f4 9 (by decide)]; exact e9, by rw [hf5 10 (by decide) (by decide), f4 10 (by decide)]; exact e10, fun k hk => by rw [hf5 k (by omega) (by omega), hf4 k (by omega) (by omega) (by omega)]; exact hfr k hk⟩, ?_⟩
    · refine hg5 _ ?_
      rw [g11]
      exact Bg_next hB'.2.1 hC hr er (by omega)
    · rw [ez, cl (by omega)]
      omega
theorem s_alter {σ : St} {lev st : Nat → Nat} {lv : Nat → Bool} {L : Nat → List Nat} {V : Nat → Nat → Int32} {n a z fl : Nat} {Q : St → Prop} (hB : BI σ lev st lv L V n) (hn : 4 ≤ n) (haz : a ≤ z) (hz : z < 1114112) (hfl : fl < 8) (efl : σ 8 0 = nI fl) (hout : ∀ i, i < 1028 → σ 5 i = -1) (hbr : brk V ≤ 1022)
    (hQ : ∀ (τ : St) (lev' st' : Nat → Nat) (lv' : Nat → Bool) (L' : Nat → List Nat) (n' : Nat), n ≤ n' + 4 → BI τ lev' st' lv' L' (chg V fl (σ 9 0) (σ 10 0) a (z + 1)) n' → (∀ k, 16 < k → τ k = σ k) → Q τ) : F_Bl_alter (nI a) (nI z) σ Q := by
  have e13 : σ 13 0 = nI n := hB.2.2.2.1.2.1
  have hn8 : n ≤ 2048 := hB.2.2.2.1.1
  unfold F_Bl_alter
  rw [e13, show (4 : Int32) = nI 4 from rfl, nI_leI (by omega) (by omega), show (1114111 : Int32) = nI 1114111 from rfl, nI_leI (by omega) (by omega)]
  refine ⟨fun _ => ?_, fun h => absurd hn h⟩
  refine s_splitBefore hB (by omega) (by omega) (fun σ7 lev7 st7 n7 h1 h2 hB7 hg7 _ hf7 => ?_)
  have k7 : ∀ k, k ≠ 1 → k ≠ 11 → k < 13 → σ7 k = σ k := fun k a1 a11 hk => hf7 k a1 a11 (by omega) (by omega) (by omega) (by omega)
  refine ⟨fun hc => ?_, fun hc => ?_⟩
  · refine s_alterL29 hB7 haz hz hfl (by rw [k7 8 (by decide) (by decide) (by decide)]; exact efl) (by rw [k7 5 (by decide) (by decide) (by decide)]; exact hout) hbr hg7 (fun h => by omega) (fun τ lev' lv' L' n' a1 a2 a3 => ?_)
    rw [k7 9 (by decide) (by decide) (by decide), k7 10 (by decide) (by decide) (by decide)] at a2
    exact hQ τ lev' st7 lv' L' n' (by omega) a2 (fun k hk => by rw [a3 k hk]; exact hf7 k (by omega) (by omega) (by omega) (by omega) (by omega) (by omega))
  · rw [ar_1]
    refine s_splitBefore hB7 (by omega) (by omega) (fun σ8 lev8 st8 n8 h3 h4 hB8 hg8 hb8 hf8 => ?_)
    have k8 : ∀ k, k ≠ 1 → k ≠ 11 → k < 13 → σ8 k = σ k := fun k a1 a11 hk => by rw [hf8 k a1 a11 (by omega) (by omega) (by omega) (by omega)]; exact k7 k a1 a11 hk
    refine s_alterL29 hB8 haz hz hfl (by rw [k8 8 (by decide) (by decide) (by decide)]; exact efl) (by rw [k8 5 (by decide) (by decide) (by decide)]; exact hout) hbr (hb8 _ hg7) (fun _ => hg8) (fun τ lev' lv' L' n' a1 a2 a3 => ?_)
    rw [k8 9 (by decide) (by decide) (by decide), k8 10 (by decide) (by decide) (by decide)] at a2
    exact hQ τ lev' st8 lv' L' n' (by omega) a2 (fun k hk => by rw [a3 k hk, hf8 k (by omega) (by omega) (by omega) (by omega) (by omega) (by omega)]; exact hf7 k (by omega) (by omega) (by omega) (by omega) (by omega) (by omega))
end
section
abbrev L00 : Nat → List Nat := fun d => if d = chN (fun _ => 0) 0 then [0] else []
theorem hN_0 {c : Nat → Int32} (h : ∀ i, i < 1088 → c i = nI 0) (r : Nat) (hr : r < 1028) : hN c (fun _ => 0) r = if r = 0 then 1089 else 0 := by
  have hu : ∀ i, us (fun _ => 0) i = decide (i < 1088) := fun i => by
    unfold us
    simp
  unfold hN
  by_cases e : r = 0
  · subst e
    have h1 := sm_blk (g := fun _ => 0) (n := 66624) (b := 0) (c := 1) 1088 (fun i => (us (fun _ => 0) i && c i == nI 0).toNat) (by omega) (fun i _ a2 => by
      show (us (fun _ => 0) i && c i == nI 0).toNat = 0 + 1
      rw [hu i, decide_eq_true (show i < 1088 by omega), h i (by omega)]
      simp) (fun i _ a2 => by
      show (us (fun _ => 0) i && c i == nI 0).toNat = 0
      rw [hu i, decide_eq_false (show ¬ i < 1088 by omega)]
      rfl)
    have h2 : sm (fun _ => 0) 66624 = 0 := sm_zero (fun _ _ => rfl)
    rw [if_pos rfl, h1, h2]
    rfl
  · rw [if_neg e]
    have h1 : sm (fun i => (us (fun _ => 0) i && c i == nI r).toNat) 66624 = 0 := sm_zero (fun i _ => by
      show (us (fun _ => 0) i && c i == nI r).toNat = 0
      by_cases a : i < 1088
      · rw [h i a, nI_beq (by omega) (by omega), beq_eq_false_iff_ne.mpr (fun q => e q.symm), Bool.and_false]
        rfl
      · rw [hu i, decide_eq_false a]
        rfl)
    rw [h1, beq_eq_false_iff_ne.mpr e]
    rfl
theorem s_Bempty {σ : St} {Q : St → Prop} (hQ : ∀ τ : St, BI τ (fun _ => 0) (fun _ => 0) (fun x => x == 0) L00 (fun _ _ => 0) 2048 → (∀ k, 16 < k → τ k = σ k) → Q τ) : F_Bl_empty σ Q := by
  unfold F_Bl_empty
  refine s_Rempty (fun σ1 hR1 h11 h01 hf1 => ?_)
  refine s_fill4 (b := 0) (e := 1088) (by omega) (by omega) (fun σ2 hf2 hc2 => ?_)
  refine s_hold (r := 0) (by omega) ?_
  intro z1 hz1
  unfold F_Bl_empty_L32
  refine ⟨fun v1 τ => (∀ j, j ≠ 12 → τ j = sA σ2 1 (upd (σ2 1) 0 (σ2 1 0 + 1088)) j) ∧ ∃ k, k ≤ 2048 ∧ v1 = nI k ∧ ∀ q, q < k → τ 12 q = nI (Rw q), fun v1 _ => 2048 - v1.toNatClampNeg, ⟨fun _ _ => rfl, 0, by omega, hz1, fun q hq => absurd hq (Nat.not_lt_zero _)⟩, ?_⟩
  intro v1 τ n hI hm
  dsimp only at hm ⊢
  obtain ⟨hfr, k, hk, rfl, hall⟩ := hI
  rw [cl (by omega)] at hm
  have e8 : (2048 : Int32) = nI 2048 := rfl
  refine ⟨fun hc1 => ?_, fun hc1 => ?_⟩
  · rw [e8, nI_leI (by omega) (by omega)] at hc1
    have hk8 : k = 2048 := by omega
    subst hk8
    intro σ4 h4
    have g : ∀ j, j ≠ 1 → j ≠ 12 → j ≠ 13 → σ4 j = σ2 j := fun j b1 b12 b13 => by rw [h4, sA_n b13, hfr j b12, sA_n b1]
    have g11 : ∀ i, i < 1088 → σ4 11 i = nI 0 := fun i hi => by
      rw [g 11 (by decide) (by decide) (by decide), hc2 i, if_pos (by omega)]
      rfl
    have g0 : ∀ f, f < 8 → σ4 0 f = 0 := fun f hf => by
      rw [g 0 (by decide) (by decide) (by decide), hf2 0 (by decide)]
      exact h01 f hf
    have g1 : ∀ r, r < 1028 → σ4 1 r = if r = 0 then nI 1089 else nI 0 := fun r hr => by
      rw [h4, sA_n (by decide), hfr 1 (by decide), sA_s, hf2 1 (by decide)]
      unfold upd
      by_cases e : r = 0
      · rw [if_pos e, if_pos e, h11 0 (by omega), if_pos rfl]
        rfl
      · rw [if_neg e, if_neg e, h11 r hr, if_neg e]
        rfl
    have g12 : ∀ q, q < 2048 → σ4 12 q = nI (Rw q) := fun q hq => by
      rw [h4, sA_n (by decide)]
      exact hall q hq
    have hcl : ∀ i b p, Cl (fun _ => 0) (fun _ => 0) i b p → i < 1088 := fun i b p h => by
      rcases h with ⟨-, h, -⟩ | ⟨-, j, k, -, -, h, -⟩ | ⟨-, j, k, -, -, h, -⟩
      · exact h
      · exact absurd h (show ¬ (0 = 1) by decide)
      · exact absurd h (show ¬ (0 = 2) by decide)
    refine hQ σ4 ⟨?_, ⟨fun i b p h => Or.inl ⟨0, by omega, rfl, g11 i (hcl i b p h)⟩, fun j _ h => absurd rfl h⟩, ?_, ⟨by omega, ?_, ?_, fun q hq => ⟨q, hq, g12 q hq, rfl⟩, fun i j hi hj hij => ?_⟩, fun r hr => ?_, g0⟩ (fun j hj => ?_)
    · have o : ∀ j, j ≠ 1 → j ≠ 11 → j ≠ 12 → j ≠ 13 → σ4 j = σ1 j := fun j b1 b11 b12 b13 => by rw [g j b1 b12 b13, hf2 j b11]
      exact RI_congr (o 0 (by decide) (by decide) (by decide) (by decide)) (o 2 (by decide) (by decide) (by decide) (by decide)) (o 3 (by decide) (by decide) (by decide) (by decide)) (o 4 (by decide) (by decide) (by decide) (by decide)) (o 7 (by decide) (by decide) (by decide) (by decide)) hR1
    · intro i b q r hC hr er p _ _ f hf
      have h1 := g11 i (hcl i b q hC)
      have : r = 0 := nI_inj (by omega) (by omega) (er.symm.trans h1)
      subst this
      rw [Nat.mul_zero, Nat.zero_add]
      exact g0 f hf
    · rw [h4, sA_s]
      rfl
    · have hz : sm (fun j => ((fun _ : Nat => 0) j != 0).toNat) 2048 = 0 := sm_zero (fun _ _ => rfl)
      rw [hz]
    · rw [g12 i hi, g12 j hj] at hij
      have := nI_inj (by unfold Rw; omega) (by unfold Rw; omega) hij
      unfold Rw at this
      omega
    · rw [g1 r hr, hN_0 g11 r hr]
      by_cases e : r = 0
      · rw [if_pos e, if_pos e]
        refine ⟨rfl, ?_⟩
        simp [e]
      · rw [if_neg e, if_neg e]
        refine ⟨rfl, ?_⟩
        simp [e]
    · rw [g j (by omega) (by omega) (by omega), hf2 j (by omega), hf1 j (by omega) (by omega) (by omega) (by omega) (by omega) (by omega) (by omega)]
  · rw [e8, nI_leI (by omega) (by omega)] at hc1
    refine ⟨vp_in_nI (by omega) (by decide), ?_⟩
    intro σ8 h8 z9 hz9
    rw [cl (by omega), show (1088 : Int32) = nI 1088 from rfl, show (32 : Int32) = nI 32 from rfl, pk_mul, nI_add] at h8
    rw [ar_1] at hz9
    refine ⟨⟨fun j b => by rw [h8, sA_n b]; exact hfr j b, k + 1, by omega, hz9, fun q hq => ?_⟩, ?_⟩
    · rw [h8, sA_s]
      unfold upd
      by_cases e : q = k
      · rw [if_pos e, e]
        unfold Rw
        rw [Nat.mul_comm]
      · rw [if_neg e]
        exact hall q (by omega)
    · rw [hz9, cl (by omega)]
      omega
/-- what a reading leaves -/
abbrev sm3 (τ σ : St) : Prop := ∀ j, j ≠ 14 → j ≠ 15 → j ≠ 16 → τ j = σ j
theorem BI_sm3 {σ τ : St} {lev st : Nat → Nat} {lv : Nat → Bool} {L : Nat → List Nat} {V : Nat → Nat → Int32} {n : Nat} (h : sm3 τ σ) (hB : BI σ lev st lv L V n) : BI τ lev st lv L V n := BI_congr (fun j _ _ _ _ _ hj => h j (by omega) (by omega) (by omega)) hB
theorem s_valueAt {σ : St} {lev st : Nat → Nat} {lv : Nat → Bool} {L : Nat → List Nat} {V : Nat → Nat → Int32} {n p f : Nat} {Q : Int32 → St → Prop} (hB : BI σ lev st lv L V n) (hp : p < 1114112) (hf : f < 8)
    (hQ : ∀ (τ : St) (z : Nat), sm3 τ σ → p ≤ z → z < 1114112 → τ 16 0 = nI z → (∀ x, p ≤ x → x ≤ z → V x f = V p f) → Q (V p f) τ) : F_Pt_valueAt (nI p) (nI f) σ Q := by
  unfold F_Pt_valueAt
  refine s_recordOf hB.2.1 hp (fun τ i b q r hC q1 q2 hr hlr er hfr e14 e15 e16 => ?_)
  have hal := (Cl_al hB.2.1 hC).2
  have hv : ∀ x, q ≤ x → x < q + 2 ^ b → σ 0 (8 * r + f) = V x f := fun x h1 h2 => hB.2.2.1 i b q r hC hr er x h1 h2 f hf
  refine s_value hr hf ?_
  rw [hfr 0 (by decide) (by decide) (by decide), hv p q1 q2]
  refine hQ τ (q + 2 ^ b - 1) hfr (by omega) (by omega) e16 (fun x h1 h2 => ?_)
  rw [← hv x (by omega) (by omega), hv p q1 q2]
theorem s_ckPoint {σ : St} {Q : St → Prop} {p : Nat} (hp : p < 1114112) (hQ : Q σ) : F_Pt_checkPoint (nI p) σ Q := by
  unfold F_Pt_checkPoint
  exact ⟨fun h => nI_pos (by omega) h, fun _ => ⟨fun _ => hQ, fun h => h ((nI_leI (b := 1114111) (by omega) (by omega)).mpr (by omega))⟩⟩
theorem s_ckField {σ : St} {Q : St → Prop} {f : Nat} (hf : f < 8) (hQ : Q σ) : F_Pt_checkField (nI f) σ Q := by
  unfold F_Pt_checkField
  exact ⟨fun h => nI_pos (by omega) h, fun _ => ⟨fun _ => hQ, fun h => h ((nI_ltI (b := 8) (by omega) (by omega)).mpr (by omega))⟩⟩
theorem s_ckRange {σ : St} {Q : St → Prop} {a z : Nat} (haz : a ≤ z) (hz : z < 1114112) (hQ : Q σ) : F_Pt_checkRange (nI a) (nI z) σ Q := by
  unfold F_Pt_checkRange
  exact ⟨fun h => nI_pos (by omega) h, fun _ => ⟨fun h => absurd ((nI_ltI (by omega) (by omega)).mp h) (by omega), fun _ => ⟨fun _ => hQ, fun h => h ((nI_leI (b := 1114111) (by omega) (by omega)).mpr (by omega))⟩⟩⟩
theorem s_ckLength {σ : St} {Q : St → Prop} {k : Nat} (hk : k ≤ 4000) (hQ : Q σ) : F_Pt_checkLength (nI k) σ Q := by
  unfold F_Pt_checkLength
  exact ⟨fun _ => hQ, fun h => h ((nI_leI (b := 4000) (by omega) (by omega)).mpr hk)⟩
theorem s_Tget {σ : St} {lev st : Nat → Nat} {lv : Nat → Bool} {L : Nat → List Nat} {V : Nat → Nat → Int32} {n p f : Nat} {Q : Int32 → St → Prop} (hB : BI σ lev st lv L V n) (hp : p < 1114112) (hf : f < 8)
    (hQ : ∀ τ : St, sm3 τ σ → Q (V p f) τ) : F_Pt_get (nI p) (nI f) σ Q := by
  unfold F_Pt_get
  refine s_ckPoint hp ?_
  refine s_ckField hf ?_
  exact s_valueAt hB hp hf (fun τ z h _ _ _ _ => hQ τ h)
/-- what change answers -/
def ChR (V : Nat → Nat → Int32) (p f : Nat) (x : Int32) : Prop := (∃ r, p < r ∧ r < 1114112 ∧ V r f ≠ V p f ∧ (∀ y, p ≤ y → y < r → V y f = V p f) ∧ x = nI r) ∨ (x = -1 ∧ ∀ y, p ≤ y → y < 1114112 → V y f = V p f)
theorem ChR_one {V : Nat → Nat → Int32} {p f : Nat} {x y : Int32} (hx : ChR V p f x) (hy : ChR V p f y) : x = y := by
  rcases hx with ⟨r, a1, a2, a3, a4, a5⟩ | ⟨a1, a2⟩
  · rcases hy with ⟨r', b1, b2, b3, b4, b5⟩ | ⟨b1, b2⟩
    · rcases Nat.lt_trichotomy r r' with h | h | h
      · exact absurd (b4 r (by omega) h) a3
      · rw [a5, b5, h]
      · exact absurd (a4 r' (by omega) h) b3
    · exact absurd (b2 r (by omega) a2) a3
  · rcases hy with ⟨r', b1, b2, b3, b4, b5⟩ | ⟨b1, b2⟩
    · exact absurd (a2 r' (by omega) b2) b3
    · rw [a1, b1]
theorem mx_nI {a b : Nat} (h : a ≤ b) (hb : b < 2 ^ 31) : (if nI a < nI b then nI b else nI a) = nI b := by
  by_cases e : nI a < nI b
  · rw [if_pos e]
  · rw [if_neg e]
    rw [nI_ltI (by omega) (by omega)] at e
    rw [show a = b by omega]
theorem s_Tchange {σ : St} {lev st : Nat → Nat} {lv : Nat → Bool} {L : Nat → List Nat} {V : Nat → Nat → Int32} {n p f : Nat} {Q : Int32 → St → Prop} (hB : BI σ lev st lv L V n) (hp : p < 1114112) (hf : f < 8)
    (hQ : ∀ (x : Int32) (τ : St), sm3 τ σ → ChR V p f x → Q x τ) : F_Pt_change (nI p) (nI f) σ Q := by
  unfold F_Pt_change
  refine s_ckPoint hp ?_
  refine s_ckField hf ?_
  refine s_valueAt hB hp hf (fun τ0 z0 h0 _ _ _ _ => ?_)
  unfold F_Pt_change_L18
  refine ⟨fun v4 τ => sm3 τ σ ∧ ∃ x, v4 = nI x ∧ p ≤ x ∧ x ≤ 1114112 ∧ ∀ y, p ≤ y → y < x → V y f = V p f, fun v4 _ => 1114200 - v4.toNatClampNeg, ⟨h0, p, rfl, Nat.le_refl _, by omega, fun y h1 h2 => absurd h1 (by omega)⟩, ?_⟩
  intro v4 τ m hI hm
  dsimp only at hm ⊢
  obtain ⟨hs, x, rfl, hpx, hx, hall⟩ := hI
  rw [cl (by omega)] at hm
  rw [show (1114111 : Int32) = nI 1114111 from rfl, nI_ltI (by omega) (by omega)]
  refine ⟨fun hc => hQ _ _ hs (Or.inr ⟨rfl, fun y h1 h2 => hall y h1 (by omega)⟩), fun hc => ?_⟩
  refine s_valueAt (BI_sm3 hs hB) (by omega) hf (fun τ1 z h1 hz hz2 e16 hv => ?_)
  have hs1 : sm3 τ1 σ := fun j a b c => by rw [h1 j a b c]; exact hs j a b c
  refine ⟨fun he => ?_, fun he => ?_⟩
  · intro z2 hz3
    rw [e16, mx_nI hz (by omega), ar_1] at hz3
    refine ⟨⟨hs1, z + 1, hz3, by omega, by omega, fun y b1 b2 => ?_⟩, ?_⟩
    · by_cases hy : y < x
      · exact hall y b1 hy
      · rw [hv y (by omega) (by omega)]; exact he
    · rw [hz3, cl (by omega)]
      omega
  · refine hQ _ _ hs1 (Or.inl ⟨x, ?_, by omega, he, hall, rfl⟩)
    by_cases e : x = p
    · rw [e] at he; exact absurd rfl he
    · omega
theorem lv_0 {σ : St} {lev : Nat → Nat} {lv : Nat → Bool} (hH : HI σ lev lv) : lv 0 = true := by
  refine ((hH 0 (by omega)).2).mpr ?_
  unfold hN
  simp
theorem s_Talike {σ : St} {lev st : Nat → Nat} {lv : Nat → Bool} {L : Nat → List Nat} {V : Nat → Nat → Int32} {n p q : Nat} {Q : Int32 → St → Prop} (hB : BI σ lev st lv L V n) (hp : p < 1114112) (hq : q < 1114112)
    (h1 : ∀ τ : St, sm3 τ σ → (∀ f, f < 8 → V p f = V q f) → Q 1 τ) (h0 : ∀ τ : St, sm3 τ σ → (¬ ∀ f, f < 8 → V p f = V q f) → Q 0 τ) : F_Pt_alike (nI p) (nI q) σ Q := by
  unfold F_Pt_alike
  refine s_ckPoint hp ?_
  refine s_ckPoint hq ?_
  refine s_recordOf hB.2.1 hp (fun τ i b x r hC x1 x2 hr hlr er hfr e14 e15 e16 => ?_)
  have hB2 : BI τ lev st lv L V n := BI_sm3 hfr hB
  refine s_recordOf hB2.2.1 hq (fun τ2 i2 b2 y r2 hC2 y1 y2 hr2 hlr2 er2 hfr2 e142 e152 e162 => ?_)
  rw [hfr 11 (by decide) (by decide) (by decide)] at er2
  have hs : sm3 τ2 σ := fun j a b c => by rw [hfr2 j a b c]; exact hfr j a b c
  have v1 : ∀ f, f < 8 → σ 0 (8 * r + f) = V p f := fun f hf => hB.2.2.1 i b x r hC hr er p x1 x2 f hf
  have v2 : ∀ f, f < 8 → σ 0 (8 * r2 + f) = V q f := fun f hf => hB.2.2.1 i2 b2 y r2 hC2 hr2 er2 q y1 y2 f hf
  refine ⟨fun he => h1 τ2 hs (fun f hf => ?_), fun he => h0 τ2 hs (fun hall => he ?_)⟩
  · have : r = r2 := nI_inj (by omega) (by omega) he
    rw [← v1 f hf, ← v2 f hf, this]
  · rw [hB.1.2.2 r r2 hr hr2 hlr hlr2 (fun f hf => by rw [v1 f hf, v2 f hf]; exact hall f hf)]
/-- the hash of k points -/
def hsh (V : Nat → Nat → Int32) (f a : Nat) : Nat → Int32
  | 0 => 1
  | k + 1 => (31 : Int32) * hsh V f a k + V (a + k) f
theorem s_Thash {σ : St} {lev st : Nat → Nat} {lv : Nat → Bool} {L : Nat → List Nat} {V : Nat → Nat → Int32} {n a z f : Nat} {Q : Int32 → St → Prop} (hB : BI σ lev st lv L V n) (haz : a ≤ z) (hz : z < 1114112) (hlen : z - a + 1 ≤ 4000) (hf : f < 8)
    (hQ : ∀ τ : St, sm3 τ σ → Q (hsh V f a (z - a + 1)) τ) : F_Pt_hash (nI a) (nI z) (nI f) σ Q := by
  unfold F_Pt_hash
  refine s_ckRange haz hz ?_
  rw [pk_sub haz, ar_1]
  refine s_ckLength hlen ?_
  refine s_ckField hf ?_
  intro z1 hz1 z2 hz2 z3 hz3
  unfold F_Pt_hash_L29
  refine ⟨fun v4 v5 v6 v7 τ => sm3 τ σ ∧ ∃ k, v7 = nI (a + k) ∧ a + k ≤ z + 1 ∧ v4 = hsh V f a k ∧ (v6 = -1 ∨ ∃ w, v6 = nI w ∧ w < 1114112 ∧ ∀ x, a + k ≤ x → x ≤ w → V x f = v5), fun _ _ _ v7 _ => 1114200 - v7.toNatClampNeg, ⟨fun _ _ _ _ => rfl, 0, rfl, by omega, hz1, Or.inl hz3⟩, ?_⟩
  intro v4 v5 v6 v7 τ m hI hm
  dsimp only at hm ⊢
  obtain ⟨hs, k, rfl, hk, rfl, hw⟩ := hI
  rw [cl (by omega)] at hm
  rw [nI_ltI (by omega) (by omega)]
  refine ⟨fun hc => ?_, fun hc => ?_⟩
  · have : k = z - a + 1 := by omega
    subst this
    exact hQ τ hs
  · have hJ : ∀ (τ1 : St) (w : Nat) (v : Int32), sm3 τ1 σ → a + k ≤ w → w < 1114112 → (∀ x, a + k ≤ x → x ≤ w → V x f = v) →
        (sm3 τ1 σ ∧ ∃ j, nI (a + k + 1) = nI (a + j) ∧ a + j ≤ z + 1 ∧ (31 : Int32) * hsh V f a k + v = hsh V f a j ∧ (nI w = -1 ∨ ∃ w', nI w = nI w' ∧ w' < 1114112 ∧ ∀ x, a + j ≤ x → x ≤ w' → V x f = v)) := fun τ1 w v hs1 h1 h2 h3 =>
      ⟨hs1, k + 1, by rw [Nat.add_assoc], by omega, by
        show _ = (31 : Int32) * hsh V f a k + V (a + k) f
        rw [h3 (a + k) (Nat.le_refl _) h1], Or.inr ⟨w, rfl, h2, fun x b1 b2 => h3 x (by omega) b2⟩⟩
    refine ⟨fun hc2 => ?_, fun hc2 => ?_⟩
    · rcases hw with hw | ⟨w, rfl, hw1, hw2⟩
      · exfalso
        rw [hw] at hc2
        have h3 : (nI (a + k)).toInt ≤ (-1 : Int32).toInt := Int32.le_iff_toInt_le.mp hc2
        rw [nI_toInt (by omega), show ((-1 : Int32)).toInt = -1 by decide] at h3
        omega
      · rw [nI_leI (by omega) (by omega)] at hc2
        unfold F_Pt_hash_J60
        intro z4 hz4 z5 hz5
        rw [ar_1] at hz5
        subst hz4
        subst hz5
        refine ⟨hJ τ w v5 hs hc2 hw1 hw2, ?_⟩
        rw [cl (by omega)]
        omega
    · refine s_valueAt (BI_sm3 hs hB) (by omega) hf (fun τ1 w h1 hz1' hz2' e16 hv => ?_)
      intro z6 hz6
      rw [e16] at hz6
      subst hz6
      have hs1 : sm3 τ1 σ := fun j a b c => by rw [h1 j a b c]; exact hs j a b c
      unfold F_Pt_hash_J60
      intro z4 hz4 z5 hz5
      rw [ar_1] at hz5
      subst hz4
      subst hz5
      refine ⟨hJ τ1 w (V (a + k) f) hs1 hz1' hz2' (fun x b1 b2 => hv x b1 b2), ?_⟩
      rw [cl (by omega)]
      omega
/-- some field of the point isn't 0 -/
def nz (V : Nat → Nat → Int32) (p : Nat) : Bool := (List.range 8).any (fun f => V p f != 0)
theorem nz_f {V : Nat → Nat → Int32} {p : Nat} : nz V p = false ↔ ∀ f, f < 8 → V p f = 0 := by
  unfold nz
  rw [List.any_eq_false]
  constructor
  · intro h f hf
    have := h f (List.mem_range.mpr hf)
    simpa using this
  · intro h f hf
    rw [h f (List.mem_range.mp hf)]
    simp
def cnt (V : Nat → Nat → Int32) (k : Nat) : Nat := sm (fun p => (nz V p).toNat) k
theorem cnt_le (V : Nat → Nat → Int32) (k : Nat) : cnt V k ≤ k := by
  have h := sm_le (f := fun p => (nz V p).toNat) (g := fun _ => 1) (n := k) (fun i _ => by
    show (nz V i).toNat ≤ 1
    rcases bt_nat (nz V i) with h | h <;> omega)
  have h2 := sm_const (f := fun _ => 1) (c := 1) (n := k) (fun _ _ => rfl)
  unfold cnt
  omega
theorem cnt_run {V : Nat → Nat → Int32} {b : Bool} {x : Nat} : ∀ (d : Nat), (∀ y, x ≤ y → y < x + d → nz V y = b) → cnt V (x + d) = cnt V x + d * b.toNat
  | 0, _ => by rw [Nat.zero_mul]; rfl
  | d + 1, h => by
    have h1 := cnt_run (V := V) (b := b) (x := x) d (fun y a1 a2 => h y a1 (by omega))
    have h2 : cnt V (x + (d + 1)) = cnt V (x + d) + (nz V (x + d)).toNat := rfl
    rw [h2, h1, h (x + d) (by omega) (by omega), Nat.succ_mul]
    omega
theorem s_Tclear {σ : St} {lev st : Nat → Nat} {lv : Nat → Bool} {L : Nat → List Nat} {V : Nat → Nat → Int32} {n : Nat} {Q : Int32 → St → Prop} (hB : BI σ lev st lv L V n)
    (hQ : ∀ τ : St, BI τ (fun _ => 0) (fun _ => 0) (fun x => x == 0) L00 (fun _ _ => 0) 2048 → (∀ k, 16 < k → τ k = σ k) → Q (nI (cnt V 1024)) τ) : F_Pt_clear σ Q := by
  unfold F_Pt_clear
  intro z1 hz1 z2 hz2
  unfold F_Pt_clear_L4
  refine ⟨fun v1 v2 τ => sm3 τ σ ∧ ∃ x, v2 = nI x ∧ x ≤ 1024 ∧ v1 = nI (cnt V x), fun _ v2 _ => 1024 - v2.toNatClampNeg, ⟨fun _ _ _ _ => rfl, 0, hz2, by omega, hz1⟩, ?_⟩
  intro v1 v2 τ m hI hm
  dsimp only at hm ⊢
  obtain ⟨hs, x, rfl, hx, rfl⟩ := hI
  rw [cl (by omega)] at hm
  rw [show (1024 : Int32) = nI 1024 from rfl, nI_leI (by omega) (by omega)]
  refine ⟨fun hc => ?_, fun hc => ?_⟩
  · have : x = 1024 := by omega
    subst this
    exact s_Bempty (fun τ1 h1 h2 => hQ τ1 h1 (fun k hk => by rw [h2 k hk]; exact hs k (by omega) (by omega) (by omega)))
  · have hB1 := BI_sm3 hs hB
    refine s_recordOf hB1.2.1 (by omega) (fun τ1 i b q r hC q1 q2 hr hlr er hfr e14 e15 e16 => ?_)
    have hs1 : sm3 τ1 σ := fun j a b c => by rw [hfr j a b c]; exact hs j a b c
    have hal := Cl_al hB1.2.1 hC
    have hq4 : q + 2 ^ b ≤ 1024 := by rcases Cl_b hC with rfl | rfl | rfl <;> omega
    have hpos := p2_pos b
    have hv : ∀ y, q ≤ y → y < q + 2 ^ b → ∀ f, f < 8 → τ 0 (8 * r + f) = V y f := fun y a1 a2 f hf => hB1.2.2.1 i b q r hC hr er y a1 a2 f hf
    have hnz : ∀ y, x ≤ y → y < q + 2 ^ b → nz V y = !(r == 0) := fun y a1 a2 => by
      by_cases e : r = 0
      · subst e
        show nz V y = false
        refine nz_f.mpr (fun f hf => ?_)
        rw [← hv y (by omega) a2 f hf, Nat.mul_zero, Nat.zero_add]
        exact hB1.2.2.2.2.2 f hf
      · rw [beq_eq_false_iff_ne.mpr e]
        show nz V y = true
        cases hn : nz V y with
        | true => rfl
        | false =>
          exfalso
          refine e (hB1.1.2.2 r 0 hr (by omega) hlr (lv_0 hB1.2.2.2.2.1) (fun f hf => ?_))
          rw [hv y (by omega) a2 f hf, nz_f.mp hn f hf, Nat.mul_zero, Nat.zero_add]
          exact (hB1.2.2.2.2.2 f hf).symm
    have hnx : ∀ z4 : Int32, z4 = (if nI x < τ1 16 0 then τ1 16 0 else nI x) + 1 → z4 = nI (q + 2 ^ b) := fun z4 h4 => by
      rw [h4, e16, mx_nI (by omega) (by omega), ar_1]
      congr 1
      omega
    have hcn := cnt_run (V := V) (b := !(r == 0)) (x := x) (q + 2 ^ b - x) (fun y a1 a2 => hnz y a1 (by omega))
    rw [show x + (q + 2 ^ b - x) = q + 2 ^ b by omega] at hcn
    have hcl := cnt_le V x
    refine ⟨fun he => ?_, fun he => ?_⟩
    · have hr0 : r = 0 := nI_inj (b := 0) (by omega) (by omega) he
      subst hr0
      intro z3 hz3 z4 hz4
      have h4 := hnx z4 hz4
      refine ⟨fun h => absurd (hz3.symm.trans h) (by decide), fun _ => ⟨⟨hs1, q + 2 ^ b, h4, hq4, ?_⟩, ?_⟩⟩
      · rw [hcn]
        simp
      · rw [h4, cl (by omega)]
        omega
    · have hr0 : r ≠ 0 := fun q => he (by rw [q]; rfl)
      intro z3 hz3 z4 hz4
      have h4 := hnx z4 hz4
      refine ⟨fun _ => ?_, fun h => absurd hz3 h⟩
      intro z5 hz5
      rw [h4, pk_sub (by omega), nI_add] at hz5
      refine ⟨⟨hs1, q + 2 ^ b, h4, hq4, ?_⟩, ?_⟩
      · rw [hcn, hz5, beq_eq_false_iff_ne.mpr hr0]
        simp
      · rw [h4, cl (by omega)]
        omega
theorem s_Tmark {σ : St} {lev st : Nat → Nat} {lv : Nat → Bool} {L : Nat → List Nat} {V : Nat → Nat → Int32} {n a z fl : Nat} {v k : Int32} {Q : Int32 → St → Prop} (hB : BI σ lev st lv L V n) (hn : 4 ≤ n) (hbr : brk V ≤ 1022) (haz : a ≤ z) (hz : z < 1114112) (hfl : fl < 8)
    (hQ : ∀ (τ : St) (lev' st' : Nat → Nat) (lv' : Nat → Bool) (L' : Nat → List Nat) (n' : Nat), n ≤ n' + 4 → BI τ lev' st' lv' L' (chg V fl v k a (z + 1)) n' → (∀ k, 16 < k → τ k = σ k) → Q (nI (z - a + 1)) τ) : F_Pt_mark (nI a) (nI z) (nI fl) v k σ Q := by
  unfold F_Pt_mark
  refine s_ckRange haz hz ?_
  refine s_ckField hfl ?_
  refine s_begin (fun σ1 h8 h9 h10 h5 hfr => ?_)
  have hB1 : BI σ1 lev st lv L V n := BI_congr (fun j a5 _ a8 a9 a10 _ => hfr j a5 a8 a9 a10) hB
  refine s_alter hB1 hn haz hz hfl h8 h5 hbr (fun τ lev' st' lv' L' n' b1 b2 b3 => ?_)
  rw [pk_sub haz, ar_1]
  rw [h9, h10] at b2
  exact hQ τ lev' st' lv' L' n' b1 b2 (fun j hj => by rw [b3 j hj]; exact hfr j (by omega) (by omega) (by omega) (by omega))
theorem s_Tset {σ : St} {lev st : Nat → Nat} {lv : Nat → Bool} {L : Nat → List Nat} {V : Nat → Nat → Int32} {n a z fl : Nat} {v : Int32} {Q : Int32 → St → Prop} (hB : BI σ lev st lv L V n) (hn : 4 ≤ n) (hbr : brk V ≤ 1022) (haz : a ≤ z) (hz : z < 1114112) (hfl : fl < 8)
    (hQ : ∀ (τ : St) (lev' st' : Nat → Nat) (lv' : Nat → Bool) (L' : Nat → List Nat) (n' : Nat), n ≤ n' + 4 → BI τ lev' st' lv' L' (chg V fl v 0 a (z + 1)) n' → (∀ k, 16 < k → τ k = σ k) → Q (nI (z - a + 1)) τ) : F_Pt_set (nI a) (nI z) (nI fl) v σ Q := by
  unfold F_Pt_set
  exact s_Tmark hB hn hbr haz hz hfl hQ
/-- the reference's starts: n pieces, the first at 0, rising -/
def MS (σ : St) (s : Nat → Nat) (n : Nat) : Prop := 1 ≤ n ∧ n ≤ 8999 ∧ σ 20 0 = nI n ∧ s 0 = 0 ∧ (∀ i, i < n → σ 17 i = nI (s i) ∧ s i < 1114112) ∧ ∀ i j, i < j → j < n → s i < s j
/-- each piece's fields are what V says of its points -/
def MV (σ : St) (s : Nat → Nat) (n : Nat) (V : Nat → Nat → Int32) : Prop := ∀ i p, i < n → s i ≤ p → p < 1114112 → (i + 1 < n → p < s (i + 1)) → ∀ f, f < 8 → σ 18 (8 * i + f) = V p f
theorem MS_congr {σ τ : St} {s : Nat → Nat} {n : Nat} (h17 : τ 17 = σ 17) (h20 : τ 20 = σ 20) (h : MS σ s n) : MS τ s n := by
  unfold MS at *
  rw [h17, h20]
  exact h
theorem MV_congr {σ τ : St} {s : Nat → Nat} {n : Nat} {V : Nat → Nat → Int32} (h18 : τ 18 = σ 18) (h : MV σ s n V) : MV τ s n V := by
  unfold MV at *
  rw [h18]
  exact h
def ins (s : Nat → Nat) (k p : Nat) : Nat → Nat := fun i => if i ≤ k then s i else if i = k + 1 then p else s (i - 1)
theorem ins_le {s : Nat → Nat} {k p i : Nat} (h : i ≤ k) : ins s k p i = s i := if_pos h
theorem ins_at {s : Nat → Nat} {k p : Nat} : ins s k p (k + 1) = p := by
  unfold ins
  rw [if_neg (by omega), if_pos rfl]
theorem ins_gt {s : Nat → Nat} {k p i : Nat} (h : k + 1 < i) : ins s k p i = s (i - 1) := by
  unfold ins
  rw [if_neg (by omega), if_neg (by omega)]
theorem MS_ins {σ τ : St} {s : Nat → Nat} {n k p : Nat} (hM : MS σ s n) (hn : n < 8999) (hk : k < n) (h1 : s k < p) (h2 : k + 1 < n → p < s (k + 1)) (hp : p < 1114112)
    (t17 : ∀ i, i ≤ k → τ 17 i = σ 17 i) (t17p : τ 17 (k + 1) = nI p) (t17g : ∀ i, k + 1 < i → i ≤ n → τ 17 i = σ 17 (i - 1)) (t20 : τ 20 0 = nI (n + 1)) : MS τ (ins s k p) (n + 1) := by
  obtain ⟨m1, m2, m3, m4, m5, m6⟩ := hM
  refine ⟨by omega, by omega, t20, ?_, fun i hi => ?_, fun i j hij hj => ?_⟩
  · rw [ins_le (Nat.zero_le _)]; exact m4
  · by_cases a1 : i ≤ k
    · rw [ins_le a1, t17 i a1]; exact m5 i (by omega)
    · by_cases a2 : i = k + 1
      · rw [a2, ins_at]; exact ⟨t17p, hp⟩
      · rw [ins_gt (by omega), t17g i (by omega) (by omega)]; exact m5 (i - 1) (by omega)
  · by_cases b1 : j ≤ k
    · rw [ins_le b1, ins_le (by omega)]; exact m6 i j hij (by omega)
    · by_cases b2 : j = k + 1
      · rw [b2, ins_at, ins_le (by omega)]
        by_cases b3 : i = k
        · rw [b3]; exact h1
        · have := m6 i k (by omega) hk
          omega
      · rw [ins_gt (i := j) (by omega)]
        by_cases a1 : i ≤ k
        · rw [ins_le a1]; exact m6 i (j - 1) (by omega) (by omega)
        · by_cases a2 : i = k + 1
          · rw [a2, ins_at]
            have h3 := h2 (by omega)
            by_cases b4 : j - 1 = k + 1
            · rw [b4]; exact h3
            · have := m6 (k + 1) (j - 1) (by omega) (by omega)
              omega
          · rw [ins_gt (by omega)]; exact m6 (i - 1) (j - 1) (by omega) (by omega)
theorem MV_ins {σ τ : St} {s : Nat → Nat} {n k p : Nat} {V : Nat → Nat → Int32} (hV : MV σ s n V) (hk : k < n) (h1 : s k < p) (h2 : k + 1 < n → p < s (k + 1))
    (t18 : ∀ i f, i ≤ k → f < 8 → τ 18 (8 * i + f) = σ 18 (8 * i + f)) (t18p : ∀ f, f < 8 → τ 18 (8 * (k + 1) + f) = σ 18 (8 * k + f)) (t18g : ∀ i f, k + 1 < i → i ≤ n → f < 8 → τ 18 (8 * i + f) = σ 18 (8 * (i - 1) + f)) : MV τ (ins s k p) (n + 1) V := by
  intro i q hi hq hq2 hq3 f hf
  by_cases a1 : i ≤ k
  · rw [t18 i f a1 hf]
    rw [ins_le a1] at hq
    refine hV i q (by omega) hq hq2 (fun h => ?_) f hf
    by_cases a3 : i + 1 ≤ k
    · have := hq3 (by omega)
      rw [ins_le a3] at this
      exact this
    · have hik : i = k := by omega
      subst hik
      have := hq3 (by omega)
      rw [ins_at] at this
      have := h2 h
      omega
  · by_cases a2 : i = k + 1
    · subst a2
      rw [t18p f hf]
      rw [ins_at] at hq
      refine hV k q hk (by omega) hq2 (fun h => ?_) f hf
      have := hq3 (by omega)
      rw [ins_gt (by omega), Nat.add_sub_cancel] at this
      exact this
    · rw [t18g i f (by omega) (by omega) hf]
      rw [ins_gt (by omega)] at hq
      refine hV (i - 1) q (by omega) hq hq2 (fun h => ?_) f hf
      have := hq3 (by omega)
      rw [ins_gt (by omega), Nat.add_sub_cancel] at this
      rw [show i - 1 + 1 = i by omega]
      exact this
/-- the piece of a point -/
def Pc' (s : Nat → Nat) (n p k : Nat) : Prop := k < n ∧ s k ≤ p ∧ (k + 1 < n → p < s (k + 1))
theorem MV_at {σ : St} {s : Nat → Nat} {n p k : Nat} {V : Nat → Nat → Int32} (hV : MV σ s n V) (hp : p < 1114112) (hk : Pc' s n p k) {f : Nat} (hf : f < 8) : σ 18 (8 * k + f) = V p f := hV k p hk.1 hk.2.1 hp hk.2.2 f hf
theorem Pc_one {σ : St} {s : Nat → Nat} {n p k : Nat} (hM : MS σ s n) (hk : Pc' s n p k) {i : Nat} (hi : i < n) (e : s i = p) : i = k := by
  obtain ⟨-, -, -, -, -, m6⟩ := hM
  obtain ⟨k1, k2, k3⟩ := hk
  rcases Nat.lt_trichotomy i k with h | h | h
  · have := m6 i k h k1
    omega
  · exact h
  · exfalso
    have h3 := k3 (by omega)
    by_cases a : i = k + 1
    · rw [← a] at h3; omega
    · have := m6 (k + 1) i (by omega) hi
      omega
theorem MS_mono {σ : St} {s : Nat → Nat} {n : Nat} (hM : MS σ s n) {i j : Nat} (hij : i ≤ j) (hj : j < n) : s i ≤ s j := by
  by_cases a : i = j
  · rw [a]; exact Nat.le_refl _
  · exact Nat.le_of_lt (hM.2.2.2.2.2 i j (by omega) hj)
theorem s_Mat {σ : St} {s : Nat → Nat} {n p : Nat} {Q : Int32 → St → Prop} (hM : MS σ s n) (hp : p < 1114112) (hQ : ∀ k, Pc' s n p k → Q (nI k) σ) : F_Mo_at (nI p) σ Q := by
  obtain ⟨m1, m2, e20, s0, hs, hinc⟩ := hM
  unfold F_Mo_at
  intro z1 hz1 z2 hz2
  rw [e20, ar_m1 m1] at hz2
  unfold F_Mo_at_L9
  refine ⟨fun v2 v3 τ => τ = σ ∧ ∃ lo hi, v2 = nI lo ∧ v3 = nI hi ∧ lo ≤ hi ∧ hi < n ∧ s lo ≤ p ∧ (hi + 1 < n → p < s (hi + 1)), fun v2 v3 _ => v3.toNatClampNeg - v2.toNatClampNeg, ⟨rfl, 0, n - 1, hz1, hz2, by omega, by omega, by omega, fun h => absurd h (by omega)⟩, ?_⟩
  intro v2 v3 τ m hI hm
  dsimp only at hm ⊢
  obtain ⟨rfl, lo, hi, rfl, rfl, hle, hlt, hl, hh⟩ := hI
  rw [cl (by omega), cl (by omega)] at hm
  rw [nI_leI (by omega) (by omega)]
  refine ⟨fun hc => ?_, fun hc => ?_⟩
  · have : hi = lo := by omega
    subst this
    exact hQ hi ⟨hlt, hl, hh⟩
  · intro z3 hz3
    rw [nI_add, ar_1, show (2 : Int32) = nI 2 from rfl, pk_div (by omega) (by omega) (by omega)] at hz3
    obtain ⟨md, hmd⟩ : ∃ md, md = (lo + hi + 1) / 2 := ⟨_, rfl⟩
    rw [← hmd] at hz3
    subst hz3
    have hb : lo < md ∧ md ≤ hi := by omega
    obtain ⟨h17, hsm⟩ := hs md (by omega)
    rw [cl (by omega), h17, nI_ltI (by omega) (by omega)]
    refine ⟨vp_in_nI (by omega) (by decide), fun hc2 => ?_, fun hc2 => ⟨⟨rfl, md, hi, rfl, rfl, hb.2, hlt, by omega, hh⟩, by rw [cl (by omega)]; omega⟩⟩
    · intro z4 hz4
      rw [ar_m1 (by omega)] at hz4
      subst hz4
      refine ⟨⟨rfl, lo, md - 1, rfl, rfl, by omega, by omega, hl, fun _ => ?_⟩, ?_⟩
      · rw [show md - 1 + 1 = md by omega]
        omega
      · rw [cl (by omega), cl (by omega)]
        omega
theorem s_cutL53 {σ : St} {j p k : Nat} {K : Int32 → St → Prop} {Q : St → Prop} (h1 : 1 ≤ j) (hj : j < 9000)
    (hQ : ∀ τ : St, (∀ x, x ≠ 18 → τ x = σ x) → (∀ q, τ 18 q = if 8 * j ≤ q ∧ q < 8 * j + 8 then σ 18 (q - 8) else σ 18 q) → K (nI (j - 1)) τ) : F_Mo_cut_L53 (nI p) (nI k) (nI j) 0 σ K Q := by
  unfold F_Mo_cut_L53
  refine ⟨fun v4 τ => (∀ x, x ≠ 18 → τ x = σ x) ∧ ∃ f, f ≤ 8 ∧ v4 = nI f ∧ ∀ q, τ 18 q = if 8 * j ≤ q ∧ q < 8 * j + f then σ 18 (q - 8) else σ 18 q, fun v4 _ => 8 - v4.toNatClampNeg, ⟨fun _ _ => rfl, 0, by omega, rfl, fun q => by rw [if_neg (by omega)]⟩, ?_⟩
  intro v4 τ m hI hm
  dsimp only at hm ⊢
  obtain ⟨hfr, f, hf, rfl, hall⟩ := hI
  rw [cl (by omega)] at hm
  rw [show (8 : Int32) = nI 8 from rfl, nI_leI (by omega) (by omega)]
  refine ⟨fun hc => ?_, fun hc => ?_⟩
  · have : f = 8 := by omega
    subst this
    intro z1 hz1
    have e1 : z1 = nI (j - 1) := by
      rw [hz1, show j = (j - 1) + 1 by omega, pk_m1]
      congr 1
    rw [e1]
    exact hQ τ hfr hall
  · rw [pk_mul, pk_sub (by omega), nI_add, nI_add, cl (by omega), cl (by omega)]
    refine ⟨vp_in_nI (by omega) (by decide), vp_in_nI (by omega) (by decide), ?_⟩
    intro σ1 e1 z2 hz2
    rw [ar_1] at hz2
    refine ⟨⟨fun x a => by rw [e1, sA_n a]; exact hfr x a, f + 1, by omega, hz2, fun q => ?_⟩, ?_⟩
    · rw [e1, sA_s]
      unfold upd
      by_cases a1 : q = 8 * j + f
      · rw [if_pos a1, if_pos (by omega), hall, if_neg (by omega)]
        congr 1
        omega
      · rw [if_neg a1, hall]
        by_cases a2 : 8 * j ≤ q ∧ q < 8 * j + f
        · rw [if_pos a2, if_pos (by omega)]
        · rw [if_neg a2, if_neg (by omega)]
    · rw [hz2, cl (by omega)]
      omega
theorem s_cutL110 {σ : St} {n k : Nat} {Q : St → Prop} (hk : k < 8999) (e20 : σ 20 0 = nI n)
    (hQ : ∀ τ : St, (∀ x, x ≠ 18 → x ≠ 20 → τ x = σ x) → (∀ q, τ 18 q = if 8 * k + 8 ≤ q ∧ q < 8 * k + 16 then σ 18 (q - 8) else σ 18 q) → τ 20 0 = nI (n + 1) → Q τ) : F_Mo_cut_L110 (nI k) 0 σ Q := by
  unfold F_Mo_cut_L110
  refine ⟨fun v3 τ => (∀ x, x ≠ 18 → τ x = σ x) ∧ ∃ f, f ≤ 8 ∧ v3 = nI f ∧ ∀ q, τ 18 q = if 8 * k + 8 ≤ q ∧ q < 8 * k + 8 + f then σ 18 (q - 8) else σ 18 q, fun v3 _ => 8 - v3.toNatClampNeg, ⟨fun _ _ => rfl, 0, by omega, rfl, fun q => by rw [if_neg (by omega)]⟩, ?_⟩
  intro v3 τ m hI hm
  dsimp only at hm ⊢
  obtain ⟨hfr, f, hf, rfl, hall⟩ := hI
  rw [cl (by omega)] at hm
  rw [show (8 : Int32) = nI 8 from rfl, nI_leI (by omega) (by omega)]
  refine ⟨fun hc => ?_, fun hc => ?_⟩
  · have : f = 8 := by omega
    subst this
    intro σ1 h1
    rw [hfr 20 (by decide), e20, ar_1] at h1
    refine hQ σ1 (fun x a b => by rw [h1, sA_n b]; exact hfr x a) (fun q => ?_) (by rw [h1, sA_s])
    rw [h1, sA_n (by decide), hall]
  · rw [pk_mul, nI_add, nI_add, nI_add, cl (by omega), cl (by omega)]
    refine ⟨vp_in_nI (by omega) (by decide), vp_in_nI (by omega) (by decide), ?_⟩
    intro σ1 e1 z2 hz2
    rw [ar_1] at hz2
    refine ⟨⟨fun x a => by rw [e1, sA_n a]; exact hfr x a, f + 1, by omega, hz2, fun q => ?_⟩, ?_⟩
    · rw [e1, sA_s]
      unfold upd
      by_cases a1 : q = 8 * k + 8 + f
      · rw [if_pos a1, if_pos (by omega), hall, if_neg (by omega)]
        congr 1
        omega
      · rw [if_neg a1, hall]
        by_cases a2 : 8 * k + 8 ≤ q ∧ q < 8 * k + 8 + f
        · rw [if_pos a2, if_pos (by omega)]
        · rw [if_neg a2, if_neg (by omega)]
    · rw [hz2, cl (by omega)]
      omega
theorem s_Mcut {σ : St} {s : Nat → Nat} {n p : Nat} {V : Nat → Nat → Int32} {Q : St → Prop} (hM : MS σ s n) (hV : MV σ s n V) (hn : n < 8999) (hp : p ≤ 1114112)
    (hQ : ∀ (τ : St) (s' : Nat → Nat) (n' : Nat), n' ≤ n + 1 → MS τ s' n' → MV τ s' n' V → (p < 1114112 → ∃ i, i < n' ∧ s' i = p) → (∀ i, i < n → ∃ j, j < n' ∧ s' j = s i) → (∀ x, x ≠ 17 → x ≠ 18 → x ≠ 20 → τ x = σ x) → Q τ) : F_Mo_cut (nI p) σ Q := by
  unfold F_Mo_cut
  rw [show (1114111 : Int32) = nI 1114111 from rfl, nI_leI (by omega) (by omega)]
  refine ⟨fun hc => ?_, fun hc => hQ σ s n (by omega) hM hV (fun h => absurd h (by omega)) (fun i hi => ⟨i, hi, rfl⟩) (fun _ _ _ _ => rfl)⟩
  refine s_Mat hM (by omega) (fun k hk => ?_)
  obtain ⟨k1, k2, k3⟩ := hk
  obtain ⟨m1, m2, e20, s0, hs, hinc⟩ := id hM
  obtain ⟨h17, hsk⟩ := hs k k1
  rw [cl (by omega), h17]
  refine ⟨vp_in_nI (by omega) (by decide), fun he => ?_, fun he => ?_⟩
  · have : s k = p := nI_inj (by omega) (by omega) he
    exact hQ σ s n (by omega) hM hV (fun _ => ⟨k, k1, this⟩) (fun i hi => ⟨i, hi, rfl⟩) (fun _ _ _ _ => rfl)
  · have hlt : s k < p := by
      by_cases e : s k = p
      · exact absurd (by rw [e]) he
      · omega
    intro z3 hz3
    rw [e20] at hz3
    subst hz3
    unfold F_Mo_cut_L29
    refine ⟨fun v3 τ => ∃ j, v3 = nI j ∧ k + 1 ≤ j ∧ j ≤ n ∧ (∀ x, x ≠ 17 → x ≠ 18 → τ x = σ x) ∧ (∀ q, τ 17 q = if j < q ∧ q ≤ n then σ 17 (q - 1) else σ 17 q) ∧ ∀ q, τ 18 q = if 8 * j + 8 ≤ q ∧ q < 8 * n + 8 then σ 18 (q - 8) else σ 18 q, fun v3 _ => v3.toNatClampNeg,
      ⟨n, rfl, by omega, by omega, fun _ _ _ => rfl, fun q => by rw [if_neg (by omega)], fun q => by rw [if_neg (by omega)]⟩, ?_⟩
    intro v3 τ m hI hm
    dsimp only at hm ⊢
    obtain ⟨j, rfl, j1, j2, hfr, t17, t18⟩ := hI
    rw [cl (by omega)] at hm
    rw [ar_1, nI_leI (by omega) (by omega)]
    refine ⟨fun hc1 => ?_, fun hc1 => ?_⟩
    · have hj : j = k + 1 := by omega
      subst hj
      refine ⟨vp_in_nI (by omega) (by decide), ?_⟩
      intro σ4 h4 z5 hz5
      rw [cl (by omega)] at h4
      subst hz5
      refine s_cutL110 (n := n) (by omega) (by rw [h4, sA_n (by decide), hfr 20 (by decide) (by decide)]; exact e20) (fun τ2 f2 t2 g20 => ?_)
      have g17 : τ2 17 = upd (τ 17) (k + 1) (nI p) := by rw [f2 17 (by decide) (by decide), h4, sA_s]
      have g18 : ∀ q, τ2 18 q = if 8 * k + 8 ≤ q ∧ q < 8 * k + 16 then τ 18 (q - 8) else τ 18 q := fun q => by rw [t2 q, h4, sA_n (by decide)]
      refine hQ τ2 (ins s k p) (n + 1) (by omega) (MS_ins hM hn k1 hlt k3 (by omega) (fun i hi => ?_) ?_ (fun i a1 a2 => ?_) g20) (MV_ins hV k1 hlt k3 (fun i f hi hf => ?_) (fun f hf => ?_) (fun i f a1 a2 hf => ?_)) (fun _ => ⟨k + 1, by omega, ins_at⟩) (fun i hi => ?_) (fun x a b c => by rw [f2 x b c, h4, sA_n a]; exact hfr x a b)
      · rw [g17, pk_un (by omega), t17, if_neg (by omega)]
      · rw [g17, pk_us]
      · rw [g17, pk_un (by omega), t17, if_pos (by omega)]
      · rw [g18, if_neg (by omega), t18, if_neg (by omega)]
      · rw [g18, if_pos (by omega), show 8 * (k + 1) + f - 8 = 8 * k + f by omega, t18, if_neg (by omega)]
      · rw [g18, if_neg (by omega), t18, if_pos (by omega)]
        congr 1
        omega
      · by_cases a : i ≤ k
        · exact ⟨i, by omega, ins_le a⟩
        · exact ⟨i + 1, by omega, by rw [ins_gt (by omega)]; rfl⟩
    · rw [ar_m1 (by omega), cl (by omega), cl (by omega)]
      refine ⟨vp_in_nI (by omega) (by decide), vp_in_nI (by omega) (by decide), ?_⟩
      intro σ4 h4 z5 hz5
      subst hz5
      refine s_cutL53 (by omega) (by omega) (fun τ2 f2 t2 => ?_)
      refine ⟨⟨j - 1, rfl, by omega, by omega, fun x a b => by rw [f2 x b, h4, sA_n a]; exact hfr x a b, fun q => ?_, fun q => ?_⟩, ?_⟩
      · rw [f2 17 (by decide), h4, sA_s]
        by_cases a1 : q = j
        · rw [a1, pk_us, if_pos (by omega), t17, if_neg (by omega)]
        · rw [pk_un a1, t17]
          by_cases a2 : j < q ∧ q ≤ n
          · rw [if_pos a2, if_pos (by omega)]
          · rw [if_neg a2, if_neg (by omega)]
      · rw [t2 q, h4, sA_n (by decide), t18, t18]
        by_cases a1 : 8 * j ≤ q ∧ q < 8 * j + 8
        · rw [if_pos a1, if_neg (by omega), if_pos (by omega)]
        · rw [if_neg a1]
          by_cases a2 : 8 * j + 8 ≤ q ∧ q < 8 * n + 8
          · rw [if_pos a2, if_pos (by omega)]
          · rw [if_neg a2, if_neg (by omega)]
      · rw [cl (by omega)]
        omega
def inP (x : Int32) : Prop := ¬ x < 0 ∧ x ≤ 1114111
def inF (x : Int32) : Prop := ¬ x < 0 ∧ x ≤ 7
theorem inP_nI {p : Nat} (h : p < 1114112) : inP (nI p) := ⟨nI_pos (by omega), (nI_leI (b := 1114111) (by omega) (by omega)).mpr (by omega)⟩
theorem inF_nI {f : Nat} (h : f < 8) : inF (nI f) := ⟨nI_pos (by omega), (nI_leI (b := 7) (by omega) (by omega)).mpr (by omega)⟩
theorem inP_of {x : Int32} (h : inP x) : ∃ p, p < 1114112 ∧ x = nI p := by
  obtain ⟨j, hj, e⟩ := nI_of h.1
  refine ⟨j, ?_, e⟩
  have h2 := h.2
  rw [e] at h2
  have := (nI_leI (b := 1114111) hj (by omega)).mp h2
  omega
theorem inF_of {x : Int32} (h : inF x) : ∃ p, p < 8 ∧ x = nI p := by
  obtain ⟨j, hj, e⟩ := nI_of h.1
  refine ⟨j, ?_, e⟩
  have h2 := h.2
  rw [e] at h2
  have := (nI_leI (b := 7) hj (by omega)).mp h2
  omega
theorem s_fail {σ : St} {x : Int32} {Q : Int32 → St → Prop} (hQ : Q 0 (sA σ 19 (fun _ => x))) : F_Mo_fail x σ Q := by
  unfold F_Mo_fail
  intro σ1 h1
  rw [h1]
  exact hQ
theorem s_out {σ : St} {x : Int32} {Q : Int32 → St → Prop} (h1 : ¬ inP x → Q 1 σ) (h0 : inP x → Q 0 σ) : F_Mo_out x σ Q := by
  unfold F_Mo_out
  refine ⟨fun a => h1 (fun h => h.1 a), fun a => ⟨fun b => h0 ⟨a, b⟩, fun b => h1 (fun h => b h.2)⟩⟩
theorem s_thrown {σ : St} {Q : Int32 → St → Prop} (hQ : Q (σ 19 0) σ) : F_Mo_thrown σ Q := by
  unfold F_Mo_thrown
  exact hQ
/-- the reference's end of a refused call -/
abbrev bad (σ : St) : St := sA (sA σ 19 (fun _ => 0)) 19 (fun _ => 1)
theorem s_Mmark_bad {σ : St} {x1 x2 x3 x4 x5 : Int32} {Q : Int32 → St → Prop} (h : ¬ (inP x1 ∧ inP x2 ∧ ¬ x2 < x1 ∧ inF x3)) (hQ : Q 0 (bad σ)) : F_Mo_mark x1 x2 x3 x4 x5 σ Q := by
  unfold F_Mo_mark
  intro σ1 h1
  subst h1
  have hb : F_Mo_fail 1 (sA σ 19 (fun _ => 0)) Q := s_fail hQ
  refine s_out (fun a => ⟨fun q => absurd q (by decide), fun _ => hb⟩) (fun a1 => ⟨fun _ => ?_, fun q => absurd rfl q⟩)
  refine s_out (fun a => ⟨fun q => absurd q (by decide), fun _ => hb⟩) (fun a2 => ⟨fun _ => ?_, fun q => absurd rfl q⟩)
  refine ⟨fun _ => hb, fun a3 => ⟨fun _ => hb, fun a4 => ⟨fun a5 => absurd ⟨a1, a2, a3, a4, a5⟩ h, fun _ => hb⟩⟩⟩
theorem s_Mmark {σ : St} {s : Nat → Nat} {n a z fl : Nat} {v k : Int32} {V : Nat → Nat → Int32} {Q : Int32 → St → Prop} (hM : MS σ s n) (hV : MV σ s n V) (hn : n < 8998) (haz : a ≤ z) (hz : z < 1114112) (hfl : fl < 8)
    (hQ : ∀ (τ : St) (s' : Nat → Nat) (n' : Nat), n' ≤ n + 2 → MS τ s' n' → MV τ s' n' (chg V fl v k a (z + 1)) → τ 19 0 = 0 → (∀ x, x < 17 → τ x = σ x) → Q (nI (z - a + 1)) τ) : F_Mo_mark (nI a) (nI z) (nI fl) v k σ Q := by
  unfold F_Mo_mark
  intro σ1 h1
  have hM1 : MS σ1 s n := MS_congr (by rw [h1, sA_n (by decide)]) (by rw [h1, sA_n (by decide)]) hM
  have hV1 : MV σ1 s n V := MV_congr (by rw [h1, sA_n (by decide)]) hV
  refine s_out (fun q => absurd (inP_nI (by omega)) q) (fun _ => ⟨fun _ => ?_, fun q => absurd rfl q⟩)
  refine s_out (fun q => absurd (inP_nI (by omega)) q) (fun _ => ⟨fun _ => ?_, fun q => absurd rfl q⟩)
  refine ⟨fun q => absurd ((nI_ltI (by omega) (by omega)).mp q) (by omega), fun _ => ⟨fun q => absurd q (nI_pos (by omega)), fun _ => ⟨fun _ => ?_, fun q => absurd (inF_nI hfl).2 q⟩⟩⟩
  refine s_Mcut hM1 hV1 (by omega) (by omega) (fun σ2 s2 n2 hn2 hM2 hV2 hst2 _ hf2 => ?_)
  rw [ar_1]
  refine s_Mcut hM2 hV2 (by omega) (by omega) (fun σ3 s3 n3 hn3 hM3 hV3 hst3 hk3 hf3 => ?_)
  refine s_Mat hM3 (by omega) (fun k0 hk0 => ?_)
  obtain ⟨i2, hi2, e2⟩ := hst2 (by omega)
  obtain ⟨i3, hi3, e3⟩ := hk3 i2 hi2
  have hk0a : s3 k0 = a := by
    rw [← Pc_one hM3 hk0 hi3 (e3.trans e2), e3, e2]
  obtain ⟨m1, m2, e20, s0, hs, hinc⟩ := id hM3
  have hfail : σ3 19 0 = 0 := by
    rw [hf3 19 (by decide) (by decide) (by decide), hf2 19 (by decide) (by decide) (by decide), h1, sA_s]
  unfold F_Mo_mark_L61
  refine ⟨fun v6 τ => ∃ j, v6 = nI j ∧ k0 ≤ j ∧ j ≤ n3 ∧ (∀ x, x ≠ 18 → τ x = σ3 x) ∧ (∀ i, k0 ≤ i → i < j → s3 i ≤ z) ∧ ∀ i f, f < 8 → τ 18 (8 * i + f) = if k0 ≤ i ∧ i < j ∧ f = fl then (σ3 18 (8 * i + f) &&& k) ||| v else σ3 18 (8 * i + f), fun v6 _ => 9000 - v6.toNatClampNeg,
    ⟨k0, rfl, Nat.le_refl _, Nat.le_of_lt hk0.1, fun _ _ => rfl, fun i q1 q2 => absurd q1 (by omega), fun i f _ => by rw [if_neg (by omega)]⟩, ?_⟩
  intro v6 τ m hI hm
  dsimp only at hm ⊢
  obtain ⟨j, rfl, j1, j2, hfr, hle, h18⟩ := hI
  rw [cl (by omega)] at hm
  have hJ : (j = n3 ∨ z < s3 j) → F_Mo_mark_J117 (nI a) (nI z) τ Q := fun hex => by
    unfold F_Mo_mark_J117
    rw [pk_sub haz, ar_1]
    refine hQ τ s3 n3 (by omega) (MS_congr (hfr 17 (by decide)) (hfr 20 (by decide)) hM3) (fun i p hi hp1 hp2 hp3 f hf => ?_) (by rw [hfr 19 (by decide)]; exact hfail) (fun x hx => ?_)
    · rw [h18 i f hf, hV3 i p hi hp1 hp2 hp3 f hf]
      have hc : (k0 ≤ i ∧ i < j ∧ f = fl) ↔ (a ≤ p ∧ p < z + 1 ∧ f = fl) := by
        constructor
        · intro ⟨c1, c2, c3⟩
          refine ⟨?_, ?_, c3⟩
          · have := MS_mono hM3 c1 hi
            omega
          · by_cases hz1 : z + 1 < 1114112
            · obtain ⟨t, ht, et⟩ := hst3 hz1
              have hlt := hle i c1 c2
              have hit : i < t := by
                by_cases hit : i < t
                · exact hit
                · have := MS_mono hM3 (show t ≤ i by omega) hi
                  omega
              have h2 := hp3 (by omega)
              have h3 := MS_mono hM3 (show i + 1 ≤ t by omega) ht
              omega
            · omega
        · intro ⟨c1, c2, c3⟩
          refine ⟨?_, ?_, c3⟩
          · by_cases hik : k0 ≤ i
            · exact hik
            · exfalso
              have h2 := hp3 (by have := hk0.1; omega)
              have h3 := MS_mono hM3 (show i + 1 ≤ k0 by omega) hk0.1
              omega
          · by_cases hij : i < j
            · exact hij
            · exfalso
              rcases hex with h | h
              · omega
              · have := MS_mono hM3 (show j ≤ i by omega) hi
                omega
      unfold chg
      by_cases hcc : k0 ≤ i ∧ i < j ∧ f = fl
      · rw [if_pos hcc, if_pos (hc.mp hcc)]
      · rw [if_neg hcc, if_neg (fun q => hcc (hc.mpr q))]
    · rw [hfr x (by omega), hf3 x (by omega) (by omega) (by omega), hf2 x (by omega) (by omega) (by omega), h1, sA_n (by omega)]
  rw [hfr 20 (by decide), e20, nI_leI (by omega) (by omega)]
  refine ⟨fun hc => hJ (Or.inl (by omega)), fun hc => ?_⟩
  obtain ⟨e17, hsj⟩ := hs j (by omega)
  rw [cl (by omega), hfr 17 (by decide), e17, nI_ltI (by omega) (by omega)]
  refine ⟨vp_in_nI (by omega) (by decide), fun hc2 => hJ (Or.inr hc2), fun hc2 => ?_⟩
  rw [show (8 : Int32) = nI 8 from rfl, pk_mul, nI_add, cl (by omega)]
  refine ⟨vp_in_nI (by omega) (by decide), vp_in_nI (by omega) (by decide), ?_⟩
  intro σ4 h4 z5 hz5
  rw [ar_1] at hz5
  refine ⟨⟨j + 1, hz5, by omega, by omega, fun x hx => by rw [h4, sA_n hx]; exact hfr x hx, fun i q1 q2 => ?_, fun i f hf => ?_⟩, ?_⟩
  · by_cases e : i = j
    · subst e; omega
    · exact hle i q1 (by omega)
  · rw [h4, sA_s]
    by_cases e : 8 * i + f = 8 * j + fl
    · have ei : i = j ∧ f = fl := by omega
      obtain ⟨rfl, rfl⟩ := ei
      rw [pk_us, if_pos (by omega), h18 i f hf, if_neg (by omega)]
    · rw [pk_un e, h18 i f hf]
      by_cases c : k0 ≤ i ∧ i < j ∧ f = fl
      · rw [if_pos c, if_pos (by omega)]
      · rw [if_neg c, if_neg (by omega)]
  · rw [hz5, cl (by omega)]
    omega
theorem s_Mget_bad {σ : St} {x1 x2 : Int32} {Q : Int32 → St → Prop} (h : ¬ (inP x1 ∧ inF x2)) (hQ : Q 0 (bad σ)) : F_Mo_get x1 x2 σ Q := by
  unfold F_Mo_get
  intro σ1 h1
  subst h1
  have hb : F_Mo_fail 1 (sA σ 19 (fun _ => 0)) Q := s_fail hQ
  refine s_out (fun a => ⟨fun q => absurd q (by decide), fun _ => hb⟩) (fun a1 => ⟨fun _ => ?_, fun q => absurd rfl q⟩)
  refine ⟨fun _ => hb, fun a4 => ⟨fun a5 => absurd ⟨a1, a4, a5⟩ h, fun _ => hb⟩⟩
theorem s_Mget {σ : St} {s : Nat → Nat} {n p f : Nat} {V : Nat → Nat → Int32} {Q : Int32 → St → Prop} (hM : MS σ s n) (hV : MV σ s n V) (hp : p < 1114112) (hf : f < 8) (hQ : Q (V p f) (sA σ 19 (fun _ => 0))) : F_Mo_get (nI p) (nI f) σ Q := by
  unfold F_Mo_get
  intro σ1 h1
  have hM1 : MS σ1 s n := MS_congr (by rw [h1, sA_n (by decide)]) (by rw [h1, sA_n (by decide)]) hM
  have hV1 : MV σ1 s n V := MV_congr (by rw [h1, sA_n (by decide)]) hV
  rw [← h1] at hQ
  refine s_out (fun q => absurd (inP_nI hp) q) (fun _ => ⟨fun _ => ?_, fun q => absurd rfl q⟩)
  refine ⟨fun q => absurd q (nI_pos (by omega)), fun _ => ⟨fun _ => ?_, fun q => absurd (inF_nI hf).2 q⟩⟩
  refine s_Mat hM1 hp (fun k hk => ?_)
  have hk1 := hk.1
  have hn := hM.2.1
  rw [show (8 : Int32) = nI 8 from rfl, pk_mul, nI_add, cl (by omega), MV_at hV1 hp hk hf]
  exact ⟨vp_in_nI (by omega) (by decide), hQ⟩
theorem s_Mchange_bad {σ : St} {x1 x2 : Int32} {Q : Int32 → St → Prop} (h : ¬ (inP x1 ∧ inF x2)) (hQ : Q 0 (bad σ)) : F_Mo_change x1 x2 σ Q := by
  unfold F_Mo_change
  intro σ1 h1
  subst h1
  have hb : F_Mo_fail 1 (sA σ 19 (fun _ => 0)) Q := s_fail hQ
  refine s_out (fun a => ⟨fun q => absurd q (by decide), fun _ => hb⟩) (fun a1 => ⟨fun _ => ?_, fun q => absurd rfl q⟩)
  refine ⟨fun _ => hb, fun a4 => ⟨fun a5 => absurd ⟨a1, a4, a5⟩ h, fun _ => hb⟩⟩
theorem s_Mchange {σ : St} {s : Nat → Nat} {n p f : Nat} {V : Nat → Nat → Int32} {Q : Int32 → St → Prop} (hM : MS σ s n) (hV : MV σ s n V) (hp : p < 1114112) (hf : f < 8) (hQ : ∀ x : Int32, ChR V p f x → Q x (sA σ 19 (fun _ => 0))) : F_Mo_change (nI p) (nI f) σ Q := by
  unfold F_Mo_change
  intro σ1 h1
  have hM1 : MS σ1 s n := MS_congr (by rw [h1, sA_n (by decide)]) (by rw [h1, sA_n (by decide)]) hM
  have hV1 : MV σ1 s n V := MV_congr (by rw [h1, sA_n (by decide)]) hV
  rw [← h1] at hQ
  obtain ⟨m1, m2, e20, s0, hs, hinc⟩ := id hM1
  refine s_out (fun q => absurd (inP_nI hp) q) (fun _ => ⟨fun _ => ?_, fun q => absurd rfl q⟩)
  refine ⟨fun q => absurd q (nI_pos (by omega)), fun _ => ⟨fun _ => ?_, fun q => absurd (inF_nI hf).2 q⟩⟩
  refine s_Mat hM1 hp (fun k0 hk => ?_)
  have hk1 := hk.1
  rw [show (8 : Int32) = nI 8 from rfl, pk_mul, nI_add, cl (by omega), MV_at hV1 hp hk hf]
  refine ⟨vp_in_nI (by omega) (by decide), ?_⟩
  intro z4 hz4
  subst hz4
  unfold F_Mo_change_L48
  refine ⟨fun v3 τ => τ = σ1 ∧ ∃ j, v3 = nI j ∧ k0 ≤ j ∧ j ≤ n ∧ (∀ y, p ≤ y → y < 1114112 → (j < n → y < s j) → V y f = V p f), fun v3 _ => 9000 - v3.toNatClampNeg, ⟨rfl, k0, rfl, Nat.le_refl _, by omega, fun y q1 q2 q3 => by have := q3 hk1; have := hk.2.1; omega⟩, ?_⟩
  intro v3 τ m hI hm
  dsimp only at hm ⊢
  obtain ⟨rfl, j, rfl, j1, j2, hall⟩ := hI
  rw [cl (by omega)] at hm
  have hJ : ∀ x : Int32, (j = n → x = -1 → Q x τ) → (j < n → x = nI (s j) → Q x τ) → True := fun _ _ _ => trivial
  have hj78 : (j = n ∨ (j < n ∧ τ 18 (8 * j + f) ≠ V p f)) → F_Mo_change_J78 (nI j) τ Q := fun hex => by
    unfold F_Mo_change_J78
    rw [e20, nI_eq (by omega) (by omega)]
    refine ⟨fun he => ?_, fun he => ?_⟩
    · exact hQ _ (Or.inr ⟨rfl, fun y q1 q2 => hall y q1 q2 (fun q => absurd q (by omega))⟩)
    · have hjn : j < n := by omega
      obtain ⟨e17, hsj⟩ := hs j hjn
      rw [cl (by omega), e17]
      refine ⟨vp_in_nI (by omega) (by decide), hQ _ (Or.inl ?_)⟩
      rcases hex with h | ⟨-, h⟩
      · exact absurd h he
      · have hsv : τ 18 (8 * j + f) = V (s j) f := hV1 j (s j) hjn (Nat.le_refl _) hsj (fun q => hinc j (j + 1) (by omega) q) f hf
        have hlt : p < s j := by
          by_cases e : j = k0
          · subst e
            exact absurd (MV_at hV1 hp hk hf) h
          · have h2 := hk.2.2 (by omega)
            have h3 := MS_mono hM1 (show k0 + 1 ≤ j by omega) hjn
            omega
        exact ⟨s j, hlt, hsj, by rw [← hsv]; exact h, fun y q1 q2 => hall y q1 (by omega) (fun _ => q2), rfl⟩
  rw [e20, nI_leI (by omega) (by omega)]
  refine ⟨fun hc => hj78 (Or.inl (by omega)), fun hc => ?_⟩
  rw [show (8 : Int32) = nI 8 from rfl, pk_mul, nI_add, cl (by omega)]
  refine ⟨vp_in_nI (by omega) (by decide), fun hc2 => ?_, fun hc2 => hj78 (Or.inr ⟨by omega, hc2⟩)⟩
  intro z5 hz5
  rw [ar_1] at hz5
  refine ⟨⟨rfl, j + 1, hz5, by omega, by omega, fun y q1 q2 q3 => ?_⟩, ?_⟩
  · by_cases hy : y < s j
    · exact hall y q1 q2 (fun _ => hy)
    · rw [← hV1 j y (by omega) (by omega) q2 q3 f hf]
      exact hc2
  · rw [hz5, cl (by omega)]
    omega
theorem s_Malike_bad {σ : St} {x1 x2 : Int32} {Q : Int32 → St → Prop} (h : ¬ (inP x1 ∧ inP x2)) (hQ : Q 0 (bad σ)) : F_Mo_alike x1 x2 σ Q := by
  unfold F_Mo_alike
  intro σ1 h1
  subst h1
  have hb : F_Mo_alike_J21 (sA σ 19 (fun _ => 0)) Q := by
    unfold F_Mo_alike_J21
    refine s_fail ?_
    exact ⟨fun _ => hQ, fun q => absurd (Int32.le_refl 0) q⟩
  refine s_out (fun a => ⟨fun q => absurd q (by decide), fun _ => hb⟩) (fun a1 => ⟨fun _ => ?_, fun q => absurd rfl q⟩)
  refine s_out (fun a => ⟨fun q => absurd q (by decide), fun _ => hb⟩) (fun a2 => absurd ⟨a1, a2⟩ h)
theorem s_Malike {σ : St} {s : Nat → Nat} {n p q : Nat} {V : Nat → Nat → Int32} {Q : Int32 → St → Prop} (hM : MS σ s n) (hV : MV σ s n V) (hp : p < 1114112) (hq : q < 1114112)
    (hQ1 : (∀ f, f < 8 → V p f = V q f) → Q 1 (sA σ 19 (fun _ => 0))) (hQ0 : (¬ ∀ f, f < 8 → V p f = V q f) → Q 0 (sA σ 19 (fun _ => 0))) : F_Mo_alike (nI p) (nI q) σ Q := by
  unfold F_Mo_alike
  intro σ1 h1
  have hM1 : MS σ1 s n := MS_congr (by rw [h1, sA_n (by decide)]) (by rw [h1, sA_n (by decide)]) hM
  have hV1 : MV σ1 s n V := MV_congr (by rw [h1, sA_n (by decide)]) hV
  rw [← h1] at hQ1 hQ0
  have hn := hM.2.1
  refine s_out (fun q => absurd (inP_nI hp) q) (fun _ => ⟨fun _ => ?_, fun q => absurd rfl q⟩)
  refine s_out (fun z => absurd (inP_nI hq) z) (fun _ => ⟨fun _ => ?_, fun q => absurd rfl q⟩)
  intro z3 hz3
  unfold F_Mo_alike_L37
  refine ⟨fun v3 τ => τ = σ1 ∧ ∃ k, k ≤ 8 ∧ v3 = nI k ∧ ∀ f, f < k → V p f = V q f, fun v3 _ => 8 - v3.toNatClampNeg, ⟨rfl, 0, by omega, hz3, fun f hf => absurd hf (Nat.not_lt_zero _)⟩, ?_⟩
  intro v3 τ m hI hm
  dsimp only at hm ⊢
  obtain ⟨rfl, k, hk, rfl, hall⟩ := hI
  rw [cl (by omega)] at hm
  rw [show (8 : Int32) = nI 8 from rfl, nI_leI (by omega) (by omega)]
  refine ⟨fun hc => hQ1 (fun f hf => hall f (by omega)), fun hc => ?_⟩
  refine s_Mat hM1 hp (fun i hi => ?_)
  have hi1 := hi.1
  rw [pk_mul, nI_add, cl (by omega), MV_at hV1 hp hi (by omega)]
  refine ⟨vp_in_nI (by omega) (by decide), ?_⟩
  refine s_Mat hM1 hq (fun j hj => ?_)
  have hj1 := hj.1
  rw [pk_mul, nI_add, cl (by omega), MV_at hV1 hq hj (by omega)]
  refine ⟨vp_in_nI (by omega) (by decide), fun hc2 => ?_, fun hc2 => hQ0 (fun h => hc2 (h k (by omega)))⟩
  intro z4 hz4
  rw [ar_1] at hz4
  refine ⟨⟨rfl, k + 1, by omega, hz4, fun f hf => ?_⟩, ?_⟩
  · by_cases e : f = k
    · subst e; exact hc2
    · exact hall f (by omega)
  · rw [hz4, cl (by omega)]
    omega
theorem s_Mhash_bad {σ : St} {x1 x2 x3 : Int32} {Q : Int32 → St → Prop} (h : ¬ (inP x1 ∧ inP x2 ∧ ¬ x2 < x1 ∧ ¬ 3999 < x2 - x1 ∧ inF x3)) (hQ : Q 0 (bad σ)) : F_Mo_hash x1 x2 x3 σ Q := by
  unfold F_Mo_hash
  intro σ1 h1
  subst h1
  have hb : F_Mo_fail 1 (sA σ 19 (fun _ => 0)) Q := s_fail hQ
  refine s_out (fun a => ⟨fun q => absurd q (by decide), fun _ => hb⟩) (fun a1 => ⟨fun _ => ?_, fun q => absurd rfl q⟩)
  refine s_out (fun a => ⟨fun q => absurd q (by decide), fun _ => hb⟩) (fun a2 => ⟨fun _ => ?_, fun q => absurd rfl q⟩)
  refine ⟨fun _ => hb, fun a3 => ⟨fun _ => hb, fun a4 => ⟨fun _ => hb, fun a5 => ⟨fun a6 => absurd ⟨a1, a2, a3, a4, a5, a6⟩ h, fun _ => hb⟩⟩⟩⟩
theorem s_Mhash {σ : St} {s : Nat → Nat} {n a z f : Nat} {V : Nat → Nat → Int32} {Q : Int32 → St → Prop} (hM : MS σ s n) (hV : MV σ s n V) (haz : a ≤ z) (hz : z < 1114112) (hlen : z - a ≤ 3999) (hf : f < 8) (hQ : Q (hsh V f a (z - a + 1)) (sA σ 19 (fun _ => 0))) : F_Mo_hash (nI a) (nI z) (nI f) σ Q := by
  unfold F_Mo_hash
  intro σ1 h1
  have hM1 : MS σ1 s n := MS_congr (by rw [h1, sA_n (by decide)]) (by rw [h1, sA_n (by decide)]) hM
  have hV1 : MV σ1 s n V := MV_congr (by rw [h1, sA_n (by decide)]) hV
  rw [← h1] at hQ
  have hn := hM.2.1
  refine s_out (fun q => absurd (inP_nI (by omega)) q) (fun _ => ⟨fun _ => ?_, fun q => absurd rfl q⟩)
  refine s_out (fun q => absurd (inP_nI (by omega)) q) (fun _ => ⟨fun _ => ?_, fun q => absurd rfl q⟩)
  rw [pk_sub haz, show (3999 : Int32) = nI 3999 from rfl]
  refine ⟨fun q => absurd ((nI_ltI (by omega) (by omega)).mp q) (by omega), fun _ => ⟨fun q => absurd ((nI_ltI (by omega) (by omega)).mp q) (by omega), fun _ => ⟨fun q => absurd q (nI_pos (by omega)), fun _ => ⟨fun _ => ?_, fun q => absurd (inF_nI hf).2 q⟩⟩⟩⟩
  intro z4 hz4
  unfold F_Mo_hash_L57
  refine ⟨fun v4 v5 τ => τ = σ1 ∧ ∃ k, v5 = nI (a + k) ∧ a + k ≤ z + 1 ∧ v4 = hsh V f a k, fun _ v5 _ => 1114200 - v5.toNatClampNeg, ⟨rfl, 0, rfl, by omega, hz4⟩, ?_⟩
  intro v4 v5 τ m hI hm
  dsimp only at hm ⊢
  obtain ⟨rfl, k, rfl, hk, rfl⟩ := hI
  rw [cl (by omega)] at hm
  rw [nI_ltI (by omega) (by omega)]
  refine ⟨fun hc => ?_, fun hc => ?_⟩
  · have : k = z - a + 1 := by omega
    subst this
    exact hQ
  · refine s_Mat hM1 (by omega) (fun i hi => ?_)
    have hi1 := hi.1
    rw [show (8 : Int32) = nI 8 from rfl, pk_mul, nI_add, cl (by omega), MV_at hV1 (by omega) hi hf]
    refine ⟨vp_in_nI (by omega) (by decide), ?_⟩
    intro z5 hz5 z6 hz6
    rw [ar_1] at hz6
    refine ⟨⟨rfl, k + 1, by rw [hz6, Nat.add_assoc], by omega, hz5⟩, ?_⟩
    rw [hz6, cl (by omega)]
    omega
theorem s_clearL21 {σ : St} {s : Nat → Nat} {n p c : Nat} {V : Nat → Nat → Int32} {K : Int32 → Int32 → St → Prop} {Q : Int32 → St → Prop} (hM : MS σ s n) (hV : MV σ s n V) (hp : p < 1114112)
    (hQ : K (nI (c + (nz V p).toNat)) (nI (p + 1)) σ) : F_Mo_clear_L21 (nI c) (nI p) 0 0 σ K Q := by
  have hn := hM.2.1
  unfold F_Mo_clear_L21
  refine ⟨fun v3 v4 τ => τ = σ ∧ ∃ k, k ≤ 8 ∧ v4 = nI k ∧ ((v3 = 0 ∧ ∀ f, f < k → V p f = 0) ∨ (v3 = 1 ∧ nz V p = true)), fun _ v4 _ => 8 - v4.toNatClampNeg, ⟨rfl, 0, by omega, rfl, Or.inl ⟨rfl, fun f hf => absurd hf (Nat.not_lt_zero _)⟩⟩, ?_⟩
  intro v3 v4 τ m hI hm
  dsimp only at hm ⊢
  obtain ⟨rfl, k, hk, rfl, hor⟩ := hI
  rw [cl (by omega)] at hm
  rw [show (8 : Int32) = nI 8 from rfl, nI_leI (by omega) (by omega)]
  refine ⟨fun hc => ?_, fun hc => ?_⟩
  · rcases hor with ⟨e, h⟩ | ⟨e, h⟩
    · refine ⟨fun _ => ?_, fun q => absurd e q⟩
      intro z1 hz1 z2 hz2
      rw [ar_1] at hz2
      have e0 : nz V p = false := nz_f.mpr (fun f hf => h f (by omega))
      rw [e0] at hQ
      rw [hz1, hz2, show (0 : Int32) = nI 0 from rfl, nI_add]
      exact hQ
    · refine ⟨fun q => absurd (e.symm.trans q) (by decide), fun _ => ?_⟩
      intro z1 hz1 z2 hz2
      rw [ar_1] at hz1 hz2
      rw [h] at hQ
      rw [hz1, hz2]
      exact hQ
  · refine s_Mat hM hp (fun i hi => ?_)
    have hi1 := hi.1
    rw [pk_mul, nI_add, cl (by omega), MV_at hV hp hi (by omega)]
    refine ⟨vp_in_nI (by omega) (by decide), fun he => ?_, fun he => ?_⟩
    · intro z1 hz1
      rw [ar_1] at hz1
      refine ⟨⟨rfl, k + 1, by omega, hz1, ?_⟩, ?_⟩
      · rcases hor with ⟨e, h⟩ | h
        · refine Or.inl ⟨e, fun f hf => ?_⟩
          by_cases e2 : f = k
          · rw [e2]; exact he
          · exact h f (by omega)
        · exact Or.inr h
      · rw [hz1, cl (by omega)]
        omega
    · intro z0 hz0 z1 hz1
      rw [ar_1] at hz1
      refine ⟨⟨rfl, k + 1, by omega, hz1, Or.inr ⟨hz0, ?_⟩⟩, ?_⟩
      · cases h : nz V p with
        | true => rfl
        | false => exact absurd (nz_f.mp h k (by omega)) he
      · rw [hz1, cl (by omega)]
        omega
theorem s_clearL80 {σ : St} {c : Int32} {Q : Int32 → St → Prop} (hQ : ∀ τ : St, (∀ x, x ≠ 18 → τ x = σ x) → (∀ f, f < 8 → τ 18 f = 0) → Q c τ) : F_Mo_clear_L80 c 0 σ Q := by
  unfold F_Mo_clear_L80
  refine ⟨fun v2 τ => (∀ x, x ≠ 18 → τ x = σ x) ∧ ∃ k, k ≤ 8 ∧ v2 = nI k ∧ ∀ f, f < k → τ 18 f = 0, fun v2 _ => 8 - v2.toNatClampNeg, ⟨fun _ _ => rfl, 0, by omega, rfl, fun f hf => absurd hf (Nat.not_lt_zero _)⟩, ?_⟩
  intro v2 τ m hI hm
  dsimp only at hm ⊢
  obtain ⟨hfr, k, hk, rfl, hall⟩ := hI
  rw [cl (by omega)] at hm
  rw [show (8 : Int32) = nI 8 from rfl, nI_leI (by omega) (by omega)]
  refine ⟨fun hc => hQ τ hfr (fun f hf => hall f (by omega)), fun hc => ?_⟩
  refine ⟨vp_in_nI (by omega) (by decide), ?_⟩
  intro σ1 h1 z1 hz1
  rw [cl (by omega)] at h1
  rw [ar_1] at hz1
  refine ⟨⟨fun x hx => by rw [h1, sA_n hx]; exact hfr x hx, k + 1, by omega, hz1, fun f hf => ?_⟩, ?_⟩
  · rw [h1, sA_s]
    by_cases e : f = k
    · rw [e, pk_us]
    · rw [pk_un e]; exact hall f (by omega)
  · rw [hz1, cl (by omega)]
    omega
theorem s_Mclear {σ : St} {s : Nat → Nat} {n : Nat} {V : Nat → Nat → Int32} {Q : Int32 → St → Prop} (hM : MS σ s n) (hV : MV σ s n V)
    (hQ : ∀ τ : St, MS τ (fun _ => 0) 1 → MV τ (fun _ => 0) 1 (fun _ _ => 0) → τ 19 0 = 0 → (∀ x, x < 17 → τ x = σ x) → Q (nI (cnt V 1024)) τ) : F_Mo_clear σ Q := by
  unfold F_Mo_clear
  intro σ1 h1 z1 hz1 z2 hz2
  have hM1 : MS σ1 s n := MS_congr (by rw [h1, sA_n (by decide)]) (by rw [h1, sA_n (by decide)]) hM
  have hV1 : MV σ1 s n V := MV_congr (by rw [h1, sA_n (by decide)]) hV
  unfold F_Mo_clear_L9
  refine ⟨fun v1 v2 τ => τ = σ1 ∧ ∃ x, v2 = nI x ∧ x ≤ 1024 ∧ v1 = nI (cnt V x), fun _ v2 _ => 1024 - v2.toNatClampNeg, ⟨rfl, 0, hz2, by omega, hz1⟩, ?_⟩
  intro v1 v2 τ m hI hm
  dsimp only at hm ⊢
  obtain ⟨rfl, x, rfl, hx, rfl⟩ := hI
  rw [cl (by omega)] at hm
  rw [show (1024 : Int32) = nI 1024 from rfl, nI_leI (by omega) (by omega)]
  refine ⟨fun hc => ?_, fun hc => ?_⟩
  · have : x = 1024 := by omega
    subst this
    intro σ2 h2 z3 hz3
    subst hz3
    refine s_clearL80 (fun τ2 f2 t2 => ?_)
    obtain ⟨m1, m2, e20, s0, hs, hinc⟩ := hM1
    refine hQ τ2 ⟨by omega, by omega, ?_, rfl, fun i hi => ?_, fun i j hij hj => absurd hij (by omega)⟩ (fun i p hi _ _ _ f hf => ?_) ?_ (fun y hy => ?_)
    · rw [f2 20 (by decide), h2, sA_s]
      rfl
    · have : i = 0 := by omega
      subst this
      refine ⟨?_, show 0 < 1114112 by omega⟩
      rw [f2 17 (by decide), h2, sA_n (by decide), (hs 0 (by omega)).1, s0]
    · have : i = 0 := by omega
      subst this
      rw [Nat.mul_zero, Nat.zero_add]
      exact t2 f hf
    · rw [f2 19 (by decide), h2, sA_n (by decide), h1, sA_s]
    · rw [f2 y (by omega), h2, sA_n (by omega), h1, sA_n (by omega)]
  · intro z3 hz3 z4 hz4
    subst hz3
    subst hz4
    refine s_clearL21 hM1 hV1 (by omega) ⟨⟨rfl, x + 1, rfl, by omega, rfl⟩, ?_⟩
    rw [cl (by omega)]
    omega
end
section
-- ===== PART A: goes FIRST, ahead of the names: the tables' words, and 'selects' of the private methods out of them =====
/-- a private method of a class that the tables say can be made, by its rows of tables_1 -/
def lw_okq (q : MethodName × Nat) : Prop := (q.1.cls ≠ "java/lang/invoke/MethodHandle" ∧ q.1.cls ≠ "java/lang/invoke/VarHandle") ∧ Cond.instantiable q.1.cls q.2 ∈ tables_1 ∧ Cond.privateMethod q.1 ∈ tables_1 ∧ Cond.instanceMethod q.1 ∈ tables_1
theorem lw_p0 : lw_okq (⟨"PropertyTrie$Records", "keepWanted", "(I)I"⟩, 11) := ⟨⟨by decide +kernel, by decide +kernel⟩, List.mem_of_getElem? (i := 35) (by decide +kernel), List.mem_of_getElem? (i := 51) (by decide +kernel), List.mem_of_getElem? (i := 52) (by decide +kernel)⟩
theorem lw_p1 : lw_okq (⟨"java/lang/Throwable", "fillInStackTrace", "(I)Ljava/lang/Throwable;"⟩, 6) := ⟨⟨by decide +kernel, by decide +kernel⟩, List.mem_of_getElem? (i := 145) (by decide +kernel), List.mem_of_getElem? (i := 143) (by decide +kernel), List.mem_of_getElem? (i := 144) (by decide +kernel)⟩
theorem lw_p2 : lw_okq (⟨"PropertyTrie$Blocks", "find", "(I)V"⟩, 7) := ⟨⟨by decide +kernel, by decide +kernel⟩, List.mem_of_getElem? (i := 29) (by decide +kernel), List.mem_of_getElem? (i := 449) (by decide +kernel), List.mem_of_getElem? (i := 450) (by decide +kernel)⟩
theorem lw_p3 : lw_okq (⟨"PropertyTrie$Blocks", "splitBefore", "(I)V"⟩, 7) := ⟨⟨by decide +kernel, by decide +kernel⟩, List.mem_of_getElem? (i := 29) (by decide +kernel), List.mem_of_getElem? (i := 486) (by decide +kernel), List.mem_of_getElem? (i := 487) (by decide +kernel)⟩
theorem lw_p4 : lw_okq (⟨"PropertyTrie$Blocks", "split", "(I)V"⟩, 7) := ⟨⟨by decide +kernel, by decide +kernel⟩, List.mem_of_getElem? (i := 29) (by decide +kernel), List.mem_of_getElem? (i := 490) (by decide +kernel), List.mem_of_getElem? (i := 491) (by decide +kernel)⟩
theorem lw_p5 : lw_okq (⟨"PropertyTrie$Blocks", "replace", "(I)V"⟩, 7) := ⟨⟨by decide +kernel, by decide +kernel⟩, List.mem_of_getElem? (i := 29) (by decide +kernel), List.mem_of_getElem? (i := 495) (by decide +kernel), List.mem_of_getElem? (i := 496) (by decide +kernel)⟩
theorem lw_p6 : lw_okq (⟨"PropertyTrie$Records", "findWanted", "(I)I"⟩, 11) := ⟨⟨by decide +kernel, by decide +kernel⟩, List.mem_of_getElem? (i := 35) (by decide +kernel), List.mem_of_getElem? (i := 503) (by decide +kernel), List.mem_of_getElem? (i := 504) (by decide +kernel)⟩
theorem lw_p7 : lw_okq (⟨"PropertyTrie$Records", "isWanted", "(I)Z"⟩, 11) := ⟨⟨by decide +kernel, by decide +kernel⟩, List.mem_of_getElem? (i := 35) (by decide +kernel), List.mem_of_getElem? (i := 507) (by decide +kernel), List.mem_of_getElem? (i := 508) (by decide +kernel)⟩
theorem lw_p8 : lw_okq (⟨"PropertyTrie$Records", "drop", "(I)V"⟩, 11) := ⟨⟨by decide +kernel, by decide +kernel⟩, List.mem_of_getElem? (i := 35) (by decide +kernel), List.mem_of_getElem? (i := 515) (by decide +kernel), List.mem_of_getElem? (i := 516) (by decide +kernel)⟩
theorem lw_p9 : lw_okq (⟨"PropertyTrie$Blocks", "joinBelow", "(I)V"⟩, 7) := ⟨⟨by decide +kernel, by decide +kernel⟩, List.mem_of_getElem? (i := 29) (by decide +kernel), List.mem_of_getElem? (i := 520) (by decide +kernel), List.mem_of_getElem? (i := 521) (by decide +kernel)⟩
theorem lw_p10 : lw_okq (⟨"PropertyTrie$Blocks", "join", "(I)V"⟩, 7) := ⟨⟨by decide +kernel, by decide +kernel⟩, List.mem_of_getElem? (i := 29) (by decide +kernel), List.mem_of_getElem? (i := 524) (by decide +kernel), List.mem_of_getElem? (i := 525) (by decide +kernel)⟩
theorem lw_p11 : lw_okq (⟨"PropertyTrie$Blocks", "isAllAlike", "(I)Z"⟩, 7) := ⟨⟨by decide +kernel, by decide +kernel⟩, List.mem_of_getElem? (i := 29) (by decide +kernel), List.mem_of_getElem? (i := 528) (by decide +kernel), List.mem_of_getElem? (i := 529) (by decide +kernel)⟩
theorem lw_p12 : lw_okq (⟨"PropertyTrie", "valueAt", "(II)I"⟩, 1) := ⟨⟨by decide +kernel, by decide +kernel⟩, List.mem_of_getElem? (i := 21) (by decide +kernel), List.mem_of_getElem? (i := 547) (by decide +kernel), List.mem_of_getElem? (i := 548) (by decide +kernel)⟩
theorem lw_p13 : lw_okq (⟨"PropertyTrieModel", "out", "(I)Z"⟩, 4) := ⟨⟨by decide +kernel, by decide +kernel⟩, List.mem_of_getElem? (i := 580) (by decide +kernel), List.mem_of_getElem? (i := 612) (by decide +kernel), List.mem_of_getElem? (i := 613) (by decide +kernel)⟩
theorem lw_p14 : lw_okq (⟨"PropertyTrieModel", "fail", "(I)I"⟩, 4) := ⟨⟨by decide +kernel, by decide +kernel⟩, List.mem_of_getElem? (i := 580) (by decide +kernel), List.mem_of_getElem? (i := 617) (by decide +kernel), List.mem_of_getElem? (i := 618) (by decide +kernel)⟩
theorem lw_p15 : lw_okq (⟨"PropertyTrieModel", "cut", "(I)V"⟩, 4) := ⟨⟨by decide +kernel, by decide +kernel⟩, List.mem_of_getElem? (i := 580) (by decide +kernel), List.mem_of_getElem? (i := 621) (by decide +kernel), List.mem_of_getElem? (i := 622) (by decide +kernel)⟩
def lw_privs_1 : List (MethodName × Nat) := [(⟨"PropertyTrie$Records", "keepWanted", "(I)I"⟩, 11), (⟨"java/lang/Throwable", "fillInStackTrace", "(I)Ljava/lang/Throwable;"⟩, 6), (⟨"PropertyTrie$Blocks", "find", "(I)V"⟩, 7), (⟨"PropertyTrie$Blocks", "splitBefore", "(I)V"⟩, 7), (⟨"PropertyTrie$Blocks", "split", "(I)V"⟩, 7), (⟨"PropertyTrie$Blocks", "replace", "(I)V"⟩, 7), (⟨"PropertyTrie$Records", "findWanted", "(I)I"⟩, 11), (⟨"PropertyTrie$Records", "isWanted", "(I)Z"⟩, 11), (⟨"PropertyTrie$Records", "drop", "(I)V"⟩, 11), (⟨"PropertyTrie$Blocks", "joinBelow", "(I)V"⟩, 7), (⟨"PropertyTrie$Blocks", "join", "(I)V"⟩, 7), (⟨"PropertyTrie$Blocks", "isAllAlike", "(I)Z"⟩, 7), (⟨"PropertyTrie", "valueAt", "(II)I"⟩, 1), (⟨"PropertyTrieModel", "out", "(I)Z"⟩, 4), (⟨"PropertyTrieModel", "fail", "(I)I"⟩, 4), (⟨"PropertyTrieModel", "cut", "(I)V"⟩, 4)]
theorem lw_r1 : ∀ q ∈ lw_privs_1, lw_okq q := List.forall_mem_cons.mpr ⟨lw_p0, List.forall_mem_cons.mpr ⟨lw_p1, List.forall_mem_cons.mpr ⟨lw_p2, List.forall_mem_cons.mpr ⟨lw_p3, List.forall_mem_cons.mpr ⟨lw_p4, List.forall_mem_cons.mpr ⟨lw_p5, List.forall_mem_cons.mpr ⟨lw_p6, List.forall_mem_cons.mpr ⟨lw_p7, List.forall_mem_cons.mpr ⟨lw_p8, List.forall_mem_cons.mpr ⟨lw_p9, List.forall_mem_cons.mpr ⟨lw_p10, List.forall_mem_cons.mpr ⟨lw_p11, List.forall_mem_cons.mpr ⟨lw_p12, List.forall_mem_cons.mpr ⟨lw_p13, List.forall_mem_cons.mpr ⟨lw_p14, List.forall_mem_cons.mpr ⟨lw_p15, fun _ h => absurd h List.not_mem_nil⟩⟩⟩⟩⟩⟩⟩⟩⟩⟩⟩⟩⟩⟩⟩⟩
theorem lw_p16 : lw_okq (⟨"PropertyTrieModel", "at", "(I)I"⟩, 4) := ⟨⟨by decide +kernel, by decide +kernel⟩, List.mem_of_getElem? (i := 580) (by decide +kernel), List.mem_of_getElem? (i := 625) (by decide +kernel), List.mem_of_getElem? (i := 626) (by decide +kernel)⟩
def lw_privs_2 : List (MethodName × Nat) := [(⟨"PropertyTrieModel", "at", "(I)I"⟩, 4)]
theorem lw_r2 : ∀ q ∈ lw_privs_2, lw_okq q := List.forall_mem_cons.mpr ⟨lw_p16, fun _ h => absurd h List.not_mem_nil⟩
def lw_privs : List (MethodName × Nat) := lw_privs_1 ++ (lw_privs_2)
def lw_tbl : List Cond := k2_sels lw_privs ++ tables_1
theorem lw_privs_ok : ∀ q ∈ lw_privs, lw_okq q := by
  show ∀ q ∈ lw_privs_1 ++ (lw_privs_2), lw_okq q
  exact List.forall_mem_append.mpr ⟨lw_r1, lw_r2⟩
def R_Pt : String := "PropertyTrie"
def F_Pt : u_T := fun k => match k with
  | _ => ("PropertyTrie", "blocks", "LPropertyTrie$Blocks;", true)
def t_Pt : Nat → FieldType := fun k => match k with
  | _ => .object "PropertyTrie$Blocks"
abbrev w_Pt : List Cond := u_ws R_Pt F_Pt 1
theorem n_Pt : ∀ a, a < 1 → ∀ b, b < 1 → a ≠ b → (F_Pt a).2.1 ≠ (F_Pt b).2.1 := by decide +kernel
theorem t_Pt_ok : ∀ k, k < 1 → parseFieldDescriptor (F_Pt k).2.2.1 = some (t_Pt k) := by decide +kernel
def R_Mo : String := "PropertyTrieModel"
def F_Mo : u_T := fun k => match k with
  | 0 => ("PropertyTrieModel", "failed", "I", false)
  | 1 => ("PropertyTrieModel", "count", "I", false)
  | 2 => ("PropertyTrieModel", "starts", "[I", true)
  | _ => ("PropertyTrieModel", "fields", "[I", true)
def t_Mo : Nat → FieldType := fun k => match k with
  | 0 => .int
  | 1 => .int
  | 2 => .array .int
  | _ => .array .int
abbrev w_Mo : List Cond := u_ws R_Mo F_Mo 4
theorem n_Mo : ∀ a, a < 4 → ∀ b, b < 4 → a ≠ b → (F_Mo a).2.1 ≠ (F_Mo b).2.1 := by decide +kernel
theorem t_Mo_ok : ∀ k, k < 4 → parseFieldDescriptor (F_Mo k).2.2.1 = some (t_Mo k) := by decide +kernel
def R_Bl : String := "PropertyTrie$Blocks"
def F_Bl : u_T := fun k => match k with
  | 0 => ("PropertyTrie$Blocks", "records", "LPropertyTrie$Records;", true)
  | 1 => ("PropertyTrie$Blocks", "cells", "[I", true)
  | 2 => ("PropertyTrie$Blocks", "spareRows", "[I", true)
  | 3 => ("PropertyTrie$Blocks", "spares", "I", false)
  | 4 => ("PropertyTrie$Blocks", "found", "I", false)
  | 5 => ("PropertyTrie$Blocks", "foundFirst", "I", false)
  | _ => ("PropertyTrie$Blocks", "foundLast", "I", false)
def t_Bl : Nat → FieldType := fun k => match k with
  | 0 => .object "PropertyTrie$Records"
  | 1 => .array .int
  | 2 => .array .int
  | 3 => .int
  | 4 => .int
  | 5 => .int
  | _ => .int
abbrev w_Bl : List Cond := u_ws R_Bl F_Bl 7
theorem n_Bl : ∀ a, a < 7 → ∀ b, b < 7 → a ≠ b → (F_Bl a).2.1 ≠ (F_Bl b).2.1 := by decide +kernel
theorem t_Bl_ok : ∀ k, k < 7 → parseFieldDescriptor (F_Bl k).2.2.1 = some (t_Bl k) := by decide +kernel
def R_Rc : String := "PropertyTrie$Records"
def F_Rc : u_T := fun k => match k with
  | 0 => ("PropertyTrie$Records", "values", "[I", true)
  | 1 => ("PropertyTrie$Records", "holders", "[I", true)
  | 2 => ("PropertyTrie$Records", "spareRecords", "[I", true)
  | 3 => ("PropertyTrie$Records", "spares", "I", false)
  | 4 => ("PropertyTrie$Records", "heads", "[I", true)
  | 5 => ("PropertyTrie$Records", "behind", "[I", true)
  | 6 => ("PropertyTrie$Records", "field", "I", false)
  | 7 => ("PropertyTrie$Records", "v", "I", false)
  | 8 => ("PropertyTrie$Records", "kept", "I", false)
  | 9 => ("PropertyTrie$Records", "outcome", "[I", true)
  | _ => ("PropertyTrie$Records", "wanted", "[I", true)
def t_Rc : Nat → FieldType := fun k => match k with
  | 0 => .array .int
  | 1 => .array .int
  | 2 => .array .int
  | 3 => .int
  | 4 => .array .int
  | 5 => .array .int
  | 6 => .int
  | 7 => .int
  | 8 => .int
  | 9 => .array .int
  | _ => .array .int
abbrev w_Rc : List Cond := u_ws R_Rc F_Rc 11
theorem n_Rc : ∀ a, a < 11 → ∀ b, b < 11 → a ≠ b → (F_Rc a).2.1 ≠ (F_Rc b).2.1 := by decide +kernel
theorem t_Rc_ok : ∀ k, k < 11 → parseFieldDescriptor (F_Rc k).2.2.1 = some (t_Rc k) := by decide +kernel
def R_La : String := "PropertyTrieLaw"
def F_La : u_T := fun k => match k with
  | _ => ("", "", "", false)
def t_La : Nat → FieldType := fun k => match k with
  | _ => .int
abbrev w_La : List Cond := u_ws R_La F_La 0
theorem n_La : ∀ a, a < 0 → ∀ b, b < 0 → a ≠ b → (F_La a).2.1 ≠ (F_La b).2.1 := by decide +kernel
theorem t_La_ok : ∀ k, k < 0 → parseFieldDescriptor (F_La k).2.2.1 = some (t_La k) := by decide +kernel
def y_Pt_init : MethodName := ⟨"PropertyTrie", "<init>", "()V"⟩
abbrev b_Pt_init : ByteArray := prog_1_method_1_code
def y_Ob_init : MethodName := ⟨"java/lang/Object", "<init>", "()V"⟩
abbrev b_Ob_init : ByteArray := object_method_1_code
def y_Bl_init : MethodName := ⟨"PropertyTrie$Blocks", "<init>", "()V"⟩
abbrev b_Bl_init : ByteArray := prog_2_method_1_code
def y_Rc_init : MethodName := ⟨"PropertyTrie$Records", "<init>", "()V"⟩
abbrev b_Rc_init : ByteArray := prog_3_method_1_code
def y_Rc_empty : MethodName := ⟨"PropertyTrie$Records", "empty", "()V"⟩
abbrev b_Rc_empty : ByteArray := prog_3_method_2_code
def y_Ar_fill2 : MethodName := ⟨"java/util/Arrays", "fill", "([II)V"⟩
abbrev b_Ar_fill2 : ByteArray := prog_19_method_103_code
def y_Rc_chainOf : MethodName := ⟨"PropertyTrie$Records", "chainOf", "([II)I"⟩
abbrev b_Rc_chainOf : ByteArray := prog_3_method_12_code
def y_Rc_keepWanted : MethodName := ⟨"PropertyTrie$Records", "keepWanted", "(I)I"⟩
abbrev b_Rc_keepWanted : ByteArray := prog_3_method_10_code
def y_Sy_arraycopy : MethodName := ⟨"java/lang/System", "arraycopy", "(Ljava/lang/Object;ILjava/lang/Object;II)V"⟩
def y_Rc_hold : MethodName := ⟨"PropertyTrie$Records", "hold", "(II)V"⟩
abbrev b_Rc_hold : ByteArray := prog_3_method_4_code
def y_Bl_empty : MethodName := ⟨"PropertyTrie$Blocks", "empty", "()V"⟩
abbrev b_Bl_empty : ByteArray := prog_2_method_2_code
def y_Ar_fill4 : MethodName := ⟨"java/util/Arrays", "fill", "([IIII)V"⟩
abbrev b_Ar_fill4 : ByteArray := prog_19_method_104_code
def y_Ar_rangeCheck : MethodName := ⟨"java/util/Arrays", "rangeCheck", "(III)V"⟩
abbrev b_Ar_rangeCheck : ByteArray := prog_19_method_30_code
def y_Re_init : MethodName := ⟨"java/lang/RuntimeException", "<init>", "()V"⟩
def y_Re_init2 : MethodName := ⟨"java/lang/RuntimeException", "<init>", "(Ljava/lang/String;)V"⟩
abbrev b_Re_init2 : ByteArray := prog_12_method_2_code
def y_Ex_init : MethodName := ⟨"java/lang/Exception", "<init>", "()V"⟩
def y_Ex_init2 : MethodName := ⟨"java/lang/Exception", "<init>", "(Ljava/lang/String;)V"⟩
abbrev b_Ex_init2 : ByteArray := prog_8_method_2_code
def y_Th_init : MethodName := ⟨"java/lang/Throwable", "<init>", "()V"⟩
abbrev b_Th_init : ByteArray := prog_18_method_1_code
def y_Th_init2 : MethodName := ⟨"java/lang/Throwable", "<init>", "(Ljava/lang/String;)V"⟩
abbrev b_Th_init2 : ByteArray := prog_18_method_2_code
def y_Th_fillInStackTrace : MethodName := ⟨"java/lang/Throwable", "fillInStackTrace", "(I)Ljava/lang/Throwable;"⟩
def y_Th_fillInStackTrace2 : MethodName := ⟨"java/lang/Throwable", "fillInStackTrace", "()Ljava/lang/Throwable;"⟩
abbrev b_Th_fillInStackTrace2 : ByteArray := prog_18_method_18_code
def y_Sb_init : MethodName := ⟨"java/lang/StringBuilder", "<init>", "()V"⟩
abbrev b_Sb_init : ByteArray := prog_14_method_1_code
def y_As_init : MethodName := ⟨"java/lang/AbstractStringBuilder", "<init>", "(I)V"⟩
abbrev b_As_init : ByteArray := prog_6_method_2_code
def y_Su_newBytesFor : MethodName := ⟨"java/lang/StringUTF16", "newBytesFor", "(I)[B"⟩
abbrev b_Su_newBytesFor : ByteArray := prog_16_method_2_code
def y_Su_newBytesLength : MethodName := ⟨"java/lang/StringUTF16", "newBytesLength", "(I)I"⟩
abbrev b_Su_newBytesLength : ByteArray := prog_16_method_3_code
def y_Sb_append : MethodName := ⟨"java/lang/StringBuilder", "append", "(Ljava/lang/String;)Ljava/lang/StringBuilder;"⟩
abbrev b_Sb_append : ByteArray := prog_14_method_7_code
def y_As_append : MethodName := ⟨"java/lang/AbstractStringBuilder", "append", "(Ljava/lang/String;)Ljava/lang/AbstractStringBuilder;"⟩
abbrev b_As_append : ByteArray := prog_6_method_22_code
def y_As_appendNull : MethodName := ⟨"java/lang/AbstractStringBuilder", "appendNull", "()Ljava/lang/AbstractStringBuilder;"⟩
abbrev b_As_appendNull : ByteArray := prog_6_method_26_code
def y_As_ensureCapacityInternal : MethodName := ⟨"java/lang/AbstractStringBuilder", "ensureCapacityInternal", "(I)V"⟩
abbrev b_As_ensureCapacityInternal : ByteArray := prog_6_method_9_code
def y_As_newCapacity : MethodName := ⟨"java/lang/AbstractStringBuilder", "newCapacity", "(I)I"⟩
abbrev b_As_newCapacity : ByteArray := prog_6_method_10_code
def y_Au_newLength : MethodName := ⟨"jdk/internal/util/ArraysSupport", "newLength", "(III)I"⟩
abbrev b_Au_newLength : ByteArray := prog_20_method_27_code
def y_Mt_max : MethodName := ⟨"java/lang/Math", "max", "(II)I"⟩
abbrev b_Mt_max : ByteArray := prog_11_method_65_code
def y_Au_hugeLength : MethodName := ⟨"jdk/internal/util/ArraysSupport", "hugeLength", "(II)I"⟩
abbrev b_Au_hugeLength : ByteArray := prog_20_method_28_code
def y_Ar_copyOf : MethodName := ⟨"java/util/Arrays", "copyOf", "([BI)[B"⟩
abbrev b_Ar_copyOf : ByteArray := prog_19_method_121_code
def y_B_clone : MethodName := ⟨"[B", "clone", "()Ljava/lang/Object;"⟩
def y_Ob_clone : MethodName := ⟨"java/lang/Object", "clone", "()Ljava/lang/Object;"⟩
def y_Mt_min : MethodName := ⟨"java/lang/Math", "min", "(II)I"⟩
abbrev b_Mt_min : ByteArray := prog_11_method_69_code
def y_As_isLatin1 : MethodName := ⟨"java/lang/AbstractStringBuilder", "isLatin1", "()Z"⟩
abbrev b_As_isLatin1 : ByteArray := prog_6_method_68_code
def y_Su_putCharsAt : MethodName := ⟨"java/lang/StringUTF16", "putCharsAt", "([BICCCC)I"⟩
abbrev b_Su_putCharsAt : ByteArray := prog_16_method_81_code
def y_Su_checkBoundsBeginEnd : MethodName := ⟨"java/lang/StringUTF16", "checkBoundsBeginEnd", "(II[B)V"⟩
abbrev b_Su_checkBoundsBeginEnd : ByteArray := prog_16_method_93_code
def y_Su_length : MethodName := ⟨"java/lang/StringUTF16", "length", "([B)I"⟩
abbrev b_Su_length : ByteArray := prog_16_method_6_code
def y_St_checkBoundsBeginEnd : MethodName := ⟨"java/lang/String", "checkBoundsBeginEnd", "(III)V"⟩
abbrev b_St_checkBoundsBeginEnd : ByteArray := prog_13_method_158_code
def y_Pc_checkFromToIndex : MethodName := ⟨"jdk/internal/util/Preconditions", "checkFromToIndex", "(IIILjava/util/function/BiFunction;)I"⟩
abbrev b_Pc_checkFromToIndex : ByteArray := prog_21_method_12_code
def y_Su_putChar : MethodName := ⟨"java/lang/StringUTF16", "putChar", "([BII)V"⟩
abbrev b_Su_putChar : ByteArray := prog_16_method_4_code
def y_St_length : MethodName := ⟨"java/lang/String", "length", "()I"⟩
abbrev b_St_length : ByteArray := prog_13_method_54_code
def y_St_coder : MethodName := ⟨"java/lang/String", "coder", "()B"⟩
abbrev b_St_coder : ByteArray := prog_13_method_152_code
def y_As_putStringAt : MethodName := ⟨"java/lang/AbstractStringBuilder", "putStringAt", "(ILjava/lang/String;)V"⟩
abbrev b_As_putStringAt : ByteArray := prog_6_method_73_code
def y_As_inflateIfNeededFor : MethodName := ⟨"java/lang/AbstractStringBuilder", "inflateIfNeededFor", "(Ljava/lang/String;)V"⟩
abbrev b_As_inflateIfNeededFor : ByteArray := prog_6_method_71_code
def y_As_inflate : MethodName := ⟨"java/lang/AbstractStringBuilder", "inflate", "()V"⟩
abbrev b_As_inflate : ByteArray := prog_6_method_11_code
def y_Sl_inflate : MethodName := ⟨"java/lang/StringLatin1", "inflate", "([BI[BII)V"⟩
abbrev b_Sl_inflate : ByteArray := prog_15_method_50_code
def y_Su_inflate : MethodName := ⟨"java/lang/StringUTF16", "inflate", "([BI[BII)V"⟩
abbrev b_Su_inflate : ByteArray := prog_16_method_86_code
def y_Su_checkBoundsOffCount : MethodName := ⟨"java/lang/StringUTF16", "checkBoundsOffCount", "(II[B)V"⟩
abbrev b_Su_checkBoundsOffCount : ByteArray := prog_16_method_94_code
def y_St_checkBoundsOffCount : MethodName := ⟨"java/lang/String", "checkBoundsOffCount", "(III)I"⟩
abbrev b_St_checkBoundsOffCount : ByteArray := prog_13_method_157_code
def y_Pc_checkFromIndexSize : MethodName := ⟨"jdk/internal/util/Preconditions", "checkFromIndexSize", "(IIILjava/util/function/BiFunction;)I"⟩
abbrev b_Pc_checkFromIndexSize : ByteArray := prog_21_method_13_code
def y_St_getBytes : MethodName := ⟨"java/lang/String", "getBytes", "([BIB)V"⟩
abbrev b_St_getBytes : ByteArray := prog_13_method_147_code
def y_Sb_append2 : MethodName := ⟨"java/lang/StringBuilder", "append", "(I)Ljava/lang/StringBuilder;"⟩
abbrev b_Sb_append2 : ByteArray := prog_14_method_15_code
def y_As_append2 : MethodName := ⟨"java/lang/AbstractStringBuilder", "append", "(I)Ljava/lang/AbstractStringBuilder;"⟩
abbrev b_As_append2 : ByteArray := prog_6_method_32_code
def y_In_stringSize : MethodName := ⟨"java/lang/Integer", "stringSize", "(I)I"⟩
abbrev b_In_stringSize : ByteArray := prog_10_method_13_code
def y_In_getChars : MethodName := ⟨"java/lang/Integer", "getChars", "(II[B)I"⟩
abbrev b_In_getChars : ByteArray := prog_10_method_12_code
def y_Su_getChars : MethodName := ⟨"java/lang/StringUTF16", "getChars", "(III[B)I"⟩
abbrev b_Su_getChars : ByteArray := prog_16_method_77_code
def y_Su_getChars2 : MethodName := ⟨"java/lang/StringUTF16", "getChars", "(II[B)I"⟩
abbrev b_Su_getChars2 : ByteArray := prog_16_method_89_code
def y_Sb_toString : MethodName := ⟨"java/lang/StringBuilder", "toString", "()Ljava/lang/String;"⟩
abbrev b_Sb_toString : ByteArray := prog_14_method_42_code
def y_St_init : MethodName := ⟨"java/lang/String", "<init>", "(Ljava/lang/StringBuilder;)V"⟩
abbrev b_St_init : ByteArray := prog_13_method_53_code
def y_St_init2 : MethodName := ⟨"java/lang/String", "<init>", "(Ljava/lang/AbstractStringBuilder;Ljava/lang/Void;)V"⟩
abbrev b_St_init2 : ByteArray := prog_13_method_150_code
def y_As_getValue : MethodName := ⟨"java/lang/AbstractStringBuilder", "getValue", "()[B"⟩
abbrev b_As_getValue : ByteArray := prog_6_method_64_code
def y_As_length : MethodName := ⟨"java/lang/AbstractStringBuilder", "length", "()I"⟩
abbrev b_As_length : ByteArray := prog_6_method_6_code
def y_Sb_length : MethodName := ⟨"java/lang/StringBuilder", "length", "()I"⟩
abbrev b_Sb_length : ByteArray := prog_14_method_93_code
def y_Ar_copyOfRange : MethodName := ⟨"java/util/Arrays", "copyOfRange", "([BII)[B"⟩
abbrev b_Ar_copyOfRange : ByteArray := prog_19_method_132_code
def y_Ar_copyOfRangeByte : MethodName := ⟨"java/util/Arrays", "copyOfRangeByte", "([BII)[B"⟩
abbrev b_Ar_copyOfRangeByte : ByteArray := prog_19_method_133_code
def y_Ar_checkLength : MethodName := ⟨"java/util/Arrays", "checkLength", "(II)V"⟩
abbrev b_Ar_checkLength : ByteArray := prog_19_method_131_code
def y_Ia_init : MethodName := ⟨"java/lang/IllegalArgumentException", "<init>", "(Ljava/lang/String;)V"⟩
abbrev b_Ia_init : ByteArray := prog_9_method_2_code
def y_Su_compress : MethodName := ⟨"java/lang/StringUTF16", "compress", "([BII)[B"⟩
abbrev b_Su_compress : ByteArray := prog_16_method_17_code
def y_Su_compress2 : MethodName := ⟨"java/lang/StringUTF16", "compress", "([BI[BII)I"⟩
abbrev b_Su_compress2 : ByteArray := prog_16_method_22_code
def y_Su_getChar : MethodName := ⟨"java/lang/StringUTF16", "getChar", "([BI)C"⟩
abbrev b_Su_getChar : ByteArray := prog_16_method_5_code
def y_Su_coderFromArrayLen : MethodName := ⟨"java/lang/StringUTF16", "coderFromArrayLen", "([BI)B"⟩
abbrev b_Su_coderFromArrayLen : ByteArray := prog_16_method_15_code
def y_Pt_clear : MethodName := ⟨"PropertyTrie", "clear", "()I"⟩
abbrev b_Pt_clear : ByteArray := prog_1_method_8_code
def y_Bl_recordOf : MethodName := ⟨"PropertyTrie$Blocks", "recordOf", "(I)I"⟩
abbrev b_Bl_recordOf : ByteArray := prog_2_method_3_code
def y_Bl_find : MethodName := ⟨"PropertyTrie$Blocks", "find", "(I)V"⟩
abbrev b_Bl_find : ByteArray := prog_2_method_4_code
def y_La_set : MethodName := ⟨"PropertyTrieLaw", "set", "(LPropertyTrie;IIII[J)I"⟩
abbrev b_La_set : ByteArray := method_3_code
def y_Pt_set : MethodName := ⟨"PropertyTrie", "set", "(IIII)I"⟩
abbrev b_Pt_set : ByteArray := prog_1_method_2_code
def y_Pt_mark : MethodName := ⟨"PropertyTrie", "mark", "(IIIII)I"⟩
abbrev b_Pt_mark : ByteArray := prog_1_method_3_code
def y_Pt_checkRange : MethodName := ⟨"PropertyTrie", "checkRange", "(II)V"⟩
abbrev b_Pt_checkRange : ByteArray := prog_1_method_11_code
def y_Pt_checkField : MethodName := ⟨"PropertyTrie", "checkField", "(I)V"⟩
abbrev b_Pt_checkField : ByteArray := prog_1_method_12_code
def y_Rc_begin : MethodName := ⟨"PropertyTrie$Records", "begin", "(III)V"⟩
abbrev b_Rc_begin : ByteArray := prog_3_method_6_code
def y_Bl_alter : MethodName := ⟨"PropertyTrie$Blocks", "alter", "(II)V"⟩
abbrev b_Bl_alter : ByteArray := prog_2_method_5_code
def y_Bl_splitBefore : MethodName := ⟨"PropertyTrie$Blocks", "splitBefore", "(I)V"⟩
abbrev b_Bl_splitBefore : ByteArray := prog_2_method_6_code
def y_Bl_split : MethodName := ⟨"PropertyTrie$Blocks", "split", "(I)V"⟩
abbrev b_Bl_split : ByteArray := prog_2_method_7_code
def y_Bl_replace : MethodName := ⟨"PropertyTrie$Blocks", "replace", "(I)V"⟩
abbrev b_Bl_replace : ByteArray := prog_2_method_8_code
def y_Rc_altered : MethodName := ⟨"PropertyTrie$Records", "altered", "(I)I"⟩
abbrev b_Rc_altered : ByteArray := prog_3_method_7_code
def y_Rc_findWanted : MethodName := ⟨"PropertyTrie$Records", "findWanted", "(I)I"⟩
abbrev b_Rc_findWanted : ByteArray := prog_3_method_8_code
def y_Rc_isWanted : MethodName := ⟨"PropertyTrie$Records", "isWanted", "(I)Z"⟩
abbrev b_Rc_isWanted : ByteArray := prog_3_method_9_code
def y_Rc_release : MethodName := ⟨"PropertyTrie$Records", "release", "(II)V"⟩
abbrev b_Rc_release : ByteArray := prog_3_method_5_code
def y_Rc_drop : MethodName := ⟨"PropertyTrie$Records", "drop", "(I)V"⟩
abbrev b_Rc_drop : ByteArray := prog_3_method_11_code
def y_Bl_joinBelow : MethodName := ⟨"PropertyTrie$Blocks", "joinBelow", "(I)V"⟩
abbrev b_Bl_joinBelow : ByteArray := prog_2_method_9_code
def y_Bl_join : MethodName := ⟨"PropertyTrie$Blocks", "join", "(I)V"⟩
abbrev b_Bl_join : ByteArray := prog_2_method_10_code
def y_Bl_isAllAlike : MethodName := ⟨"PropertyTrie$Blocks", "isAllAlike", "(I)Z"⟩
abbrev b_Bl_isAllAlike : ByteArray := prog_2_method_11_code
def y_La_mark : MethodName := ⟨"PropertyTrieLaw", "mark", "(LPropertyTrie;IIIII[J)I"⟩
abbrev b_La_mark : ByteArray := method_4_code
def y_La_get : MethodName := ⟨"PropertyTrieLaw", "get", "(LPropertyTrie;II[J)I"⟩
abbrev b_La_get : ByteArray := method_5_code
def y_Pt_get : MethodName := ⟨"PropertyTrie", "get", "(II)I"⟩
abbrev b_Pt_get : ByteArray := prog_1_method_4_code
def y_Pt_checkPoint : MethodName := ⟨"PropertyTrie", "checkPoint", "(I)V"⟩
abbrev b_Pt_checkPoint : ByteArray := prog_1_method_10_code
def y_Pt_valueAt : MethodName := ⟨"PropertyTrie", "valueAt", "(II)I"⟩
abbrev b_Pt_valueAt : ByteArray := prog_1_method_9_code
def y_Rc_value : MethodName := ⟨"PropertyTrie$Records", "value", "(II)I"⟩
abbrev b_Rc_value : ByteArray := prog_3_method_3_code
def y_La_change : MethodName := ⟨"PropertyTrieLaw", "change", "(LPropertyTrie;II[J)I"⟩
abbrev b_La_change : ByteArray := method_6_code
def y_Pt_change : MethodName := ⟨"PropertyTrie", "change", "(II)I"⟩
abbrev b_Pt_change : ByteArray := prog_1_method_5_code
def y_La_alike : MethodName := ⟨"PropertyTrieLaw", "alike", "(LPropertyTrie;II[J)I"⟩
abbrev b_La_alike : ByteArray := method_7_code
def y_Pt_alike : MethodName := ⟨"PropertyTrie", "alike", "(II)Z"⟩
abbrev b_Pt_alike : ByteArray := prog_1_method_6_code
def y_La_hash : MethodName := ⟨"PropertyTrieLaw", "hash", "(LPropertyTrie;III[J)I"⟩
abbrev b_La_hash : ByteArray := method_8_code
def y_Pt_hash : MethodName := ⟨"PropertyTrie", "hash", "(III)I"⟩
abbrev b_Pt_hash : ByteArray := prog_1_method_7_code
def y_Pt_checkLength : MethodName := ⟨"PropertyTrie", "checkLength", "(I)V"⟩
abbrev b_Pt_checkLength : ByteArray := prog_1_method_13_code
def y_Mo_init : MethodName := ⟨"PropertyTrieModel", "<init>", "()V"⟩
abbrev b_Mo_init : ByteArray := prog_5_method_1_code
def y_Mo_thrown : MethodName := ⟨"PropertyTrieModel", "thrown", "()I"⟩
abbrev b_Mo_thrown : ByteArray := prog_5_method_2_code
def y_Mo_set : MethodName := ⟨"PropertyTrieModel", "set", "(IIII)I"⟩
abbrev b_Mo_set : ByteArray := prog_5_method_7_code
def y_Mo_mark : MethodName := ⟨"PropertyTrieModel", "mark", "(IIIII)I"⟩
abbrev b_Mo_mark : ByteArray := prog_5_method_8_code
def y_Mo_out : MethodName := ⟨"PropertyTrieModel", "out", "(I)Z"⟩
abbrev b_Mo_out : ByteArray := prog_5_method_6_code
def y_Mo_fail : MethodName := ⟨"PropertyTrieModel", "fail", "(I)I"⟩
abbrev b_Mo_fail : ByteArray := prog_5_method_3_code
def y_Mo_cut : MethodName := ⟨"PropertyTrieModel", "cut", "(I)V"⟩
abbrev b_Mo_cut : ByteArray := prog_5_method_5_code
def y_Mo_at : MethodName := ⟨"PropertyTrieModel", "at", "(I)I"⟩
abbrev b_Mo_at : ByteArray := prog_5_method_4_code
def y_Mo_get : MethodName := ⟨"PropertyTrieModel", "get", "(II)I"⟩
abbrev b_Mo_get : ByteArray := prog_5_method_9_code
def y_Mo_change : MethodName := ⟨"PropertyTrieModel", "change", "(II)I"⟩
abbrev b_Mo_change : ByteArray := prog_5_method_10_code
def y_Mo_alike : MethodName := ⟨"PropertyTrieModel", "alike", "(II)Z"⟩
abbrev b_Mo_alike : ByteArray := prog_5_method_11_code
def y_Mo_hash : MethodName := ⟨"PropertyTrieModel", "hash", "(III)I"⟩
abbrev b_Mo_hash : ByteArray := prog_5_method_12_code
def y_Mo_clear : MethodName := ⟨"PropertyTrieModel", "clear", "()I"⟩
abbrev b_Mo_clear : ByteArray := prog_5_method_13_code
/-- the tables' words that a callee can take over -/
def lwg : List Cond := lw_tbl.filter goodWord
theorem lwg_good {w : Cond} (h : w ∈ lwg) : (w.onTables && w.keeps) = true ∨ ∃ ty, w = .arrayClass ty := good_of_word (List.mem_filter.mp h).2
/-- the links between nest mates -/
def lwn : List Cond := [Cond.fieldLinkNest "PropertyTrie" 28 "PropertyTrie$Blocks" "records" "LPropertyTrie$Records;" "PropertyTrie", Cond.fieldLinkNest "PropertyTrie" 49 "PropertyTrie$Blocks" "foundLast" "I" "PropertyTrie"]
theorem kn_fl_Pt_28 : Cond.fieldLinkNest "PropertyTrie" 28 "PropertyTrie$Blocks" "records" "LPropertyTrie$Records;" "PropertyTrie" ∈ lwn := List.mem_of_getElem? (i := 0) rfl
theorem kn_fl_Pt_49 : Cond.fieldLinkNest "PropertyTrie" 49 "PropertyTrie$Blocks" "foundLast" "I" "PropertyTrie" ∈ lwn := List.mem_of_getElem? (i := 1) rfl
theorem lwn_tab : ∀ w ∈ lwn, w.onTables = true := by decide +kernel
theorem lwn_in : ∀ w ∈ lwn, w ∈ lw_tbl := by decide +kernel
theorem lwn_warm {s U : State} (hW : s.WarmedH U.vm) (h : ∀ w ∈ lwn, va_Nw w s) : ∀ w ∈ lwn, va_Nw w U := by
  intro w hw
  have h1 := h w hw
  unfold lwn at hw
  simp only [List.mem_cons, List.not_mem_nil, or_false] at hw
  rcases hw with rfl | rfl
  · exact va_Nw.warmF hW h1
  · exact va_Nw.warmF hW h1
theorem i_Pt : ∀ w ∈ w_Pt, w ∈ lwg := by decide +kernel
theorem i_Mo : ∀ w ∈ w_Mo, w ∈ lwg := by decide +kernel
theorem i_Bl : ∀ w ∈ w_Bl, w ∈ lwg := by decide +kernel
theorem i_Rc : ∀ w ∈ w_Rc, w ∈ lwg := by decide +kernel
theorem i_La : ∀ w ∈ w_La, w ∈ lwg := by decide +kernel
theorem k_ini_La : Cond.initialized "PropertyTrieLaw" ∈ lwg := List.mem_filter.mpr ⟨List.mem_append_right _ (List.mem_of_getElem? (i := 0) (by decide +kernel)), by decide +kernel⟩
theorem k_ini_Pt : Cond.initialized "PropertyTrie" ∈ lwg := List.mem_filter.mpr ⟨List.mem_append_right _ (List.mem_of_getElem? (i := 1) (by decide +kernel)), by decide +kernel⟩
theorem k_ini_Bl : Cond.initialized "PropertyTrie$Blocks" ∈ lwg := List.mem_filter.mpr ⟨List.mem_append_right _ (List.mem_of_getElem? (i := 2) (by decide +kernel)), by decide +kernel⟩
theorem k_ini_Rc : Cond.initialized "PropertyTrie$Records" ∈ lwg := List.mem_filter.mpr ⟨List.mem_append_right _ (List.mem_of_getElem? (i := 3) (by decide +kernel)), by decide +kernel⟩
theorem k_ini_Ar : Cond.initialized "java/util/Arrays" ∈ lwg := List.mem_filter.mpr ⟨List.mem_append_right _ (List.mem_of_getElem? (i := 4) (by decide +kernel)), by decide +kernel⟩
theorem k_ini_Sy : Cond.initialized "java/lang/System" ∈ lwg := List.mem_filter.mpr ⟨List.mem_append_right _ (List.mem_of_getElem? (i := 5) (by decide +kernel)), by decide +kernel⟩
theorem k_ini_Th : Cond.initialized "java/lang/Throwable" ∈ lwg := List.mem_filter.mpr ⟨List.mem_append_right _ (List.mem_of_getElem? (i := 6) (by decide +kernel)), by decide +kernel⟩
theorem k_ini_Ex : Cond.initialized "java/lang/Exception" ∈ lwg := List.mem_filter.mpr ⟨List.mem_append_right _ (List.mem_of_getElem? (i := 7) (by decide +kernel)), by decide +kernel⟩
theorem k_ini_Re : Cond.initialized "java/lang/RuntimeException" ∈ lwg := List.mem_filter.mpr ⟨List.mem_append_right _ (List.mem_of_getElem? (i := 8) (by decide +kernel)), by decide +kernel⟩
theorem k_ini_Ia : Cond.initialized "java/lang/IllegalArgumentException" ∈ lwg := List.mem_filter.mpr ⟨List.mem_append_right _ (List.mem_of_getElem? (i := 9) (by decide +kernel)), by decide +kernel⟩
theorem k_ini_As : Cond.initialized "java/lang/AbstractStringBuilder" ∈ lwg := List.mem_filter.mpr ⟨List.mem_append_right _ (List.mem_of_getElem? (i := 10) (by decide +kernel)), by decide +kernel⟩
theorem k_ini_Sb : Cond.initialized "java/lang/StringBuilder" ∈ lwg := List.mem_filter.mpr ⟨List.mem_append_right _ (List.mem_of_getElem? (i := 11) (by decide +kernel)), by decide +kernel⟩
theorem k_ini_St : Cond.initialized "java/lang/String" ∈ lwg := List.mem_filter.mpr ⟨List.mem_append_right _ (List.mem_of_getElem? (i := 12) (by decide +kernel)), by decide +kernel⟩
theorem k_ini_Su : Cond.initialized "java/lang/StringUTF16" ∈ lwg := List.mem_filter.mpr ⟨List.mem_append_right _ (List.mem_of_getElem? (i := 13) (by decide +kernel)), by decide +kernel⟩
theorem k_ini_Au : Cond.initialized "jdk/internal/util/ArraysSupport" ∈ lwg := List.mem_filter.mpr ⟨List.mem_append_right _ (List.mem_of_getElem? (i := 14) (by decide +kernel)), by decide +kernel⟩
theorem k_ini_Mt : Cond.initialized "java/lang/Math" ∈ lwg := List.mem_filter.mpr ⟨List.mem_append_right _ (List.mem_of_getElem? (i := 15) (by decide +kernel)), by decide +kernel⟩
theorem k_ini_Pc : Cond.initialized "jdk/internal/util/Preconditions" ∈ lwg := List.mem_filter.mpr ⟨List.mem_append_right _ (List.mem_of_getElem? (i := 16) (by decide +kernel)), by decide +kernel⟩
theorem k_ini_Sl : Cond.initialized "java/lang/StringLatin1" ∈ lwg := List.mem_filter.mpr ⟨List.mem_append_right _ (List.mem_of_getElem? (i := 17) (by decide +kernel)), by decide +kernel⟩
theorem k_ini_In : Cond.initialized "java/lang/Integer" ∈ lwg := List.mem_filter.mpr ⟨List.mem_append_right _ (List.mem_of_getElem? (i := 18) (by decide +kernel)), by decide +kernel⟩
theorem k_ini_Mo : Cond.initialized "PropertyTrieModel" ∈ lwg := List.mem_filter.mpr ⟨List.mem_append_right _ (List.mem_of_getElem? (i := 19) (by decide +kernel)), by decide +kernel⟩
theorem k_cl_La_8 : Cond.classLink "PropertyTrieLaw" 8 "PropertyTrie" ∈ lwg := List.mem_filter.mpr ⟨List.mem_append_right _ (List.mem_of_getElem? (i := 20) (by decide +kernel)), by decide +kernel⟩
theorem k_in_Pt : Cond.instantiable "PropertyTrie" 1 ∈ lwg := List.mem_filter.mpr ⟨List.mem_append_right _ (List.mem_of_getElem? (i := 21) (by decide +kernel)), by decide +kernel⟩
theorem k_ml_La_34 : Cond.methodLink "PropertyTrieLaw" 34 y_Pt_init ∈ lwg := List.mem_filter.mpr ⟨List.mem_append_right _ (List.mem_of_getElem? (i := 22) (by decide +kernel)), by decide +kernel⟩
theorem k_im_Pt_init : Cond.instanceMethod y_Pt_init ∈ lwg := List.mem_filter.mpr ⟨List.mem_append_right _ (List.mem_of_getElem? (i := 23) (by decide +kernel)), by decide +kernel⟩
theorem k_code_Pt_init : Cond.code y_Pt_init b_Pt_init 1 (none) ∈ lwg := List.mem_filter.mpr ⟨List.mem_append_right _ (List.mem_of_getElem? (i := 24) (by decide +kernel)), by decide +kernel⟩
theorem k_ml_Pt_3 : Cond.methodLink "PropertyTrie" 3 y_Ob_init ∈ lwg := List.mem_filter.mpr ⟨List.mem_append_right _ (List.mem_of_getElem? (i := 25) (by decide +kernel)), by decide +kernel⟩
theorem k_im_Ob_init : Cond.instanceMethod y_Ob_init ∈ lwg := List.mem_filter.mpr ⟨List.mem_append_right _ (List.mem_of_getElem? (i := 26) (by decide +kernel)), by decide +kernel⟩
theorem k_code_Ob_init : Cond.code y_Ob_init b_Ob_init 1 (none) ∈ lwg := List.mem_filter.mpr ⟨List.mem_append_right _ (List.mem_of_getElem? (i := 27) (by decide +kernel)), by decide +kernel⟩
theorem k_cl_Pt_9 : Cond.classLink "PropertyTrie" 9 "PropertyTrie$Blocks" ∈ lwg := List.mem_filter.mpr ⟨List.mem_append_right _ (List.mem_of_getElem? (i := 28) (by decide +kernel)), by decide +kernel⟩
theorem k_in_Bl : Cond.instantiable "PropertyTrie$Blocks" 7 ∈ lwg := List.mem_filter.mpr ⟨List.mem_append_right _ (List.mem_of_getElem? (i := 29) (by decide +kernel)), by decide +kernel⟩
theorem k_ml_Pt_11 : Cond.methodLink "PropertyTrie" 11 y_Bl_init ∈ lwg := List.mem_filter.mpr ⟨List.mem_append_right _ (List.mem_of_getElem? (i := 30) (by decide +kernel)), by decide +kernel⟩
theorem k_im_Bl_init : Cond.instanceMethod y_Bl_init ∈ lwg := List.mem_filter.mpr ⟨List.mem_append_right _ (List.mem_of_getElem? (i := 31) (by decide +kernel)), by decide +kernel⟩
theorem k_code_Bl_init : Cond.code y_Bl_init b_Bl_init 1 (none) ∈ lwg := List.mem_filter.mpr ⟨List.mem_append_right _ (List.mem_of_getElem? (i := 32) (by decide +kernel)), by decide +kernel⟩
theorem k_ml_Bl_5 : Cond.methodLink "PropertyTrie$Blocks" 5 y_Ob_init ∈ lwg := List.mem_filter.mpr ⟨List.mem_append_right _ (List.mem_of_getElem? (i := 33) (by decide +kernel)), by decide +kernel⟩
theorem k_cl_Bl_11 : Cond.classLink "PropertyTrie$Blocks" 11 "PropertyTrie$Records" ∈ lwg := List.mem_filter.mpr ⟨List.mem_append_right _ (List.mem_of_getElem? (i := 34) (by decide +kernel)), by decide +kernel⟩
theorem k_in_Rc : Cond.instantiable "PropertyTrie$Records" 11 ∈ lwg := List.mem_filter.mpr ⟨List.mem_append_right _ (List.mem_of_getElem? (i := 35) (by decide +kernel)), by decide +kernel⟩
theorem k_ml_Bl_13 : Cond.methodLink "PropertyTrie$Blocks" 13 y_Rc_init ∈ lwg := List.mem_filter.mpr ⟨List.mem_append_right _ (List.mem_of_getElem? (i := 36) (by decide +kernel)), by decide +kernel⟩
theorem k_im_Rc_init : Cond.instanceMethod y_Rc_init ∈ lwg := List.mem_filter.mpr ⟨List.mem_append_right _ (List.mem_of_getElem? (i := 37) (by decide +kernel)), by decide +kernel⟩
theorem k_code_Rc_init : Cond.code y_Rc_init b_Rc_init 1 (none) ∈ lwg := List.mem_filter.mpr ⟨List.mem_append_right _ (List.mem_of_getElem? (i := 38) (by decide +kernel)), by decide +kernel⟩
theorem k_ml_Rc_3 : Cond.methodLink "PropertyTrie$Records" 3 y_Ob_init ∈ lwg := List.mem_filter.mpr ⟨List.mem_append_right _ (List.mem_of_getElem? (i := 39) (by decide +kernel)), by decide +kernel⟩
theorem k_ml_Rc_33 : Cond.methodLink "PropertyTrie$Records" 33 y_Rc_empty ∈ lwg := List.mem_filter.mpr ⟨List.mem_append_right _ (List.mem_of_getElem? (i := 40) (by decide +kernel)), by decide +kernel⟩
theorem k_im_Rc_empty : Cond.instanceMethod y_Rc_empty ∈ lwg := List.mem_filter.mpr ⟨List.mem_append_right _ (List.mem_of_getElem? (i := 41) (by decide +kernel)), by decide +kernel⟩
theorem k_sel_Rc_empty : Cond.selects "PropertyTrie$Records" y_Rc_empty y_Rc_empty ∈ lwg := List.mem_filter.mpr ⟨List.mem_append_right _ (List.mem_of_getElem? (i := 42) (by decide +kernel)), by decide +kernel⟩
theorem k_code_Rc_empty : Cond.code y_Rc_empty b_Rc_empty 2 (none) ∈ lwg := List.mem_filter.mpr ⟨List.mem_append_right _ (List.mem_of_getElem? (i := 43) (by decide +kernel)), by decide +kernel⟩
theorem k_ml_Rc_36 : Cond.methodLink "PropertyTrie$Records" 36 y_Ar_fill2 ∈ lwg := List.mem_filter.mpr ⟨List.mem_append_right _ (List.mem_of_getElem? (i := 44) (by decide +kernel)), by decide +kernel⟩
theorem k_st_Ar_fill2 : Cond.static y_Ar_fill2 ∈ lwg := List.mem_filter.mpr ⟨List.mem_append_right _ (List.mem_of_getElem? (i := 45) (by decide +kernel)), by decide +kernel⟩
theorem k_code_Ar_fill2 : Cond.code y_Ar_fill2 b_Ar_fill2 4 (none) ∈ lwg := List.mem_filter.mpr ⟨List.mem_append_right _ (List.mem_of_getElem? (i := 46) (by decide +kernel)), by decide +kernel⟩
theorem k_ml_Rc_46 : Cond.methodLink "PropertyTrie$Records" 46 y_Rc_chainOf ∈ lwg := List.mem_filter.mpr ⟨List.mem_append_right _ (List.mem_of_getElem? (i := 47) (by decide +kernel)), by decide +kernel⟩
theorem k_st_Rc_chainOf : Cond.static y_Rc_chainOf ∈ lwg := List.mem_filter.mpr ⟨List.mem_append_right _ (List.mem_of_getElem? (i := 48) (by decide +kernel)), by decide +kernel⟩
theorem k_code_Rc_chainOf : Cond.code y_Rc_chainOf b_Rc_chainOf 4 ((some .int)) ∈ lwg := List.mem_filter.mpr ⟨List.mem_append_right _ (List.mem_of_getElem? (i := 49) (by decide +kernel)), by decide +kernel⟩
theorem k_ml_Rc_50 : Cond.methodLink "PropertyTrie$Records" 50 y_Rc_keepWanted ∈ lwg := List.mem_filter.mpr ⟨List.mem_append_right _ (List.mem_of_getElem? (i := 50) (by decide +kernel)), by decide +kernel⟩
theorem k_im_Rc_keepWanted : Cond.instanceMethod y_Rc_keepWanted ∈ lwg := List.mem_filter.mpr ⟨List.mem_append_right _ (List.mem_of_getElem? (i := 52) (by decide +kernel)), by decide +kernel⟩
theorem k_code_Rc_keepWanted : Cond.code y_Rc_keepWanted b_Rc_keepWanted 3 ((some .int)) ∈ lwg := List.mem_filter.mpr ⟨List.mem_append_right _ (List.mem_of_getElem? (i := 53) (by decide +kernel)), by decide +kernel⟩
theorem k_ml_Rc_71 : Cond.methodLink "PropertyTrie$Records" 71 y_Sy_arraycopy ∈ lwg := List.mem_filter.mpr ⟨List.mem_append_right _ (List.mem_of_getElem? (i := 54) (by decide +kernel)), by decide +kernel⟩
theorem k_st_Sy_arraycopy : Cond.static y_Sy_arraycopy ∈ lwg := List.mem_filter.mpr ⟨List.mem_append_right _ (List.mem_of_getElem? (i := 55) (by decide +kernel)), by decide +kernel⟩
theorem k_nt_Sy_arraycopy : Cond.native y_Sy_arraycopy ∈ lwg := List.mem_filter.mpr ⟨List.mem_append_right _ (List.mem_of_getElem? (i := 56) (by decide +kernel)), by decide +kernel⟩
theorem k_ml_Rc_54 : Cond.methodLink "PropertyTrie$Records" 54 y_Rc_hold ∈ lwg := List.mem_filter.mpr ⟨List.mem_append_right _ (List.mem_of_getElem? (i := 57) (by decide +kernel)), by decide +kernel⟩
theorem k_im_Rc_hold : Cond.instanceMethod y_Rc_hold ∈ lwg := List.mem_filter.mpr ⟨List.mem_append_right _ (List.mem_of_getElem? (i := 58) (by decide +kernel)), by decide +kernel⟩
theorem k_sel_Rc_hold : Cond.selects "PropertyTrie$Records" y_Rc_hold y_Rc_hold ∈ lwg := List.mem_filter.mpr ⟨List.mem_append_right _ (List.mem_of_getElem? (i := 59) (by decide +kernel)), by decide +kernel⟩
theorem k_code_Rc_hold : Cond.code y_Rc_hold b_Rc_hold 3 (none) ∈ lwg := List.mem_filter.mpr ⟨List.mem_append_right _ (List.mem_of_getElem? (i := 60) (by decide +kernel)), by decide +kernel⟩
theorem k_fl_Rc_11 : Cond.fieldLink "PropertyTrie$Records" 11 "PropertyTrie$Records" "values" "[I" ∈ lwg := List.mem_filter.mpr ⟨List.mem_append_right _ (List.mem_of_getElem? (i := 61) (by decide +kernel)), by decide +kernel⟩
theorem k_fl_Rc_15 : Cond.fieldLink "PropertyTrie$Records" 15 "PropertyTrie$Records" "holders" "[I" ∈ lwg := List.mem_filter.mpr ⟨List.mem_append_right _ (List.mem_of_getElem? (i := 62) (by decide +kernel)), by decide +kernel⟩
theorem k_fl_Rc_18 : Cond.fieldLink "PropertyTrie$Records" 18 "PropertyTrie$Records" "spareRecords" "[I" ∈ lwg := List.mem_filter.mpr ⟨List.mem_append_right _ (List.mem_of_getElem? (i := 63) (by decide +kernel)), by decide +kernel⟩
theorem k_fl_Rc_42 : Cond.fieldLink "PropertyTrie$Records" 42 "PropertyTrie$Records" "spares" "I" ∈ lwg := List.mem_filter.mpr ⟨List.mem_append_right _ (List.mem_of_getElem? (i := 64) (by decide +kernel)), by decide +kernel⟩
theorem k_fl_Rc_21 : Cond.fieldLink "PropertyTrie$Records" 21 "PropertyTrie$Records" "heads" "[I" ∈ lwg := List.mem_filter.mpr ⟨List.mem_append_right _ (List.mem_of_getElem? (i := 65) (by decide +kernel)), by decide +kernel⟩
theorem k_fl_Rc_24 : Cond.fieldLink "PropertyTrie$Records" 24 "PropertyTrie$Records" "behind" "[I" ∈ lwg := List.mem_filter.mpr ⟨List.mem_append_right _ (List.mem_of_getElem? (i := 66) (by decide +kernel)), by decide +kernel⟩
theorem k_fl_Rc_62 : Cond.fieldLink "PropertyTrie$Records" 62 "PropertyTrie$Records" "field" "I" ∈ lwg := List.mem_filter.mpr ⟨List.mem_append_right _ (List.mem_of_getElem? (i := 67) (by decide +kernel)), by decide +kernel⟩
theorem k_fl_Rc_65 : Cond.fieldLink "PropertyTrie$Records" 65 "PropertyTrie$Records" "v" "I" ∈ lwg := List.mem_filter.mpr ⟨List.mem_append_right _ (List.mem_of_getElem? (i := 68) (by decide +kernel)), by decide +kernel⟩
theorem k_fl_Rc_68 : Cond.fieldLink "PropertyTrie$Records" 68 "PropertyTrie$Records" "kept" "I" ∈ lwg := List.mem_filter.mpr ⟨List.mem_append_right _ (List.mem_of_getElem? (i := 69) (by decide +kernel)), by decide +kernel⟩
theorem k_fl_Rc_27 : Cond.fieldLink "PropertyTrie$Records" 27 "PropertyTrie$Records" "outcome" "[I" ∈ lwg := List.mem_filter.mpr ⟨List.mem_append_right _ (List.mem_of_getElem? (i := 70) (by decide +kernel)), by decide +kernel⟩
theorem k_fl_Rc_30 : Cond.fieldLink "PropertyTrie$Records" 30 "PropertyTrie$Records" "wanted" "[I" ∈ lwg := List.mem_filter.mpr ⟨List.mem_append_right _ (List.mem_of_getElem? (i := 71) (by decide +kernel)), by decide +kernel⟩
theorem k_ac_int : Cond.arrayClass .int ∈ lwg := List.mem_filter.mpr ⟨List.mem_append_right _ (List.mem_of_getElem? (i := 95) (by decide +kernel)), by decide +kernel⟩
theorem k_cst_Bl_18 : Cond.constant "PropertyTrie$Blocks" 18 (66624) ∈ lwg := List.mem_filter.mpr ⟨List.mem_append_right _ (List.mem_of_getElem? (i := 96) (by decide +kernel)), by decide +kernel⟩
theorem k_ml_Bl_26 : Cond.methodLink "PropertyTrie$Blocks" 26 y_Bl_empty ∈ lwg := List.mem_filter.mpr ⟨List.mem_append_right _ (List.mem_of_getElem? (i := 97) (by decide +kernel)), by decide +kernel⟩
theorem k_im_Bl_empty : Cond.instanceMethod y_Bl_empty ∈ lwg := List.mem_filter.mpr ⟨List.mem_append_right _ (List.mem_of_getElem? (i := 98) (by decide +kernel)), by decide +kernel⟩
theorem k_sel_Bl_empty : Cond.selects "PropertyTrie$Blocks" y_Bl_empty y_Bl_empty ∈ lwg := List.mem_filter.mpr ⟨List.mem_append_right _ (List.mem_of_getElem? (i := 99) (by decide +kernel)), by decide +kernel⟩
theorem k_code_Bl_empty : Cond.code y_Bl_empty b_Bl_empty 2 (none) ∈ lwg := List.mem_filter.mpr ⟨List.mem_append_right _ (List.mem_of_getElem? (i := 100) (by decide +kernel)), by decide +kernel⟩
theorem k_ml_Bl_29 : Cond.methodLink "PropertyTrie$Blocks" 29 y_Rc_empty ∈ lwg := List.mem_filter.mpr ⟨List.mem_append_right _ (List.mem_of_getElem? (i := 101) (by decide +kernel)), by decide +kernel⟩
theorem k_ml_Bl_30 : Cond.methodLink "PropertyTrie$Blocks" 30 y_Ar_fill4 ∈ lwg := List.mem_filter.mpr ⟨List.mem_append_right _ (List.mem_of_getElem? (i := 102) (by decide +kernel)), by decide +kernel⟩
theorem k_st_Ar_fill4 : Cond.static y_Ar_fill4 ∈ lwg := List.mem_filter.mpr ⟨List.mem_append_right _ (List.mem_of_getElem? (i := 103) (by decide +kernel)), by decide +kernel⟩
theorem k_code_Ar_fill4 : Cond.code y_Ar_fill4 b_Ar_fill4 5 (none) ∈ lwg := List.mem_filter.mpr ⟨List.mem_append_right _ (List.mem_of_getElem? (i := 104) (by decide +kernel)), by decide +kernel⟩
theorem k_ml_Ar_13 : Cond.methodLink "java/util/Arrays" 13 y_Ar_rangeCheck ∈ lwg := List.mem_filter.mpr ⟨List.mem_append_right _ (List.mem_of_getElem? (i := 105) (by decide +kernel)), by decide +kernel⟩
theorem k_st_Ar_rangeCheck : Cond.static y_Ar_rangeCheck ∈ lwg := List.mem_filter.mpr ⟨List.mem_append_right _ (List.mem_of_getElem? (i := 106) (by decide +kernel)), by decide +kernel⟩
theorem k_code_Ar_rangeCheck : Cond.code y_Ar_rangeCheck b_Ar_rangeCheck 3 (none) ∈ lwg := List.mem_filter.mpr ⟨List.mem_append_right _ (List.mem_of_getElem? (i := 107) (by decide +kernel)), by decide +kernel⟩
theorem k_cl_Ar_43 : Cond.classLink "java/util/Arrays" 43 "java/lang/IllegalArgumentException" ∈ lwg := List.mem_filter.mpr ⟨List.mem_append_right _ (List.mem_of_getElem? (i := 108) (by decide +kernel)), by decide +kernel⟩
theorem k_in_Ia : Cond.instantiable "java/lang/IllegalArgumentException" 6 ∈ lwg := List.mem_filter.mpr ⟨List.mem_append_right _ (List.mem_of_getElem? (i := 109) (by decide +kernel)), by decide +kernel⟩
theorem k_dc_Re_init : Cond.declares y_Re_init ∈ lw_tbl := List.mem_append_right _ (List.mem_of_getElem? (i := 111) (by decide +kernel))
theorem k_dc_Re_init2 : Cond.declares y_Re_init2 ∈ lw_tbl := List.mem_append_right _ (List.mem_of_getElem? (i := 112) (by decide +kernel))
theorem k_dc_Ex_init : Cond.declares y_Ex_init ∈ lw_tbl := List.mem_append_right _ (List.mem_of_getElem? (i := 113) (by decide +kernel))
theorem k_dc_Ex_init2 : Cond.declares y_Ex_init2 ∈ lw_tbl := List.mem_append_right _ (List.mem_of_getElem? (i := 114) (by decide +kernel))
theorem k_dc_Th_init : Cond.declares y_Th_init ∈ lw_tbl := List.mem_append_right _ (List.mem_of_getElem? (i := 115) (by decide +kernel))
theorem k_dc_Th_init2 : Cond.declares y_Th_init2 ∈ lw_tbl := List.mem_append_right _ (List.mem_of_getElem? (i := 116) (by decide +kernel))
theorem k_sel_Ia_Th_fillInStackTrace : Cond.selects "java/lang/IllegalArgumentException" y_Th_fillInStackTrace y_Th_fillInStackTrace ∈ lwg := List.mem_filter.mpr ⟨List.mem_append_right _ (List.mem_of_getElem? (i := 117) (by decide +kernel)), by decide +kernel⟩
theorem k_sel_Ia_Th_fillInStackTrace2 : Cond.selects "java/lang/IllegalArgumentException" y_Th_fillInStackTrace2 y_Th_fillInStackTrace2 ∈ lwg := List.mem_filter.mpr ⟨List.mem_append_right _ (List.mem_of_getElem? (i := 118) (by decide +kernel)), by decide +kernel⟩
theorem k_fl_Th_198 : Cond.fieldLink "java/lang/Throwable" 198 "java/lang/Throwable" "backtrace" "Ljava/lang/Object;" ∈ lwg := List.mem_filter.mpr ⟨List.mem_append_right _ (List.mem_of_getElem? (i := 129) (by decide +kernel)), by decide +kernel⟩
theorem k_im_Th_init : Cond.instanceMethod y_Th_init ∈ lwg := List.mem_filter.mpr ⟨List.mem_append_right _ (List.mem_of_getElem? (i := 131) (by decide +kernel)), by decide +kernel⟩
theorem k_code_Th_init : Cond.code y_Th_init b_Th_init 1 (none) ∈ lwg := List.mem_filter.mpr ⟨List.mem_append_right _ (List.mem_of_getElem? (i := 132) (by decide +kernel)), by decide +kernel⟩
theorem k_ml_Th_1 : Cond.methodLink "java/lang/Throwable" 1 y_Ob_init ∈ lwg := List.mem_filter.mpr ⟨List.mem_append_right _ (List.mem_of_getElem? (i := 133) (by decide +kernel)), by decide +kernel⟩
theorem k_fl_Th_13 : Cond.fieldLink "java/lang/Throwable" 13 "java/lang/Throwable" "UNASSIGNED_STACK" "[Ljava/lang/StackTraceElement;" ∈ lwg := List.mem_filter.mpr ⟨List.mem_append_right _ (List.mem_of_getElem? (i := 134) (by decide +kernel)), by decide +kernel⟩
theorem k_fl_Th_20 : Cond.fieldLink "java/lang/Throwable" 20 "java/lang/Throwable" "SUPPRESSED_SENTINEL" "Ljava/util/List;" ∈ lwg := List.mem_filter.mpr ⟨List.mem_append_right _ (List.mem_of_getElem? (i := 136) (by decide +kernel)), by decide +kernel⟩
theorem k_ml_Th_27 : Cond.methodLink "java/lang/Throwable" 27 y_Th_fillInStackTrace2 ∈ lwg := List.mem_filter.mpr ⟨List.mem_append_right _ (List.mem_of_getElem? (i := 138) (by decide +kernel)), by decide +kernel⟩
theorem k_im_Th_fillInStackTrace2 : Cond.instanceMethod y_Th_fillInStackTrace2 ∈ lwg := List.mem_filter.mpr ⟨List.mem_append_right _ (List.mem_of_getElem? (i := 139) (by decide +kernel)), by decide +kernel⟩
theorem k_sync_Th_fillInStackTrace2 : Cond.codeSync y_Th_fillInStackTrace2 b_Th_fillInStackTrace2 1 ((some (.object "java/lang/Throwable"))) ∈ lwg := List.mem_filter.mpr ⟨List.mem_append_right _ (List.mem_of_getElem? (i := 141) (by decide +kernel)), by decide +kernel⟩
theorem k_ml_Th_202 : Cond.methodLink "java/lang/Throwable" 202 y_Th_fillInStackTrace ∈ lwg := List.mem_filter.mpr ⟨List.mem_append_right _ (List.mem_of_getElem? (i := 142) (by decide +kernel)), by decide +kernel⟩
theorem k_im_Th_fillInStackTrace : Cond.instanceMethod y_Th_fillInStackTrace ∈ lwg := List.mem_filter.mpr ⟨List.mem_append_right _ (List.mem_of_getElem? (i := 144) (by decide +kernel)), by decide +kernel⟩
theorem k_in_Th : Cond.instantiable "java/lang/Throwable" 6 ∈ lwg := List.mem_filter.mpr ⟨List.mem_append_right _ (List.mem_of_getElem? (i := 145) (by decide +kernel)), by decide +kernel⟩
theorem k_nt_Th_fillInStackTrace : Cond.native y_Th_fillInStackTrace ∈ lwg := List.mem_filter.mpr ⟨List.mem_append_right _ (List.mem_of_getElem? (i := 146) (by decide +kernel)), by decide +kernel⟩
theorem k_cl_Ar_45 : Cond.classLink "java/util/Arrays" 45 "java/lang/StringBuilder" ∈ lwg := List.mem_filter.mpr ⟨List.mem_append_right _ (List.mem_of_getElem? (i := 147) (by decide +kernel)), by decide +kernel⟩
theorem k_in_Sb : Cond.instantiable "java/lang/StringBuilder" 4 ∈ lwg := List.mem_filter.mpr ⟨List.mem_append_right _ (List.mem_of_getElem? (i := 148) (by decide +kernel)), by decide +kernel⟩
theorem k_ml_Ar_47 : Cond.methodLink "java/util/Arrays" 47 y_Sb_init ∈ lwg := List.mem_filter.mpr ⟨List.mem_append_right _ (List.mem_of_getElem? (i := 149) (by decide +kernel)), by decide +kernel⟩
theorem k_im_Sb_init : Cond.instanceMethod y_Sb_init ∈ lwg := List.mem_filter.mpr ⟨List.mem_append_right _ (List.mem_of_getElem? (i := 150) (by decide +kernel)), by decide +kernel⟩
theorem k_code_Sb_init : Cond.code y_Sb_init b_Sb_init 1 (none) ∈ lwg := List.mem_filter.mpr ⟨List.mem_append_right _ (List.mem_of_getElem? (i := 151) (by decide +kernel)), by decide +kernel⟩
theorem k_ml_Sb_1 : Cond.methodLink "java/lang/StringBuilder" 1 y_As_init ∈ lwg := List.mem_filter.mpr ⟨List.mem_append_right _ (List.mem_of_getElem? (i := 152) (by decide +kernel)), by decide +kernel⟩
theorem k_im_As_init : Cond.instanceMethod y_As_init ∈ lwg := List.mem_filter.mpr ⟨List.mem_append_right _ (List.mem_of_getElem? (i := 153) (by decide +kernel)), by decide +kernel⟩
theorem k_code_As_init : Cond.code y_As_init b_As_init 2 (none) ∈ lwg := List.mem_filter.mpr ⟨List.mem_append_right _ (List.mem_of_getElem? (i := 154) (by decide +kernel)), by decide +kernel⟩
theorem k_ml_As_3 : Cond.methodLink "java/lang/AbstractStringBuilder" 3 y_Ob_init ∈ lwg := List.mem_filter.mpr ⟨List.mem_append_right _ (List.mem_of_getElem? (i := 155) (by decide +kernel)), by decide +kernel⟩
theorem k_fl_As_18 : Cond.fieldLink "java/lang/AbstractStringBuilder" 18 "java/lang/String" "COMPACT_STRINGS" "Z" ∈ lwg := List.mem_filter.mpr ⟨List.mem_append_right _ (List.mem_of_getElem? (i := 156) (by decide +kernel)), by decide +kernel⟩
theorem k_ml_As_26 : Cond.methodLink "java/lang/AbstractStringBuilder" 26 y_Su_newBytesFor ∈ lwg := List.mem_filter.mpr ⟨List.mem_append_right _ (List.mem_of_getElem? (i := 158) (by decide +kernel)), by decide +kernel⟩
theorem k_st_Su_newBytesFor : Cond.static y_Su_newBytesFor ∈ lwg := List.mem_filter.mpr ⟨List.mem_append_right _ (List.mem_of_getElem? (i := 159) (by decide +kernel)), by decide +kernel⟩
theorem k_code_Su_newBytesFor : Cond.code y_Su_newBytesFor b_Su_newBytesFor 1 ((some (.array .byte))) ∈ lwg := List.mem_filter.mpr ⟨List.mem_append_right _ (List.mem_of_getElem? (i := 160) (by decide +kernel)), by decide +kernel⟩
theorem k_ml_Su_11 : Cond.methodLink "java/lang/StringUTF16" 11 y_Su_newBytesLength ∈ lwg := List.mem_filter.mpr ⟨List.mem_append_right _ (List.mem_of_getElem? (i := 161) (by decide +kernel)), by decide +kernel⟩
theorem k_st_Su_newBytesLength : Cond.static y_Su_newBytesLength ∈ lwg := List.mem_filter.mpr ⟨List.mem_append_right _ (List.mem_of_getElem? (i := 162) (by decide +kernel)), by decide +kernel⟩
theorem k_code_Su_newBytesLength : Cond.code y_Su_newBytesLength b_Su_newBytesLength 1 ((some .int)) ∈ lwg := List.mem_filter.mpr ⟨List.mem_append_right _ (List.mem_of_getElem? (i := 163) (by decide +kernel)), by decide +kernel⟩
theorem k_cst_Su_20 : Cond.constant "java/lang/StringUTF16" 20 (1073741823) ∈ lwg := List.mem_filter.mpr ⟨List.mem_append_right _ (List.mem_of_getElem? (i := 164) (by decide +kernel)), by decide +kernel⟩
theorem k_fl_As_15 : Cond.fieldLink "java/lang/AbstractStringBuilder" 15 "java/lang/AbstractStringBuilder" "value" "[B" ∈ lwg := List.mem_filter.mpr ⟨List.mem_append_right _ (List.mem_of_getElem? (i := 165) (by decide +kernel)), by decide +kernel⟩
theorem k_fl_As_22 : Cond.fieldLink "java/lang/AbstractStringBuilder" 22 "java/lang/AbstractStringBuilder" "coder" "B" ∈ lwg := List.mem_filter.mpr ⟨List.mem_append_right _ (List.mem_of_getElem? (i := 166) (by decide +kernel)), by decide +kernel⟩
theorem k_fl_St_1048 : Cond.fieldLink "java/lang/String" 1048 "java/lang/AbstractStringBuilder" "maybeLatin1" "Z" ∈ lwg := List.mem_filter.mpr ⟨List.mem_append_right _ (List.mem_of_getElem? (i := 167) (by decide +kernel)), by decide +kernel⟩
theorem k_fl_As_79 : Cond.fieldLink "java/lang/AbstractStringBuilder" 79 "java/lang/AbstractStringBuilder" "count" "I" ∈ lwg := List.mem_filter.mpr ⟨List.mem_append_right _ (List.mem_of_getElem? (i := 168) (by decide +kernel)), by decide +kernel⟩
theorem k_ac_byte : Cond.arrayClass .byte ∈ lwg := List.mem_filter.mpr ⟨List.mem_append_right _ (List.mem_of_getElem? (i := 178) (by decide +kernel)), by decide +kernel⟩
theorem k_str_Ar_48 : Cond.stringRef "java/util/Arrays" 48 "fromIndex(" ∈ lw_tbl := List.mem_append_right _ (List.mem_of_getElem? (i := 179) (by decide +kernel))
theorem k_ml_Ar_50 : Cond.methodLink "java/util/Arrays" 50 y_Sb_append ∈ lwg := List.mem_filter.mpr ⟨List.mem_append_right _ (List.mem_of_getElem? (i := 180) (by decide +kernel)), by decide +kernel⟩
theorem k_im_Sb_append : Cond.instanceMethod y_Sb_append ∈ lwg := List.mem_filter.mpr ⟨List.mem_append_right _ (List.mem_of_getElem? (i := 181) (by decide +kernel)), by decide +kernel⟩
theorem k_sel_Sb_append : Cond.selects "java/lang/StringBuilder" y_Sb_append y_Sb_append ∈ lwg := List.mem_filter.mpr ⟨List.mem_append_right _ (List.mem_of_getElem? (i := 182) (by decide +kernel)), by decide +kernel⟩
theorem k_code_Sb_append : Cond.code y_Sb_append b_Sb_append 2 ((some (.object "java/lang/StringBuilder"))) ∈ lwg := List.mem_filter.mpr ⟨List.mem_append_right _ (List.mem_of_getElem? (i := 183) (by decide +kernel)), by decide +kernel⟩
theorem k_ml_Sb_29 : Cond.methodLink "java/lang/StringBuilder" 29 y_As_append ∈ lwg := List.mem_filter.mpr ⟨List.mem_append_right _ (List.mem_of_getElem? (i := 184) (by decide +kernel)), by decide +kernel⟩
theorem k_im_As_append : Cond.instanceMethod y_As_append ∈ lwg := List.mem_filter.mpr ⟨List.mem_append_right _ (List.mem_of_getElem? (i := 185) (by decide +kernel)), by decide +kernel⟩
theorem k_code_As_append : Cond.code y_As_append b_As_append 3 ((some (.object "java/lang/AbstractStringBuilder"))) ∈ lwg := List.mem_filter.mpr ⟨List.mem_append_right _ (List.mem_of_getElem? (i := 186) (by decide +kernel)), by decide +kernel⟩
theorem k_ml_As_204 : Cond.methodLink "java/lang/AbstractStringBuilder" 204 y_As_appendNull ∈ lwg := List.mem_filter.mpr ⟨List.mem_append_right _ (List.mem_of_getElem? (i := 187) (by decide +kernel)), by decide +kernel⟩
theorem k_im_As_appendNull : Cond.instanceMethod y_As_appendNull ∈ lwg := List.mem_filter.mpr ⟨List.mem_append_right _ (List.mem_of_getElem? (i := 189) (by decide +kernel)), by decide +kernel⟩
theorem k_code_As_appendNull : Cond.code y_As_appendNull b_As_appendNull 3 ((some (.object "java/lang/AbstractStringBuilder"))) ∈ lwg := List.mem_filter.mpr ⟨List.mem_append_right _ (List.mem_of_getElem? (i := 190) (by decide +kernel)), by decide +kernel⟩
theorem k_ml_As_100 : Cond.methodLink "java/lang/AbstractStringBuilder" 100 y_As_ensureCapacityInternal ∈ lwg := List.mem_filter.mpr ⟨List.mem_append_right _ (List.mem_of_getElem? (i := 191) (by decide +kernel)), by decide +kernel⟩
theorem k_im_As_ensureCapacityInternal : Cond.instanceMethod y_As_ensureCapacityInternal ∈ lwg := List.mem_filter.mpr ⟨List.mem_append_right _ (List.mem_of_getElem? (i := 193) (by decide +kernel)), by decide +kernel⟩
theorem k_code_As_ensureCapacityInternal : Cond.code y_As_ensureCapacityInternal b_As_ensureCapacityInternal 3 (none) ∈ lwg := List.mem_filter.mpr ⟨List.mem_append_right _ (List.mem_of_getElem? (i := 194) (by decide +kernel)), by decide +kernel⟩
theorem k_ml_As_104 : Cond.methodLink "java/lang/AbstractStringBuilder" 104 y_As_newCapacity ∈ lwg := List.mem_filter.mpr ⟨List.mem_append_right _ (List.mem_of_getElem? (i := 195) (by decide +kernel)), by decide +kernel⟩
theorem k_im_As_newCapacity : Cond.instanceMethod y_As_newCapacity ∈ lwg := List.mem_filter.mpr ⟨List.mem_append_right _ (List.mem_of_getElem? (i := 197) (by decide +kernel)), by decide +kernel⟩
theorem k_code_As_newCapacity : Cond.code y_As_newCapacity b_As_newCapacity 6 ((some .int)) ∈ lwg := List.mem_filter.mpr ⟨List.mem_append_right _ (List.mem_of_getElem? (i := 198) (by decide +kernel)), by decide +kernel⟩
theorem k_ml_As_114 : Cond.methodLink "java/lang/AbstractStringBuilder" 114 y_Au_newLength ∈ lwg := List.mem_filter.mpr ⟨List.mem_append_right _ (List.mem_of_getElem? (i := 199) (by decide +kernel)), by decide +kernel⟩
theorem k_st_Au_newLength : Cond.static y_Au_newLength ∈ lwg := List.mem_filter.mpr ⟨List.mem_append_right _ (List.mem_of_getElem? (i := 200) (by decide +kernel)), by decide +kernel⟩
theorem k_code_Au_newLength : Cond.code y_Au_newLength b_Au_newLength 4 ((some .int)) ∈ lwg := List.mem_filter.mpr ⟨List.mem_append_right _ (List.mem_of_getElem? (i := 201) (by decide +kernel)), by decide +kernel⟩
theorem k_ml_Au_194 : Cond.methodLink "jdk/internal/util/ArraysSupport" 194 y_Mt_max ∈ lwg := List.mem_filter.mpr ⟨List.mem_append_right _ (List.mem_of_getElem? (i := 202) (by decide +kernel)), by decide +kernel⟩
theorem k_st_Mt_max : Cond.static y_Mt_max ∈ lwg := List.mem_filter.mpr ⟨List.mem_append_right _ (List.mem_of_getElem? (i := 203) (by decide +kernel)), by decide +kernel⟩
theorem k_code_Mt_max : Cond.code y_Mt_max b_Mt_max 2 ((some .int)) ∈ lwg := List.mem_filter.mpr ⟨List.mem_append_right _ (List.mem_of_getElem? (i := 204) (by decide +kernel)), by decide +kernel⟩
theorem k_cst_Au_200 : Cond.constant "jdk/internal/util/ArraysSupport" 200 (2147483639) ∈ lwg := List.mem_filter.mpr ⟨List.mem_append_right _ (List.mem_of_getElem? (i := 205) (by decide +kernel)), by decide +kernel⟩
theorem k_ml_Au_201 : Cond.methodLink "jdk/internal/util/ArraysSupport" 201 y_Au_hugeLength ∈ lwg := List.mem_filter.mpr ⟨List.mem_append_right _ (List.mem_of_getElem? (i := 206) (by decide +kernel)), by decide +kernel⟩
theorem k_st_Au_hugeLength : Cond.static y_Au_hugeLength ∈ lwg := List.mem_filter.mpr ⟨List.mem_append_right _ (List.mem_of_getElem? (i := 207) (by decide +kernel)), by decide +kernel⟩
theorem k_code_Au_hugeLength : Cond.code y_Au_hugeLength b_Au_hugeLength 3 ((some .int)) ∈ lwg := List.mem_filter.mpr ⟨List.mem_append_right _ (List.mem_of_getElem? (i := 208) (by decide +kernel)), by decide +kernel⟩
theorem k_cst_As_39 : Cond.constant "java/lang/AbstractStringBuilder" 39 (2147483647) ∈ lwg := List.mem_filter.mpr ⟨List.mem_append_right _ (List.mem_of_getElem? (i := 209) (by decide +kernel)), by decide +kernel⟩
theorem k_ml_As_108 : Cond.methodLink "java/lang/AbstractStringBuilder" 108 y_Ar_copyOf ∈ lwg := List.mem_filter.mpr ⟨List.mem_append_right _ (List.mem_of_getElem? (i := 210) (by decide +kernel)), by decide +kernel⟩
theorem k_st_Ar_copyOf : Cond.static y_Ar_copyOf ∈ lwg := List.mem_filter.mpr ⟨List.mem_append_right _ (List.mem_of_getElem? (i := 211) (by decide +kernel)), by decide +kernel⟩
theorem k_code_Ar_copyOf : Cond.code y_Ar_copyOf b_Ar_copyOf 3 ((some (.array .byte))) ∈ lwg := List.mem_filter.mpr ⟨List.mem_append_right _ (List.mem_of_getElem? (i := 212) (by decide +kernel)), by decide +kernel⟩
theorem k_ml_Ar_310 : Cond.methodLink "java/util/Arrays" 310 y_B_clone ∈ lwg := List.mem_filter.mpr ⟨List.mem_append_right _ (List.mem_of_getElem? (i := 213) (by decide +kernel)), by decide +kernel⟩
theorem k_nt_Ob_clone : Cond.native y_Ob_clone ∈ lwg := List.mem_filter.mpr ⟨List.mem_append_right _ (List.mem_of_getElem? (i := 215) (by decide +kernel)), by decide +kernel⟩
theorem k_im_Ob_clone : Cond.instanceMethod y_Ob_clone ∈ lwg := List.mem_filter.mpr ⟨List.mem_append_right _ (List.mem_of_getElem? (i := 216) (by decide +kernel)), by decide +kernel⟩
theorem k_sel_B_B_clone : Cond.selects "[B" y_B_clone y_Ob_clone ∈ lwg := List.mem_filter.mpr ⟨List.mem_append_right _ (List.mem_of_getElem? (i := 217) (by decide +kernel)), by decide +kernel⟩
theorem k_cl_Ar_311 : Cond.classLink "java/util/Arrays" 311 "[B" ∈ lwg := List.mem_filter.mpr ⟨List.mem_append_right _ (List.mem_of_getElem? (i := 219) (by decide +kernel)), by decide +kernel⟩
theorem k_ml_Ar_304 : Cond.methodLink "java/util/Arrays" 304 y_Mt_min ∈ lwg := List.mem_filter.mpr ⟨List.mem_append_right _ (List.mem_of_getElem? (i := 220) (by decide +kernel)), by decide +kernel⟩
theorem k_st_Mt_min : Cond.static y_Mt_min ∈ lwg := List.mem_filter.mpr ⟨List.mem_append_right _ (List.mem_of_getElem? (i := 221) (by decide +kernel)), by decide +kernel⟩
theorem k_code_Mt_min : Cond.code y_Mt_min b_Mt_min 2 ((some .int)) ∈ lwg := List.mem_filter.mpr ⟨List.mem_append_right _ (List.mem_of_getElem? (i := 222) (by decide +kernel)), by decide +kernel⟩
theorem k_ml_Ar_150 : Cond.methodLink "java/util/Arrays" 150 y_Sy_arraycopy ∈ lwg := List.mem_filter.mpr ⟨List.mem_append_right _ (List.mem_of_getElem? (i := 223) (by decide +kernel)), by decide +kernel⟩
theorem k_ml_As_83 : Cond.methodLink "java/lang/AbstractStringBuilder" 83 y_As_isLatin1 ∈ lwg := List.mem_filter.mpr ⟨List.mem_append_right _ (List.mem_of_getElem? (i := 224) (by decide +kernel)), by decide +kernel⟩
theorem k_im_As_isLatin1 : Cond.instanceMethod y_As_isLatin1 ∈ lwg := List.mem_filter.mpr ⟨List.mem_append_right _ (List.mem_of_getElem? (i := 225) (by decide +kernel)), by decide +kernel⟩
theorem k_sel_Sb_As_isLatin1 : Cond.selects "java/lang/StringBuilder" y_As_isLatin1 y_As_isLatin1 ∈ lwg := List.mem_filter.mpr ⟨List.mem_append_right _ (List.mem_of_getElem? (i := 227) (by decide +kernel)), by decide +kernel⟩
theorem k_code_As_isLatin1 : Cond.code y_As_isLatin1 b_As_isLatin1 1 ((some .boolean)) ∈ lwg := List.mem_filter.mpr ⟨List.mem_append_right _ (List.mem_of_getElem? (i := 228) (by decide +kernel)), by decide +kernel⟩
theorem k_ml_As_226 : Cond.methodLink "java/lang/AbstractStringBuilder" 226 y_Su_putCharsAt ∈ lwg := List.mem_filter.mpr ⟨List.mem_append_right _ (List.mem_of_getElem? (i := 229) (by decide +kernel)), by decide +kernel⟩
theorem k_st_Su_putCharsAt : Cond.static y_Su_putCharsAt ∈ lwg := List.mem_filter.mpr ⟨List.mem_append_right _ (List.mem_of_getElem? (i := 230) (by decide +kernel)), by decide +kernel⟩
theorem k_code_Su_putCharsAt : Cond.code y_Su_putCharsAt b_Su_putCharsAt 7 ((some .int)) ∈ lwg := List.mem_filter.mpr ⟨List.mem_append_right _ (List.mem_of_getElem? (i := 231) (by decide +kernel)), by decide +kernel⟩
theorem k_ml_Su_96 : Cond.methodLink "java/lang/StringUTF16" 96 y_Su_checkBoundsBeginEnd ∈ lwg := List.mem_filter.mpr ⟨List.mem_append_right _ (List.mem_of_getElem? (i := 232) (by decide +kernel)), by decide +kernel⟩
theorem k_st_Su_checkBoundsBeginEnd : Cond.static y_Su_checkBoundsBeginEnd ∈ lwg := List.mem_filter.mpr ⟨List.mem_append_right _ (List.mem_of_getElem? (i := 233) (by decide +kernel)), by decide +kernel⟩
theorem k_code_Su_checkBoundsBeginEnd : Cond.code y_Su_checkBoundsBeginEnd b_Su_checkBoundsBeginEnd 3 (none) ∈ lwg := List.mem_filter.mpr ⟨List.mem_append_right _ (List.mem_of_getElem? (i := 234) (by decide +kernel)), by decide +kernel⟩
theorem k_ml_Su_48 : Cond.methodLink "java/lang/StringUTF16" 48 y_Su_length ∈ lwg := List.mem_filter.mpr ⟨List.mem_append_right _ (List.mem_of_getElem? (i := 235) (by decide +kernel)), by decide +kernel⟩
theorem k_st_Su_length : Cond.static y_Su_length ∈ lwg := List.mem_filter.mpr ⟨List.mem_append_right _ (List.mem_of_getElem? (i := 236) (by decide +kernel)), by decide +kernel⟩
theorem k_code_Su_length : Cond.code y_Su_length b_Su_length 1 ((some .int)) ∈ lwg := List.mem_filter.mpr ⟨List.mem_append_right _ (List.mem_of_getElem? (i := 237) (by decide +kernel)), by decide +kernel⟩
theorem k_ml_Su_241 : Cond.methodLink "java/lang/StringUTF16" 241 y_St_checkBoundsBeginEnd ∈ lwg := List.mem_filter.mpr ⟨List.mem_append_right _ (List.mem_of_getElem? (i := 238) (by decide +kernel)), by decide +kernel⟩
theorem k_st_St_checkBoundsBeginEnd : Cond.static y_St_checkBoundsBeginEnd ∈ lwg := List.mem_filter.mpr ⟨List.mem_append_right _ (List.mem_of_getElem? (i := 239) (by decide +kernel)), by decide +kernel⟩
theorem k_code_St_checkBoundsBeginEnd : Cond.code y_St_checkBoundsBeginEnd b_St_checkBoundsBeginEnd 3 (none) ∈ lwg := List.mem_filter.mpr ⟨List.mem_append_right _ (List.mem_of_getElem? (i := 240) (by decide +kernel)), by decide +kernel⟩
theorem k_fl_St_1053 : Cond.fieldLink "java/lang/String" 1053 "jdk/internal/util/Preconditions" "SIOOBE_FORMATTER" "Ljava/util/function/BiFunction;" ∈ lwg := List.mem_filter.mpr ⟨List.mem_append_right _ (List.mem_of_getElem? (i := 241) (by decide +kernel)), by decide +kernel⟩
theorem k_ml_St_1062 : Cond.methodLink "java/lang/String" 1062 y_Pc_checkFromToIndex ∈ lwg := List.mem_filter.mpr ⟨List.mem_append_right _ (List.mem_of_getElem? (i := 243) (by decide +kernel)), by decide +kernel⟩
theorem k_st_Pc_checkFromToIndex : Cond.static y_Pc_checkFromToIndex ∈ lwg := List.mem_filter.mpr ⟨List.mem_append_right _ (List.mem_of_getElem? (i := 244) (by decide +kernel)), by decide +kernel⟩
theorem k_code_Pc_checkFromToIndex : Cond.code y_Pc_checkFromToIndex b_Pc_checkFromToIndex 4 ((some .int)) ∈ lwg := List.mem_filter.mpr ⟨List.mem_append_right _ (List.mem_of_getElem? (i := 245) (by decide +kernel)), by decide +kernel⟩
theorem k_ml_Su_111 : Cond.methodLink "java/lang/StringUTF16" 111 y_Su_putChar ∈ lwg := List.mem_filter.mpr ⟨List.mem_append_right _ (List.mem_of_getElem? (i := 246) (by decide +kernel)), by decide +kernel⟩
theorem k_st_Su_putChar : Cond.static y_Su_putChar ∈ lwg := List.mem_filter.mpr ⟨List.mem_append_right _ (List.mem_of_getElem? (i := 247) (by decide +kernel)), by decide +kernel⟩
theorem k_code_Su_putChar : Cond.code y_Su_putChar b_Su_putChar 3 (none) ∈ lwg := List.mem_filter.mpr ⟨List.mem_append_right _ (List.mem_of_getElem? (i := 248) (by decide +kernel)), by decide +kernel⟩
theorem k_fl_Su_44 : Cond.fieldLink "java/lang/StringUTF16" 44 "java/lang/StringUTF16" "$assertionsDisabled" "Z" ∈ lwg := List.mem_filter.mpr ⟨List.mem_append_right _ (List.mem_of_getElem? (i := 249) (by decide +kernel)), by decide +kernel⟩
theorem k_fl_Su_59 : Cond.fieldLink "java/lang/StringUTF16" 59 "java/lang/StringUTF16" "HI_BYTE_SHIFT" "I" ∈ lwg := List.mem_filter.mpr ⟨List.mem_append_right _ (List.mem_of_getElem? (i := 251) (by decide +kernel)), by decide +kernel⟩
theorem k_fl_Su_63 : Cond.fieldLink "java/lang/StringUTF16" 63 "java/lang/StringUTF16" "LO_BYTE_SHIFT" "I" ∈ lwg := List.mem_filter.mpr ⟨List.mem_append_right _ (List.mem_of_getElem? (i := 253) (by decide +kernel)), by decide +kernel⟩
theorem k_ml_As_32 : Cond.methodLink "java/lang/AbstractStringBuilder" 32 y_St_length ∈ lwg := List.mem_filter.mpr ⟨List.mem_append_right _ (List.mem_of_getElem? (i := 255) (by decide +kernel)), by decide +kernel⟩
theorem k_im_St_length : Cond.instanceMethod y_St_length ∈ lwg := List.mem_filter.mpr ⟨List.mem_append_right _ (List.mem_of_getElem? (i := 256) (by decide +kernel)), by decide +kernel⟩
theorem k_sel_St_length : Cond.selects "java/lang/String" y_St_length y_St_length ∈ lwg := List.mem_filter.mpr ⟨List.mem_append_right _ (List.mem_of_getElem? (i := 257) (by decide +kernel)), by decide +kernel⟩
theorem k_code_St_length : Cond.code y_St_length b_St_length 1 ((some .int)) ∈ lwg := List.mem_filter.mpr ⟨List.mem_append_right _ (List.mem_of_getElem? (i := 258) (by decide +kernel)), by decide +kernel⟩
theorem k_ml_St_335 : Cond.methodLink "java/lang/String" 335 y_St_coder ∈ lwg := List.mem_filter.mpr ⟨List.mem_append_right _ (List.mem_of_getElem? (i := 259) (by decide +kernel)), by decide +kernel⟩
theorem k_im_St_coder : Cond.instanceMethod y_St_coder ∈ lwg := List.mem_filter.mpr ⟨List.mem_append_right _ (List.mem_of_getElem? (i := 260) (by decide +kernel)), by decide +kernel⟩
theorem k_sel_St_coder : Cond.selects "java/lang/String" y_St_coder y_St_coder ∈ lwg := List.mem_filter.mpr ⟨List.mem_append_right _ (List.mem_of_getElem? (i := 261) (by decide +kernel)), by decide +kernel⟩
theorem k_code_St_coder : Cond.code y_St_coder b_St_coder 1 ((some .byte)) ∈ lwg := List.mem_filter.mpr ⟨List.mem_append_right _ (List.mem_of_getElem? (i := 262) (by decide +kernel)), by decide +kernel⟩
theorem k_fl_St_38 : Cond.fieldLink "java/lang/String" 38 "java/lang/String" "COMPACT_STRINGS" "Z" ∈ lwg := List.mem_filter.mpr ⟨List.mem_append_right _ (List.mem_of_getElem? (i := 263) (by decide +kernel)), by decide +kernel⟩
theorem k_ml_As_208 : Cond.methodLink "java/lang/AbstractStringBuilder" 208 y_As_putStringAt ∈ lwg := List.mem_filter.mpr ⟨List.mem_append_right _ (List.mem_of_getElem? (i := 264) (by decide +kernel)), by decide +kernel⟩
theorem k_im_As_putStringAt : Cond.instanceMethod y_As_putStringAt ∈ lwg := List.mem_filter.mpr ⟨List.mem_append_right _ (List.mem_of_getElem? (i := 266) (by decide +kernel)), by decide +kernel⟩
theorem k_code_As_putStringAt : Cond.code y_As_putStringAt b_As_putStringAt 3 (none) ∈ lwg := List.mem_filter.mpr ⟨List.mem_append_right _ (List.mem_of_getElem? (i := 267) (by decide +kernel)), by decide +kernel⟩
theorem k_ml_As_397 : Cond.methodLink "java/lang/AbstractStringBuilder" 397 y_As_inflateIfNeededFor ∈ lwg := List.mem_filter.mpr ⟨List.mem_append_right _ (List.mem_of_getElem? (i := 268) (by decide +kernel)), by decide +kernel⟩
theorem k_im_As_inflateIfNeededFor : Cond.instanceMethod y_As_inflateIfNeededFor ∈ lwg := List.mem_filter.mpr ⟨List.mem_append_right _ (List.mem_of_getElem? (i := 270) (by decide +kernel)), by decide +kernel⟩
theorem k_code_As_inflateIfNeededFor : Cond.code y_As_inflateIfNeededFor b_As_inflateIfNeededFor 2 (none) ∈ lwg := List.mem_filter.mpr ⟨List.mem_append_right _ (List.mem_of_getElem? (i := 271) (by decide +kernel)), by decide +kernel⟩
theorem k_ml_As_40 : Cond.methodLink "java/lang/AbstractStringBuilder" 40 y_St_coder ∈ lwg := List.mem_filter.mpr ⟨List.mem_append_right _ (List.mem_of_getElem? (i := 272) (by decide +kernel)), by decide +kernel⟩
theorem k_ml_As_195 : Cond.methodLink "java/lang/AbstractStringBuilder" 195 y_As_inflate ∈ lwg := List.mem_filter.mpr ⟨List.mem_append_right _ (List.mem_of_getElem? (i := 273) (by decide +kernel)), by decide +kernel⟩
theorem k_im_As_inflate : Cond.instanceMethod y_As_inflate ∈ lwg := List.mem_filter.mpr ⟨List.mem_append_right _ (List.mem_of_getElem? (i := 275) (by decide +kernel)), by decide +kernel⟩
theorem k_code_As_inflate : Cond.code y_As_inflate b_As_inflate 2 (none) ∈ lwg := List.mem_filter.mpr ⟨List.mem_append_right _ (List.mem_of_getElem? (i := 276) (by decide +kernel)), by decide +kernel⟩
theorem k_ml_As_125 : Cond.methodLink "java/lang/AbstractStringBuilder" 125 y_Sl_inflate ∈ lwg := List.mem_filter.mpr ⟨List.mem_append_right _ (List.mem_of_getElem? (i := 277) (by decide +kernel)), by decide +kernel⟩
theorem k_st_Sl_inflate : Cond.static y_Sl_inflate ∈ lwg := List.mem_filter.mpr ⟨List.mem_append_right _ (List.mem_of_getElem? (i := 278) (by decide +kernel)), by decide +kernel⟩
theorem k_code_Sl_inflate : Cond.code y_Sl_inflate b_Sl_inflate 5 (none) ∈ lwg := List.mem_filter.mpr ⟨List.mem_append_right _ (List.mem_of_getElem? (i := 279) (by decide +kernel)), by decide +kernel⟩
theorem k_ml_Sl_240 : Cond.methodLink "java/lang/StringLatin1" 240 y_Su_inflate ∈ lwg := List.mem_filter.mpr ⟨List.mem_append_right _ (List.mem_of_getElem? (i := 280) (by decide +kernel)), by decide +kernel⟩
theorem k_st_Su_inflate : Cond.static y_Su_inflate ∈ lwg := List.mem_filter.mpr ⟨List.mem_append_right _ (List.mem_of_getElem? (i := 281) (by decide +kernel)), by decide +kernel⟩
theorem k_code_Su_inflate : Cond.code y_Su_inflate b_Su_inflate 6 (none) ∈ lwg := List.mem_filter.mpr ⟨List.mem_append_right _ (List.mem_of_getElem? (i := 282) (by decide +kernel)), by decide +kernel⟩
theorem k_ml_Su_173 : Cond.methodLink "java/lang/StringUTF16" 173 y_Su_checkBoundsOffCount ∈ lwg := List.mem_filter.mpr ⟨List.mem_append_right _ (List.mem_of_getElem? (i := 283) (by decide +kernel)), by decide +kernel⟩
theorem k_st_Su_checkBoundsOffCount : Cond.static y_Su_checkBoundsOffCount ∈ lwg := List.mem_filter.mpr ⟨List.mem_append_right _ (List.mem_of_getElem? (i := 284) (by decide +kernel)), by decide +kernel⟩
theorem k_code_Su_checkBoundsOffCount : Cond.code y_Su_checkBoundsOffCount b_Su_checkBoundsOffCount 3 (none) ∈ lwg := List.mem_filter.mpr ⟨List.mem_append_right _ (List.mem_of_getElem? (i := 285) (by decide +kernel)), by decide +kernel⟩
theorem k_ml_Su_419 : Cond.methodLink "java/lang/StringUTF16" 419 y_St_checkBoundsOffCount ∈ lwg := List.mem_filter.mpr ⟨List.mem_append_right _ (List.mem_of_getElem? (i := 286) (by decide +kernel)), by decide +kernel⟩
theorem k_st_St_checkBoundsOffCount : Cond.static y_St_checkBoundsOffCount ∈ lwg := List.mem_filter.mpr ⟨List.mem_append_right _ (List.mem_of_getElem? (i := 287) (by decide +kernel)), by decide +kernel⟩
theorem k_code_St_checkBoundsOffCount : Cond.code y_St_checkBoundsOffCount b_St_checkBoundsOffCount 3 ((some .int)) ∈ lwg := List.mem_filter.mpr ⟨List.mem_append_right _ (List.mem_of_getElem? (i := 288) (by decide +kernel)), by decide +kernel⟩
theorem k_ml_St_1065 : Cond.methodLink "java/lang/String" 1065 y_Pc_checkFromIndexSize ∈ lwg := List.mem_filter.mpr ⟨List.mem_append_right _ (List.mem_of_getElem? (i := 289) (by decide +kernel)), by decide +kernel⟩
theorem k_st_Pc_checkFromIndexSize : Cond.static y_Pc_checkFromIndexSize ∈ lwg := List.mem_filter.mpr ⟨List.mem_append_right _ (List.mem_of_getElem? (i := 290) (by decide +kernel)), by decide +kernel⟩
theorem k_code_Pc_checkFromIndexSize : Cond.code y_Pc_checkFromIndexSize b_Pc_checkFromIndexSize 4 ((some .int)) ∈ lwg := List.mem_filter.mpr ⟨List.mem_append_right _ (List.mem_of_getElem? (i := 291) (by decide +kernel)), by decide +kernel⟩
theorem k_ml_As_399 : Cond.methodLink "java/lang/AbstractStringBuilder" 399 y_St_getBytes ∈ lwg := List.mem_filter.mpr ⟨List.mem_append_right _ (List.mem_of_getElem? (i := 292) (by decide +kernel)), by decide +kernel⟩
theorem k_im_St_getBytes : Cond.instanceMethod y_St_getBytes ∈ lwg := List.mem_filter.mpr ⟨List.mem_append_right _ (List.mem_of_getElem? (i := 293) (by decide +kernel)), by decide +kernel⟩
theorem k_sel_St_getBytes : Cond.selects "java/lang/String" y_St_getBytes y_St_getBytes ∈ lwg := List.mem_filter.mpr ⟨List.mem_append_right _ (List.mem_of_getElem? (i := 294) (by decide +kernel)), by decide +kernel⟩
theorem k_code_St_getBytes : Cond.code y_St_getBytes b_St_getBytes 4 (none) ∈ lwg := List.mem_filter.mpr ⟨List.mem_append_right _ (List.mem_of_getElem? (i := 295) (by decide +kernel)), by decide +kernel⟩
theorem k_ml_St_212 : Cond.methodLink "java/lang/String" 212 y_Sy_arraycopy ∈ lwg := List.mem_filter.mpr ⟨List.mem_append_right _ (List.mem_of_getElem? (i := 296) (by decide +kernel)), by decide +kernel⟩
theorem k_ml_St_106 : Cond.methodLink "java/lang/String" 106 y_Sl_inflate ∈ lwg := List.mem_filter.mpr ⟨List.mem_append_right _ (List.mem_of_getElem? (i := 297) (by decide +kernel)), by decide +kernel⟩
theorem k_ml_Ar_54 : Cond.methodLink "java/util/Arrays" 54 y_Sb_append2 ∈ lwg := List.mem_filter.mpr ⟨List.mem_append_right _ (List.mem_of_getElem? (i := 298) (by decide +kernel)), by decide +kernel⟩
theorem k_im_Sb_append2 : Cond.instanceMethod y_Sb_append2 ∈ lwg := List.mem_filter.mpr ⟨List.mem_append_right _ (List.mem_of_getElem? (i := 299) (by decide +kernel)), by decide +kernel⟩
theorem k_sel_Sb_append2 : Cond.selects "java/lang/StringBuilder" y_Sb_append2 y_Sb_append2 ∈ lwg := List.mem_filter.mpr ⟨List.mem_append_right _ (List.mem_of_getElem? (i := 300) (by decide +kernel)), by decide +kernel⟩
theorem k_code_Sb_append2 : Cond.code y_Sb_append2 b_Sb_append2 2 ((some (.object "java/lang/StringBuilder"))) ∈ lwg := List.mem_filter.mpr ⟨List.mem_append_right _ (List.mem_of_getElem? (i := 301) (by decide +kernel)), by decide +kernel⟩
theorem k_ml_Sb_53 : Cond.methodLink "java/lang/StringBuilder" 53 y_As_append2 ∈ lwg := List.mem_filter.mpr ⟨List.mem_append_right _ (List.mem_of_getElem? (i := 302) (by decide +kernel)), by decide +kernel⟩
theorem k_im_As_append2 : Cond.instanceMethod y_As_append2 ∈ lwg := List.mem_filter.mpr ⟨List.mem_append_right _ (List.mem_of_getElem? (i := 303) (by decide +kernel)), by decide +kernel⟩
theorem k_code_As_append2 : Cond.code y_As_append2 b_As_append2 4 ((some (.object "java/lang/AbstractStringBuilder"))) ∈ lwg := List.mem_filter.mpr ⟨List.mem_append_right _ (List.mem_of_getElem? (i := 304) (by decide +kernel)), by decide +kernel⟩
theorem k_ml_As_245 : Cond.methodLink "java/lang/AbstractStringBuilder" 245 y_In_stringSize ∈ lwg := List.mem_filter.mpr ⟨List.mem_append_right _ (List.mem_of_getElem? (i := 305) (by decide +kernel)), by decide +kernel⟩
theorem k_st_In_stringSize : Cond.static y_In_stringSize ∈ lwg := List.mem_filter.mpr ⟨List.mem_append_right _ (List.mem_of_getElem? (i := 306) (by decide +kernel)), by decide +kernel⟩
theorem k_code_In_stringSize : Cond.code y_In_stringSize b_In_stringSize 4 ((some .int)) ∈ lwg := List.mem_filter.mpr ⟨List.mem_append_right _ (List.mem_of_getElem? (i := 307) (by decide +kernel)), by decide +kernel⟩
theorem k_ml_As_248 : Cond.methodLink "java/lang/AbstractStringBuilder" 248 y_In_getChars ∈ lwg := List.mem_filter.mpr ⟨List.mem_append_right _ (List.mem_of_getElem? (i := 308) (by decide +kernel)), by decide +kernel⟩
theorem k_st_In_getChars : Cond.static y_In_getChars ∈ lwg := List.mem_filter.mpr ⟨List.mem_append_right _ (List.mem_of_getElem? (i := 309) (by decide +kernel)), by decide +kernel⟩
theorem k_code_In_getChars : Cond.code y_In_getChars b_In_getChars 7 ((some .int)) ∈ lwg := List.mem_filter.mpr ⟨List.mem_append_right _ (List.mem_of_getElem? (i := 310) (by decide +kernel)), by decide +kernel⟩
theorem k_fl_In_83 : Cond.fieldLink "java/lang/Integer" 83 "java/lang/Integer" "DigitOnes" "[B" ∈ lwg := List.mem_filter.mpr ⟨List.mem_append_right _ (List.mem_of_getElem? (i := 311) (by decide +kernel)), by decide +kernel⟩
theorem k_fl_In_87 : Cond.fieldLink "java/lang/Integer" 87 "java/lang/Integer" "DigitTens" "[B" ∈ lwg := List.mem_filter.mpr ⟨List.mem_append_right _ (List.mem_of_getElem? (i := 313) (by decide +kernel)), by decide +kernel⟩
theorem k_ml_As_251 : Cond.methodLink "java/lang/AbstractStringBuilder" 251 y_Su_getChars ∈ lwg := List.mem_filter.mpr ⟨List.mem_append_right _ (List.mem_of_getElem? (i := 315) (by decide +kernel)), by decide +kernel⟩
theorem k_st_Su_getChars : Cond.static y_Su_getChars ∈ lwg := List.mem_filter.mpr ⟨List.mem_append_right _ (List.mem_of_getElem? (i := 316) (by decide +kernel)), by decide +kernel⟩
theorem k_code_Su_getChars : Cond.code y_Su_getChars b_Su_getChars 5 ((some .int)) ∈ lwg := List.mem_filter.mpr ⟨List.mem_append_right _ (List.mem_of_getElem? (i := 317) (by decide +kernel)), by decide +kernel⟩
theorem k_ml_Su_393 : Cond.methodLink "java/lang/StringUTF16" 393 y_Su_getChars2 ∈ lwg := List.mem_filter.mpr ⟨List.mem_append_right _ (List.mem_of_getElem? (i := 318) (by decide +kernel)), by decide +kernel⟩
theorem k_st_Su_getChars2 : Cond.static y_Su_getChars2 ∈ lwg := List.mem_filter.mpr ⟨List.mem_append_right _ (List.mem_of_getElem? (i := 319) (by decide +kernel)), by decide +kernel⟩
theorem k_code_Su_getChars2 : Cond.code y_Su_getChars2 b_Su_getChars2 7 ((some .int)) ∈ lwg := List.mem_filter.mpr ⟨List.mem_append_right _ (List.mem_of_getElem? (i := 320) (by decide +kernel)), by decide +kernel⟩
theorem k_fl_Su_403 : Cond.fieldLink "java/lang/StringUTF16" 403 "java/lang/Integer" "DigitOnes" "[B" ∈ lwg := List.mem_filter.mpr ⟨List.mem_append_right _ (List.mem_of_getElem? (i := 321) (by decide +kernel)), by decide +kernel⟩
theorem k_fl_Su_407 : Cond.fieldLink "java/lang/StringUTF16" 407 "java/lang/Integer" "DigitTens" "[B" ∈ lwg := List.mem_filter.mpr ⟨List.mem_append_right _ (List.mem_of_getElem? (i := 322) (by decide +kernel)), by decide +kernel⟩
theorem k_str_Ar_57 : Cond.stringRef "java/util/Arrays" 57 ") > toIndex(" ∈ lw_tbl := List.mem_append_right _ (List.mem_of_getElem? (i := 323) (by decide +kernel))
theorem k_str_Ar_59 : Cond.stringRef "java/util/Arrays" 59 ")" ∈ lw_tbl := List.mem_append_right _ (List.mem_of_getElem? (i := 324) (by decide +kernel))
theorem k_ml_Ar_61 : Cond.methodLink "java/util/Arrays" 61 y_Sb_toString ∈ lwg := List.mem_filter.mpr ⟨List.mem_append_right _ (List.mem_of_getElem? (i := 325) (by decide +kernel)), by decide +kernel⟩
theorem k_im_Sb_toString : Cond.instanceMethod y_Sb_toString ∈ lwg := List.mem_filter.mpr ⟨List.mem_append_right _ (List.mem_of_getElem? (i := 326) (by decide +kernel)), by decide +kernel⟩
theorem k_sel_Sb_toString : Cond.selects "java/lang/StringBuilder" y_Sb_toString y_Sb_toString ∈ lwg := List.mem_filter.mpr ⟨List.mem_append_right _ (List.mem_of_getElem? (i := 327) (by decide +kernel)), by decide +kernel⟩
theorem k_code_Sb_toString : Cond.code y_Sb_toString b_Sb_toString 1 ((some (.object "java/lang/String"))) ∈ lwg := List.mem_filter.mpr ⟨List.mem_append_right _ (List.mem_of_getElem? (i := 328) (by decide +kernel)), by decide +kernel⟩
theorem k_cl_Sb_18 : Cond.classLink "java/lang/StringBuilder" 18 "java/lang/String" ∈ lwg := List.mem_filter.mpr ⟨List.mem_append_right _ (List.mem_of_getElem? (i := 329) (by decide +kernel)), by decide +kernel⟩
theorem k_in_St : Cond.instantiable "java/lang/String" 4 ∈ lwg := List.mem_filter.mpr ⟨List.mem_append_right _ (List.mem_of_getElem? (i := 330) (by decide +kernel)), by decide +kernel⟩
theorem k_ml_Sb_137 : Cond.methodLink "java/lang/StringBuilder" 137 y_St_init ∈ lwg := List.mem_filter.mpr ⟨List.mem_append_right _ (List.mem_of_getElem? (i := 331) (by decide +kernel)), by decide +kernel⟩
theorem k_im_St_init : Cond.instanceMethod y_St_init ∈ lwg := List.mem_filter.mpr ⟨List.mem_append_right _ (List.mem_of_getElem? (i := 332) (by decide +kernel)), by decide +kernel⟩
theorem k_code_St_init : Cond.code y_St_init b_St_init 2 (none) ∈ lwg := List.mem_filter.mpr ⟨List.mem_append_right _ (List.mem_of_getElem? (i := 333) (by decide +kernel)), by decide +kernel⟩
theorem k_ml_St_489 : Cond.methodLink "java/lang/String" 489 y_St_init2 ∈ lwg := List.mem_filter.mpr ⟨List.mem_append_right _ (List.mem_of_getElem? (i := 334) (by decide +kernel)), by decide +kernel⟩
theorem k_im_St_init2 : Cond.instanceMethod y_St_init2 ∈ lwg := List.mem_filter.mpr ⟨List.mem_append_right _ (List.mem_of_getElem? (i := 335) (by decide +kernel)), by decide +kernel⟩
theorem k_code_St_init2 : Cond.code y_St_init2 b_St_init2 5 (none) ∈ lwg := List.mem_filter.mpr ⟨List.mem_append_right _ (List.mem_of_getElem? (i := 336) (by decide +kernel)), by decide +kernel⟩
theorem k_ml_St_1 : Cond.methodLink "java/lang/String" 1 y_Ob_init ∈ lwg := List.mem_filter.mpr ⟨List.mem_append_right _ (List.mem_of_getElem? (i := 337) (by decide +kernel)), by decide +kernel⟩
theorem k_ml_St_552 : Cond.methodLink "java/lang/String" 552 y_As_getValue ∈ lwg := List.mem_filter.mpr ⟨List.mem_append_right _ (List.mem_of_getElem? (i := 338) (by decide +kernel)), by decide +kernel⟩
theorem k_im_As_getValue : Cond.instanceMethod y_As_getValue ∈ lwg := List.mem_filter.mpr ⟨List.mem_append_right _ (List.mem_of_getElem? (i := 339) (by decide +kernel)), by decide +kernel⟩
theorem k_sel_Sb_As_getValue : Cond.selects "java/lang/StringBuilder" y_As_getValue y_As_getValue ∈ lwg := List.mem_filter.mpr ⟨List.mem_append_right _ (List.mem_of_getElem? (i := 341) (by decide +kernel)), by decide +kernel⟩
theorem k_code_As_getValue : Cond.code y_As_getValue b_As_getValue 1 ((some (.array .byte))) ∈ lwg := List.mem_filter.mpr ⟨List.mem_append_right _ (List.mem_of_getElem? (i := 342) (by decide +kernel)), by decide +kernel⟩
theorem k_ml_St_549 : Cond.methodLink "java/lang/String" 549 y_As_length ∈ lwg := List.mem_filter.mpr ⟨List.mem_append_right _ (List.mem_of_getElem? (i := 343) (by decide +kernel)), by decide +kernel⟩
theorem k_im_As_length : Cond.instanceMethod y_As_length ∈ lwg := List.mem_filter.mpr ⟨List.mem_append_right _ (List.mem_of_getElem? (i := 344) (by decide +kernel)), by decide +kernel⟩
theorem k_sel_Sb_As_length : Cond.selects "java/lang/StringBuilder" y_As_length y_Sb_length ∈ lwg := List.mem_filter.mpr ⟨List.mem_append_right _ (List.mem_of_getElem? (i := 346) (by decide +kernel)), by decide +kernel⟩
theorem k_im_Sb_length : Cond.instanceMethod y_Sb_length ∈ lwg := List.mem_filter.mpr ⟨List.mem_append_right _ (List.mem_of_getElem? (i := 347) (by decide +kernel)), by decide +kernel⟩
theorem k_code_Sb_length : Cond.code y_Sb_length b_Sb_length 1 ((some .int)) ∈ lwg := List.mem_filter.mpr ⟨List.mem_append_right _ (List.mem_of_getElem? (i := 348) (by decide +kernel)), by decide +kernel⟩
theorem k_ml_Sb_343 : Cond.methodLink "java/lang/StringBuilder" 343 y_As_length ∈ lwg := List.mem_filter.mpr ⟨List.mem_append_right _ (List.mem_of_getElem? (i := 349) (by decide +kernel)), by decide +kernel⟩
theorem k_code_As_length : Cond.code y_As_length b_As_length 1 ((some .int)) ∈ lwg := List.mem_filter.mpr ⟨List.mem_append_right _ (List.mem_of_getElem? (i := 350) (by decide +kernel)), by decide +kernel⟩
theorem k_ml_St_1047 : Cond.methodLink "java/lang/String" 1047 y_As_isLatin1 ∈ lwg := List.mem_filter.mpr ⟨List.mem_append_right _ (List.mem_of_getElem? (i := 351) (by decide +kernel)), by decide +kernel⟩
theorem k_ml_St_54 : Cond.methodLink "java/lang/String" 54 y_Ar_copyOfRange ∈ lwg := List.mem_filter.mpr ⟨List.mem_append_right _ (List.mem_of_getElem? (i := 352) (by decide +kernel)), by decide +kernel⟩
theorem k_st_Ar_copyOfRange : Cond.static y_Ar_copyOfRange ∈ lwg := List.mem_filter.mpr ⟨List.mem_append_right _ (List.mem_of_getElem? (i := 353) (by decide +kernel)), by decide +kernel⟩
theorem k_code_Ar_copyOfRange : Cond.code y_Ar_copyOfRange b_Ar_copyOfRange 3 ((some (.array .byte))) ∈ lwg := List.mem_filter.mpr ⟨List.mem_append_right _ (List.mem_of_getElem? (i := 354) (by decide +kernel)), by decide +kernel⟩
theorem k_ml_Ar_339 : Cond.methodLink "java/util/Arrays" 339 y_Ar_copyOfRangeByte ∈ lwg := List.mem_filter.mpr ⟨List.mem_append_right _ (List.mem_of_getElem? (i := 355) (by decide +kernel)), by decide +kernel⟩
theorem k_st_Ar_copyOfRangeByte : Cond.static y_Ar_copyOfRangeByte ∈ lwg := List.mem_filter.mpr ⟨List.mem_append_right _ (List.mem_of_getElem? (i := 356) (by decide +kernel)), by decide +kernel⟩
theorem k_code_Ar_copyOfRangeByte : Cond.code y_Ar_copyOfRangeByte b_Ar_copyOfRangeByte 5 ((some (.array .byte))) ∈ lwg := List.mem_filter.mpr ⟨List.mem_append_right _ (List.mem_of_getElem? (i := 357) (by decide +kernel)), by decide +kernel⟩
theorem k_ml_Ar_343 : Cond.methodLink "java/util/Arrays" 343 y_Ar_checkLength ∈ lwg := List.mem_filter.mpr ⟨List.mem_append_right _ (List.mem_of_getElem? (i := 358) (by decide +kernel)), by decide +kernel⟩
theorem k_st_Ar_checkLength : Cond.static y_Ar_checkLength ∈ lwg := List.mem_filter.mpr ⟨List.mem_append_right _ (List.mem_of_getElem? (i := 359) (by decide +kernel)), by decide +kernel⟩
theorem k_code_Ar_checkLength : Cond.code y_Ar_checkLength b_Ar_checkLength 2 (none) ∈ lwg := List.mem_filter.mpr ⟨List.mem_append_right _ (List.mem_of_getElem? (i := 360) (by decide +kernel)), by decide +kernel⟩
theorem k_str_Ar_337 : Cond.stringRef "java/util/Arrays" 337 " > " ∈ lw_tbl := List.mem_append_right _ (List.mem_of_getElem? (i := 361) (by decide +kernel))
theorem k_ml_Ar_65 : Cond.methodLink "java/util/Arrays" 65 y_Ia_init ∈ lwg := List.mem_filter.mpr ⟨List.mem_append_right _ (List.mem_of_getElem? (i := 362) (by decide +kernel)), by decide +kernel⟩
theorem k_im_Ia_init : Cond.instanceMethod y_Ia_init ∈ lwg := List.mem_filter.mpr ⟨List.mem_append_right _ (List.mem_of_getElem? (i := 363) (by decide +kernel)), by decide +kernel⟩
theorem k_code_Ia_init : Cond.code y_Ia_init b_Ia_init 2 (none) ∈ lwg := List.mem_filter.mpr ⟨List.mem_append_right _ (List.mem_of_getElem? (i := 364) (by decide +kernel)), by decide +kernel⟩
theorem k_ml_Ia_7 : Cond.methodLink "java/lang/IllegalArgumentException" 7 y_Re_init2 ∈ lwg := List.mem_filter.mpr ⟨List.mem_append_right _ (List.mem_of_getElem? (i := 365) (by decide +kernel)), by decide +kernel⟩
theorem k_im_Re_init2 : Cond.instanceMethod y_Re_init2 ∈ lwg := List.mem_filter.mpr ⟨List.mem_append_right _ (List.mem_of_getElem? (i := 366) (by decide +kernel)), by decide +kernel⟩
theorem k_code_Re_init2 : Cond.code y_Re_init2 b_Re_init2 2 (none) ∈ lwg := List.mem_filter.mpr ⟨List.mem_append_right _ (List.mem_of_getElem? (i := 367) (by decide +kernel)), by decide +kernel⟩
theorem k_ml_Re_7 : Cond.methodLink "java/lang/RuntimeException" 7 y_Ex_init2 ∈ lwg := List.mem_filter.mpr ⟨List.mem_append_right _ (List.mem_of_getElem? (i := 368) (by decide +kernel)), by decide +kernel⟩
theorem k_im_Ex_init2 : Cond.instanceMethod y_Ex_init2 ∈ lwg := List.mem_filter.mpr ⟨List.mem_append_right _ (List.mem_of_getElem? (i := 369) (by decide +kernel)), by decide +kernel⟩
theorem k_code_Ex_init2 : Cond.code y_Ex_init2 b_Ex_init2 2 (none) ∈ lwg := List.mem_filter.mpr ⟨List.mem_append_right _ (List.mem_of_getElem? (i := 370) (by decide +kernel)), by decide +kernel⟩
theorem k_ml_Ex_7 : Cond.methodLink "java/lang/Exception" 7 y_Th_init2 ∈ lwg := List.mem_filter.mpr ⟨List.mem_append_right _ (List.mem_of_getElem? (i := 371) (by decide +kernel)), by decide +kernel⟩
theorem k_im_Th_init2 : Cond.instanceMethod y_Th_init2 ∈ lwg := List.mem_filter.mpr ⟨List.mem_append_right _ (List.mem_of_getElem? (i := 372) (by decide +kernel)), by decide +kernel⟩
theorem k_code_Th_init2 : Cond.code y_Th_init2 b_Th_init2 2 (none) ∈ lwg := List.mem_filter.mpr ⟨List.mem_append_right _ (List.mem_of_getElem? (i := 373) (by decide +kernel)), by decide +kernel⟩
theorem k_fl_Th_31 : Cond.fieldLink "java/lang/Throwable" 31 "java/lang/Throwable" "detailMessage" "Ljava/lang/String;" ∈ lwg := List.mem_filter.mpr ⟨List.mem_append_right _ (List.mem_of_getElem? (i := 375) (by decide +kernel)), by decide +kernel⟩
theorem k_fl_Th_7 : Cond.fieldLink "java/lang/Throwable" 7 "java/lang/Throwable" "cause" "Ljava/lang/Throwable;" ∈ lwg := List.mem_filter.mpr ⟨List.mem_append_right _ (List.mem_of_getElem? (i := 376) (by decide +kernel)), by decide +kernel⟩
theorem k_fl_Th_17 : Cond.fieldLink "java/lang/Throwable" 17 "java/lang/Throwable" "stackTrace" "[Ljava/lang/StackTraceElement;" ∈ lwg := List.mem_filter.mpr ⟨List.mem_append_right _ (List.mem_of_getElem? (i := 377) (by decide +kernel)), by decide +kernel⟩
theorem k_fl_Th_24 : Cond.fieldLink "java/lang/Throwable" 24 "java/lang/Throwable" "suppressedExceptions" "Ljava/util/List;" ∈ lwg := List.mem_filter.mpr ⟨List.mem_append_right _ (List.mem_of_getElem? (i := 378) (by decide +kernel)), by decide +kernel⟩
theorem k_ml_St_1051 : Cond.methodLink "java/lang/String" 1051 y_Su_compress ∈ lwg := List.mem_filter.mpr ⟨List.mem_append_right _ (List.mem_of_getElem? (i := 387) (by decide +kernel)), by decide +kernel⟩
theorem k_st_Su_compress : Cond.static y_Su_compress ∈ lwg := List.mem_filter.mpr ⟨List.mem_append_right _ (List.mem_of_getElem? (i := 388) (by decide +kernel)), by decide +kernel⟩
theorem k_code_Su_compress : Cond.code y_Su_compress b_Su_compress 6 ((some (.array .byte))) ∈ lwg := List.mem_filter.mpr ⟨List.mem_append_right _ (List.mem_of_getElem? (i := 389) (by decide +kernel)), by decide +kernel⟩
theorem k_ml_Su_123 : Cond.methodLink "java/lang/StringUTF16" 123 y_Su_compress2 ∈ lwg := List.mem_filter.mpr ⟨List.mem_append_right _ (List.mem_of_getElem? (i := 390) (by decide +kernel)), by decide +kernel⟩
theorem k_st_Su_compress2 : Cond.static y_Su_compress2 ∈ lwg := List.mem_filter.mpr ⟨List.mem_append_right _ (List.mem_of_getElem? (i := 391) (by decide +kernel)), by decide +kernel⟩
theorem k_code_Su_compress2 : Cond.code y_Su_compress2 b_Su_compress2 7 ((some .int)) ∈ lwg := List.mem_filter.mpr ⟨List.mem_append_right _ (List.mem_of_getElem? (i := 392) (by decide +kernel)), by decide +kernel⟩
theorem k_ml_Su_71 : Cond.methodLink "java/lang/StringUTF16" 71 y_Su_getChar ∈ lwg := List.mem_filter.mpr ⟨List.mem_append_right _ (List.mem_of_getElem? (i := 393) (by decide +kernel)), by decide +kernel⟩
theorem k_st_Su_getChar : Cond.static y_Su_getChar ∈ lwg := List.mem_filter.mpr ⟨List.mem_append_right _ (List.mem_of_getElem? (i := 394) (by decide +kernel)), by decide +kernel⟩
theorem k_code_Su_getChar : Cond.code y_Su_getChar b_Su_getChar 2 ((some .char)) ∈ lwg := List.mem_filter.mpr ⟨List.mem_append_right _ (List.mem_of_getElem? (i := 395) (by decide +kernel)), by decide +kernel⟩
theorem k_ml_Su_126 : Cond.methodLink "java/lang/StringUTF16" 126 y_Ar_copyOfRange ∈ lwg := List.mem_filter.mpr ⟨List.mem_append_right _ (List.mem_of_getElem? (i := 396) (by decide +kernel)), by decide +kernel⟩
theorem k_ml_St_47 : Cond.methodLink "java/lang/String" 47 y_Su_coderFromArrayLen ∈ lwg := List.mem_filter.mpr ⟨List.mem_append_right _ (List.mem_of_getElem? (i := 397) (by decide +kernel)), by decide +kernel⟩
theorem k_st_Su_coderFromArrayLen : Cond.static y_Su_coderFromArrayLen ∈ lwg := List.mem_filter.mpr ⟨List.mem_append_right _ (List.mem_of_getElem? (i := 398) (by decide +kernel)), by decide +kernel⟩
theorem k_code_Su_coderFromArrayLen : Cond.code y_Su_coderFromArrayLen b_Su_coderFromArrayLen 2 ((some .byte)) ∈ lwg := List.mem_filter.mpr ⟨List.mem_append_right _ (List.mem_of_getElem? (i := 399) (by decide +kernel)), by decide +kernel⟩
theorem k_fl_St_9 : Cond.fieldLink "java/lang/String" 9 "java/lang/String" "value" "[B" ∈ lwg := List.mem_filter.mpr ⟨List.mem_append_right _ (List.mem_of_getElem? (i := 400) (by decide +kernel)), by decide +kernel⟩
theorem k_fl_St_15 : Cond.fieldLink "java/lang/String" 15 "java/lang/String" "coder" "B" ∈ lwg := List.mem_filter.mpr ⟨List.mem_append_right _ (List.mem_of_getElem? (i := 401) (by decide +kernel)), by decide +kernel⟩
theorem k_ml_Bl_36 : Cond.methodLink "PropertyTrie$Blocks" 36 y_Rc_hold ∈ lwg := List.mem_filter.mpr ⟨List.mem_append_right _ (List.mem_of_getElem? (i := 411) (by decide +kernel)), by decide +kernel⟩
theorem k_fl_Bl_14 : Cond.fieldLink "PropertyTrie$Blocks" 14 "PropertyTrie$Blocks" "records" "LPropertyTrie$Records;" ∈ lwg := List.mem_filter.mpr ⟨List.mem_append_right _ (List.mem_of_getElem? (i := 412) (by decide +kernel)), by decide +kernel⟩
theorem k_fl_Bl_19 : Cond.fieldLink "PropertyTrie$Blocks" 19 "PropertyTrie$Blocks" "cells" "[I" ∈ lwg := List.mem_filter.mpr ⟨List.mem_append_right _ (List.mem_of_getElem? (i := 414) (by decide +kernel)), by decide +kernel⟩
theorem k_fl_Bl_23 : Cond.fieldLink "PropertyTrie$Blocks" 23 "PropertyTrie$Blocks" "spareRows" "[I" ∈ lwg := List.mem_filter.mpr ⟨List.mem_append_right _ (List.mem_of_getElem? (i := 415) (by decide +kernel)), by decide +kernel⟩
theorem k_fl_Bl_40 : Cond.fieldLink "PropertyTrie$Blocks" 40 "PropertyTrie$Blocks" "spares" "I" ∈ lwg := List.mem_filter.mpr ⟨List.mem_append_right _ (List.mem_of_getElem? (i := 416) (by decide +kernel)), by decide +kernel⟩
theorem k_fl_Bl_48 : Cond.fieldLink "PropertyTrie$Blocks" 48 "PropertyTrie$Blocks" "found" "I" ∈ lwg := List.mem_filter.mpr ⟨List.mem_append_right _ (List.mem_of_getElem? (i := 417) (by decide +kernel)), by decide +kernel⟩
theorem k_fl_Bl_51 : Cond.fieldLink "PropertyTrie$Blocks" 51 "PropertyTrie$Blocks" "foundFirst" "I" ∈ lwg := List.mem_filter.mpr ⟨List.mem_append_right _ (List.mem_of_getElem? (i := 418) (by decide +kernel)), by decide +kernel⟩
theorem k_fl_Bl_54 : Cond.fieldLink "PropertyTrie$Blocks" 54 "PropertyTrie$Blocks" "foundLast" "I" ∈ lwg := List.mem_filter.mpr ⟨List.mem_append_right _ (List.mem_of_getElem? (i := 419) (by decide +kernel)), by decide +kernel⟩
theorem k_fl_Pt_12 : Cond.fieldLink "PropertyTrie" 12 "PropertyTrie" "blocks" "LPropertyTrie$Blocks;" ∈ lwg := List.mem_filter.mpr ⟨List.mem_append_right _ (List.mem_of_getElem? (i := 436) (by decide +kernel)), by decide +kernel⟩
theorem k_ml_La_66 : Cond.methodLink "PropertyTrieLaw" 66 y_Pt_clear ∈ lwg := List.mem_filter.mpr ⟨List.mem_append_right _ (List.mem_of_getElem? (i := 440) (by decide +kernel)), by decide +kernel⟩
theorem k_im_Pt_clear : Cond.instanceMethod y_Pt_clear ∈ lwg := List.mem_filter.mpr ⟨List.mem_append_right _ (List.mem_of_getElem? (i := 441) (by decide +kernel)), by decide +kernel⟩
theorem k_sel_Pt_clear : Cond.selects "PropertyTrie" y_Pt_clear y_Pt_clear ∈ lwg := List.mem_filter.mpr ⟨List.mem_append_right _ (List.mem_of_getElem? (i := 442) (by decide +kernel)), by decide +kernel⟩
theorem k_code_Pt_clear : Cond.code y_Pt_clear b_Pt_clear 5 ((some .int)) ∈ lwg := List.mem_filter.mpr ⟨List.mem_append_right _ (List.mem_of_getElem? (i := 443) (by decide +kernel)), by decide +kernel⟩
theorem k_ml_Pt_58 : Cond.methodLink "PropertyTrie" 58 y_Bl_recordOf ∈ lwg := List.mem_filter.mpr ⟨List.mem_append_right _ (List.mem_of_getElem? (i := 444) (by decide +kernel)), by decide +kernel⟩
theorem k_im_Bl_recordOf : Cond.instanceMethod y_Bl_recordOf ∈ lwg := List.mem_filter.mpr ⟨List.mem_append_right _ (List.mem_of_getElem? (i := 445) (by decide +kernel)), by decide +kernel⟩
theorem k_sel_Bl_recordOf : Cond.selects "PropertyTrie$Blocks" y_Bl_recordOf y_Bl_recordOf ∈ lwg := List.mem_filter.mpr ⟨List.mem_append_right _ (List.mem_of_getElem? (i := 446) (by decide +kernel)), by decide +kernel⟩
theorem k_code_Bl_recordOf : Cond.code y_Bl_recordOf b_Bl_recordOf 2 ((some .int)) ∈ lwg := List.mem_filter.mpr ⟨List.mem_append_right _ (List.mem_of_getElem? (i := 447) (by decide +kernel)), by decide +kernel⟩
theorem k_ml_Bl_44 : Cond.methodLink "PropertyTrie$Blocks" 44 y_Bl_find ∈ lwg := List.mem_filter.mpr ⟨List.mem_append_right _ (List.mem_of_getElem? (i := 448) (by decide +kernel)), by decide +kernel⟩
theorem k_im_Bl_find : Cond.instanceMethod y_Bl_find ∈ lwg := List.mem_filter.mpr ⟨List.mem_append_right _ (List.mem_of_getElem? (i := 450) (by decide +kernel)), by decide +kernel⟩
theorem k_code_Bl_find : Cond.code y_Bl_find b_Bl_find 4 (none) ∈ lwg := List.mem_filter.mpr ⟨List.mem_append_right _ (List.mem_of_getElem? (i := 451) (by decide +kernel)), by decide +kernel⟩
theorem k_ml_Pt_53 : Cond.methodLink "PropertyTrie" 53 y_Mt_max ∈ lwg := List.mem_filter.mpr ⟨List.mem_append_right _ (List.mem_of_getElem? (i := 452) (by decide +kernel)), by decide +kernel⟩
theorem k_ml_Pt_65 : Cond.methodLink "PropertyTrie" 65 y_Bl_empty ∈ lwg := List.mem_filter.mpr ⟨List.mem_append_right _ (List.mem_of_getElem? (i := 453) (by decide +kernel)), by decide +kernel⟩
theorem k_ml_La_38 : Cond.methodLink "PropertyTrieLaw" 38 y_La_set ∈ lwg := List.mem_filter.mpr ⟨List.mem_append_right _ (List.mem_of_getElem? (i := 454) (by decide +kernel)), by decide +kernel⟩
theorem k_st_La_set : Cond.static y_La_set ∈ lwg := List.mem_filter.mpr ⟨List.mem_append_right _ (List.mem_of_getElem? (i := 455) (by decide +kernel)), by decide +kernel⟩
theorem k_with_La_set : Cond.codeWith y_La_set b_La_set 7 ((some .int)) [(0, 14, 17, 13)] ∈ lwg := List.mem_filter.mpr ⟨List.mem_append_right _ (List.mem_of_getElem? (i := 456) (by decide +kernel)), by decide +kernel⟩
theorem k_cl_La_13 : Cond.classLink "PropertyTrieLaw" 13 "java/lang/IllegalArgumentException" ∈ lwg := List.mem_filter.mpr ⟨List.mem_append_right _ (List.mem_of_getElem? (i := 457) (by decide +kernel)), by decide +kernel⟩
theorem k_ml_La_7 : Cond.methodLink "PropertyTrieLaw" 7 y_Pt_set ∈ lwg := List.mem_filter.mpr ⟨List.mem_append_right _ (List.mem_of_getElem? (i := 458) (by decide +kernel)), by decide +kernel⟩
theorem k_im_Pt_set : Cond.instanceMethod y_Pt_set ∈ lwg := List.mem_filter.mpr ⟨List.mem_append_right _ (List.mem_of_getElem? (i := 459) (by decide +kernel)), by decide +kernel⟩
theorem k_sel_Pt_set : Cond.selects "PropertyTrie" y_Pt_set y_Pt_set ∈ lwg := List.mem_filter.mpr ⟨List.mem_append_right _ (List.mem_of_getElem? (i := 460) (by decide +kernel)), by decide +kernel⟩
theorem k_code_Pt_set : Cond.code y_Pt_set b_Pt_set 5 ((some .int)) ∈ lwg := List.mem_filter.mpr ⟨List.mem_append_right _ (List.mem_of_getElem? (i := 461) (by decide +kernel)), by decide +kernel⟩
theorem k_ml_Pt_16 : Cond.methodLink "PropertyTrie" 16 y_Pt_mark ∈ lwg := List.mem_filter.mpr ⟨List.mem_append_right _ (List.mem_of_getElem? (i := 462) (by decide +kernel)), by decide +kernel⟩
theorem k_im_Pt_mark : Cond.instanceMethod y_Pt_mark ∈ lwg := List.mem_filter.mpr ⟨List.mem_append_right _ (List.mem_of_getElem? (i := 463) (by decide +kernel)), by decide +kernel⟩
theorem k_sel_Pt_mark : Cond.selects "PropertyTrie" y_Pt_mark y_Pt_mark ∈ lwg := List.mem_filter.mpr ⟨List.mem_append_right _ (List.mem_of_getElem? (i := 464) (by decide +kernel)), by decide +kernel⟩
theorem k_code_Pt_mark : Cond.code y_Pt_mark b_Pt_mark 6 ((some .int)) ∈ lwg := List.mem_filter.mpr ⟨List.mem_append_right _ (List.mem_of_getElem? (i := 465) (by decide +kernel)), by decide +kernel⟩
theorem k_ml_Pt_20 : Cond.methodLink "PropertyTrie" 20 y_Pt_checkRange ∈ lwg := List.mem_filter.mpr ⟨List.mem_append_right _ (List.mem_of_getElem? (i := 466) (by decide +kernel)), by decide +kernel⟩
theorem k_st_Pt_checkRange : Cond.static y_Pt_checkRange ∈ lwg := List.mem_filter.mpr ⟨List.mem_append_right _ (List.mem_of_getElem? (i := 467) (by decide +kernel)), by decide +kernel⟩
theorem k_code_Pt_checkRange : Cond.code y_Pt_checkRange b_Pt_checkRange 2 (none) ∈ lwg := List.mem_filter.mpr ⟨List.mem_append_right _ (List.mem_of_getElem? (i := 468) (by decide +kernel)), by decide +kernel⟩
theorem k_cst_Pt_48 : Cond.constant "PropertyTrie" 48 (1114111) ∈ lwg := List.mem_filter.mpr ⟨List.mem_append_right _ (List.mem_of_getElem? (i := 469) (by decide +kernel)), by decide +kernel⟩
theorem k_cl_Pt_71 : Cond.classLink "PropertyTrie" 71 "java/lang/IllegalArgumentException" ∈ lwg := List.mem_filter.mpr ⟨List.mem_append_right _ (List.mem_of_getElem? (i := 470) (by decide +kernel)), by decide +kernel⟩
theorem k_str_Pt_78 : Cond.stringRef "PropertyTrie" 78 "a range is 0 .. first .. last .. 1114111" ∈ lw_tbl := List.mem_append_right _ (List.mem_of_getElem? (i := 471) (by decide +kernel))
theorem k_ml_Pt_75 : Cond.methodLink "PropertyTrie" 75 y_Ia_init ∈ lwg := List.mem_filter.mpr ⟨List.mem_append_right _ (List.mem_of_getElem? (i := 472) (by decide +kernel)), by decide +kernel⟩
theorem k_ml_Pt_24 : Cond.methodLink "PropertyTrie" 24 y_Pt_checkField ∈ lwg := List.mem_filter.mpr ⟨List.mem_append_right _ (List.mem_of_getElem? (i := 473) (by decide +kernel)), by decide +kernel⟩
theorem k_st_Pt_checkField : Cond.static y_Pt_checkField ∈ lwg := List.mem_filter.mpr ⟨List.mem_append_right _ (List.mem_of_getElem? (i := 474) (by decide +kernel)), by decide +kernel⟩
theorem k_code_Pt_checkField : Cond.code y_Pt_checkField b_Pt_checkField 1 (none) ∈ lwg := List.mem_filter.mpr ⟨List.mem_append_right _ (List.mem_of_getElem? (i := 475) (by decide +kernel)), by decide +kernel⟩
theorem k_str_Pt_80 : Cond.stringRef "PropertyTrie" 80 "a field is 0 .. 7" ∈ lw_tbl := List.mem_append_right _ (List.mem_of_getElem? (i := 476) (by decide +kernel))
theorem k_ml_Pt_32 : Cond.methodLink "PropertyTrie" 32 y_Rc_begin ∈ lwg := List.mem_filter.mpr ⟨List.mem_append_right _ (List.mem_of_getElem? (i := 477) (by decide +kernel)), by decide +kernel⟩
theorem k_im_Rc_begin : Cond.instanceMethod y_Rc_begin ∈ lwg := List.mem_filter.mpr ⟨List.mem_append_right _ (List.mem_of_getElem? (i := 478) (by decide +kernel)), by decide +kernel⟩
theorem k_sel_Rc_begin : Cond.selects "PropertyTrie$Records" y_Rc_begin y_Rc_begin ∈ lwg := List.mem_filter.mpr ⟨List.mem_append_right _ (List.mem_of_getElem? (i := 479) (by decide +kernel)), by decide +kernel⟩
theorem k_code_Rc_begin : Cond.code y_Rc_begin b_Rc_begin 4 (none) ∈ lwg := List.mem_filter.mpr ⟨List.mem_append_right _ (List.mem_of_getElem? (i := 480) (by decide +kernel)), by decide +kernel⟩
theorem k_ml_Pt_38 : Cond.methodLink "PropertyTrie" 38 y_Bl_alter ∈ lwg := List.mem_filter.mpr ⟨List.mem_append_right _ (List.mem_of_getElem? (i := 481) (by decide +kernel)), by decide +kernel⟩
theorem k_im_Bl_alter : Cond.instanceMethod y_Bl_alter ∈ lwg := List.mem_filter.mpr ⟨List.mem_append_right _ (List.mem_of_getElem? (i := 482) (by decide +kernel)), by decide +kernel⟩
theorem k_sel_Bl_alter : Cond.selects "PropertyTrie$Blocks" y_Bl_alter y_Bl_alter ∈ lwg := List.mem_filter.mpr ⟨List.mem_append_right _ (List.mem_of_getElem? (i := 483) (by decide +kernel)), by decide +kernel⟩
theorem k_code_Bl_alter : Cond.code y_Bl_alter b_Bl_alter 5 (none) ∈ lwg := List.mem_filter.mpr ⟨List.mem_append_right _ (List.mem_of_getElem? (i := 484) (by decide +kernel)), by decide +kernel⟩
theorem k_ml_Bl_57 : Cond.methodLink "PropertyTrie$Blocks" 57 y_Bl_splitBefore ∈ lwg := List.mem_filter.mpr ⟨List.mem_append_right _ (List.mem_of_getElem? (i := 485) (by decide +kernel)), by decide +kernel⟩
theorem k_im_Bl_splitBefore : Cond.instanceMethod y_Bl_splitBefore ∈ lwg := List.mem_filter.mpr ⟨List.mem_append_right _ (List.mem_of_getElem? (i := 487) (by decide +kernel)), by decide +kernel⟩
theorem k_code_Bl_splitBefore : Cond.code y_Bl_splitBefore b_Bl_splitBefore 3 (none) ∈ lwg := List.mem_filter.mpr ⟨List.mem_append_right _ (List.mem_of_getElem? (i := 488) (by decide +kernel)), by decide +kernel⟩
theorem k_ml_Bl_73 : Cond.methodLink "PropertyTrie$Blocks" 73 y_Bl_split ∈ lwg := List.mem_filter.mpr ⟨List.mem_append_right _ (List.mem_of_getElem? (i := 489) (by decide +kernel)), by decide +kernel⟩
theorem k_im_Bl_split : Cond.instanceMethod y_Bl_split ∈ lwg := List.mem_filter.mpr ⟨List.mem_append_right _ (List.mem_of_getElem? (i := 491) (by decide +kernel)), by decide +kernel⟩
theorem k_code_Bl_split : Cond.code y_Bl_split b_Bl_split 4 (none) ∈ lwg := List.mem_filter.mpr ⟨List.mem_append_right _ (List.mem_of_getElem? (i := 492) (by decide +kernel)), by decide +kernel⟩
theorem k_cst_Bl_60 : Cond.constant "PropertyTrie$Blocks" 60 (1114111) ∈ lwg := List.mem_filter.mpr ⟨List.mem_append_right _ (List.mem_of_getElem? (i := 493) (by decide +kernel)), by decide +kernel⟩
theorem k_ml_Bl_61 : Cond.methodLink "PropertyTrie$Blocks" 61 y_Bl_replace ∈ lwg := List.mem_filter.mpr ⟨List.mem_append_right _ (List.mem_of_getElem? (i := 494) (by decide +kernel)), by decide +kernel⟩
theorem k_im_Bl_replace : Cond.instanceMethod y_Bl_replace ∈ lwg := List.mem_filter.mpr ⟨List.mem_append_right _ (List.mem_of_getElem? (i := 496) (by decide +kernel)), by decide +kernel⟩
theorem k_code_Bl_replace : Cond.code y_Bl_replace b_Bl_replace 4 (none) ∈ lwg := List.mem_filter.mpr ⟨List.mem_append_right _ (List.mem_of_getElem? (i := 497) (by decide +kernel)), by decide +kernel⟩
theorem k_ml_Bl_76 : Cond.methodLink "PropertyTrie$Blocks" 76 y_Rc_altered ∈ lwg := List.mem_filter.mpr ⟨List.mem_append_right _ (List.mem_of_getElem? (i := 498) (by decide +kernel)), by decide +kernel⟩
theorem k_im_Rc_altered : Cond.instanceMethod y_Rc_altered ∈ lwg := List.mem_filter.mpr ⟨List.mem_append_right _ (List.mem_of_getElem? (i := 499) (by decide +kernel)), by decide +kernel⟩
theorem k_sel_Rc_altered : Cond.selects "PropertyTrie$Records" y_Rc_altered y_Rc_altered ∈ lwg := List.mem_filter.mpr ⟨List.mem_append_right _ (List.mem_of_getElem? (i := 500) (by decide +kernel)), by decide +kernel⟩
theorem k_code_Rc_altered : Cond.code y_Rc_altered b_Rc_altered 4 ((some .int)) ∈ lwg := List.mem_filter.mpr ⟨List.mem_append_right _ (List.mem_of_getElem? (i := 501) (by decide +kernel)), by decide +kernel⟩
theorem k_ml_Rc_77 : Cond.methodLink "PropertyTrie$Records" 77 y_Rc_findWanted ∈ lwg := List.mem_filter.mpr ⟨List.mem_append_right _ (List.mem_of_getElem? (i := 502) (by decide +kernel)), by decide +kernel⟩
theorem k_im_Rc_findWanted : Cond.instanceMethod y_Rc_findWanted ∈ lwg := List.mem_filter.mpr ⟨List.mem_append_right _ (List.mem_of_getElem? (i := 504) (by decide +kernel)), by decide +kernel⟩
theorem k_code_Rc_findWanted : Cond.code y_Rc_findWanted b_Rc_findWanted 4 ((some .int)) ∈ lwg := List.mem_filter.mpr ⟨List.mem_append_right _ (List.mem_of_getElem? (i := 505) (by decide +kernel)), by decide +kernel⟩
theorem k_ml_Rc_80 : Cond.methodLink "PropertyTrie$Records" 80 y_Rc_isWanted ∈ lwg := List.mem_filter.mpr ⟨List.mem_append_right _ (List.mem_of_getElem? (i := 506) (by decide +kernel)), by decide +kernel⟩
theorem k_im_Rc_isWanted : Cond.instanceMethod y_Rc_isWanted ∈ lwg := List.mem_filter.mpr ⟨List.mem_append_right _ (List.mem_of_getElem? (i := 508) (by decide +kernel)), by decide +kernel⟩
theorem k_code_Rc_isWanted : Cond.code y_Rc_isWanted b_Rc_isWanted 3 ((some .boolean)) ∈ lwg := List.mem_filter.mpr ⟨List.mem_append_right _ (List.mem_of_getElem? (i := 509) (by decide +kernel)), by decide +kernel⟩
theorem k_ml_Bl_80 : Cond.methodLink "PropertyTrie$Blocks" 80 y_Rc_release ∈ lwg := List.mem_filter.mpr ⟨List.mem_append_right _ (List.mem_of_getElem? (i := 510) (by decide +kernel)), by decide +kernel⟩
theorem k_im_Rc_release : Cond.instanceMethod y_Rc_release ∈ lwg := List.mem_filter.mpr ⟨List.mem_append_right _ (List.mem_of_getElem? (i := 511) (by decide +kernel)), by decide +kernel⟩
theorem k_sel_Rc_release : Cond.selects "PropertyTrie$Records" y_Rc_release y_Rc_release ∈ lwg := List.mem_filter.mpr ⟨List.mem_append_right _ (List.mem_of_getElem? (i := 512) (by decide +kernel)), by decide +kernel⟩
theorem k_code_Rc_release : Cond.code y_Rc_release b_Rc_release 3 (none) ∈ lwg := List.mem_filter.mpr ⟨List.mem_append_right _ (List.mem_of_getElem? (i := 513) (by decide +kernel)), by decide +kernel⟩
theorem k_ml_Rc_58 : Cond.methodLink "PropertyTrie$Records" 58 y_Rc_drop ∈ lwg := List.mem_filter.mpr ⟨List.mem_append_right _ (List.mem_of_getElem? (i := 514) (by decide +kernel)), by decide +kernel⟩
theorem k_im_Rc_drop : Cond.instanceMethod y_Rc_drop ∈ lwg := List.mem_filter.mpr ⟨List.mem_append_right _ (List.mem_of_getElem? (i := 516) (by decide +kernel)), by decide +kernel⟩
theorem k_code_Rc_drop : Cond.code y_Rc_drop b_Rc_drop 6 (none) ∈ lwg := List.mem_filter.mpr ⟨List.mem_append_right _ (List.mem_of_getElem? (i := 517) (by decide +kernel)), by decide +kernel⟩
theorem k_ml_Bl_64 : Cond.methodLink "PropertyTrie$Blocks" 64 y_Mt_max ∈ lwg := List.mem_filter.mpr ⟨List.mem_append_right _ (List.mem_of_getElem? (i := 518) (by decide +kernel)), by decide +kernel⟩
theorem k_ml_Bl_70 : Cond.methodLink "PropertyTrie$Blocks" 70 y_Bl_joinBelow ∈ lwg := List.mem_filter.mpr ⟨List.mem_append_right _ (List.mem_of_getElem? (i := 519) (by decide +kernel)), by decide +kernel⟩
theorem k_im_Bl_joinBelow : Cond.instanceMethod y_Bl_joinBelow ∈ lwg := List.mem_filter.mpr ⟨List.mem_append_right _ (List.mem_of_getElem? (i := 521) (by decide +kernel)), by decide +kernel⟩
theorem k_code_Bl_joinBelow : Cond.code y_Bl_joinBelow b_Bl_joinBelow 4 (none) ∈ lwg := List.mem_filter.mpr ⟨List.mem_append_right _ (List.mem_of_getElem? (i := 522) (by decide +kernel)), by decide +kernel⟩
theorem k_ml_Bl_83 : Cond.methodLink "PropertyTrie$Blocks" 83 y_Bl_join ∈ lwg := List.mem_filter.mpr ⟨List.mem_append_right _ (List.mem_of_getElem? (i := 523) (by decide +kernel)), by decide +kernel⟩
theorem k_im_Bl_join : Cond.instanceMethod y_Bl_join ∈ lwg := List.mem_filter.mpr ⟨List.mem_append_right _ (List.mem_of_getElem? (i := 525) (by decide +kernel)), by decide +kernel⟩
theorem k_code_Bl_join : Cond.code y_Bl_join b_Bl_join 4 (none) ∈ lwg := List.mem_filter.mpr ⟨List.mem_append_right _ (List.mem_of_getElem? (i := 526) (by decide +kernel)), by decide +kernel⟩
theorem k_ml_Bl_86 : Cond.methodLink "PropertyTrie$Blocks" 86 y_Bl_isAllAlike ∈ lwg := List.mem_filter.mpr ⟨List.mem_append_right _ (List.mem_of_getElem? (i := 527) (by decide +kernel)), by decide +kernel⟩
theorem k_im_Bl_isAllAlike : Cond.instanceMethod y_Bl_isAllAlike ∈ lwg := List.mem_filter.mpr ⟨List.mem_append_right _ (List.mem_of_getElem? (i := 529) (by decide +kernel)), by decide +kernel⟩
theorem k_code_Bl_isAllAlike : Cond.code y_Bl_isAllAlike b_Bl_isAllAlike 4 ((some .boolean)) ∈ lwg := List.mem_filter.mpr ⟨List.mem_append_right _ (List.mem_of_getElem? (i := 530) (by decide +kernel)), by decide +kernel⟩
theorem k_ml_La_48 : Cond.methodLink "PropertyTrieLaw" 48 y_La_mark ∈ lwg := List.mem_filter.mpr ⟨List.mem_append_right _ (List.mem_of_getElem? (i := 531) (by decide +kernel)), by decide +kernel⟩
theorem k_st_La_mark : Cond.static y_La_mark ∈ lwg := List.mem_filter.mpr ⟨List.mem_append_right _ (List.mem_of_getElem? (i := 532) (by decide +kernel)), by decide +kernel⟩
theorem k_with_La_mark : Cond.codeWith y_La_mark b_La_mark 8 ((some .int)) [(0, 16, 19, 13)] ∈ lwg := List.mem_filter.mpr ⟨List.mem_append_right _ (List.mem_of_getElem? (i := 533) (by decide +kernel)), by decide +kernel⟩
theorem k_ml_La_15 : Cond.methodLink "PropertyTrieLaw" 15 y_Pt_mark ∈ lwg := List.mem_filter.mpr ⟨List.mem_append_right _ (List.mem_of_getElem? (i := 534) (by decide +kernel)), by decide +kernel⟩
theorem k_ml_La_52 : Cond.methodLink "PropertyTrieLaw" 52 y_La_get ∈ lwg := List.mem_filter.mpr ⟨List.mem_append_right _ (List.mem_of_getElem? (i := 535) (by decide +kernel)), by decide +kernel⟩
theorem k_st_La_get : Cond.static y_La_get ∈ lwg := List.mem_filter.mpr ⟨List.mem_append_right _ (List.mem_of_getElem? (i := 536) (by decide +kernel)), by decide +kernel⟩
theorem k_with_La_get : Cond.codeWith y_La_get b_La_get 5 ((some .int)) [(0, 10, 13, 13)] ∈ lwg := List.mem_filter.mpr ⟨List.mem_append_right _ (List.mem_of_getElem? (i := 537) (by decide +kernel)), by decide +kernel⟩
theorem k_ml_La_19 : Cond.methodLink "PropertyTrieLaw" 19 y_Pt_get ∈ lwg := List.mem_filter.mpr ⟨List.mem_append_right _ (List.mem_of_getElem? (i := 538) (by decide +kernel)), by decide +kernel⟩
theorem k_im_Pt_get : Cond.instanceMethod y_Pt_get ∈ lwg := List.mem_filter.mpr ⟨List.mem_append_right _ (List.mem_of_getElem? (i := 539) (by decide +kernel)), by decide +kernel⟩
theorem k_sel_Pt_get : Cond.selects "PropertyTrie" y_Pt_get y_Pt_get ∈ lwg := List.mem_filter.mpr ⟨List.mem_append_right _ (List.mem_of_getElem? (i := 540) (by decide +kernel)), by decide +kernel⟩
theorem k_code_Pt_get : Cond.code y_Pt_get b_Pt_get 3 ((some .int)) ∈ lwg := List.mem_filter.mpr ⟨List.mem_append_right _ (List.mem_of_getElem? (i := 541) (by decide +kernel)), by decide +kernel⟩
theorem k_ml_Pt_41 : Cond.methodLink "PropertyTrie" 41 y_Pt_checkPoint ∈ lwg := List.mem_filter.mpr ⟨List.mem_append_right _ (List.mem_of_getElem? (i := 542) (by decide +kernel)), by decide +kernel⟩
theorem k_st_Pt_checkPoint : Cond.static y_Pt_checkPoint ∈ lwg := List.mem_filter.mpr ⟨List.mem_append_right _ (List.mem_of_getElem? (i := 543) (by decide +kernel)), by decide +kernel⟩
theorem k_code_Pt_checkPoint : Cond.code y_Pt_checkPoint b_Pt_checkPoint 1 (none) ∈ lwg := List.mem_filter.mpr ⟨List.mem_append_right _ (List.mem_of_getElem? (i := 544) (by decide +kernel)), by decide +kernel⟩
theorem k_str_Pt_73 : Cond.stringRef "PropertyTrie" 73 "a point is 0 .. 1114111" ∈ lw_tbl := List.mem_append_right _ (List.mem_of_getElem? (i := 545) (by decide +kernel))
theorem k_ml_Pt_44 : Cond.methodLink "PropertyTrie" 44 y_Pt_valueAt ∈ lwg := List.mem_filter.mpr ⟨List.mem_append_right _ (List.mem_of_getElem? (i := 546) (by decide +kernel)), by decide +kernel⟩
theorem k_im_Pt_valueAt : Cond.instanceMethod y_Pt_valueAt ∈ lwg := List.mem_filter.mpr ⟨List.mem_append_right _ (List.mem_of_getElem? (i := 548) (by decide +kernel)), by decide +kernel⟩
theorem k_code_Pt_valueAt : Cond.code y_Pt_valueAt b_Pt_valueAt 3 ((some .int)) ∈ lwg := List.mem_filter.mpr ⟨List.mem_append_right _ (List.mem_of_getElem? (i := 549) (by decide +kernel)), by decide +kernel⟩
theorem k_ml_Pt_68 : Cond.methodLink "PropertyTrie" 68 y_Rc_value ∈ lwg := List.mem_filter.mpr ⟨List.mem_append_right _ (List.mem_of_getElem? (i := 550) (by decide +kernel)), by decide +kernel⟩
theorem k_im_Rc_value : Cond.instanceMethod y_Rc_value ∈ lwg := List.mem_filter.mpr ⟨List.mem_append_right _ (List.mem_of_getElem? (i := 551) (by decide +kernel)), by decide +kernel⟩
theorem k_sel_Rc_value : Cond.selects "PropertyTrie$Records" y_Rc_value y_Rc_value ∈ lwg := List.mem_filter.mpr ⟨List.mem_append_right _ (List.mem_of_getElem? (i := 552) (by decide +kernel)), by decide +kernel⟩
theorem k_code_Rc_value : Cond.code y_Rc_value b_Rc_value 3 ((some .int)) ∈ lwg := List.mem_filter.mpr ⟨List.mem_append_right _ (List.mem_of_getElem? (i := 553) (by decide +kernel)), by decide +kernel⟩
theorem k_ml_La_56 : Cond.methodLink "PropertyTrieLaw" 56 y_La_change ∈ lwg := List.mem_filter.mpr ⟨List.mem_append_right _ (List.mem_of_getElem? (i := 554) (by decide +kernel)), by decide +kernel⟩
theorem k_st_La_change : Cond.static y_La_change ∈ lwg := List.mem_filter.mpr ⟨List.mem_append_right _ (List.mem_of_getElem? (i := 555) (by decide +kernel)), by decide +kernel⟩
theorem k_with_La_change : Cond.codeWith y_La_change b_La_change 5 ((some .int)) [(0, 10, 13, 13)] ∈ lwg := List.mem_filter.mpr ⟨List.mem_append_right _ (List.mem_of_getElem? (i := 556) (by decide +kernel)), by decide +kernel⟩
theorem k_ml_La_23 : Cond.methodLink "PropertyTrieLaw" 23 y_Pt_change ∈ lwg := List.mem_filter.mpr ⟨List.mem_append_right _ (List.mem_of_getElem? (i := 557) (by decide +kernel)), by decide +kernel⟩
theorem k_im_Pt_change : Cond.instanceMethod y_Pt_change ∈ lwg := List.mem_filter.mpr ⟨List.mem_append_right _ (List.mem_of_getElem? (i := 558) (by decide +kernel)), by decide +kernel⟩
theorem k_sel_Pt_change : Cond.selects "PropertyTrie" y_Pt_change y_Pt_change ∈ lwg := List.mem_filter.mpr ⟨List.mem_append_right _ (List.mem_of_getElem? (i := 559) (by decide +kernel)), by decide +kernel⟩
theorem k_code_Pt_change : Cond.code y_Pt_change b_Pt_change 5 ((some .int)) ∈ lwg := List.mem_filter.mpr ⟨List.mem_append_right _ (List.mem_of_getElem? (i := 560) (by decide +kernel)), by decide +kernel⟩
theorem k_ml_La_59 : Cond.methodLink "PropertyTrieLaw" 59 y_La_alike ∈ lwg := List.mem_filter.mpr ⟨List.mem_append_right _ (List.mem_of_getElem? (i := 561) (by decide +kernel)), by decide +kernel⟩
theorem k_st_La_alike : Cond.static y_La_alike ∈ lwg := List.mem_filter.mpr ⟨List.mem_append_right _ (List.mem_of_getElem? (i := 562) (by decide +kernel)), by decide +kernel⟩
theorem k_with_La_alike : Cond.codeWith y_La_alike b_La_alike 5 ((some .int)) [(0, 17, 20, 13)] ∈ lwg := List.mem_filter.mpr ⟨List.mem_append_right _ (List.mem_of_getElem? (i := 563) (by decide +kernel)), by decide +kernel⟩
theorem k_ml_La_26 : Cond.methodLink "PropertyTrieLaw" 26 y_Pt_alike ∈ lwg := List.mem_filter.mpr ⟨List.mem_append_right _ (List.mem_of_getElem? (i := 564) (by decide +kernel)), by decide +kernel⟩
theorem k_im_Pt_alike : Cond.instanceMethod y_Pt_alike ∈ lwg := List.mem_filter.mpr ⟨List.mem_append_right _ (List.mem_of_getElem? (i := 565) (by decide +kernel)), by decide +kernel⟩
theorem k_sel_Pt_alike : Cond.selects "PropertyTrie" y_Pt_alike y_Pt_alike ∈ lwg := List.mem_filter.mpr ⟨List.mem_append_right _ (List.mem_of_getElem? (i := 566) (by decide +kernel)), by decide +kernel⟩
theorem k_code_Pt_alike : Cond.code y_Pt_alike b_Pt_alike 3 ((some .boolean)) ∈ lwg := List.mem_filter.mpr ⟨List.mem_append_right _ (List.mem_of_getElem? (i := 567) (by decide +kernel)), by decide +kernel⟩
theorem k_ml_La_62 : Cond.methodLink "PropertyTrieLaw" 62 y_La_hash ∈ lwg := List.mem_filter.mpr ⟨List.mem_append_right _ (List.mem_of_getElem? (i := 568) (by decide +kernel)), by decide +kernel⟩
theorem k_st_La_hash : Cond.static y_La_hash ∈ lwg := List.mem_filter.mpr ⟨List.mem_append_right _ (List.mem_of_getElem? (i := 569) (by decide +kernel)), by decide +kernel⟩
theorem k_with_La_hash : Cond.codeWith y_La_hash b_La_hash 6 ((some .int)) [(0, 12, 15, 13)] ∈ lwg := List.mem_filter.mpr ⟨List.mem_append_right _ (List.mem_of_getElem? (i := 570) (by decide +kernel)), by decide +kernel⟩
theorem k_ml_La_30 : Cond.methodLink "PropertyTrieLaw" 30 y_Pt_hash ∈ lwg := List.mem_filter.mpr ⟨List.mem_append_right _ (List.mem_of_getElem? (i := 571) (by decide +kernel)), by decide +kernel⟩
theorem k_im_Pt_hash : Cond.instanceMethod y_Pt_hash ∈ lwg := List.mem_filter.mpr ⟨List.mem_append_right _ (List.mem_of_getElem? (i := 572) (by decide +kernel)), by decide +kernel⟩
theorem k_sel_Pt_hash : Cond.selects "PropertyTrie" y_Pt_hash y_Pt_hash ∈ lwg := List.mem_filter.mpr ⟨List.mem_append_right _ (List.mem_of_getElem? (i := 573) (by decide +kernel)), by decide +kernel⟩
theorem k_code_Pt_hash : Cond.code y_Pt_hash b_Pt_hash 8 ((some .int)) ∈ lwg := List.mem_filter.mpr ⟨List.mem_append_right _ (List.mem_of_getElem? (i := 574) (by decide +kernel)), by decide +kernel⟩
theorem k_ml_Pt_62 : Cond.methodLink "PropertyTrie" 62 y_Pt_checkLength ∈ lwg := List.mem_filter.mpr ⟨List.mem_append_right _ (List.mem_of_getElem? (i := 575) (by decide +kernel)), by decide +kernel⟩
theorem k_st_Pt_checkLength : Cond.static y_Pt_checkLength ∈ lwg := List.mem_filter.mpr ⟨List.mem_append_right _ (List.mem_of_getElem? (i := 576) (by decide +kernel)), by decide +kernel⟩
theorem k_code_Pt_checkLength : Cond.code y_Pt_checkLength b_Pt_checkLength 1 (none) ∈ lwg := List.mem_filter.mpr ⟨List.mem_append_right _ (List.mem_of_getElem? (i := 577) (by decide +kernel)), by decide +kernel⟩
theorem k_str_Pt_82 : Cond.stringRef "PropertyTrie" 82 "a hash is over at most 4000 points" ∈ lw_tbl := List.mem_append_right _ (List.mem_of_getElem? (i := 578) (by decide +kernel))
theorem k_cl_La_35 : Cond.classLink "PropertyTrieLaw" 35 "PropertyTrieModel" ∈ lwg := List.mem_filter.mpr ⟨List.mem_append_right _ (List.mem_of_getElem? (i := 579) (by decide +kernel)), by decide +kernel⟩
theorem k_in_Mo : Cond.instantiable "PropertyTrieModel" 4 ∈ lwg := List.mem_filter.mpr ⟨List.mem_append_right _ (List.mem_of_getElem? (i := 580) (by decide +kernel)), by decide +kernel⟩
theorem k_ml_La_37 : Cond.methodLink "PropertyTrieLaw" 37 y_Mo_init ∈ lwg := List.mem_filter.mpr ⟨List.mem_append_right _ (List.mem_of_getElem? (i := 581) (by decide +kernel)), by decide +kernel⟩
theorem k_im_Mo_init : Cond.instanceMethod y_Mo_init ∈ lwg := List.mem_filter.mpr ⟨List.mem_append_right _ (List.mem_of_getElem? (i := 582) (by decide +kernel)), by decide +kernel⟩
theorem k_code_Mo_init : Cond.code y_Mo_init b_Mo_init 1 (none) ∈ lwg := List.mem_filter.mpr ⟨List.mem_append_right _ (List.mem_of_getElem? (i := 583) (by decide +kernel)), by decide +kernel⟩
theorem k_ml_Mo_1 : Cond.methodLink "PropertyTrieModel" 1 y_Ob_init ∈ lwg := List.mem_filter.mpr ⟨List.mem_append_right _ (List.mem_of_getElem? (i := 584) (by decide +kernel)), by decide +kernel⟩
theorem k_cst_Mo_17 : Cond.constant "PropertyTrieModel" 17 (72000) ∈ lwg := List.mem_filter.mpr ⟨List.mem_append_right _ (List.mem_of_getElem? (i := 585) (by decide +kernel)), by decide +kernel⟩
theorem k_fl_Mo_21 : Cond.fieldLink "PropertyTrieModel" 21 "PropertyTrieModel" "failed" "I" ∈ lwg := List.mem_filter.mpr ⟨List.mem_append_right _ (List.mem_of_getElem? (i := 586) (by decide +kernel)), by decide +kernel⟩
theorem k_fl_Mo_7 : Cond.fieldLink "PropertyTrieModel" 7 "PropertyTrieModel" "count" "I" ∈ lwg := List.mem_filter.mpr ⟨List.mem_append_right _ (List.mem_of_getElem? (i := 587) (by decide +kernel)), by decide +kernel⟩
theorem k_fl_Mo_13 : Cond.fieldLink "PropertyTrieModel" 13 "PropertyTrieModel" "starts" "[I" ∈ lwg := List.mem_filter.mpr ⟨List.mem_append_right _ (List.mem_of_getElem? (i := 588) (by decide +kernel)), by decide +kernel⟩
theorem k_fl_Mo_18 : Cond.fieldLink "PropertyTrieModel" 18 "PropertyTrieModel" "fields" "[I" ∈ lwg := List.mem_filter.mpr ⟨List.mem_append_right _ (List.mem_of_getElem? (i := 589) (by decide +kernel)), by decide +kernel⟩
theorem k_ml_La_44 : Cond.methodLink "PropertyTrieLaw" 44 y_Mo_thrown ∈ lwg := List.mem_filter.mpr ⟨List.mem_append_right _ (List.mem_of_getElem? (i := 599) (by decide +kernel)), by decide +kernel⟩
theorem k_im_Mo_thrown : Cond.instanceMethod y_Mo_thrown ∈ lwg := List.mem_filter.mpr ⟨List.mem_append_right _ (List.mem_of_getElem? (i := 600) (by decide +kernel)), by decide +kernel⟩
theorem k_sel_Mo_thrown : Cond.selects "PropertyTrieModel" y_Mo_thrown y_Mo_thrown ∈ lwg := List.mem_filter.mpr ⟨List.mem_append_right _ (List.mem_of_getElem? (i := 601) (by decide +kernel)), by decide +kernel⟩
theorem k_code_Mo_thrown : Cond.code y_Mo_thrown b_Mo_thrown 1 ((some .int)) ∈ lwg := List.mem_filter.mpr ⟨List.mem_append_right _ (List.mem_of_getElem? (i := 602) (by decide +kernel)), by decide +kernel⟩
theorem k_ml_La_43 : Cond.methodLink "PropertyTrieLaw" 43 y_Mo_set ∈ lwg := List.mem_filter.mpr ⟨List.mem_append_right _ (List.mem_of_getElem? (i := 603) (by decide +kernel)), by decide +kernel⟩
theorem k_im_Mo_set : Cond.instanceMethod y_Mo_set ∈ lwg := List.mem_filter.mpr ⟨List.mem_append_right _ (List.mem_of_getElem? (i := 604) (by decide +kernel)), by decide +kernel⟩
theorem k_sel_Mo_set : Cond.selects "PropertyTrieModel" y_Mo_set y_Mo_set ∈ lwg := List.mem_filter.mpr ⟨List.mem_append_right _ (List.mem_of_getElem? (i := 605) (by decide +kernel)), by decide +kernel⟩
theorem k_code_Mo_set : Cond.code y_Mo_set b_Mo_set 5 ((some .int)) ∈ lwg := List.mem_filter.mpr ⟨List.mem_append_right _ (List.mem_of_getElem? (i := 606) (by decide +kernel)), by decide +kernel⟩
theorem k_ml_Mo_29 : Cond.methodLink "PropertyTrieModel" 29 y_Mo_mark ∈ lwg := List.mem_filter.mpr ⟨List.mem_append_right _ (List.mem_of_getElem? (i := 607) (by decide +kernel)), by decide +kernel⟩
theorem k_im_Mo_mark : Cond.instanceMethod y_Mo_mark ∈ lwg := List.mem_filter.mpr ⟨List.mem_append_right _ (List.mem_of_getElem? (i := 608) (by decide +kernel)), by decide +kernel⟩
theorem k_sel_Mo_mark : Cond.selects "PropertyTrieModel" y_Mo_mark y_Mo_mark ∈ lwg := List.mem_filter.mpr ⟨List.mem_append_right _ (List.mem_of_getElem? (i := 609) (by decide +kernel)), by decide +kernel⟩
theorem k_code_Mo_mark : Cond.code y_Mo_mark b_Mo_mark 7 ((some .int)) ∈ lwg := List.mem_filter.mpr ⟨List.mem_append_right _ (List.mem_of_getElem? (i := 610) (by decide +kernel)), by decide +kernel⟩
theorem k_ml_Mo_33 : Cond.methodLink "PropertyTrieModel" 33 y_Mo_out ∈ lwg := List.mem_filter.mpr ⟨List.mem_append_right _ (List.mem_of_getElem? (i := 611) (by decide +kernel)), by decide +kernel⟩
theorem k_im_Mo_out : Cond.instanceMethod y_Mo_out ∈ lwg := List.mem_filter.mpr ⟨List.mem_append_right _ (List.mem_of_getElem? (i := 613) (by decide +kernel)), by decide +kernel⟩
theorem k_code_Mo_out : Cond.code y_Mo_out b_Mo_out 2 ((some .boolean)) ∈ lwg := List.mem_filter.mpr ⟨List.mem_append_right _ (List.mem_of_getElem? (i := 614) (by decide +kernel)), by decide +kernel⟩
theorem k_cst_Mo_24 : Cond.constant "PropertyTrieModel" 24 (1114111) ∈ lwg := List.mem_filter.mpr ⟨List.mem_append_right _ (List.mem_of_getElem? (i := 615) (by decide +kernel)), by decide +kernel⟩
theorem k_ml_Mo_37 : Cond.methodLink "PropertyTrieModel" 37 y_Mo_fail ∈ lwg := List.mem_filter.mpr ⟨List.mem_append_right _ (List.mem_of_getElem? (i := 616) (by decide +kernel)), by decide +kernel⟩
theorem k_im_Mo_fail : Cond.instanceMethod y_Mo_fail ∈ lwg := List.mem_filter.mpr ⟨List.mem_append_right _ (List.mem_of_getElem? (i := 618) (by decide +kernel)), by decide +kernel⟩
theorem k_code_Mo_fail : Cond.code y_Mo_fail b_Mo_fail 2 ((some .int)) ∈ lwg := List.mem_filter.mpr ⟨List.mem_append_right _ (List.mem_of_getElem? (i := 619) (by decide +kernel)), by decide +kernel⟩
theorem k_ml_Mo_40 : Cond.methodLink "PropertyTrieModel" 40 y_Mo_cut ∈ lwg := List.mem_filter.mpr ⟨List.mem_append_right _ (List.mem_of_getElem? (i := 620) (by decide +kernel)), by decide +kernel⟩
theorem k_im_Mo_cut : Cond.instanceMethod y_Mo_cut ∈ lwg := List.mem_filter.mpr ⟨List.mem_append_right _ (List.mem_of_getElem? (i := 622) (by decide +kernel)), by decide +kernel⟩
theorem k_code_Mo_cut : Cond.code y_Mo_cut b_Mo_cut 5 (none) ∈ lwg := List.mem_filter.mpr ⟨List.mem_append_right _ (List.mem_of_getElem? (i := 623) (by decide +kernel)), by decide +kernel⟩
theorem k_ml_Mo_25 : Cond.methodLink "PropertyTrieModel" 25 y_Mo_at ∈ lwg := List.mem_filter.mpr ⟨List.mem_append_right _ (List.mem_of_getElem? (i := 624) (by decide +kernel)), by decide +kernel⟩
theorem k_im_Mo_at : Cond.instanceMethod y_Mo_at ∈ lwg := List.mem_filter.mpr ⟨List.mem_append_right _ (List.mem_of_getElem? (i := 626) (by decide +kernel)), by decide +kernel⟩
theorem k_code_Mo_at : Cond.code y_Mo_at b_Mo_at 5 ((some .int)) ∈ lwg := List.mem_filter.mpr ⟨List.mem_append_right _ (List.mem_of_getElem? (i := 627) (by decide +kernel)), by decide +kernel⟩
theorem k_ml_La_51 : Cond.methodLink "PropertyTrieLaw" 51 y_Mo_mark ∈ lwg := List.mem_filter.mpr ⟨List.mem_append_right _ (List.mem_of_getElem? (i := 628) (by decide +kernel)), by decide +kernel⟩
theorem k_ml_La_55 : Cond.methodLink "PropertyTrieLaw" 55 y_Mo_get ∈ lwg := List.mem_filter.mpr ⟨List.mem_append_right _ (List.mem_of_getElem? (i := 629) (by decide +kernel)), by decide +kernel⟩
theorem k_im_Mo_get : Cond.instanceMethod y_Mo_get ∈ lwg := List.mem_filter.mpr ⟨List.mem_append_right _ (List.mem_of_getElem? (i := 630) (by decide +kernel)), by decide +kernel⟩
theorem k_sel_Mo_get : Cond.selects "PropertyTrieModel" y_Mo_get y_Mo_get ∈ lwg := List.mem_filter.mpr ⟨List.mem_append_right _ (List.mem_of_getElem? (i := 631) (by decide +kernel)), by decide +kernel⟩
theorem k_code_Mo_get : Cond.code y_Mo_get b_Mo_get 3 ((some .int)) ∈ lwg := List.mem_filter.mpr ⟨List.mem_append_right _ (List.mem_of_getElem? (i := 632) (by decide +kernel)), by decide +kernel⟩
theorem k_ml_La_58 : Cond.methodLink "PropertyTrieLaw" 58 y_Mo_change ∈ lwg := List.mem_filter.mpr ⟨List.mem_append_right _ (List.mem_of_getElem? (i := 633) (by decide +kernel)), by decide +kernel⟩
theorem k_im_Mo_change : Cond.instanceMethod y_Mo_change ∈ lwg := List.mem_filter.mpr ⟨List.mem_append_right _ (List.mem_of_getElem? (i := 634) (by decide +kernel)), by decide +kernel⟩
theorem k_sel_Mo_change : Cond.selects "PropertyTrieModel" y_Mo_change y_Mo_change ∈ lwg := List.mem_filter.mpr ⟨List.mem_append_right _ (List.mem_of_getElem? (i := 635) (by decide +kernel)), by decide +kernel⟩
theorem k_code_Mo_change : Cond.code y_Mo_change b_Mo_change 5 ((some .int)) ∈ lwg := List.mem_filter.mpr ⟨List.mem_append_right _ (List.mem_of_getElem? (i := 636) (by decide +kernel)), by decide +kernel⟩
theorem k_ml_La_61 : Cond.methodLink "PropertyTrieLaw" 61 y_Mo_alike ∈ lwg := List.mem_filter.mpr ⟨List.mem_append_right _ (List.mem_of_getElem? (i := 637) (by decide +kernel)), by decide +kernel⟩
theorem k_im_Mo_alike : Cond.instanceMethod y_Mo_alike ∈ lwg := List.mem_filter.mpr ⟨List.mem_append_right _ (List.mem_of_getElem? (i := 638) (by decide +kernel)), by decide +kernel⟩
theorem k_sel_Mo_alike : Cond.selects "PropertyTrieModel" y_Mo_alike y_Mo_alike ∈ lwg := List.mem_filter.mpr ⟨List.mem_append_right _ (List.mem_of_getElem? (i := 639) (by decide +kernel)), by decide +kernel⟩
theorem k_code_Mo_alike : Cond.code y_Mo_alike b_Mo_alike 4 ((some .boolean)) ∈ lwg := List.mem_filter.mpr ⟨List.mem_append_right _ (List.mem_of_getElem? (i := 640) (by decide +kernel)), by decide +kernel⟩
theorem k_ml_La_65 : Cond.methodLink "PropertyTrieLaw" 65 y_Mo_hash ∈ lwg := List.mem_filter.mpr ⟨List.mem_append_right _ (List.mem_of_getElem? (i := 641) (by decide +kernel)), by decide +kernel⟩
theorem k_im_Mo_hash : Cond.instanceMethod y_Mo_hash ∈ lwg := List.mem_filter.mpr ⟨List.mem_append_right _ (List.mem_of_getElem? (i := 642) (by decide +kernel)), by decide +kernel⟩
theorem k_sel_Mo_hash : Cond.selects "PropertyTrieModel" y_Mo_hash y_Mo_hash ∈ lwg := List.mem_filter.mpr ⟨List.mem_append_right _ (List.mem_of_getElem? (i := 643) (by decide +kernel)), by decide +kernel⟩
theorem k_code_Mo_hash : Cond.code y_Mo_hash b_Mo_hash 6 ((some .int)) ∈ lwg := List.mem_filter.mpr ⟨List.mem_append_right _ (List.mem_of_getElem? (i := 644) (by decide +kernel)), by decide +kernel⟩
theorem k_ml_La_69 : Cond.methodLink "PropertyTrieLaw" 69 y_Mo_clear ∈ lwg := List.mem_filter.mpr ⟨List.mem_append_right _ (List.mem_of_getElem? (i := 645) (by decide +kernel)), by decide +kernel⟩
theorem k_im_Mo_clear : Cond.instanceMethod y_Mo_clear ∈ lwg := List.mem_filter.mpr ⟨List.mem_append_right _ (List.mem_of_getElem? (i := 646) (by decide +kernel)), by decide +kernel⟩
theorem k_sel_Mo_clear : Cond.selects "PropertyTrieModel" y_Mo_clear y_Mo_clear ∈ lwg := List.mem_filter.mpr ⟨List.mem_append_right _ (List.mem_of_getElem? (i := 647) (by decide +kernel)), by decide +kernel⟩
theorem k_code_Mo_clear : Cond.code y_Mo_clear b_Mo_clear 5 ((some .int)) ∈ lwg := List.mem_filter.mpr ⟨List.mem_append_right _ (List.mem_of_getElem? (i := 648) (by decide +kernel)), by decide +kernel⟩
theorem k_ac_long : Cond.arrayClass .long ∈ lwg := List.mem_filter.mpr ⟨List.mem_append_right _ (List.mem_of_getElem? (i := 649) (by decide +kernel)), by decide +kernel⟩
theorem k_sel_Rc_keepWanted : Cond.selects "PropertyTrie$Records" y_Rc_keepWanted y_Rc_keepWanted ∈ lwg := List.mem_filter.mpr ⟨List.mem_append_left _ (by decide +kernel), by decide +kernel⟩
theorem k_sel_Bl_find : Cond.selects "PropertyTrie$Blocks" y_Bl_find y_Bl_find ∈ lwg := List.mem_filter.mpr ⟨List.mem_append_left _ (by decide +kernel), by decide +kernel⟩
theorem k_sel_Bl_splitBefore : Cond.selects "PropertyTrie$Blocks" y_Bl_splitBefore y_Bl_splitBefore ∈ lwg := List.mem_filter.mpr ⟨List.mem_append_left _ (by decide +kernel), by decide +kernel⟩
theorem k_sel_Bl_split : Cond.selects "PropertyTrie$Blocks" y_Bl_split y_Bl_split ∈ lwg := List.mem_filter.mpr ⟨List.mem_append_left _ (by decide +kernel), by decide +kernel⟩
theorem k_sel_Bl_replace : Cond.selects "PropertyTrie$Blocks" y_Bl_replace y_Bl_replace ∈ lwg := List.mem_filter.mpr ⟨List.mem_append_left _ (by decide +kernel), by decide +kernel⟩
theorem k_sel_Rc_findWanted : Cond.selects "PropertyTrie$Records" y_Rc_findWanted y_Rc_findWanted ∈ lwg := List.mem_filter.mpr ⟨List.mem_append_left _ (by decide +kernel), by decide +kernel⟩
theorem k_sel_Rc_isWanted : Cond.selects "PropertyTrie$Records" y_Rc_isWanted y_Rc_isWanted ∈ lwg := List.mem_filter.mpr ⟨List.mem_append_left _ (by decide +kernel), by decide +kernel⟩
theorem k_sel_Rc_drop : Cond.selects "PropertyTrie$Records" y_Rc_drop y_Rc_drop ∈ lwg := List.mem_filter.mpr ⟨List.mem_append_left _ (by decide +kernel), by decide +kernel⟩
theorem k_sel_Bl_joinBelow : Cond.selects "PropertyTrie$Blocks" y_Bl_joinBelow y_Bl_joinBelow ∈ lwg := List.mem_filter.mpr ⟨List.mem_append_left _ (by decide +kernel), by decide +kernel⟩
theorem k_sel_Bl_join : Cond.selects "PropertyTrie$Blocks" y_Bl_join y_Bl_join ∈ lwg := List.mem_filter.mpr ⟨List.mem_append_left _ (by decide +kernel), by decide +kernel⟩
theorem k_sel_Bl_isAllAlike : Cond.selects "PropertyTrie$Blocks" y_Bl_isAllAlike y_Bl_isAllAlike ∈ lwg := List.mem_filter.mpr ⟨List.mem_append_left _ (by decide +kernel), by decide +kernel⟩
theorem k_sel_Pt_valueAt : Cond.selects "PropertyTrie" y_Pt_valueAt y_Pt_valueAt ∈ lwg := List.mem_filter.mpr ⟨List.mem_append_left _ (by decide +kernel), by decide +kernel⟩
theorem k_sel_Mo_out : Cond.selects "PropertyTrieModel" y_Mo_out y_Mo_out ∈ lwg := List.mem_filter.mpr ⟨List.mem_append_left _ (by decide +kernel), by decide +kernel⟩
theorem k_sel_Mo_fail : Cond.selects "PropertyTrieModel" y_Mo_fail y_Mo_fail ∈ lwg := List.mem_filter.mpr ⟨List.mem_append_left _ (by decide +kernel), by decide +kernel⟩
theorem k_sel_Mo_cut : Cond.selects "PropertyTrieModel" y_Mo_cut y_Mo_cut ∈ lwg := List.mem_filter.mpr ⟨List.mem_append_left _ (by decide +kernel), by decide +kernel⟩
theorem k_sel_Mo_at : Cond.selects "PropertyTrieModel" y_Mo_at y_Mo_at ∈ lwg := List.mem_filter.mpr ⟨List.mem_append_left _ (by decide +kernel), by decide +kernel⟩
end
section
theorem d_Pt_init_0 : decode b_Pt_init 0 = .ok (.aload_n 0, 1) := by decide +kernel
theorem d_Pt_init_1 : decode b_Pt_init 1 = .ok (.invokespecial 3, 3) := by decide +kernel
theorem d_Pt_init_4 : decode b_Pt_init 4 = .ok (.aload_n 0, 1) := by decide +kernel
theorem d_Pt_init_5 : decode b_Pt_init 5 = .ok (.new 9, 3) := by decide +kernel
theorem d_Pt_init_8 : decode b_Pt_init 8 = .ok (.dup, 1) := by decide +kernel
theorem d_Pt_init_9 : decode b_Pt_init 9 = .ok (.invokespecial 11, 3) := by decide +kernel
theorem d_Pt_init_12 : decode b_Pt_init 12 = .ok (.putfield 12, 3) := by decide +kernel
theorem d_Pt_init_15 : decode b_Pt_init 15 = .ok (.return_, 1) := by decide +kernel
theorem d_Bl_init_0 : decode b_Bl_init 0 = .ok (.aload_n 0, 1) := by decide +kernel
theorem d_Bl_init_1 : decode b_Bl_init 1 = .ok (.invokespecial 5, 3) := by decide +kernel
theorem d_Bl_init_4 : decode b_Bl_init 4 = .ok (.aload_n 0, 1) := by decide +kernel
theorem d_Bl_init_5 : decode b_Bl_init 5 = .ok (.new 11, 3) := by decide +kernel
theorem d_Bl_init_8 : decode b_Bl_init 8 = .ok (.dup, 1) := by decide +kernel
theorem d_Bl_init_9 : decode b_Bl_init 9 = .ok (.invokespecial 13, 3) := by decide +kernel
theorem d_Bl_init_12 : decode b_Bl_init 12 = .ok (.putfield 14, 3) := by decide +kernel
theorem d_Bl_init_15 : decode b_Bl_init 15 = .ok (.aload_n 0, 1) := by decide +kernel
theorem d_Bl_init_16 : decode b_Bl_init 16 = .ok (.ldc 18, 2) := by decide +kernel
theorem d_Bl_init_18 : decode b_Bl_init 18 = .ok (.newarray .int, 2) := by decide +kernel
theorem d_Bl_init_20 : decode b_Bl_init 20 = .ok (.putfield 19, 3) := by decide +kernel
theorem d_Bl_init_23 : decode b_Bl_init 23 = .ok (.aload_n 0, 1) := by decide +kernel
theorem d_Bl_init_24 : decode b_Bl_init 24 = .ok (.sipush 2048, 3) := by decide +kernel
theorem d_Bl_init_27 : decode b_Bl_init 27 = .ok (.newarray .int, 2) := by decide +kernel
theorem d_Bl_init_29 : decode b_Bl_init 29 = .ok (.putfield 23, 3) := by decide +kernel
theorem d_Bl_init_32 : decode b_Bl_init 32 = .ok (.aload_n 0, 1) := by decide +kernel
theorem d_Bl_init_33 : decode b_Bl_init 33 = .ok (.invokevirtual 26, 3) := by decide +kernel
theorem d_Bl_init_36 : decode b_Bl_init 36 = .ok (.return_, 1) := by decide +kernel
theorem d_Rc_init_0 : decode b_Rc_init 0 = .ok (.aload_n 0, 1) := by decide +kernel
theorem d_Rc_init_1 : decode b_Rc_init 1 = .ok (.invokespecial 3, 3) := by decide +kernel
theorem d_Rc_init_4 : decode b_Rc_init 4 = .ok (.aload_n 0, 1) := by decide +kernel
theorem d_Rc_init_5 : decode b_Rc_init 5 = .ok (.sipush 8224, 3) := by decide +kernel
theorem d_Rc_init_8 : decode b_Rc_init 8 = .ok (.newarray .int, 2) := by decide +kernel
theorem d_Rc_init_10 : decode b_Rc_init 10 = .ok (.putfield 11, 3) := by decide +kernel
theorem d_Rc_init_13 : decode b_Rc_init 13 = .ok (.aload_n 0, 1) := by decide +kernel
theorem d_Rc_init_14 : decode b_Rc_init 14 = .ok (.sipush 1028, 3) := by decide +kernel
theorem d_Rc_init_17 : decode b_Rc_init 17 = .ok (.newarray .int, 2) := by decide +kernel
theorem d_Rc_init_19 : decode b_Rc_init 19 = .ok (.putfield 15, 3) := by decide +kernel
theorem d_Rc_init_22 : decode b_Rc_init 22 = .ok (.aload_n 0, 1) := by decide +kernel
theorem d_Rc_init_23 : decode b_Rc_init 23 = .ok (.sipush 1028, 3) := by decide +kernel
theorem d_Rc_init_26 : decode b_Rc_init 26 = .ok (.newarray .int, 2) := by decide +kernel
theorem d_Rc_init_28 : decode b_Rc_init 28 = .ok (.putfield 18, 3) := by decide +kernel
theorem d_Rc_init_31 : decode b_Rc_init 31 = .ok (.aload_n 0, 1) := by decide +kernel
theorem d_Rc_init_32 : decode b_Rc_init 32 = .ok (.sipush 1024, 3) := by decide +kernel
theorem d_Rc_init_35 : decode b_Rc_init 35 = .ok (.newarray .int, 2) := by decide +kernel
theorem d_Rc_init_37 : decode b_Rc_init 37 = .ok (.putfield 21, 3) := by decide +kernel
theorem d_Rc_init_40 : decode b_Rc_init 40 = .ok (.aload_n 0, 1) := by decide +kernel
theorem d_Rc_init_41 : decode b_Rc_init 41 = .ok (.sipush 1028, 3) := by decide +kernel
theorem d_Rc_init_44 : decode b_Rc_init 44 = .ok (.newarray .int, 2) := by decide +kernel
theorem d_Rc_init_46 : decode b_Rc_init 46 = .ok (.putfield 24, 3) := by decide +kernel
theorem d_Rc_init_49 : decode b_Rc_init 49 = .ok (.aload_n 0, 1) := by decide +kernel
theorem d_Rc_init_50 : decode b_Rc_init 50 = .ok (.sipush 1028, 3) := by decide +kernel
theorem d_Rc_init_53 : decode b_Rc_init 53 = .ok (.newarray .int, 2) := by decide +kernel
theorem d_Rc_init_55 : decode b_Rc_init 55 = .ok (.putfield 27, 3) := by decide +kernel
theorem d_Rc_init_58 : decode b_Rc_init 58 = .ok (.aload_n 0, 1) := by decide +kernel
theorem d_Rc_init_59 : decode b_Rc_init 59 = .ok (.bipush 8, 2) := by decide +kernel
theorem d_Rc_init_61 : decode b_Rc_init 61 = .ok (.newarray .int, 2) := by decide +kernel
theorem d_Rc_init_63 : decode b_Rc_init 63 = .ok (.putfield 30, 3) := by decide +kernel
theorem d_Rc_init_66 : decode b_Rc_init 66 = .ok (.aload_n 0, 1) := by decide +kernel
theorem d_Rc_init_67 : decode b_Rc_init 67 = .ok (.invokevirtual 33, 3) := by decide +kernel
theorem d_Rc_init_70 : decode b_Rc_init 70 = .ok (.return_, 1) := by decide +kernel
theorem d_Rc_empty_0 : decode b_Rc_empty 0 = .ok (.aload_n 0, 1) := by decide +kernel
theorem d_Rc_empty_1 : decode b_Rc_empty 1 = .ok (.getfield 21, 3) := by decide +kernel
theorem d_Rc_empty_4 : decode b_Rc_empty 4 = .ok (.iconst (-1), 1) := by decide +kernel
theorem d_Rc_empty_5 : decode b_Rc_empty 5 = .ok (.invokestatic 36, 3) := by decide +kernel
theorem d_Rc_empty_8 : decode b_Rc_empty 8 = .ok (.aload_n 0, 1) := by decide +kernel
theorem d_Rc_empty_9 : decode b_Rc_empty 9 = .ok (.getfield 15, 3) := by decide +kernel
theorem d_Rc_empty_12 : decode b_Rc_empty 12 = .ok (.iconst 0, 1) := by decide +kernel
theorem d_Rc_empty_13 : decode b_Rc_empty 13 = .ok (.invokestatic 36, 3) := by decide +kernel
theorem d_Rc_empty_16 : decode b_Rc_empty 16 = .ok (.iconst 0, 1) := by decide +kernel
theorem d_Rc_empty_17 : decode b_Rc_empty 17 = .ok (.istore_n 1, 1) := by decide +kernel
theorem d_Rc_empty_18 : decode b_Rc_empty 18 = .ok (.iload_n 1, 1) := by decide +kernel
theorem d_Rc_empty_19 : decode b_Rc_empty 19 = .ok (.sipush 1028, 3) := by decide +kernel
theorem d_Rc_empty_22 : decode b_Rc_empty 22 = .ok (.if_icmp .ge 20, 3) := by decide +kernel
theorem d_Rc_empty_25 : decode b_Rc_empty 25 = .ok (.aload_n 0, 1) := by decide +kernel
theorem d_Rc_empty_26 : decode b_Rc_empty 26 = .ok (.getfield 18, 3) := by decide +kernel
theorem d_Rc_empty_29 : decode b_Rc_empty 29 = .ok (.iload_n 1, 1) := by decide +kernel
theorem d_Rc_empty_30 : decode b_Rc_empty 30 = .ok (.sipush 1027, 3) := by decide +kernel
theorem d_Rc_empty_33 : decode b_Rc_empty 33 = .ok (.iload_n 1, 1) := by decide +kernel
theorem d_Rc_empty_34 : decode b_Rc_empty 34 = .ok (.isub, 1) := by decide +kernel
theorem d_Rc_empty_35 : decode b_Rc_empty 35 = .ok (.iastore, 1) := by decide +kernel
theorem d_Rc_empty_36 : decode b_Rc_empty 36 = .ok (.iinc 1 1, 3) := by decide +kernel
theorem d_Rc_empty_39 : decode b_Rc_empty 39 = .ok (.goto (-21), 3) := by decide +kernel
theorem d_Rc_empty_42 : decode b_Rc_empty 42 = .ok (.aload_n 0, 1) := by decide +kernel
theorem d_Rc_empty_43 : decode b_Rc_empty 43 = .ok (.sipush 1028, 3) := by decide +kernel
theorem d_Rc_empty_46 : decode b_Rc_empty 46 = .ok (.putfield 42, 3) := by decide +kernel
theorem d_Rc_empty_49 : decode b_Rc_empty 49 = .ok (.aload_n 0, 1) := by decide +kernel
theorem d_Rc_empty_50 : decode b_Rc_empty 50 = .ok (.getfield 30, 3) := by decide +kernel
theorem d_Rc_empty_53 : decode b_Rc_empty 53 = .ok (.iconst 0, 1) := by decide +kernel
theorem d_Rc_empty_54 : decode b_Rc_empty 54 = .ok (.invokestatic 36, 3) := by decide +kernel
theorem d_Rc_empty_57 : decode b_Rc_empty 57 = .ok (.aload_n 0, 1) := by decide +kernel
theorem d_Rc_empty_58 : decode b_Rc_empty 58 = .ok (.aload_n 0, 1) := by decide +kernel
theorem d_Rc_empty_59 : decode b_Rc_empty 59 = .ok (.aload_n 0, 1) := by decide +kernel
theorem d_Rc_empty_60 : decode b_Rc_empty 60 = .ok (.getfield 30, 3) := by decide +kernel
theorem d_Rc_empty_63 : decode b_Rc_empty 63 = .ok (.iconst 0, 1) := by decide +kernel
theorem d_Rc_empty_64 : decode b_Rc_empty 64 = .ok (.invokestatic 46, 3) := by decide +kernel
theorem d_Rc_empty_67 : decode b_Rc_empty 67 = .ok (.invokevirtual 50, 3) := by decide +kernel
theorem d_Rc_empty_70 : decode b_Rc_empty 70 = .ok (.iconst 1, 1) := by decide +kernel
theorem d_Rc_empty_71 : decode b_Rc_empty 71 = .ok (.invokevirtual 54, 3) := by decide +kernel
theorem d_Rc_empty_74 : decode b_Rc_empty 74 = .ok (.return_, 1) := by decide +kernel
theorem d_Ar_fill2_0 : decode b_Ar_fill2 0 = .ok (.iconst 0, 1) := by decide +kernel
theorem d_Ar_fill2_1 : decode b_Ar_fill2 1 = .ok (.istore_n 2, 1) := by decide +kernel
theorem d_Ar_fill2_2 : decode b_Ar_fill2 2 = .ok (.aload_n 0, 1) := by decide +kernel
theorem d_Ar_fill2_3 : decode b_Ar_fill2 3 = .ok (.arraylength, 1) := by decide +kernel
theorem d_Ar_fill2_4 : decode b_Ar_fill2 4 = .ok (.istore_n 3, 1) := by decide +kernel
theorem d_Ar_fill2_5 : decode b_Ar_fill2 5 = .ok (.iload_n 2, 1) := by decide +kernel
theorem d_Ar_fill2_6 : decode b_Ar_fill2 6 = .ok (.iload_n 3, 1) := by decide +kernel
theorem d_Ar_fill2_7 : decode b_Ar_fill2 7 = .ok (.if_icmp .ge 13, 3) := by decide +kernel
theorem d_Ar_fill2_10 : decode b_Ar_fill2 10 = .ok (.aload_n 0, 1) := by decide +kernel
theorem d_Ar_fill2_11 : decode b_Ar_fill2 11 = .ok (.iload_n 2, 1) := by decide +kernel
theorem d_Ar_fill2_12 : decode b_Ar_fill2 12 = .ok (.iload_n 1, 1) := by decide +kernel
theorem d_Ar_fill2_13 : decode b_Ar_fill2 13 = .ok (.iastore, 1) := by decide +kernel
theorem d_Ar_fill2_14 : decode b_Ar_fill2 14 = .ok (.iinc 2 1, 3) := by decide +kernel
theorem d_Ar_fill2_17 : decode b_Ar_fill2 17 = .ok (.goto (-12), 3) := by decide +kernel
theorem d_Ar_fill2_20 : decode b_Ar_fill2 20 = .ok (.return_, 1) := by decide +kernel
theorem d_Rc_chainOf_0 : decode b_Rc_chainOf 0 = .ok (.iconst 0, 1) := by decide +kernel
theorem d_Rc_chainOf_1 : decode b_Rc_chainOf 1 = .ok (.istore_n 2, 1) := by decide +kernel
theorem d_Rc_chainOf_2 : decode b_Rc_chainOf 2 = .ok (.iload_n 1, 1) := by decide +kernel
theorem d_Rc_chainOf_3 : decode b_Rc_chainOf 3 = .ok (.istore_n 3, 1) := by decide +kernel
theorem d_Rc_chainOf_4 : decode b_Rc_chainOf 4 = .ok (.iload_n 3, 1) := by decide +kernel
theorem d_Rc_chainOf_5 : decode b_Rc_chainOf 5 = .ok (.iload_n 1, 1) := by decide +kernel
theorem d_Rc_chainOf_6 : decode b_Rc_chainOf 6 = .ok (.bipush 8, 2) := by decide +kernel
theorem d_Rc_chainOf_8 : decode b_Rc_chainOf 8 = .ok (.iadd, 1) := by decide +kernel
theorem d_Rc_chainOf_9 : decode b_Rc_chainOf 9 = .ok (.if_icmp .ge 18, 3) := by decide +kernel
theorem d_Rc_chainOf_12 : decode b_Rc_chainOf 12 = .ok (.bipush 31, 2) := by decide +kernel
theorem d_Rc_chainOf_14 : decode b_Rc_chainOf 14 = .ok (.iload_n 2, 1) := by decide +kernel
theorem d_Rc_chainOf_15 : decode b_Rc_chainOf 15 = .ok (.imul, 1) := by decide +kernel
theorem d_Rc_chainOf_16 : decode b_Rc_chainOf 16 = .ok (.aload_n 0, 1) := by decide +kernel
theorem d_Rc_chainOf_17 : decode b_Rc_chainOf 17 = .ok (.iload_n 3, 1) := by decide +kernel
theorem d_Rc_chainOf_18 : decode b_Rc_chainOf 18 = .ok (.iaload, 1) := by decide +kernel
theorem d_Rc_chainOf_19 : decode b_Rc_chainOf 19 = .ok (.iadd, 1) := by decide +kernel
theorem d_Rc_chainOf_20 : decode b_Rc_chainOf 20 = .ok (.istore_n 2, 1) := by decide +kernel
theorem d_Rc_chainOf_21 : decode b_Rc_chainOf 21 = .ok (.iinc 3 1, 3) := by decide +kernel
theorem d_Rc_chainOf_24 : decode b_Rc_chainOf 24 = .ok (.goto (-20), 3) := by decide +kernel
theorem d_Rc_chainOf_27 : decode b_Rc_chainOf 27 = .ok (.iload_n 2, 1) := by decide +kernel
theorem d_Rc_chainOf_28 : decode b_Rc_chainOf 28 = .ok (.iload_n 2, 1) := by decide +kernel
theorem d_Rc_chainOf_29 : decode b_Rc_chainOf 29 = .ok (.bipush 20, 2) := by decide +kernel
theorem d_Rc_chainOf_31 : decode b_Rc_chainOf 31 = .ok (.iushr, 1) := by decide +kernel
theorem d_Rc_chainOf_32 : decode b_Rc_chainOf 32 = .ok (.iload_n 2, 1) := by decide +kernel
theorem d_Rc_chainOf_33 : decode b_Rc_chainOf 33 = .ok (.bipush 10, 2) := by decide +kernel
theorem d_Rc_chainOf_35 : decode b_Rc_chainOf 35 = .ok (.iushr, 1) := by decide +kernel
theorem d_Rc_chainOf_36 : decode b_Rc_chainOf 36 = .ok (.ixor, 1) := by decide +kernel
theorem d_Rc_chainOf_37 : decode b_Rc_chainOf 37 = .ok (.ixor, 1) := by decide +kernel
theorem d_Rc_chainOf_38 : decode b_Rc_chainOf 38 = .ok (.istore_n 2, 1) := by decide +kernel
theorem d_Rc_chainOf_39 : decode b_Rc_chainOf 39 = .ok (.iload_n 2, 1) := by decide +kernel
theorem d_Rc_chainOf_40 : decode b_Rc_chainOf 40 = .ok (.sipush 1023, 3) := by decide +kernel
theorem d_Rc_chainOf_43 : decode b_Rc_chainOf 43 = .ok (.iand, 1) := by decide +kernel
theorem d_Rc_chainOf_44 : decode b_Rc_chainOf 44 = .ok (.ireturn, 1) := by decide +kernel
theorem d_Rc_keepWanted_0 : decode b_Rc_keepWanted 0 = .ok (.aload_n 0, 1) := by decide +kernel
theorem d_Rc_keepWanted_1 : decode b_Rc_keepWanted 1 = .ok (.dup, 1) := by decide +kernel
theorem d_Rc_keepWanted_2 : decode b_Rc_keepWanted 2 = .ok (.getfield 42, 3) := by decide +kernel
theorem d_Rc_keepWanted_5 : decode b_Rc_keepWanted 5 = .ok (.iconst 1, 1) := by decide +kernel
theorem d_Rc_keepWanted_6 : decode b_Rc_keepWanted 6 = .ok (.isub, 1) := by decide +kernel
theorem d_Rc_keepWanted_7 : decode b_Rc_keepWanted 7 = .ok (.putfield 42, 3) := by decide +kernel
theorem d_Rc_keepWanted_10 : decode b_Rc_keepWanted 10 = .ok (.aload_n 0, 1) := by decide +kernel
theorem d_Rc_keepWanted_11 : decode b_Rc_keepWanted 11 = .ok (.getfield 18, 3) := by decide +kernel
theorem d_Rc_keepWanted_14 : decode b_Rc_keepWanted 14 = .ok (.aload_n 0, 1) := by decide +kernel
theorem d_Rc_keepWanted_15 : decode b_Rc_keepWanted 15 = .ok (.getfield 42, 3) := by decide +kernel
theorem d_Rc_keepWanted_18 : decode b_Rc_keepWanted 18 = .ok (.iaload, 1) := by decide +kernel
theorem d_Rc_keepWanted_19 : decode b_Rc_keepWanted 19 = .ok (.istore_n 2, 1) := by decide +kernel
theorem d_Rc_keepWanted_20 : decode b_Rc_keepWanted 20 = .ok (.aload_n 0, 1) := by decide +kernel
theorem d_Rc_keepWanted_21 : decode b_Rc_keepWanted 21 = .ok (.getfield 30, 3) := by decide +kernel
theorem d_Rc_keepWanted_24 : decode b_Rc_keepWanted 24 = .ok (.iconst 0, 1) := by decide +kernel
theorem d_Rc_keepWanted_25 : decode b_Rc_keepWanted 25 = .ok (.aload_n 0, 1) := by decide +kernel
theorem d_Rc_keepWanted_26 : decode b_Rc_keepWanted 26 = .ok (.getfield 11, 3) := by decide +kernel
theorem d_Rc_keepWanted_29 : decode b_Rc_keepWanted 29 = .ok (.iload_n 2, 1) := by decide +kernel
theorem d_Rc_keepWanted_30 : decode b_Rc_keepWanted 30 = .ok (.bipush 8, 2) := by decide +kernel
theorem d_Rc_keepWanted_32 : decode b_Rc_keepWanted 32 = .ok (.imul, 1) := by decide +kernel
theorem d_Rc_keepWanted_33 : decode b_Rc_keepWanted 33 = .ok (.bipush 8, 2) := by decide +kernel
theorem d_Rc_keepWanted_35 : decode b_Rc_keepWanted 35 = .ok (.invokestatic 71, 3) := by decide +kernel
theorem d_Rc_keepWanted_38 : decode b_Rc_keepWanted 38 = .ok (.aload_n 0, 1) := by decide +kernel
theorem d_Rc_keepWanted_39 : decode b_Rc_keepWanted 39 = .ok (.getfield 24, 3) := by decide +kernel
theorem d_Rc_keepWanted_42 : decode b_Rc_keepWanted 42 = .ok (.iload_n 2, 1) := by decide +kernel
theorem d_Rc_keepWanted_43 : decode b_Rc_keepWanted 43 = .ok (.aload_n 0, 1) := by decide +kernel
theorem d_Rc_keepWanted_44 : decode b_Rc_keepWanted 44 = .ok (.getfield 21, 3) := by decide +kernel
theorem d_Rc_keepWanted_47 : decode b_Rc_keepWanted 47 = .ok (.iload_n 1, 1) := by decide +kernel
theorem d_Rc_keepWanted_48 : decode b_Rc_keepWanted 48 = .ok (.iaload, 1) := by decide +kernel
theorem d_Rc_keepWanted_49 : decode b_Rc_keepWanted 49 = .ok (.iastore, 1) := by decide +kernel
theorem d_Rc_keepWanted_50 : decode b_Rc_keepWanted 50 = .ok (.aload_n 0, 1) := by decide +kernel
theorem d_Rc_keepWanted_51 : decode b_Rc_keepWanted 51 = .ok (.getfield 21, 3) := by decide +kernel
theorem d_Rc_keepWanted_54 : decode b_Rc_keepWanted 54 = .ok (.iload_n 1, 1) := by decide +kernel
theorem d_Rc_keepWanted_55 : decode b_Rc_keepWanted 55 = .ok (.iload_n 2, 1) := by decide +kernel
theorem d_Rc_keepWanted_56 : decode b_Rc_keepWanted 56 = .ok (.iastore, 1) := by decide +kernel
theorem d_Rc_keepWanted_57 : decode b_Rc_keepWanted 57 = .ok (.iload_n 2, 1) := by decide +kernel
theorem d_Rc_keepWanted_58 : decode b_Rc_keepWanted 58 = .ok (.ireturn, 1) := by decide +kernel
theorem d_Rc_hold_0 : decode b_Rc_hold 0 = .ok (.aload_n 0, 1) := by decide +kernel
theorem d_Rc_hold_1 : decode b_Rc_hold 1 = .ok (.getfield 15, 3) := by decide +kernel
theorem d_Rc_hold_4 : decode b_Rc_hold 4 = .ok (.iload_n 1, 1) := by decide +kernel
theorem d_Rc_hold_5 : decode b_Rc_hold 5 = .ok (.dup2, 1) := by decide +kernel
theorem d_Rc_hold_6 : decode b_Rc_hold 6 = .ok (.iaload, 1) := by decide +kernel
theorem d_Rc_hold_7 : decode b_Rc_hold 7 = .ok (.iload_n 2, 1) := by decide +kernel
theorem d_Rc_hold_8 : decode b_Rc_hold 8 = .ok (.iadd, 1) := by decide +kernel
theorem d_Rc_hold_9 : decode b_Rc_hold 9 = .ok (.iastore, 1) := by decide +kernel
theorem d_Rc_hold_10 : decode b_Rc_hold 10 = .ok (.return_, 1) := by decide +kernel
theorem d_Bl_empty_0 : decode b_Bl_empty 0 = .ok (.aload_n 0, 1) := by decide +kernel
theorem d_Bl_empty_1 : decode b_Bl_empty 1 = .ok (.getfield 14, 3) := by decide +kernel
theorem d_Bl_empty_4 : decode b_Bl_empty 4 = .ok (.invokevirtual 29, 3) := by decide +kernel
theorem d_Bl_empty_7 : decode b_Bl_empty 7 = .ok (.aload_n 0, 1) := by decide +kernel
theorem d_Bl_empty_8 : decode b_Bl_empty 8 = .ok (.getfield 19, 3) := by decide +kernel
theorem d_Bl_empty_11 : decode b_Bl_empty 11 = .ok (.iconst 0, 1) := by decide +kernel
theorem d_Bl_empty_12 : decode b_Bl_empty 12 = .ok (.sipush 1088, 3) := by decide +kernel
theorem d_Bl_empty_15 : decode b_Bl_empty 15 = .ok (.iconst 0, 1) := by decide +kernel
theorem d_Bl_empty_16 : decode b_Bl_empty 16 = .ok (.invokestatic 30, 3) := by decide +kernel
theorem d_Bl_empty_19 : decode b_Bl_empty 19 = .ok (.aload_n 0, 1) := by decide +kernel
theorem d_Bl_empty_20 : decode b_Bl_empty 20 = .ok (.getfield 14, 3) := by decide +kernel
theorem d_Bl_empty_23 : decode b_Bl_empty 23 = .ok (.iconst 0, 1) := by decide +kernel
theorem d_Bl_empty_24 : decode b_Bl_empty 24 = .ok (.sipush 1088, 3) := by decide +kernel
theorem d_Bl_empty_27 : decode b_Bl_empty 27 = .ok (.invokevirtual 36, 3) := by decide +kernel
theorem d_Bl_empty_30 : decode b_Bl_empty 30 = .ok (.iconst 0, 1) := by decide +kernel
theorem d_Bl_empty_31 : decode b_Bl_empty 31 = .ok (.istore_n 1, 1) := by decide +kernel
theorem d_Bl_empty_32 : decode b_Bl_empty 32 = .ok (.iload_n 1, 1) := by decide +kernel
theorem d_Bl_empty_33 : decode b_Bl_empty 33 = .ok (.sipush 2048, 3) := by decide +kernel
theorem d_Bl_empty_36 : decode b_Bl_empty 36 = .ok (.if_icmp .ge 23, 3) := by decide +kernel
theorem d_Bl_empty_39 : decode b_Bl_empty 39 = .ok (.aload_n 0, 1) := by decide +kernel
theorem d_Bl_empty_40 : decode b_Bl_empty 40 = .ok (.getfield 23, 3) := by decide +kernel
theorem d_Bl_empty_43 : decode b_Bl_empty 43 = .ok (.iload_n 1, 1) := by decide +kernel
theorem d_Bl_empty_44 : decode b_Bl_empty 44 = .ok (.sipush 1088, 3) := by decide +kernel
theorem d_Bl_empty_47 : decode b_Bl_empty 47 = .ok (.iload_n 1, 1) := by decide +kernel
theorem d_Bl_empty_48 : decode b_Bl_empty 48 = .ok (.bipush 32, 2) := by decide +kernel
theorem d_Bl_empty_50 : decode b_Bl_empty 50 = .ok (.imul, 1) := by decide +kernel
theorem d_Bl_empty_51 : decode b_Bl_empty 51 = .ok (.iadd, 1) := by decide +kernel
theorem d_Bl_empty_52 : decode b_Bl_empty 52 = .ok (.iastore, 1) := by decide +kernel
theorem d_Bl_empty_53 : decode b_Bl_empty 53 = .ok (.iinc 1 1, 3) := by decide +kernel
theorem d_Bl_empty_56 : decode b_Bl_empty 56 = .ok (.goto (-24), 3) := by decide +kernel
theorem d_Bl_empty_59 : decode b_Bl_empty 59 = .ok (.aload_n 0, 1) := by decide +kernel
theorem d_Bl_empty_60 : decode b_Bl_empty 60 = .ok (.sipush 2048, 3) := by decide +kernel
theorem d_Bl_empty_63 : decode b_Bl_empty 63 = .ok (.putfield 40, 3) := by decide +kernel
theorem d_Bl_empty_66 : decode b_Bl_empty 66 = .ok (.return_, 1) := by decide +kernel
theorem d_Ar_fill4_0 : decode b_Ar_fill4 0 = .ok (.aload_n 0, 1) := by decide +kernel
theorem d_Ar_fill4_1 : decode b_Ar_fill4 1 = .ok (.arraylength, 1) := by decide +kernel
theorem d_Ar_fill4_2 : decode b_Ar_fill4 2 = .ok (.iload_n 1, 1) := by decide +kernel
theorem d_Ar_fill4_3 : decode b_Ar_fill4 3 = .ok (.iload_n 2, 1) := by decide +kernel
theorem d_Ar_fill4_4 : decode b_Ar_fill4 4 = .ok (.invokestatic 13, 3) := by decide +kernel
theorem d_Ar_fill4_7 : decode b_Ar_fill4 7 = .ok (.iload_n 1, 1) := by decide +kernel
theorem d_Ar_fill4_8 : decode b_Ar_fill4 8 = .ok (.istore 4, 2) := by decide +kernel
theorem d_Ar_fill4_10 : decode b_Ar_fill4 10 = .ok (.iload 4, 2) := by decide +kernel
theorem d_Ar_fill4_12 : decode b_Ar_fill4 12 = .ok (.iload_n 2, 1) := by decide +kernel
theorem d_Ar_fill4_13 : decode b_Ar_fill4 13 = .ok (.if_icmp .ge 14, 3) := by decide +kernel
theorem d_Ar_fill4_16 : decode b_Ar_fill4 16 = .ok (.aload_n 0, 1) := by decide +kernel
theorem d_Ar_fill4_17 : decode b_Ar_fill4 17 = .ok (.iload 4, 2) := by decide +kernel
theorem d_Ar_fill4_19 : decode b_Ar_fill4 19 = .ok (.iload_n 3, 1) := by decide +kernel
theorem d_Ar_fill4_20 : decode b_Ar_fill4 20 = .ok (.iastore, 1) := by decide +kernel
theorem d_Ar_fill4_21 : decode b_Ar_fill4 21 = .ok (.iinc 4 1, 3) := by decide +kernel
theorem d_Ar_fill4_24 : decode b_Ar_fill4 24 = .ok (.goto (-14), 3) := by decide +kernel
theorem d_Ar_fill4_27 : decode b_Ar_fill4 27 = .ok (.return_, 1) := by decide +kernel
theorem d_Ar_rangeCheck_0 : decode b_Ar_rangeCheck 0 = .ok (.iload_n 1, 1) := by decide +kernel
theorem d_Ar_rangeCheck_1 : decode b_Ar_rangeCheck 1 = .ok (.iload_n 2, 1) := by decide +kernel
theorem d_Ar_rangeCheck_2 : decode b_Ar_rangeCheck 2 = .ok (.if_icmp .le 44, 3) := by decide +kernel
theorem d_Ar_rangeCheck_5 : decode b_Ar_rangeCheck 5 = .ok (.new 43, 3) := by decide +kernel
theorem d_Ar_rangeCheck_8 : decode b_Ar_rangeCheck 8 = .ok (.dup, 1) := by decide +kernel
theorem d_Ar_rangeCheck_9 : decode b_Ar_rangeCheck 9 = .ok (.new 45, 3) := by decide +kernel
theorem d_Ar_rangeCheck_12 : decode b_Ar_rangeCheck 12 = .ok (.dup, 1) := by decide +kernel
theorem d_Ar_rangeCheck_13 : decode b_Ar_rangeCheck 13 = .ok (.invokespecial 47, 3) := by decide +kernel
theorem d_Ar_rangeCheck_16 : decode b_Ar_rangeCheck 16 = .ok (.ldc 48, 2) := by decide +kernel
theorem d_Ar_rangeCheck_18 : decode b_Ar_rangeCheck 18 = .ok (.invokevirtual 50, 3) := by decide +kernel
theorem d_Ar_rangeCheck_21 : decode b_Ar_rangeCheck 21 = .ok (.iload_n 1, 1) := by decide +kernel
theorem d_Ar_rangeCheck_22 : decode b_Ar_rangeCheck 22 = .ok (.invokevirtual 54, 3) := by decide +kernel
theorem d_Ar_rangeCheck_25 : decode b_Ar_rangeCheck 25 = .ok (.ldc 57, 2) := by decide +kernel
theorem d_Ar_rangeCheck_27 : decode b_Ar_rangeCheck 27 = .ok (.invokevirtual 50, 3) := by decide +kernel
theorem d_Ar_rangeCheck_30 : decode b_Ar_rangeCheck 30 = .ok (.iload_n 2, 1) := by decide +kernel
theorem d_Ar_rangeCheck_31 : decode b_Ar_rangeCheck 31 = .ok (.invokevirtual 54, 3) := by decide +kernel
theorem d_Ar_rangeCheck_34 : decode b_Ar_rangeCheck 34 = .ok (.ldc 59, 2) := by decide +kernel
theorem d_Ar_rangeCheck_36 : decode b_Ar_rangeCheck 36 = .ok (.invokevirtual 50, 3) := by decide +kernel
theorem d_Ar_rangeCheck_39 : decode b_Ar_rangeCheck 39 = .ok (.invokevirtual 61, 3) := by decide +kernel
theorem d_Ar_rangeCheck_42 : decode b_Ar_rangeCheck 42 = .ok (.invokespecial 65, 3) := by decide +kernel
theorem d_Ar_rangeCheck_45 : decode b_Ar_rangeCheck 45 = .ok (.athrow, 1) := by decide +kernel
theorem d_Ar_rangeCheck_46 : decode b_Ar_rangeCheck 46 = .ok (.iload_n 1, 1) := by decide +kernel
theorem d_Ar_rangeCheck_47 : decode b_Ar_rangeCheck 47 = .ok (.ifCond .ge 12, 3) := by decide +kernel
theorem d_Ar_rangeCheck_50 : decode b_Ar_rangeCheck 50 = .ok (.new 68, 3) := by decide +kernel
theorem d_Ar_rangeCheck_53 : decode b_Ar_rangeCheck 53 = .ok (.dup, 1) := by decide +kernel
theorem d_Ar_rangeCheck_54 : decode b_Ar_rangeCheck 54 = .ok (.iload_n 1, 1) := by decide +kernel
theorem d_Ar_rangeCheck_55 : decode b_Ar_rangeCheck 55 = .ok (.invokespecial 70, 3) := by decide +kernel
theorem d_Ar_rangeCheck_58 : decode b_Ar_rangeCheck 58 = .ok (.athrow, 1) := by decide +kernel
theorem d_Ar_rangeCheck_59 : decode b_Ar_rangeCheck 59 = .ok (.iload_n 2, 1) := by decide +kernel
theorem d_Ar_rangeCheck_60 : decode b_Ar_rangeCheck 60 = .ok (.iload_n 0, 1) := by decide +kernel
theorem d_Ar_rangeCheck_61 : decode b_Ar_rangeCheck 61 = .ok (.if_icmp .le 12, 3) := by decide +kernel
theorem d_Ar_rangeCheck_64 : decode b_Ar_rangeCheck 64 = .ok (.new 68, 3) := by decide +kernel
theorem d_Ar_rangeCheck_67 : decode b_Ar_rangeCheck 67 = .ok (.dup, 1) := by decide +kernel
theorem d_Ar_rangeCheck_68 : decode b_Ar_rangeCheck 68 = .ok (.iload_n 2, 1) := by decide +kernel
theorem d_Ar_rangeCheck_69 : decode b_Ar_rangeCheck 69 = .ok (.invokespecial 70, 3) := by decide +kernel
theorem d_Ar_rangeCheck_72 : decode b_Ar_rangeCheck 72 = .ok (.athrow, 1) := by decide +kernel
theorem d_Ar_rangeCheck_73 : decode b_Ar_rangeCheck 73 = .ok (.return_, 1) := by decide +kernel
theorem d_Pt_clear_0 : decode b_Pt_clear 0 = .ok (.iconst 0, 1) := by decide +kernel
theorem d_Pt_clear_1 : decode b_Pt_clear 1 = .ok (.istore_n 1, 1) := by decide +kernel
theorem d_Pt_clear_2 : decode b_Pt_clear 2 = .ok (.iconst 0, 1) := by decide +kernel
theorem d_Pt_clear_3 : decode b_Pt_clear 3 = .ok (.istore_n 2, 1) := by decide +kernel
theorem d_Pt_clear_4 : decode b_Pt_clear 4 = .ok (.iload_n 2, 1) := by decide +kernel
theorem d_Pt_clear_5 : decode b_Pt_clear 5 = .ok (.sipush 1024, 3) := by decide +kernel
theorem d_Pt_clear_8 : decode b_Pt_clear 8 = .ok (.if_icmp .ge 52, 3) := by decide +kernel
theorem d_Pt_clear_11 : decode b_Pt_clear 11 = .ok (.aload_n 0, 1) := by decide +kernel
theorem d_Pt_clear_12 : decode b_Pt_clear 12 = .ok (.getfield 12, 3) := by decide +kernel
theorem d_Pt_clear_15 : decode b_Pt_clear 15 = .ok (.iload_n 2, 1) := by decide +kernel
theorem d_Pt_clear_16 : decode b_Pt_clear 16 = .ok (.invokevirtual 58, 3) := by decide +kernel
theorem d_Pt_clear_19 : decode b_Pt_clear 19 = .ok (.ifCond .ne 7, 3) := by decide +kernel
theorem d_Pt_clear_22 : decode b_Pt_clear 22 = .ok (.iconst 1, 1) := by decide +kernel
theorem d_Pt_clear_23 : decode b_Pt_clear 23 = .ok (.goto 4, 3) := by decide +kernel
theorem d_Pt_clear_26 : decode b_Pt_clear 26 = .ok (.iconst 0, 1) := by decide +kernel
theorem d_Pt_clear_27 : decode b_Pt_clear 27 = .ok (.istore_n 3, 1) := by decide +kernel
theorem d_Pt_clear_28 : decode b_Pt_clear 28 = .ok (.iload_n 2, 1) := by decide +kernel
theorem d_Pt_clear_29 : decode b_Pt_clear 29 = .ok (.aload_n 0, 1) := by decide +kernel
theorem d_Pt_clear_30 : decode b_Pt_clear 30 = .ok (.getfield 12, 3) := by decide +kernel
theorem d_Pt_clear_33 : decode b_Pt_clear 33 = .ok (.getfield 49, 3) := by decide +kernel
theorem d_Pt_clear_36 : decode b_Pt_clear 36 = .ok (.invokestatic 53, 3) := by decide +kernel
theorem d_Pt_clear_39 : decode b_Pt_clear 39 = .ok (.iconst 1, 1) := by decide +kernel
theorem d_Pt_clear_40 : decode b_Pt_clear 40 = .ok (.iadd, 1) := by decide +kernel
theorem d_Pt_clear_41 : decode b_Pt_clear 41 = .ok (.istore 4, 2) := by decide +kernel
theorem d_Pt_clear_43 : decode b_Pt_clear 43 = .ok (.iload_n 3, 1) := by decide +kernel
theorem d_Pt_clear_44 : decode b_Pt_clear 44 = .ok (.ifCond .ne 10, 3) := by decide +kernel
theorem d_Pt_clear_47 : decode b_Pt_clear 47 = .ok (.iload_n 1, 1) := by decide +kernel
theorem d_Pt_clear_48 : decode b_Pt_clear 48 = .ok (.iload 4, 2) := by decide +kernel
theorem d_Pt_clear_50 : decode b_Pt_clear 50 = .ok (.iload_n 2, 1) := by decide +kernel
theorem d_Pt_clear_51 : decode b_Pt_clear 51 = .ok (.isub, 1) := by decide +kernel
theorem d_Pt_clear_52 : decode b_Pt_clear 52 = .ok (.iadd, 1) := by decide +kernel
theorem d_Pt_clear_53 : decode b_Pt_clear 53 = .ok (.istore_n 1, 1) := by decide +kernel
theorem d_Pt_clear_54 : decode b_Pt_clear 54 = .ok (.iload 4, 2) := by decide +kernel
theorem d_Pt_clear_56 : decode b_Pt_clear 56 = .ok (.istore_n 2, 1) := by decide +kernel
theorem d_Pt_clear_57 : decode b_Pt_clear 57 = .ok (.goto (-53), 3) := by decide +kernel
theorem d_Pt_clear_60 : decode b_Pt_clear 60 = .ok (.aload_n 0, 1) := by decide +kernel
theorem d_Pt_clear_61 : decode b_Pt_clear 61 = .ok (.getfield 12, 3) := by decide +kernel
theorem d_Pt_clear_64 : decode b_Pt_clear 64 = .ok (.invokevirtual 65, 3) := by decide +kernel
theorem d_Pt_clear_67 : decode b_Pt_clear 67 = .ok (.iload_n 1, 1) := by decide +kernel
theorem d_Pt_clear_68 : decode b_Pt_clear 68 = .ok (.ireturn, 1) := by decide +kernel
theorem d_Bl_recordOf_0 : decode b_Bl_recordOf 0 = .ok (.aload_n 0, 1) := by decide +kernel
theorem d_Bl_recordOf_1 : decode b_Bl_recordOf 1 = .ok (.iload_n 1, 1) := by decide +kernel
theorem d_Bl_recordOf_2 : decode b_Bl_recordOf 2 = .ok (.invokevirtual 44, 3) := by decide +kernel
theorem d_Bl_recordOf_5 : decode b_Bl_recordOf 5 = .ok (.aload_n 0, 1) := by decide +kernel
theorem d_Bl_recordOf_6 : decode b_Bl_recordOf 6 = .ok (.getfield 19, 3) := by decide +kernel
theorem d_Bl_recordOf_9 : decode b_Bl_recordOf 9 = .ok (.aload_n 0, 1) := by decide +kernel
theorem d_Bl_recordOf_10 : decode b_Bl_recordOf 10 = .ok (.getfield 48, 3) := by decide +kernel
theorem d_Bl_recordOf_13 : decode b_Bl_recordOf 13 = .ok (.iaload, 1) := by decide +kernel
theorem d_Bl_recordOf_14 : decode b_Bl_recordOf 14 = .ok (.ireturn, 1) := by decide +kernel
theorem d_Bl_find_0 : decode b_Bl_find 0 = .ok (.bipush 10, 2) := by decide +kernel
theorem d_Bl_find_2 : decode b_Bl_find 2 = .ok (.istore_n 2, 1) := by decide +kernel
theorem d_Bl_find_3 : decode b_Bl_find 3 = .ok (.aload_n 0, 1) := by decide +kernel
theorem d_Bl_find_4 : decode b_Bl_find 4 = .ok (.iload_n 1, 1) := by decide +kernel
theorem d_Bl_find_5 : decode b_Bl_find 5 = .ok (.iload_n 2, 1) := by decide +kernel
theorem d_Bl_find_6 : decode b_Bl_find 6 = .ok (.ishr, 1) := by decide +kernel
theorem d_Bl_find_7 : decode b_Bl_find 7 = .ok (.putfield 48, 3) := by decide +kernel
theorem d_Bl_find_10 : decode b_Bl_find 10 = .ok (.iload_n 2, 1) := by decide +kernel
theorem d_Bl_find_11 : decode b_Bl_find 11 = .ok (.ifCond .le 42, 3) := by decide +kernel
theorem d_Bl_find_14 : decode b_Bl_find 14 = .ok (.aload_n 0, 1) := by decide +kernel
theorem d_Bl_find_15 : decode b_Bl_find 15 = .ok (.getfield 19, 3) := by decide +kernel
theorem d_Bl_find_18 : decode b_Bl_find 18 = .ok (.aload_n 0, 1) := by decide +kernel
theorem d_Bl_find_19 : decode b_Bl_find 19 = .ok (.getfield 48, 3) := by decide +kernel
theorem d_Bl_find_22 : decode b_Bl_find 22 = .ok (.iaload, 1) := by decide +kernel
theorem d_Bl_find_23 : decode b_Bl_find 23 = .ok (.ifCond .ge 30, 3) := by decide +kernel
theorem d_Bl_find_26 : decode b_Bl_find 26 = .ok (.iinc 2 (-5), 3) := by decide +kernel
theorem d_Bl_find_29 : decode b_Bl_find 29 = .ok (.aload_n 0, 1) := by decide +kernel
theorem d_Bl_find_30 : decode b_Bl_find 30 = .ok (.aload_n 0, 1) := by decide +kernel
theorem d_Bl_find_31 : decode b_Bl_find 31 = .ok (.getfield 19, 3) := by decide +kernel
theorem d_Bl_find_34 : decode b_Bl_find 34 = .ok (.aload_n 0, 1) := by decide +kernel
theorem d_Bl_find_35 : decode b_Bl_find 35 = .ok (.getfield 48, 3) := by decide +kernel
theorem d_Bl_find_38 : decode b_Bl_find 38 = .ok (.iaload, 1) := by decide +kernel
theorem d_Bl_find_39 : decode b_Bl_find 39 = .ok (.ineg, 1) := by decide +kernel
theorem d_Bl_find_40 : decode b_Bl_find 40 = .ok (.iload_n 1, 1) := by decide +kernel
theorem d_Bl_find_41 : decode b_Bl_find 41 = .ok (.iload_n 2, 1) := by decide +kernel
theorem d_Bl_find_42 : decode b_Bl_find 42 = .ok (.ishr, 1) := by decide +kernel
theorem d_Bl_find_43 : decode b_Bl_find 43 = .ok (.bipush 31, 2) := by decide +kernel
theorem d_Bl_find_45 : decode b_Bl_find 45 = .ok (.iand, 1) := by decide +kernel
theorem d_Bl_find_46 : decode b_Bl_find 46 = .ok (.iadd, 1) := by decide +kernel
theorem d_Bl_find_47 : decode b_Bl_find 47 = .ok (.putfield 48, 3) := by decide +kernel
theorem d_Bl_find_50 : decode b_Bl_find 50 = .ok (.goto (-40), 3) := by decide +kernel
theorem d_Bl_find_53 : decode b_Bl_find 53 = .ok (.iconst 1, 1) := by decide +kernel
theorem d_Bl_find_54 : decode b_Bl_find 54 = .ok (.iload_n 2, 1) := by decide +kernel
theorem d_Bl_find_55 : decode b_Bl_find 55 = .ok (.ishl, 1) := by decide +kernel
theorem d_Bl_find_56 : decode b_Bl_find 56 = .ok (.iconst 1, 1) := by decide +kernel
theorem d_Bl_find_57 : decode b_Bl_find 57 = .ok (.isub, 1) := by decide +kernel
theorem d_Bl_find_58 : decode b_Bl_find 58 = .ok (.istore_n 3, 1) := by decide +kernel
theorem d_Bl_find_59 : decode b_Bl_find 59 = .ok (.aload_n 0, 1) := by decide +kernel
theorem d_Bl_find_60 : decode b_Bl_find 60 = .ok (.iload_n 1, 1) := by decide +kernel
theorem d_Bl_find_61 : decode b_Bl_find 61 = .ok (.iload_n 3, 1) := by decide +kernel
theorem d_Bl_find_62 : decode b_Bl_find 62 = .ok (.iconst (-1), 1) := by decide +kernel
theorem d_Bl_find_63 : decode b_Bl_find 63 = .ok (.ixor, 1) := by decide +kernel
theorem d_Bl_find_64 : decode b_Bl_find 64 = .ok (.iand, 1) := by decide +kernel
theorem d_Bl_find_65 : decode b_Bl_find 65 = .ok (.putfield 51, 3) := by decide +kernel
theorem d_Bl_find_68 : decode b_Bl_find 68 = .ok (.aload_n 0, 1) := by decide +kernel
theorem d_Bl_find_69 : decode b_Bl_find 69 = .ok (.iload_n 1, 1) := by decide +kernel
theorem d_Bl_find_70 : decode b_Bl_find 70 = .ok (.iload_n 3, 1) := by decide +kernel
theorem d_Bl_find_71 : decode b_Bl_find 71 = .ok (.ior, 1) := by decide +kernel
theorem d_Bl_find_72 : decode b_Bl_find 72 = .ok (.putfield 54, 3) := by decide +kernel
theorem d_Bl_find_75 : decode b_Bl_find 75 = .ok (.return_, 1) := by decide +kernel
theorem d_La_set_0 : decode b_La_set 0 = .ok (.aload 5, 2) := by decide +kernel
theorem d_La_set_2 : decode b_La_set 2 = .ok (.iconst 0, 1) := by decide +kernel
theorem d_La_set_3 : decode b_La_set 3 = .ok (.aload_n 0, 1) := by decide +kernel
theorem d_La_set_4 : decode b_La_set 4 = .ok (.iload_n 1, 1) := by decide +kernel
theorem d_La_set_5 : decode b_La_set 5 = .ok (.iload_n 2, 1) := by decide +kernel
theorem d_La_set_6 : decode b_La_set 6 = .ok (.iload_n 3, 1) := by decide +kernel
theorem d_La_set_7 : decode b_La_set 7 = .ok (.iload 4, 2) := by decide +kernel
theorem d_La_set_9 : decode b_La_set 9 = .ok (.invokevirtual 7, 3) := by decide +kernel
theorem d_La_set_12 : decode b_La_set 12 = .ok (.i2l, 1) := by decide +kernel
theorem d_La_set_13 : decode b_La_set 13 = .ok (.lastore, 1) := by decide +kernel
theorem d_La_set_14 : decode b_La_set 14 = .ok (.goto 7, 3) := by decide +kernel
theorem d_La_set_17 : decode b_La_set 17 = .ok (.astore 6, 2) := by decide +kernel
theorem d_La_set_19 : decode b_La_set 19 = .ok (.iconst 1, 1) := by decide +kernel
theorem d_La_set_20 : decode b_La_set 20 = .ok (.ireturn, 1) := by decide +kernel
theorem d_La_set_21 : decode b_La_set 21 = .ok (.iconst 0, 1) := by decide +kernel
theorem d_La_set_22 : decode b_La_set 22 = .ok (.ireturn, 1) := by decide +kernel
theorem d_Pt_set_0 : decode b_Pt_set 0 = .ok (.aload_n 0, 1) := by decide +kernel
theorem d_Pt_set_1 : decode b_Pt_set 1 = .ok (.iload_n 1, 1) := by decide +kernel
theorem d_Pt_set_2 : decode b_Pt_set 2 = .ok (.iload_n 2, 1) := by decide +kernel
theorem d_Pt_set_3 : decode b_Pt_set 3 = .ok (.iload_n 3, 1) := by decide +kernel
theorem d_Pt_set_4 : decode b_Pt_set 4 = .ok (.iload 4, 2) := by decide +kernel
theorem d_Pt_set_6 : decode b_Pt_set 6 = .ok (.iconst 0, 1) := by decide +kernel
theorem d_Pt_set_7 : decode b_Pt_set 7 = .ok (.invokevirtual 16, 3) := by decide +kernel
theorem d_Pt_set_10 : decode b_Pt_set 10 = .ok (.ireturn, 1) := by decide +kernel
theorem d_Pt_mark_0 : decode b_Pt_mark 0 = .ok (.iload_n 1, 1) := by decide +kernel
theorem d_Pt_mark_1 : decode b_Pt_mark 1 = .ok (.iload_n 2, 1) := by decide +kernel
theorem d_Pt_mark_2 : decode b_Pt_mark 2 = .ok (.invokestatic 20, 3) := by decide +kernel
theorem d_Pt_mark_5 : decode b_Pt_mark 5 = .ok (.iload_n 3, 1) := by decide +kernel
theorem d_Pt_mark_6 : decode b_Pt_mark 6 = .ok (.invokestatic 24, 3) := by decide +kernel
theorem d_Pt_mark_9 : decode b_Pt_mark 9 = .ok (.aload_n 0, 1) := by decide +kernel
theorem d_Pt_mark_10 : decode b_Pt_mark 10 = .ok (.getfield 12, 3) := by decide +kernel
theorem d_Pt_mark_13 : decode b_Pt_mark 13 = .ok (.getfield 28, 3) := by decide +kernel
theorem d_Pt_mark_16 : decode b_Pt_mark 16 = .ok (.iload_n 3, 1) := by decide +kernel
theorem d_Pt_mark_17 : decode b_Pt_mark 17 = .ok (.iload 4, 2) := by decide +kernel
theorem d_Pt_mark_19 : decode b_Pt_mark 19 = .ok (.iload 5, 2) := by decide +kernel
theorem d_Pt_mark_21 : decode b_Pt_mark 21 = .ok (.invokevirtual 32, 3) := by decide +kernel
theorem d_Pt_mark_24 : decode b_Pt_mark 24 = .ok (.aload_n 0, 1) := by decide +kernel
theorem d_Pt_mark_25 : decode b_Pt_mark 25 = .ok (.getfield 12, 3) := by decide +kernel
theorem d_Pt_mark_28 : decode b_Pt_mark 28 = .ok (.iload_n 1, 1) := by decide +kernel
theorem d_Pt_mark_29 : decode b_Pt_mark 29 = .ok (.iload_n 2, 1) := by decide +kernel
theorem d_Pt_mark_30 : decode b_Pt_mark 30 = .ok (.invokevirtual 38, 3) := by decide +kernel
end
section
theorem d_Pt_mark_33 : decode b_Pt_mark 33 = .ok (.iload_n 2, 1) := by decide +kernel
theorem d_Pt_mark_34 : decode b_Pt_mark 34 = .ok (.iload_n 1, 1) := by decide +kernel
theorem d_Pt_mark_35 : decode b_Pt_mark 35 = .ok (.isub, 1) := by decide +kernel
theorem d_Pt_mark_36 : decode b_Pt_mark 36 = .ok (.iconst 1, 1) := by decide +kernel
theorem d_Pt_mark_37 : decode b_Pt_mark 37 = .ok (.iadd, 1) := by decide +kernel
theorem d_Pt_mark_38 : decode b_Pt_mark 38 = .ok (.ireturn, 1) := by decide +kernel
theorem d_Pt_checkRange_0 : decode b_Pt_checkRange 0 = .ok (.iload_n 0, 1) := by decide +kernel
theorem d_Pt_checkRange_1 : decode b_Pt_checkRange 1 = .ok (.ifCond .lt 14, 3) := by decide +kernel
theorem d_Pt_checkRange_4 : decode b_Pt_checkRange 4 = .ok (.iload_n 0, 1) := by decide +kernel
theorem d_Pt_checkRange_5 : decode b_Pt_checkRange 5 = .ok (.iload_n 1, 1) := by decide +kernel
theorem d_Pt_checkRange_6 : decode b_Pt_checkRange 6 = .ok (.if_icmp .gt 9, 3) := by decide +kernel
theorem d_Pt_checkRange_9 : decode b_Pt_checkRange 9 = .ok (.iload_n 1, 1) := by decide +kernel
theorem d_Pt_checkRange_10 : decode b_Pt_checkRange 10 = .ok (.ldc 48, 2) := by decide +kernel
theorem d_Pt_checkRange_12 : decode b_Pt_checkRange 12 = .ok (.if_icmp .le 13, 3) := by decide +kernel
theorem d_Pt_checkRange_15 : decode b_Pt_checkRange 15 = .ok (.new 71, 3) := by decide +kernel
theorem d_Pt_checkRange_18 : decode b_Pt_checkRange 18 = .ok (.dup, 1) := by decide +kernel
theorem d_Pt_checkRange_19 : decode b_Pt_checkRange 19 = .ok (.ldc 78, 2) := by decide +kernel
theorem d_Pt_checkRange_21 : decode b_Pt_checkRange 21 = .ok (.invokespecial 75, 3) := by decide +kernel
theorem d_Pt_checkRange_24 : decode b_Pt_checkRange 24 = .ok (.athrow, 1) := by decide +kernel
theorem d_Pt_checkRange_25 : decode b_Pt_checkRange 25 = .ok (.return_, 1) := by decide +kernel
theorem d_Pt_checkField_0 : decode b_Pt_checkField 0 = .ok (.iload_n 0, 1) := by decide +kernel
theorem d_Pt_checkField_1 : decode b_Pt_checkField 1 = .ok (.ifCond .lt 9, 3) := by decide +kernel
theorem d_Pt_checkField_4 : decode b_Pt_checkField 4 = .ok (.iload_n 0, 1) := by decide +kernel
theorem d_Pt_checkField_5 : decode b_Pt_checkField 5 = .ok (.bipush 8, 2) := by decide +kernel
theorem d_Pt_checkField_7 : decode b_Pt_checkField 7 = .ok (.if_icmp .lt 13, 3) := by decide +kernel
theorem d_Pt_checkField_10 : decode b_Pt_checkField 10 = .ok (.new 71, 3) := by decide +kernel
theorem d_Pt_checkField_13 : decode b_Pt_checkField 13 = .ok (.dup, 1) := by decide +kernel
theorem d_Pt_checkField_14 : decode b_Pt_checkField 14 = .ok (.ldc 80, 2) := by decide +kernel
theorem d_Pt_checkField_16 : decode b_Pt_checkField 16 = .ok (.invokespecial 75, 3) := by decide +kernel
theorem d_Pt_checkField_19 : decode b_Pt_checkField 19 = .ok (.athrow, 1) := by decide +kernel
theorem d_Pt_checkField_20 : decode b_Pt_checkField 20 = .ok (.return_, 1) := by decide +kernel
theorem d_Rc_begin_0 : decode b_Rc_begin 0 = .ok (.aload_n 0, 1) := by decide +kernel
theorem d_Rc_begin_1 : decode b_Rc_begin 1 = .ok (.iload_n 1, 1) := by decide +kernel
theorem d_Rc_begin_2 : decode b_Rc_begin 2 = .ok (.putfield 62, 3) := by decide +kernel
theorem d_Rc_begin_5 : decode b_Rc_begin 5 = .ok (.aload_n 0, 1) := by decide +kernel
theorem d_Rc_begin_6 : decode b_Rc_begin 6 = .ok (.iload_n 2, 1) := by decide +kernel
theorem d_Rc_begin_7 : decode b_Rc_begin 7 = .ok (.putfield 65, 3) := by decide +kernel
theorem d_Rc_begin_10 : decode b_Rc_begin 10 = .ok (.aload_n 0, 1) := by decide +kernel
theorem d_Rc_begin_11 : decode b_Rc_begin 11 = .ok (.iload_n 3, 1) := by decide +kernel
theorem d_Rc_begin_12 : decode b_Rc_begin 12 = .ok (.putfield 68, 3) := by decide +kernel
theorem d_Rc_begin_15 : decode b_Rc_begin 15 = .ok (.aload_n 0, 1) := by decide +kernel
theorem d_Rc_begin_16 : decode b_Rc_begin 16 = .ok (.getfield 27, 3) := by decide +kernel
theorem d_Rc_begin_19 : decode b_Rc_begin 19 = .ok (.iconst (-1), 1) := by decide +kernel
theorem d_Rc_begin_20 : decode b_Rc_begin 20 = .ok (.invokestatic 36, 3) := by decide +kernel
theorem d_Rc_begin_23 : decode b_Rc_begin 23 = .ok (.return_, 1) := by decide +kernel
theorem d_Bl_alter_0 : decode b_Bl_alter 0 = .ok (.aload_n 0, 1) := by decide +kernel
theorem d_Bl_alter_1 : decode b_Bl_alter 1 = .ok (.getfield 40, 3) := by decide +kernel
theorem d_Bl_alter_4 : decode b_Bl_alter 4 = .ok (.iconst 4, 1) := by decide +kernel
theorem d_Bl_alter_5 : decode b_Bl_alter 5 = .ok (.if_icmp .ge 4, 3) := by decide +kernel
theorem d_Bl_alter_8 : decode b_Bl_alter 8 = .ok (.return_, 1) := by decide +kernel
theorem d_Bl_alter_9 : decode b_Bl_alter 9 = .ok (.aload_n 0, 1) := by decide +kernel
theorem d_Bl_alter_10 : decode b_Bl_alter 10 = .ok (.iload_n 1, 1) := by decide +kernel
theorem d_Bl_alter_11 : decode b_Bl_alter 11 = .ok (.invokevirtual 57, 3) := by decide +kernel
theorem d_Bl_alter_14 : decode b_Bl_alter 14 = .ok (.iload_n 2, 1) := by decide +kernel
theorem d_Bl_alter_15 : decode b_Bl_alter 15 = .ok (.ldc 60, 2) := by decide +kernel
theorem d_Bl_alter_17 : decode b_Bl_alter 17 = .ok (.if_icmp .ge 10, 3) := by decide +kernel
theorem d_Bl_alter_20 : decode b_Bl_alter 20 = .ok (.aload_n 0, 1) := by decide +kernel
theorem d_Bl_alter_21 : decode b_Bl_alter 21 = .ok (.iload_n 2, 1) := by decide +kernel
theorem d_Bl_alter_22 : decode b_Bl_alter 22 = .ok (.iconst 1, 1) := by decide +kernel
theorem d_Bl_alter_23 : decode b_Bl_alter 23 = .ok (.iadd, 1) := by decide +kernel
theorem d_Bl_alter_24 : decode b_Bl_alter 24 = .ok (.invokevirtual 57, 3) := by decide +kernel
theorem d_Bl_alter_27 : decode b_Bl_alter 27 = .ok (.iload_n 1, 1) := by decide +kernel
theorem d_Bl_alter_28 : decode b_Bl_alter 28 = .ok (.istore_n 3, 1) := by decide +kernel
theorem d_Bl_alter_29 : decode b_Bl_alter 29 = .ok (.iload_n 3, 1) := by decide +kernel
theorem d_Bl_alter_30 : decode b_Bl_alter 30 = .ok (.iload_n 2, 1) := by decide +kernel
theorem d_Bl_alter_31 : decode b_Bl_alter 31 = .ok (.if_icmp .gt 30, 3) := by decide +kernel
theorem d_Bl_alter_34 : decode b_Bl_alter 34 = .ok (.aload_n 0, 1) := by decide +kernel
theorem d_Bl_alter_35 : decode b_Bl_alter 35 = .ok (.iload_n 3, 1) := by decide +kernel
theorem d_Bl_alter_36 : decode b_Bl_alter 36 = .ok (.invokevirtual 44, 3) := by decide +kernel
theorem d_Bl_alter_39 : decode b_Bl_alter 39 = .ok (.aload_n 0, 1) := by decide +kernel
theorem d_Bl_alter_40 : decode b_Bl_alter 40 = .ok (.aload_n 0, 1) := by decide +kernel
theorem d_Bl_alter_41 : decode b_Bl_alter 41 = .ok (.getfield 48, 3) := by decide +kernel
theorem d_Bl_alter_44 : decode b_Bl_alter 44 = .ok (.invokevirtual 61, 3) := by decide +kernel
theorem d_Bl_alter_47 : decode b_Bl_alter 47 = .ok (.iload_n 3, 1) := by decide +kernel
theorem d_Bl_alter_48 : decode b_Bl_alter 48 = .ok (.aload_n 0, 1) := by decide +kernel
theorem d_Bl_alter_49 : decode b_Bl_alter 49 = .ok (.getfield 54, 3) := by decide +kernel
theorem d_Bl_alter_52 : decode b_Bl_alter 52 = .ok (.invokestatic 64, 3) := by decide +kernel
theorem d_Bl_alter_55 : decode b_Bl_alter 55 = .ok (.iconst 1, 1) := by decide +kernel
theorem d_Bl_alter_56 : decode b_Bl_alter 56 = .ok (.iadd, 1) := by decide +kernel
theorem d_Bl_alter_57 : decode b_Bl_alter 57 = .ok (.istore_n 3, 1) := by decide +kernel
theorem d_Bl_alter_58 : decode b_Bl_alter 58 = .ok (.goto (-29), 3) := by decide +kernel
theorem d_Bl_alter_61 : decode b_Bl_alter 61 = .ok (.iload_n 1, 1) := by decide +kernel
theorem d_Bl_alter_62 : decode b_Bl_alter 62 = .ok (.bipush 10, 2) := by decide +kernel
theorem d_Bl_alter_64 : decode b_Bl_alter 64 = .ok (.ishr, 1) := by decide +kernel
theorem d_Bl_alter_65 : decode b_Bl_alter 65 = .ok (.istore 4, 2) := by decide +kernel
theorem d_Bl_alter_67 : decode b_Bl_alter 67 = .ok (.iload 4, 2) := by decide +kernel
theorem d_Bl_alter_69 : decode b_Bl_alter 69 = .ok (.iload_n 2, 1) := by decide +kernel
theorem d_Bl_alter_70 : decode b_Bl_alter 70 = .ok (.bipush 10, 2) := by decide +kernel
theorem d_Bl_alter_72 : decode b_Bl_alter 72 = .ok (.ishr, 1) := by decide +kernel
theorem d_Bl_alter_73 : decode b_Bl_alter 73 = .ok (.if_icmp .gt 15, 3) := by decide +kernel
theorem d_Bl_alter_76 : decode b_Bl_alter 76 = .ok (.aload_n 0, 1) := by decide +kernel
theorem d_Bl_alter_77 : decode b_Bl_alter 77 = .ok (.iload 4, 2) := by decide +kernel
theorem d_Bl_alter_79 : decode b_Bl_alter 79 = .ok (.invokevirtual 70, 3) := by decide +kernel
theorem d_Bl_alter_82 : decode b_Bl_alter 82 = .ok (.iinc 4 1, 3) := by decide +kernel
theorem d_Bl_alter_85 : decode b_Bl_alter 85 = .ok (.goto (-18), 3) := by decide +kernel
theorem d_Bl_alter_88 : decode b_Bl_alter 88 = .ok (.return_, 1) := by decide +kernel
theorem d_Bl_splitBefore_0 : decode b_Bl_splitBefore 0 = .ok (.aload_n 0, 1) := by decide +kernel
theorem d_Bl_splitBefore_1 : decode b_Bl_splitBefore 1 = .ok (.iload_n 1, 1) := by decide +kernel
theorem d_Bl_splitBefore_2 : decode b_Bl_splitBefore 2 = .ok (.invokevirtual 44, 3) := by decide +kernel
theorem d_Bl_splitBefore_5 : decode b_Bl_splitBefore 5 = .ok (.bipush 10, 2) := by decide +kernel
theorem d_Bl_splitBefore_7 : decode b_Bl_splitBefore 7 = .ok (.istore_n 2, 1) := by decide +kernel
theorem d_Bl_splitBefore_8 : decode b_Bl_splitBefore 8 = .ok (.iload_n 2, 1) := by decide +kernel
theorem d_Bl_splitBefore_9 : decode b_Bl_splitBefore 9 = .ok (.ifCond .le 30, 3) := by decide +kernel
theorem d_Bl_splitBefore_12 : decode b_Bl_splitBefore 12 = .ok (.aload_n 0, 1) := by decide +kernel
theorem d_Bl_splitBefore_13 : decode b_Bl_splitBefore 13 = .ok (.getfield 51, 3) := by decide +kernel
theorem d_Bl_splitBefore_16 : decode b_Bl_splitBefore 16 = .ok (.iload_n 1, 1) := by decide +kernel
theorem d_Bl_splitBefore_17 : decode b_Bl_splitBefore 17 = .ok (.if_icmp .ge 22, 3) := by decide +kernel
theorem d_Bl_splitBefore_20 : decode b_Bl_splitBefore 20 = .ok (.aload_n 0, 1) := by decide +kernel
theorem d_Bl_splitBefore_21 : decode b_Bl_splitBefore 21 = .ok (.aload_n 0, 1) := by decide +kernel
theorem d_Bl_splitBefore_22 : decode b_Bl_splitBefore 22 = .ok (.getfield 48, 3) := by decide +kernel
theorem d_Bl_splitBefore_25 : decode b_Bl_splitBefore 25 = .ok (.invokevirtual 73, 3) := by decide +kernel
theorem d_Bl_splitBefore_28 : decode b_Bl_splitBefore 28 = .ok (.aload_n 0, 1) := by decide +kernel
theorem d_Bl_splitBefore_29 : decode b_Bl_splitBefore 29 = .ok (.iload_n 1, 1) := by decide +kernel
theorem d_Bl_splitBefore_30 : decode b_Bl_splitBefore 30 = .ok (.invokevirtual 44, 3) := by decide +kernel
theorem d_Bl_splitBefore_33 : decode b_Bl_splitBefore 33 = .ok (.iinc 2 (-5), 3) := by decide +kernel
theorem d_Bl_splitBefore_36 : decode b_Bl_splitBefore 36 = .ok (.goto (-28), 3) := by decide +kernel
theorem d_Bl_splitBefore_39 : decode b_Bl_splitBefore 39 = .ok (.return_, 1) := by decide +kernel
theorem d_Bl_split_0 : decode b_Bl_split 0 = .ok (.aload_n 0, 1) := by decide +kernel
theorem d_Bl_split_1 : decode b_Bl_split 1 = .ok (.getfield 40, 3) := by decide +kernel
theorem d_Bl_split_4 : decode b_Bl_split 4 = .ok (.ifCond .le 61, 3) := by decide +kernel
theorem d_Bl_split_7 : decode b_Bl_split 7 = .ok (.aload_n 0, 1) := by decide +kernel
theorem d_Bl_split_8 : decode b_Bl_split 8 = .ok (.dup, 1) := by decide +kernel
theorem d_Bl_split_9 : decode b_Bl_split 9 = .ok (.getfield 40, 3) := by decide +kernel
theorem d_Bl_split_12 : decode b_Bl_split 12 = .ok (.iconst 1, 1) := by decide +kernel
theorem d_Bl_split_13 : decode b_Bl_split 13 = .ok (.isub, 1) := by decide +kernel
theorem d_Bl_split_14 : decode b_Bl_split 14 = .ok (.putfield 40, 3) := by decide +kernel
theorem d_Bl_split_17 : decode b_Bl_split 17 = .ok (.aload_n 0, 1) := by decide +kernel
theorem d_Bl_split_18 : decode b_Bl_split 18 = .ok (.getfield 23, 3) := by decide +kernel
theorem d_Bl_split_21 : decode b_Bl_split 21 = .ok (.aload_n 0, 1) := by decide +kernel
theorem d_Bl_split_22 : decode b_Bl_split 22 = .ok (.getfield 40, 3) := by decide +kernel
theorem d_Bl_split_25 : decode b_Bl_split 25 = .ok (.iaload, 1) := by decide +kernel
theorem d_Bl_split_26 : decode b_Bl_split 26 = .ok (.istore_n 2, 1) := by decide +kernel
theorem d_Bl_split_27 : decode b_Bl_split 27 = .ok (.aload_n 0, 1) := by decide +kernel
theorem d_Bl_split_28 : decode b_Bl_split 28 = .ok (.getfield 19, 3) := by decide +kernel
theorem d_Bl_split_31 : decode b_Bl_split 31 = .ok (.iload_n 1, 1) := by decide +kernel
theorem d_Bl_split_32 : decode b_Bl_split 32 = .ok (.iaload, 1) := by decide +kernel
theorem d_Bl_split_33 : decode b_Bl_split 33 = .ok (.istore_n 3, 1) := by decide +kernel
theorem d_Bl_split_34 : decode b_Bl_split 34 = .ok (.aload_n 0, 1) := by decide +kernel
theorem d_Bl_split_35 : decode b_Bl_split 35 = .ok (.getfield 19, 3) := by decide +kernel
theorem d_Bl_split_38 : decode b_Bl_split 38 = .ok (.iload_n 2, 1) := by decide +kernel
theorem d_Bl_split_39 : decode b_Bl_split 39 = .ok (.iload_n 2, 1) := by decide +kernel
theorem d_Bl_split_40 : decode b_Bl_split 40 = .ok (.bipush 32, 2) := by decide +kernel
theorem d_Bl_split_42 : decode b_Bl_split 42 = .ok (.iadd, 1) := by decide +kernel
theorem d_Bl_split_43 : decode b_Bl_split 43 = .ok (.iload_n 3, 1) := by decide +kernel
theorem d_Bl_split_44 : decode b_Bl_split 44 = .ok (.invokestatic 30, 3) := by decide +kernel
theorem d_Bl_split_47 : decode b_Bl_split 47 = .ok (.aload_n 0, 1) := by decide +kernel
theorem d_Bl_split_48 : decode b_Bl_split 48 = .ok (.getfield 14, 3) := by decide +kernel
theorem d_Bl_split_51 : decode b_Bl_split 51 = .ok (.iload_n 3, 1) := by decide +kernel
theorem d_Bl_split_52 : decode b_Bl_split 52 = .ok (.bipush 31, 2) := by decide +kernel
theorem d_Bl_split_54 : decode b_Bl_split 54 = .ok (.invokevirtual 36, 3) := by decide +kernel
theorem d_Bl_split_57 : decode b_Bl_split 57 = .ok (.aload_n 0, 1) := by decide +kernel
theorem d_Bl_split_58 : decode b_Bl_split 58 = .ok (.getfield 19, 3) := by decide +kernel
theorem d_Bl_split_61 : decode b_Bl_split 61 = .ok (.iload_n 1, 1) := by decide +kernel
theorem d_Bl_split_62 : decode b_Bl_split 62 = .ok (.iload_n 2, 1) := by decide +kernel
theorem d_Bl_split_63 : decode b_Bl_split 63 = .ok (.ineg, 1) := by decide +kernel
theorem d_Bl_split_64 : decode b_Bl_split 64 = .ok (.iastore, 1) := by decide +kernel
theorem d_Bl_split_65 : decode b_Bl_split 65 = .ok (.return_, 1) := by decide +kernel
theorem d_Bl_replace_0 : decode b_Bl_replace 0 = .ok (.aload_n 0, 1) := by decide +kernel
theorem d_Bl_replace_1 : decode b_Bl_replace 1 = .ok (.getfield 19, 3) := by decide +kernel
theorem d_Bl_replace_4 : decode b_Bl_replace 4 = .ok (.iload_n 1, 1) := by decide +kernel
theorem d_Bl_replace_5 : decode b_Bl_replace 5 = .ok (.iaload, 1) := by decide +kernel
theorem d_Bl_replace_6 : decode b_Bl_replace 6 = .ok (.istore_n 2, 1) := by decide +kernel
theorem d_Bl_replace_7 : decode b_Bl_replace 7 = .ok (.aload_n 0, 1) := by decide +kernel
theorem d_Bl_replace_8 : decode b_Bl_replace 8 = .ok (.getfield 14, 3) := by decide +kernel
theorem d_Bl_replace_11 : decode b_Bl_replace 11 = .ok (.iload_n 2, 1) := by decide +kernel
theorem d_Bl_replace_12 : decode b_Bl_replace 12 = .ok (.invokevirtual 76, 3) := by decide +kernel
theorem d_Bl_replace_15 : decode b_Bl_replace 15 = .ok (.istore_n 3, 1) := by decide +kernel
theorem d_Bl_replace_16 : decode b_Bl_replace 16 = .ok (.iload_n 3, 1) := by decide +kernel
theorem d_Bl_replace_17 : decode b_Bl_replace 17 = .ok (.iload_n 2, 1) := by decide +kernel
theorem d_Bl_replace_18 : decode b_Bl_replace 18 = .ok (.if_icmp .eq 28, 3) := by decide +kernel
theorem d_Bl_replace_21 : decode b_Bl_replace 21 = .ok (.aload_n 0, 1) := by decide +kernel
theorem d_Bl_replace_22 : decode b_Bl_replace 22 = .ok (.getfield 19, 3) := by decide +kernel
theorem d_Bl_replace_25 : decode b_Bl_replace 25 = .ok (.iload_n 1, 1) := by decide +kernel
theorem d_Bl_replace_26 : decode b_Bl_replace 26 = .ok (.iload_n 3, 1) := by decide +kernel
theorem d_Bl_replace_27 : decode b_Bl_replace 27 = .ok (.iastore, 1) := by decide +kernel
theorem d_Bl_replace_28 : decode b_Bl_replace 28 = .ok (.aload_n 0, 1) := by decide +kernel
theorem d_Bl_replace_29 : decode b_Bl_replace 29 = .ok (.getfield 14, 3) := by decide +kernel
theorem d_Bl_replace_32 : decode b_Bl_replace 32 = .ok (.iload_n 3, 1) := by decide +kernel
theorem d_Bl_replace_33 : decode b_Bl_replace 33 = .ok (.iconst 1, 1) := by decide +kernel
theorem d_Bl_replace_34 : decode b_Bl_replace 34 = .ok (.invokevirtual 36, 3) := by decide +kernel
theorem d_Bl_replace_37 : decode b_Bl_replace 37 = .ok (.aload_n 0, 1) := by decide +kernel
theorem d_Bl_replace_38 : decode b_Bl_replace 38 = .ok (.getfield 14, 3) := by decide +kernel
theorem d_Bl_replace_41 : decode b_Bl_replace 41 = .ok (.iload_n 2, 1) := by decide +kernel
theorem d_Bl_replace_42 : decode b_Bl_replace 42 = .ok (.iconst 1, 1) := by decide +kernel
theorem d_Bl_replace_43 : decode b_Bl_replace 43 = .ok (.invokevirtual 80, 3) := by decide +kernel
theorem d_Bl_replace_46 : decode b_Bl_replace 46 = .ok (.return_, 1) := by decide +kernel
theorem d_Rc_altered_0 : decode b_Rc_altered 0 = .ok (.aload_n 0, 1) := by decide +kernel
theorem d_Rc_altered_1 : decode b_Rc_altered 1 = .ok (.getfield 27, 3) := by decide +kernel
theorem d_Rc_altered_4 : decode b_Rc_altered 4 = .ok (.iload_n 1, 1) := by decide +kernel
theorem d_Rc_altered_5 : decode b_Rc_altered 5 = .ok (.iaload, 1) := by decide +kernel
theorem d_Rc_altered_6 : decode b_Rc_altered 6 = .ok (.iconst (-1), 1) := by decide +kernel
theorem d_Rc_altered_7 : decode b_Rc_altered 7 = .ok (.if_icmp .ne 93, 3) := by decide +kernel
theorem d_Rc_altered_10 : decode b_Rc_altered 10 = .ok (.aload_n 0, 1) := by decide +kernel
theorem d_Rc_altered_11 : decode b_Rc_altered 11 = .ok (.getfield 11, 3) := by decide +kernel
theorem d_Rc_altered_14 : decode b_Rc_altered 14 = .ok (.iload_n 1, 1) := by decide +kernel
theorem d_Rc_altered_15 : decode b_Rc_altered 15 = .ok (.bipush 8, 2) := by decide +kernel
theorem d_Rc_altered_17 : decode b_Rc_altered 17 = .ok (.imul, 1) := by decide +kernel
theorem d_Rc_altered_18 : decode b_Rc_altered 18 = .ok (.aload_n 0, 1) := by decide +kernel
theorem d_Rc_altered_19 : decode b_Rc_altered 19 = .ok (.getfield 30, 3) := by decide +kernel
theorem d_Rc_altered_22 : decode b_Rc_altered 22 = .ok (.iconst 0, 1) := by decide +kernel
theorem d_Rc_altered_23 : decode b_Rc_altered 23 = .ok (.bipush 8, 2) := by decide +kernel
theorem d_Rc_altered_25 : decode b_Rc_altered 25 = .ok (.invokestatic 71, 3) := by decide +kernel
theorem d_Rc_altered_28 : decode b_Rc_altered 28 = .ok (.aload_n 0, 1) := by decide +kernel
theorem d_Rc_altered_29 : decode b_Rc_altered 29 = .ok (.getfield 30, 3) := by decide +kernel
theorem d_Rc_altered_32 : decode b_Rc_altered 32 = .ok (.aload_n 0, 1) := by decide +kernel
theorem d_Rc_altered_33 : decode b_Rc_altered 33 = .ok (.getfield 62, 3) := by decide +kernel
theorem d_Rc_altered_36 : decode b_Rc_altered 36 = .ok (.aload_n 0, 1) := by decide +kernel
theorem d_Rc_altered_37 : decode b_Rc_altered 37 = .ok (.getfield 30, 3) := by decide +kernel
theorem d_Rc_altered_40 : decode b_Rc_altered 40 = .ok (.aload_n 0, 1) := by decide +kernel
theorem d_Rc_altered_41 : decode b_Rc_altered 41 = .ok (.getfield 62, 3) := by decide +kernel
theorem d_Rc_altered_44 : decode b_Rc_altered 44 = .ok (.iaload, 1) := by decide +kernel
theorem d_Rc_altered_45 : decode b_Rc_altered 45 = .ok (.aload_n 0, 1) := by decide +kernel
theorem d_Rc_altered_46 : decode b_Rc_altered 46 = .ok (.getfield 68, 3) := by decide +kernel
theorem d_Rc_altered_49 : decode b_Rc_altered 49 = .ok (.iand, 1) := by decide +kernel
theorem d_Rc_altered_50 : decode b_Rc_altered 50 = .ok (.aload_n 0, 1) := by decide +kernel
theorem d_Rc_altered_51 : decode b_Rc_altered 51 = .ok (.getfield 65, 3) := by decide +kernel
theorem d_Rc_altered_54 : decode b_Rc_altered 54 = .ok (.ior, 1) := by decide +kernel
theorem d_Rc_altered_55 : decode b_Rc_altered 55 = .ok (.iastore, 1) := by decide +kernel
theorem d_Rc_altered_56 : decode b_Rc_altered 56 = .ok (.aload_n 0, 1) := by decide +kernel
theorem d_Rc_altered_57 : decode b_Rc_altered 57 = .ok (.getfield 30, 3) := by decide +kernel
theorem d_Rc_altered_60 : decode b_Rc_altered 60 = .ok (.iconst 0, 1) := by decide +kernel
theorem d_Rc_altered_61 : decode b_Rc_altered 61 = .ok (.invokestatic 46, 3) := by decide +kernel
theorem d_Rc_altered_64 : decode b_Rc_altered 64 = .ok (.istore_n 2, 1) := by decide +kernel
theorem d_Rc_altered_65 : decode b_Rc_altered 65 = .ok (.aload_n 0, 1) := by decide +kernel
theorem d_Rc_altered_66 : decode b_Rc_altered 66 = .ok (.iload_n 2, 1) := by decide +kernel
theorem d_Rc_altered_67 : decode b_Rc_altered 67 = .ok (.invokevirtual 77, 3) := by decide +kernel
theorem d_Rc_altered_70 : decode b_Rc_altered 70 = .ok (.istore_n 3, 1) := by decide +kernel
theorem d_Rc_altered_71 : decode b_Rc_altered 71 = .ok (.iload_n 3, 1) := by decide +kernel
theorem d_Rc_altered_72 : decode b_Rc_altered 72 = .ok (.iconst (-1), 1) := by decide +kernel
theorem d_Rc_altered_73 : decode b_Rc_altered 73 = .ok (.if_icmp .ne 20, 3) := by decide +kernel
theorem d_Rc_altered_76 : decode b_Rc_altered 76 = .ok (.aload_n 0, 1) := by decide +kernel
theorem d_Rc_altered_77 : decode b_Rc_altered 77 = .ok (.getfield 42, 3) := by decide +kernel
theorem d_Rc_altered_80 : decode b_Rc_altered 80 = .ok (.ifCond .le 11, 3) := by decide +kernel
theorem d_Rc_altered_83 : decode b_Rc_altered 83 = .ok (.aload_n 0, 1) := by decide +kernel
theorem d_Rc_altered_84 : decode b_Rc_altered 84 = .ok (.iload_n 2, 1) := by decide +kernel
theorem d_Rc_altered_85 : decode b_Rc_altered 85 = .ok (.invokevirtual 50, 3) := by decide +kernel
theorem d_Rc_altered_88 : decode b_Rc_altered 88 = .ok (.goto 4, 3) := by decide +kernel
theorem d_Rc_altered_91 : decode b_Rc_altered 91 = .ok (.iload_n 1, 1) := by decide +kernel
theorem d_Rc_altered_92 : decode b_Rc_altered 92 = .ok (.istore_n 3, 1) := by decide +kernel
theorem d_Rc_altered_93 : decode b_Rc_altered 93 = .ok (.aload_n 0, 1) := by decide +kernel
theorem d_Rc_altered_94 : decode b_Rc_altered 94 = .ok (.getfield 27, 3) := by decide +kernel
theorem d_Rc_altered_97 : decode b_Rc_altered 97 = .ok (.iload_n 1, 1) := by decide +kernel
theorem d_Rc_altered_98 : decode b_Rc_altered 98 = .ok (.iload_n 3, 1) := by decide +kernel
theorem d_Rc_altered_99 : decode b_Rc_altered 99 = .ok (.iastore, 1) := by decide +kernel
theorem d_Rc_altered_100 : decode b_Rc_altered 100 = .ok (.aload_n 0, 1) := by decide +kernel
theorem d_Rc_altered_101 : decode b_Rc_altered 101 = .ok (.getfield 27, 3) := by decide +kernel
theorem d_Rc_altered_104 : decode b_Rc_altered 104 = .ok (.iload_n 1, 1) := by decide +kernel
theorem d_Rc_altered_105 : decode b_Rc_altered 105 = .ok (.iaload, 1) := by decide +kernel
theorem d_Rc_altered_106 : decode b_Rc_altered 106 = .ok (.ireturn, 1) := by decide +kernel
theorem d_Rc_findWanted_0 : decode b_Rc_findWanted 0 = .ok (.aload_n 0, 1) := by decide +kernel
theorem d_Rc_findWanted_1 : decode b_Rc_findWanted 1 = .ok (.getfield 21, 3) := by decide +kernel
theorem d_Rc_findWanted_4 : decode b_Rc_findWanted 4 = .ok (.iload_n 1, 1) := by decide +kernel
theorem d_Rc_findWanted_5 : decode b_Rc_findWanted 5 = .ok (.iaload, 1) := by decide +kernel
theorem d_Rc_findWanted_6 : decode b_Rc_findWanted 6 = .ok (.istore_n 2, 1) := by decide +kernel
theorem d_Rc_findWanted_7 : decode b_Rc_findWanted 7 = .ok (.iconst 0, 1) := by decide +kernel
theorem d_Rc_findWanted_8 : decode b_Rc_findWanted 8 = .ok (.istore_n 3, 1) := by decide +kernel
theorem d_Rc_findWanted_9 : decode b_Rc_findWanted 9 = .ok (.iload_n 3, 1) := by decide +kernel
theorem d_Rc_findWanted_10 : decode b_Rc_findWanted 10 = .ok (.sipush 1028, 3) := by decide +kernel
theorem d_Rc_findWanted_13 : decode b_Rc_findWanted 13 = .ok (.if_icmp .ge 31, 3) := by decide +kernel
theorem d_Rc_findWanted_16 : decode b_Rc_findWanted 16 = .ok (.iload_n 2, 1) := by decide +kernel
theorem d_Rc_findWanted_17 : decode b_Rc_findWanted 17 = .ok (.iconst (-1), 1) := by decide +kernel
theorem d_Rc_findWanted_18 : decode b_Rc_findWanted 18 = .ok (.if_icmp .eq 26, 3) := by decide +kernel
theorem d_Rc_findWanted_21 : decode b_Rc_findWanted 21 = .ok (.aload_n 0, 1) := by decide +kernel
theorem d_Rc_findWanted_22 : decode b_Rc_findWanted 22 = .ok (.iload_n 2, 1) := by decide +kernel
theorem d_Rc_findWanted_23 : decode b_Rc_findWanted 23 = .ok (.invokevirtual 80, 3) := by decide +kernel
theorem d_Rc_findWanted_26 : decode b_Rc_findWanted 26 = .ok (.ifCond .eq 5, 3) := by decide +kernel
theorem d_Rc_findWanted_29 : decode b_Rc_findWanted 29 = .ok (.iload_n 2, 1) := by decide +kernel
theorem d_Rc_findWanted_30 : decode b_Rc_findWanted 30 = .ok (.ireturn, 1) := by decide +kernel
theorem d_Rc_findWanted_31 : decode b_Rc_findWanted 31 = .ok (.aload_n 0, 1) := by decide +kernel
theorem d_Rc_findWanted_32 : decode b_Rc_findWanted 32 = .ok (.getfield 24, 3) := by decide +kernel
theorem d_Rc_findWanted_35 : decode b_Rc_findWanted 35 = .ok (.iload_n 2, 1) := by decide +kernel
theorem d_Rc_findWanted_36 : decode b_Rc_findWanted 36 = .ok (.iaload, 1) := by decide +kernel
theorem d_Rc_findWanted_37 : decode b_Rc_findWanted 37 = .ok (.istore_n 2, 1) := by decide +kernel
theorem d_Rc_findWanted_38 : decode b_Rc_findWanted 38 = .ok (.iinc 3 1, 3) := by decide +kernel
theorem d_Rc_findWanted_41 : decode b_Rc_findWanted 41 = .ok (.goto (-32), 3) := by decide +kernel
theorem d_Rc_findWanted_44 : decode b_Rc_findWanted 44 = .ok (.iconst (-1), 1) := by decide +kernel
theorem d_Rc_findWanted_45 : decode b_Rc_findWanted 45 = .ok (.ireturn, 1) := by decide +kernel
theorem d_Rc_isWanted_0 : decode b_Rc_isWanted 0 = .ok (.iconst 0, 1) := by decide +kernel
theorem d_Rc_isWanted_1 : decode b_Rc_isWanted 1 = .ok (.istore_n 2, 1) := by decide +kernel
theorem d_Rc_isWanted_2 : decode b_Rc_isWanted 2 = .ok (.iload_n 2, 1) := by decide +kernel
theorem d_Rc_isWanted_3 : decode b_Rc_isWanted 3 = .ok (.bipush 8, 2) := by decide +kernel
theorem d_Rc_isWanted_5 : decode b_Rc_isWanted 5 = .ok (.if_icmp .ge 31, 3) := by decide +kernel
theorem d_Rc_isWanted_8 : decode b_Rc_isWanted 8 = .ok (.aload_n 0, 1) := by decide +kernel
theorem d_Rc_isWanted_9 : decode b_Rc_isWanted 9 = .ok (.getfield 11, 3) := by decide +kernel
theorem d_Rc_isWanted_12 : decode b_Rc_isWanted 12 = .ok (.iload_n 1, 1) := by decide +kernel
theorem d_Rc_isWanted_13 : decode b_Rc_isWanted 13 = .ok (.bipush 8, 2) := by decide +kernel
theorem d_Rc_isWanted_15 : decode b_Rc_isWanted 15 = .ok (.imul, 1) := by decide +kernel
theorem d_Rc_isWanted_16 : decode b_Rc_isWanted 16 = .ok (.iload_n 2, 1) := by decide +kernel
theorem d_Rc_isWanted_17 : decode b_Rc_isWanted 17 = .ok (.iadd, 1) := by decide +kernel
theorem d_Rc_isWanted_18 : decode b_Rc_isWanted 18 = .ok (.iaload, 1) := by decide +kernel
theorem d_Rc_isWanted_19 : decode b_Rc_isWanted 19 = .ok (.aload_n 0, 1) := by decide +kernel
theorem d_Rc_isWanted_20 : decode b_Rc_isWanted 20 = .ok (.getfield 30, 3) := by decide +kernel
theorem d_Rc_isWanted_23 : decode b_Rc_isWanted 23 = .ok (.iload_n 2, 1) := by decide +kernel
theorem d_Rc_isWanted_24 : decode b_Rc_isWanted 24 = .ok (.iaload, 1) := by decide +kernel
theorem d_Rc_isWanted_25 : decode b_Rc_isWanted 25 = .ok (.if_icmp .eq 5, 3) := by decide +kernel
theorem d_Rc_isWanted_28 : decode b_Rc_isWanted 28 = .ok (.iconst 0, 1) := by decide +kernel
theorem d_Rc_isWanted_29 : decode b_Rc_isWanted 29 = .ok (.ireturn, 1) := by decide +kernel
theorem d_Rc_isWanted_30 : decode b_Rc_isWanted 30 = .ok (.iinc 2 1, 3) := by decide +kernel
theorem d_Rc_isWanted_33 : decode b_Rc_isWanted 33 = .ok (.goto (-31), 3) := by decide +kernel
theorem d_Rc_isWanted_36 : decode b_Rc_isWanted 36 = .ok (.iconst 1, 1) := by decide +kernel
theorem d_Rc_isWanted_37 : decode b_Rc_isWanted 37 = .ok (.ireturn, 1) := by decide +kernel
theorem d_Rc_release_0 : decode b_Rc_release 0 = .ok (.aload_n 0, 1) := by decide +kernel
theorem d_Rc_release_1 : decode b_Rc_release 1 = .ok (.getfield 15, 3) := by decide +kernel
theorem d_Rc_release_4 : decode b_Rc_release 4 = .ok (.iload_n 1, 1) := by decide +kernel
theorem d_Rc_release_5 : decode b_Rc_release 5 = .ok (.dup2, 1) := by decide +kernel
theorem d_Rc_release_6 : decode b_Rc_release 6 = .ok (.iaload, 1) := by decide +kernel
theorem d_Rc_release_7 : decode b_Rc_release 7 = .ok (.iload_n 2, 1) := by decide +kernel
theorem d_Rc_release_8 : decode b_Rc_release 8 = .ok (.isub, 1) := by decide +kernel
theorem d_Rc_release_9 : decode b_Rc_release 9 = .ok (.iastore, 1) := by decide +kernel
theorem d_Rc_release_10 : decode b_Rc_release 10 = .ok (.aload_n 0, 1) := by decide +kernel
theorem d_Rc_release_11 : decode b_Rc_release 11 = .ok (.getfield 15, 3) := by decide +kernel
theorem d_Rc_release_14 : decode b_Rc_release 14 = .ok (.iload_n 1, 1) := by decide +kernel
theorem d_Rc_release_15 : decode b_Rc_release 15 = .ok (.iaload, 1) := by decide +kernel
theorem d_Rc_release_16 : decode b_Rc_release 16 = .ok (.ifCond .ne 8, 3) := by decide +kernel
theorem d_Rc_release_19 : decode b_Rc_release 19 = .ok (.aload_n 0, 1) := by decide +kernel
theorem d_Rc_release_20 : decode b_Rc_release 20 = .ok (.iload_n 1, 1) := by decide +kernel
theorem d_Rc_release_21 : decode b_Rc_release 21 = .ok (.invokevirtual 58, 3) := by decide +kernel
theorem d_Rc_release_24 : decode b_Rc_release 24 = .ok (.return_, 1) := by decide +kernel
theorem d_Rc_drop_0 : decode b_Rc_drop 0 = .ok (.aload_n 0, 1) := by decide +kernel
theorem d_Rc_drop_1 : decode b_Rc_drop 1 = .ok (.getfield 11, 3) := by decide +kernel
theorem d_Rc_drop_4 : decode b_Rc_drop 4 = .ok (.iload_n 1, 1) := by decide +kernel
theorem d_Rc_drop_5 : decode b_Rc_drop 5 = .ok (.bipush 8, 2) := by decide +kernel
theorem d_Rc_drop_7 : decode b_Rc_drop 7 = .ok (.imul, 1) := by decide +kernel
theorem d_Rc_drop_8 : decode b_Rc_drop 8 = .ok (.invokestatic 46, 3) := by decide +kernel
theorem d_Rc_drop_11 : decode b_Rc_drop 11 = .ok (.istore_n 2, 1) := by decide +kernel
theorem d_Rc_drop_12 : decode b_Rc_drop 12 = .ok (.iconst (-1), 1) := by decide +kernel
theorem d_Rc_drop_13 : decode b_Rc_drop 13 = .ok (.istore_n 3, 1) := by decide +kernel
theorem d_Rc_drop_14 : decode b_Rc_drop 14 = .ok (.aload_n 0, 1) := by decide +kernel
theorem d_Rc_drop_15 : decode b_Rc_drop 15 = .ok (.getfield 21, 3) := by decide +kernel
theorem d_Rc_drop_18 : decode b_Rc_drop 18 = .ok (.iload_n 2, 1) := by decide +kernel
theorem d_Rc_drop_19 : decode b_Rc_drop 19 = .ok (.iaload, 1) := by decide +kernel
theorem d_Rc_drop_20 : decode b_Rc_drop 20 = .ok (.istore 4, 2) := by decide +kernel
theorem d_Rc_drop_22 : decode b_Rc_drop 22 = .ok (.iconst 0, 1) := by decide +kernel
theorem d_Rc_drop_23 : decode b_Rc_drop 23 = .ok (.istore 5, 2) := by decide +kernel
theorem d_Rc_drop_25 : decode b_Rc_drop 25 = .ok (.iload 5, 2) := by decide +kernel
theorem d_Rc_drop_27 : decode b_Rc_drop 27 = .ok (.sipush 1028, 3) := by decide +kernel
theorem d_Rc_drop_30 : decode b_Rc_drop 30 = .ok (.if_icmp .ge 33, 3) := by decide +kernel
theorem d_Rc_drop_33 : decode b_Rc_drop 33 = .ok (.iload 4, 2) := by decide +kernel
theorem d_Rc_drop_35 : decode b_Rc_drop 35 = .ok (.iconst (-1), 1) := by decide +kernel
theorem d_Rc_drop_36 : decode b_Rc_drop 36 = .ok (.if_icmp .eq 27, 3) := by decide +kernel
theorem d_Rc_drop_39 : decode b_Rc_drop 39 = .ok (.iload 4, 2) := by decide +kernel
theorem d_Rc_drop_41 : decode b_Rc_drop 41 = .ok (.iload_n 1, 1) := by decide +kernel
theorem d_Rc_drop_42 : decode b_Rc_drop 42 = .ok (.if_icmp .eq 21, 3) := by decide +kernel
theorem d_Rc_drop_45 : decode b_Rc_drop 45 = .ok (.iload 4, 2) := by decide +kernel
theorem d_Rc_drop_47 : decode b_Rc_drop 47 = .ok (.istore_n 3, 1) := by decide +kernel
theorem d_Rc_drop_48 : decode b_Rc_drop 48 = .ok (.aload_n 0, 1) := by decide +kernel
theorem d_Rc_drop_49 : decode b_Rc_drop 49 = .ok (.getfield 24, 3) := by decide +kernel
theorem d_Rc_drop_52 : decode b_Rc_drop 52 = .ok (.iload 4, 2) := by decide +kernel
theorem d_Rc_drop_54 : decode b_Rc_drop 54 = .ok (.iaload, 1) := by decide +kernel
theorem d_Rc_drop_55 : decode b_Rc_drop 55 = .ok (.istore 4, 2) := by decide +kernel
theorem d_Rc_drop_57 : decode b_Rc_drop 57 = .ok (.iinc 5 1, 3) := by decide +kernel
theorem d_Rc_drop_60 : decode b_Rc_drop 60 = .ok (.goto (-35), 3) := by decide +kernel
theorem d_Rc_drop_63 : decode b_Rc_drop 63 = .ok (.iload_n 3, 1) := by decide +kernel
theorem d_Rc_drop_64 : decode b_Rc_drop 64 = .ok (.iconst (-1), 1) := by decide +kernel
theorem d_Rc_drop_65 : decode b_Rc_drop 65 = .ok (.if_icmp .ne 18, 3) := by decide +kernel
theorem d_Rc_drop_68 : decode b_Rc_drop 68 = .ok (.aload_n 0, 1) := by decide +kernel
theorem d_Rc_drop_69 : decode b_Rc_drop 69 = .ok (.getfield 21, 3) := by decide +kernel
theorem d_Rc_drop_72 : decode b_Rc_drop 72 = .ok (.iload_n 2, 1) := by decide +kernel
theorem d_Rc_drop_73 : decode b_Rc_drop 73 = .ok (.aload_n 0, 1) := by decide +kernel
theorem d_Rc_drop_74 : decode b_Rc_drop 74 = .ok (.getfield 24, 3) := by decide +kernel
theorem d_Rc_drop_77 : decode b_Rc_drop 77 = .ok (.iload_n 1, 1) := by decide +kernel
theorem d_Rc_drop_78 : decode b_Rc_drop 78 = .ok (.iaload, 1) := by decide +kernel
theorem d_Rc_drop_79 : decode b_Rc_drop 79 = .ok (.iastore, 1) := by decide +kernel
theorem d_Rc_drop_80 : decode b_Rc_drop 80 = .ok (.goto 15, 3) := by decide +kernel
theorem d_Rc_drop_83 : decode b_Rc_drop 83 = .ok (.aload_n 0, 1) := by decide +kernel
theorem d_Rc_drop_84 : decode b_Rc_drop 84 = .ok (.getfield 24, 3) := by decide +kernel
theorem d_Rc_drop_87 : decode b_Rc_drop 87 = .ok (.iload_n 3, 1) := by decide +kernel
theorem d_Rc_drop_88 : decode b_Rc_drop 88 = .ok (.aload_n 0, 1) := by decide +kernel
theorem d_Rc_drop_89 : decode b_Rc_drop 89 = .ok (.getfield 24, 3) := by decide +kernel
theorem d_Rc_drop_92 : decode b_Rc_drop 92 = .ok (.iload_n 1, 1) := by decide +kernel
theorem d_Rc_drop_93 : decode b_Rc_drop 93 = .ok (.iaload, 1) := by decide +kernel
theorem d_Rc_drop_94 : decode b_Rc_drop 94 = .ok (.iastore, 1) := by decide +kernel
theorem d_Rc_drop_95 : decode b_Rc_drop 95 = .ok (.aload_n 0, 1) := by decide +kernel
theorem d_Rc_drop_96 : decode b_Rc_drop 96 = .ok (.getfield 18, 3) := by decide +kernel
theorem d_Rc_drop_99 : decode b_Rc_drop 99 = .ok (.aload_n 0, 1) := by decide +kernel
theorem d_Rc_drop_100 : decode b_Rc_drop 100 = .ok (.getfield 42, 3) := by decide +kernel
theorem d_Rc_drop_103 : decode b_Rc_drop 103 = .ok (.iload_n 1, 1) := by decide +kernel
theorem d_Rc_drop_104 : decode b_Rc_drop 104 = .ok (.iastore, 1) := by decide +kernel
theorem d_Rc_drop_105 : decode b_Rc_drop 105 = .ok (.aload_n 0, 1) := by decide +kernel
theorem d_Rc_drop_106 : decode b_Rc_drop 106 = .ok (.dup, 1) := by decide +kernel
theorem d_Rc_drop_107 : decode b_Rc_drop 107 = .ok (.getfield 42, 3) := by decide +kernel
theorem d_Rc_drop_110 : decode b_Rc_drop 110 = .ok (.iconst 1, 1) := by decide +kernel
theorem d_Rc_drop_111 : decode b_Rc_drop 111 = .ok (.iadd, 1) := by decide +kernel
theorem d_Rc_drop_112 : decode b_Rc_drop 112 = .ok (.putfield 42, 3) := by decide +kernel
theorem d_Rc_drop_115 : decode b_Rc_drop 115 = .ok (.return_, 1) := by decide +kernel
theorem d_Bl_joinBelow_0 : decode b_Bl_joinBelow 0 = .ok (.aload_n 0, 1) := by decide +kernel
theorem d_Bl_joinBelow_1 : decode b_Bl_joinBelow 1 = .ok (.getfield 19, 3) := by decide +kernel
theorem d_Bl_joinBelow_4 : decode b_Bl_joinBelow 4 = .ok (.iload_n 1, 1) := by decide +kernel
theorem d_Bl_joinBelow_5 : decode b_Bl_joinBelow 5 = .ok (.iaload, 1) := by decide +kernel
theorem d_Bl_joinBelow_6 : decode b_Bl_joinBelow 6 = .ok (.ineg, 1) := by decide +kernel
theorem d_Bl_joinBelow_7 : decode b_Bl_joinBelow 7 = .ok (.istore_n 2, 1) := by decide +kernel
theorem d_Bl_joinBelow_8 : decode b_Bl_joinBelow 8 = .ok (.iload_n 2, 1) := by decide +kernel
theorem d_Bl_joinBelow_9 : decode b_Bl_joinBelow 9 = .ok (.ifCond .le 29, 3) := by decide +kernel
theorem d_Bl_joinBelow_12 : decode b_Bl_joinBelow 12 = .ok (.iconst 0, 1) := by decide +kernel
theorem d_Bl_joinBelow_13 : decode b_Bl_joinBelow 13 = .ok (.istore_n 3, 1) := by decide +kernel
theorem d_Bl_joinBelow_14 : decode b_Bl_joinBelow 14 = .ok (.iload_n 3, 1) := by decide +kernel
theorem d_Bl_joinBelow_15 : decode b_Bl_joinBelow 15 = .ok (.bipush 32, 2) := by decide +kernel
theorem d_Bl_joinBelow_17 : decode b_Bl_joinBelow 17 = .ok (.if_icmp .ge 16, 3) := by decide +kernel
theorem d_Bl_joinBelow_20 : decode b_Bl_joinBelow 20 = .ok (.aload_n 0, 1) := by decide +kernel
theorem d_Bl_joinBelow_21 : decode b_Bl_joinBelow 21 = .ok (.iload_n 2, 1) := by decide +kernel
theorem d_Bl_joinBelow_22 : decode b_Bl_joinBelow 22 = .ok (.iload_n 3, 1) := by decide +kernel
theorem d_Bl_joinBelow_23 : decode b_Bl_joinBelow 23 = .ok (.iadd, 1) := by decide +kernel
theorem d_Bl_joinBelow_24 : decode b_Bl_joinBelow 24 = .ok (.invokevirtual 83, 3) := by decide +kernel
theorem d_Bl_joinBelow_27 : decode b_Bl_joinBelow 27 = .ok (.iinc 3 1, 3) := by decide +kernel
theorem d_Bl_joinBelow_30 : decode b_Bl_joinBelow 30 = .ok (.goto (-16), 3) := by decide +kernel
theorem d_Bl_joinBelow_33 : decode b_Bl_joinBelow 33 = .ok (.aload_n 0, 1) := by decide +kernel
theorem d_Bl_joinBelow_34 : decode b_Bl_joinBelow 34 = .ok (.iload_n 1, 1) := by decide +kernel
theorem d_Bl_joinBelow_35 : decode b_Bl_joinBelow 35 = .ok (.invokevirtual 83, 3) := by decide +kernel
theorem d_Bl_joinBelow_38 : decode b_Bl_joinBelow 38 = .ok (.return_, 1) := by decide +kernel
theorem d_Bl_join_0 : decode b_Bl_join 0 = .ok (.aload_n 0, 1) := by decide +kernel
theorem d_Bl_join_1 : decode b_Bl_join 1 = .ok (.getfield 19, 3) := by decide +kernel
theorem d_Bl_join_4 : decode b_Bl_join 4 = .ok (.iload_n 1, 1) := by decide +kernel
theorem d_Bl_join_5 : decode b_Bl_join 5 = .ok (.iaload, 1) := by decide +kernel
theorem d_Bl_join_6 : decode b_Bl_join 6 = .ok (.ineg, 1) := by decide +kernel
theorem d_Bl_join_7 : decode b_Bl_join 7 = .ok (.istore_n 2, 1) := by decide +kernel
theorem d_Bl_join_8 : decode b_Bl_join 8 = .ok (.iload_n 2, 1) := by decide +kernel
theorem d_Bl_join_9 : decode b_Bl_join 9 = .ok (.ifCond .le 55, 3) := by decide +kernel
theorem d_Bl_join_12 : decode b_Bl_join 12 = .ok (.aload_n 0, 1) := by decide +kernel
theorem d_Bl_join_13 : decode b_Bl_join 13 = .ok (.iload_n 2, 1) := by decide +kernel
theorem d_Bl_join_14 : decode b_Bl_join 14 = .ok (.invokevirtual 86, 3) := by decide +kernel
end
section
theorem d_Bl_join_17 : decode b_Bl_join 17 = .ok (.ifCond .eq 47, 3) := by decide +kernel
theorem d_Bl_join_20 : decode b_Bl_join 20 = .ok (.aload_n 0, 1) := by decide +kernel
theorem d_Bl_join_21 : decode b_Bl_join 21 = .ok (.getfield 19, 3) := by decide +kernel
theorem d_Bl_join_24 : decode b_Bl_join 24 = .ok (.iload_n 2, 1) := by decide +kernel
theorem d_Bl_join_25 : decode b_Bl_join 25 = .ok (.iaload, 1) := by decide +kernel
theorem d_Bl_join_26 : decode b_Bl_join 26 = .ok (.istore_n 3, 1) := by decide +kernel
theorem d_Bl_join_27 : decode b_Bl_join 27 = .ok (.aload_n 0, 1) := by decide +kernel
theorem d_Bl_join_28 : decode b_Bl_join 28 = .ok (.getfield 19, 3) := by decide +kernel
theorem d_Bl_join_31 : decode b_Bl_join 31 = .ok (.iload_n 1, 1) := by decide +kernel
theorem d_Bl_join_32 : decode b_Bl_join 32 = .ok (.iload_n 3, 1) := by decide +kernel
theorem d_Bl_join_33 : decode b_Bl_join 33 = .ok (.iastore, 1) := by decide +kernel
theorem d_Bl_join_34 : decode b_Bl_join 34 = .ok (.aload_n 0, 1) := by decide +kernel
theorem d_Bl_join_35 : decode b_Bl_join 35 = .ok (.getfield 14, 3) := by decide +kernel
theorem d_Bl_join_38 : decode b_Bl_join 38 = .ok (.iload_n 3, 1) := by decide +kernel
theorem d_Bl_join_39 : decode b_Bl_join 39 = .ok (.bipush 31, 2) := by decide +kernel
theorem d_Bl_join_41 : decode b_Bl_join 41 = .ok (.invokevirtual 80, 3) := by decide +kernel
theorem d_Bl_join_44 : decode b_Bl_join 44 = .ok (.aload_n 0, 1) := by decide +kernel
theorem d_Bl_join_45 : decode b_Bl_join 45 = .ok (.getfield 23, 3) := by decide +kernel
theorem d_Bl_join_48 : decode b_Bl_join 48 = .ok (.aload_n 0, 1) := by decide +kernel
theorem d_Bl_join_49 : decode b_Bl_join 49 = .ok (.getfield 40, 3) := by decide +kernel
theorem d_Bl_join_52 : decode b_Bl_join 52 = .ok (.iload_n 2, 1) := by decide +kernel
theorem d_Bl_join_53 : decode b_Bl_join 53 = .ok (.iastore, 1) := by decide +kernel
theorem d_Bl_join_54 : decode b_Bl_join 54 = .ok (.aload_n 0, 1) := by decide +kernel
theorem d_Bl_join_55 : decode b_Bl_join 55 = .ok (.dup, 1) := by decide +kernel
theorem d_Bl_join_56 : decode b_Bl_join 56 = .ok (.getfield 40, 3) := by decide +kernel
theorem d_Bl_join_59 : decode b_Bl_join 59 = .ok (.iconst 1, 1) := by decide +kernel
theorem d_Bl_join_60 : decode b_Bl_join 60 = .ok (.iadd, 1) := by decide +kernel
theorem d_Bl_join_61 : decode b_Bl_join 61 = .ok (.putfield 40, 3) := by decide +kernel
theorem d_Bl_join_64 : decode b_Bl_join 64 = .ok (.return_, 1) := by decide +kernel
theorem d_Bl_isAllAlike_0 : decode b_Bl_isAllAlike 0 = .ok (.aload_n 0, 1) := by decide +kernel
theorem d_Bl_isAllAlike_1 : decode b_Bl_isAllAlike 1 = .ok (.getfield 19, 3) := by decide +kernel
theorem d_Bl_isAllAlike_4 : decode b_Bl_isAllAlike 4 = .ok (.iload_n 1, 1) := by decide +kernel
theorem d_Bl_isAllAlike_5 : decode b_Bl_isAllAlike 5 = .ok (.iaload, 1) := by decide +kernel
theorem d_Bl_isAllAlike_6 : decode b_Bl_isAllAlike 6 = .ok (.istore_n 2, 1) := by decide +kernel
theorem d_Bl_isAllAlike_7 : decode b_Bl_isAllAlike 7 = .ok (.iload_n 2, 1) := by decide +kernel
theorem d_Bl_isAllAlike_8 : decode b_Bl_isAllAlike 8 = .ok (.ifCond .ge 5, 3) := by decide +kernel
theorem d_Bl_isAllAlike_11 : decode b_Bl_isAllAlike 11 = .ok (.iconst 0, 1) := by decide +kernel
theorem d_Bl_isAllAlike_12 : decode b_Bl_isAllAlike 12 = .ok (.ireturn, 1) := by decide +kernel
theorem d_Bl_isAllAlike_13 : decode b_Bl_isAllAlike 13 = .ok (.iconst 1, 1) := by decide +kernel
theorem d_Bl_isAllAlike_14 : decode b_Bl_isAllAlike 14 = .ok (.istore_n 3, 1) := by decide +kernel
theorem d_Bl_isAllAlike_15 : decode b_Bl_isAllAlike 15 = .ok (.iload_n 3, 1) := by decide +kernel
theorem d_Bl_isAllAlike_16 : decode b_Bl_isAllAlike 16 = .ok (.bipush 32, 2) := by decide +kernel
theorem d_Bl_isAllAlike_18 : decode b_Bl_isAllAlike 18 = .ok (.if_icmp .ge 23, 3) := by decide +kernel
theorem d_Bl_isAllAlike_21 : decode b_Bl_isAllAlike 21 = .ok (.aload_n 0, 1) := by decide +kernel
theorem d_Bl_isAllAlike_22 : decode b_Bl_isAllAlike 22 = .ok (.getfield 19, 3) := by decide +kernel
theorem d_Bl_isAllAlike_25 : decode b_Bl_isAllAlike 25 = .ok (.iload_n 1, 1) := by decide +kernel
theorem d_Bl_isAllAlike_26 : decode b_Bl_isAllAlike 26 = .ok (.iload_n 3, 1) := by decide +kernel
theorem d_Bl_isAllAlike_27 : decode b_Bl_isAllAlike 27 = .ok (.iadd, 1) := by decide +kernel
theorem d_Bl_isAllAlike_28 : decode b_Bl_isAllAlike 28 = .ok (.iaload, 1) := by decide +kernel
theorem d_Bl_isAllAlike_29 : decode b_Bl_isAllAlike 29 = .ok (.iload_n 2, 1) := by decide +kernel
theorem d_Bl_isAllAlike_30 : decode b_Bl_isAllAlike 30 = .ok (.if_icmp .eq 5, 3) := by decide +kernel
theorem d_Bl_isAllAlike_33 : decode b_Bl_isAllAlike 33 = .ok (.iconst 0, 1) := by decide +kernel
theorem d_Bl_isAllAlike_34 : decode b_Bl_isAllAlike 34 = .ok (.ireturn, 1) := by decide +kernel
theorem d_Bl_isAllAlike_35 : decode b_Bl_isAllAlike 35 = .ok (.iinc 3 1, 3) := by decide +kernel
theorem d_Bl_isAllAlike_38 : decode b_Bl_isAllAlike 38 = .ok (.goto (-23), 3) := by decide +kernel
theorem d_Bl_isAllAlike_41 : decode b_Bl_isAllAlike 41 = .ok (.iconst 1, 1) := by decide +kernel
theorem d_Bl_isAllAlike_42 : decode b_Bl_isAllAlike 42 = .ok (.ireturn, 1) := by decide +kernel
theorem d_La_mark_0 : decode b_La_mark 0 = .ok (.aload 6, 2) := by decide +kernel
theorem d_La_mark_2 : decode b_La_mark 2 = .ok (.iconst 0, 1) := by decide +kernel
theorem d_La_mark_3 : decode b_La_mark 3 = .ok (.aload_n 0, 1) := by decide +kernel
theorem d_La_mark_4 : decode b_La_mark 4 = .ok (.iload_n 1, 1) := by decide +kernel
theorem d_La_mark_5 : decode b_La_mark 5 = .ok (.iload_n 2, 1) := by decide +kernel
theorem d_La_mark_6 : decode b_La_mark 6 = .ok (.iload_n 3, 1) := by decide +kernel
theorem d_La_mark_7 : decode b_La_mark 7 = .ok (.iload 4, 2) := by decide +kernel
theorem d_La_mark_9 : decode b_La_mark 9 = .ok (.iload 5, 2) := by decide +kernel
theorem d_La_mark_11 : decode b_La_mark 11 = .ok (.invokevirtual 15, 3) := by decide +kernel
theorem d_La_mark_14 : decode b_La_mark 14 = .ok (.i2l, 1) := by decide +kernel
theorem d_La_mark_15 : decode b_La_mark 15 = .ok (.lastore, 1) := by decide +kernel
theorem d_La_mark_16 : decode b_La_mark 16 = .ok (.goto 7, 3) := by decide +kernel
theorem d_La_mark_19 : decode b_La_mark 19 = .ok (.astore 7, 2) := by decide +kernel
theorem d_La_mark_21 : decode b_La_mark 21 = .ok (.iconst 1, 1) := by decide +kernel
theorem d_La_mark_22 : decode b_La_mark 22 = .ok (.ireturn, 1) := by decide +kernel
theorem d_La_mark_23 : decode b_La_mark 23 = .ok (.iconst 0, 1) := by decide +kernel
theorem d_La_mark_24 : decode b_La_mark 24 = .ok (.ireturn, 1) := by decide +kernel
theorem d_La_get_0 : decode b_La_get 0 = .ok (.aload_n 3, 1) := by decide +kernel
theorem d_La_get_1 : decode b_La_get 1 = .ok (.iconst 0, 1) := by decide +kernel
theorem d_La_get_2 : decode b_La_get 2 = .ok (.aload_n 0, 1) := by decide +kernel
theorem d_La_get_3 : decode b_La_get 3 = .ok (.iload_n 1, 1) := by decide +kernel
theorem d_La_get_4 : decode b_La_get 4 = .ok (.iload_n 2, 1) := by decide +kernel
theorem d_La_get_5 : decode b_La_get 5 = .ok (.invokevirtual 19, 3) := by decide +kernel
theorem d_La_get_8 : decode b_La_get 8 = .ok (.i2l, 1) := by decide +kernel
theorem d_La_get_9 : decode b_La_get 9 = .ok (.lastore, 1) := by decide +kernel
theorem d_La_get_10 : decode b_La_get 10 = .ok (.goto 7, 3) := by decide +kernel
theorem d_La_get_13 : decode b_La_get 13 = .ok (.astore 4, 2) := by decide +kernel
theorem d_La_get_15 : decode b_La_get 15 = .ok (.iconst 1, 1) := by decide +kernel
theorem d_La_get_16 : decode b_La_get 16 = .ok (.ireturn, 1) := by decide +kernel
theorem d_La_get_17 : decode b_La_get 17 = .ok (.iconst 0, 1) := by decide +kernel
theorem d_La_get_18 : decode b_La_get 18 = .ok (.ireturn, 1) := by decide +kernel
theorem d_Pt_get_0 : decode b_Pt_get 0 = .ok (.iload_n 1, 1) := by decide +kernel
theorem d_Pt_get_1 : decode b_Pt_get 1 = .ok (.invokestatic 41, 3) := by decide +kernel
theorem d_Pt_get_4 : decode b_Pt_get 4 = .ok (.iload_n 2, 1) := by decide +kernel
theorem d_Pt_get_5 : decode b_Pt_get 5 = .ok (.invokestatic 24, 3) := by decide +kernel
theorem d_Pt_get_8 : decode b_Pt_get 8 = .ok (.aload_n 0, 1) := by decide +kernel
theorem d_Pt_get_9 : decode b_Pt_get 9 = .ok (.iload_n 1, 1) := by decide +kernel
theorem d_Pt_get_10 : decode b_Pt_get 10 = .ok (.iload_n 2, 1) := by decide +kernel
theorem d_Pt_get_11 : decode b_Pt_get 11 = .ok (.invokevirtual 44, 3) := by decide +kernel
theorem d_Pt_get_14 : decode b_Pt_get 14 = .ok (.ireturn, 1) := by decide +kernel
theorem d_Pt_checkPoint_0 : decode b_Pt_checkPoint 0 = .ok (.iload_n 0, 1) := by decide +kernel
theorem d_Pt_checkPoint_1 : decode b_Pt_checkPoint 1 = .ok (.ifCond .lt 9, 3) := by decide +kernel
theorem d_Pt_checkPoint_4 : decode b_Pt_checkPoint 4 = .ok (.iload_n 0, 1) := by decide +kernel
theorem d_Pt_checkPoint_5 : decode b_Pt_checkPoint 5 = .ok (.ldc 48, 2) := by decide +kernel
theorem d_Pt_checkPoint_7 : decode b_Pt_checkPoint 7 = .ok (.if_icmp .le 13, 3) := by decide +kernel
theorem d_Pt_checkPoint_10 : decode b_Pt_checkPoint 10 = .ok (.new 71, 3) := by decide +kernel
theorem d_Pt_checkPoint_13 : decode b_Pt_checkPoint 13 = .ok (.dup, 1) := by decide +kernel
theorem d_Pt_checkPoint_14 : decode b_Pt_checkPoint 14 = .ok (.ldc 73, 2) := by decide +kernel
theorem d_Pt_checkPoint_16 : decode b_Pt_checkPoint 16 = .ok (.invokespecial 75, 3) := by decide +kernel
theorem d_Pt_checkPoint_19 : decode b_Pt_checkPoint 19 = .ok (.athrow, 1) := by decide +kernel
theorem d_Pt_checkPoint_20 : decode b_Pt_checkPoint 20 = .ok (.return_, 1) := by decide +kernel
theorem d_Pt_valueAt_0 : decode b_Pt_valueAt 0 = .ok (.aload_n 0, 1) := by decide +kernel
theorem d_Pt_valueAt_1 : decode b_Pt_valueAt 1 = .ok (.getfield 12, 3) := by decide +kernel
theorem d_Pt_valueAt_4 : decode b_Pt_valueAt 4 = .ok (.getfield 28, 3) := by decide +kernel
theorem d_Pt_valueAt_7 : decode b_Pt_valueAt 7 = .ok (.aload_n 0, 1) := by decide +kernel
theorem d_Pt_valueAt_8 : decode b_Pt_valueAt 8 = .ok (.getfield 12, 3) := by decide +kernel
theorem d_Pt_valueAt_11 : decode b_Pt_valueAt 11 = .ok (.iload_n 1, 1) := by decide +kernel
theorem d_Pt_valueAt_12 : decode b_Pt_valueAt 12 = .ok (.invokevirtual 58, 3) := by decide +kernel
theorem d_Pt_valueAt_15 : decode b_Pt_valueAt 15 = .ok (.iload_n 2, 1) := by decide +kernel
theorem d_Pt_valueAt_16 : decode b_Pt_valueAt 16 = .ok (.invokevirtual 68, 3) := by decide +kernel
theorem d_Pt_valueAt_19 : decode b_Pt_valueAt 19 = .ok (.ireturn, 1) := by decide +kernel
theorem d_Rc_value_0 : decode b_Rc_value 0 = .ok (.aload_n 0, 1) := by decide +kernel
theorem d_Rc_value_1 : decode b_Rc_value 1 = .ok (.getfield 11, 3) := by decide +kernel
theorem d_Rc_value_4 : decode b_Rc_value 4 = .ok (.iload_n 1, 1) := by decide +kernel
theorem d_Rc_value_5 : decode b_Rc_value 5 = .ok (.bipush 8, 2) := by decide +kernel
theorem d_Rc_value_7 : decode b_Rc_value 7 = .ok (.imul, 1) := by decide +kernel
theorem d_Rc_value_8 : decode b_Rc_value 8 = .ok (.iload_n 2, 1) := by decide +kernel
theorem d_Rc_value_9 : decode b_Rc_value 9 = .ok (.iadd, 1) := by decide +kernel
theorem d_Rc_value_10 : decode b_Rc_value 10 = .ok (.iaload, 1) := by decide +kernel
theorem d_Rc_value_11 : decode b_Rc_value 11 = .ok (.ireturn, 1) := by decide +kernel
theorem d_La_change_0 : decode b_La_change 0 = .ok (.aload_n 3, 1) := by decide +kernel
theorem d_La_change_1 : decode b_La_change 1 = .ok (.iconst 0, 1) := by decide +kernel
theorem d_La_change_2 : decode b_La_change 2 = .ok (.aload_n 0, 1) := by decide +kernel
theorem d_La_change_3 : decode b_La_change 3 = .ok (.iload_n 1, 1) := by decide +kernel
theorem d_La_change_4 : decode b_La_change 4 = .ok (.iload_n 2, 1) := by decide +kernel
theorem d_La_change_5 : decode b_La_change 5 = .ok (.invokevirtual 23, 3) := by decide +kernel
theorem d_La_change_8 : decode b_La_change 8 = .ok (.i2l, 1) := by decide +kernel
theorem d_La_change_9 : decode b_La_change 9 = .ok (.lastore, 1) := by decide +kernel
theorem d_La_change_10 : decode b_La_change 10 = .ok (.goto 7, 3) := by decide +kernel
theorem d_La_change_13 : decode b_La_change 13 = .ok (.astore 4, 2) := by decide +kernel
theorem d_La_change_15 : decode b_La_change 15 = .ok (.iconst 1, 1) := by decide +kernel
theorem d_La_change_16 : decode b_La_change 16 = .ok (.ireturn, 1) := by decide +kernel
theorem d_La_change_17 : decode b_La_change 17 = .ok (.iconst 0, 1) := by decide +kernel
theorem d_La_change_18 : decode b_La_change 18 = .ok (.ireturn, 1) := by decide +kernel
theorem d_Pt_change_0 : decode b_Pt_change 0 = .ok (.iload_n 1, 1) := by decide +kernel
theorem d_Pt_change_1 : decode b_Pt_change 1 = .ok (.invokestatic 41, 3) := by decide +kernel
theorem d_Pt_change_4 : decode b_Pt_change 4 = .ok (.iload_n 2, 1) := by decide +kernel
theorem d_Pt_change_5 : decode b_Pt_change 5 = .ok (.invokestatic 24, 3) := by decide +kernel
theorem d_Pt_change_8 : decode b_Pt_change 8 = .ok (.aload_n 0, 1) := by decide +kernel
theorem d_Pt_change_9 : decode b_Pt_change 9 = .ok (.iload_n 1, 1) := by decide +kernel
theorem d_Pt_change_10 : decode b_Pt_change 10 = .ok (.iload_n 2, 1) := by decide +kernel
theorem d_Pt_change_11 : decode b_Pt_change 11 = .ok (.invokevirtual 44, 3) := by decide +kernel
theorem d_Pt_change_14 : decode b_Pt_change 14 = .ok (.istore_n 3, 1) := by decide +kernel
theorem d_Pt_change_15 : decode b_Pt_change 15 = .ok (.iload_n 1, 1) := by decide +kernel
theorem d_Pt_change_16 : decode b_Pt_change 16 = .ok (.istore 4, 2) := by decide +kernel
theorem d_Pt_change_18 : decode b_Pt_change 18 = .ok (.iload 4, 2) := by decide +kernel
theorem d_Pt_change_20 : decode b_Pt_change 20 = .ok (.ldc 48, 2) := by decide +kernel
theorem d_Pt_change_22 : decode b_Pt_change 22 = .ok (.if_icmp .gt 36, 3) := by decide +kernel
theorem d_Pt_change_25 : decode b_Pt_change 25 = .ok (.aload_n 0, 1) := by decide +kernel
theorem d_Pt_change_26 : decode b_Pt_change 26 = .ok (.iload 4, 2) := by decide +kernel
theorem d_Pt_change_28 : decode b_Pt_change 28 = .ok (.iload_n 2, 1) := by decide +kernel
theorem d_Pt_change_29 : decode b_Pt_change 29 = .ok (.invokevirtual 44, 3) := by decide +kernel
theorem d_Pt_change_32 : decode b_Pt_change 32 = .ok (.iload_n 3, 1) := by decide +kernel
theorem d_Pt_change_33 : decode b_Pt_change 33 = .ok (.if_icmp .eq 6, 3) := by decide +kernel
theorem d_Pt_change_36 : decode b_Pt_change 36 = .ok (.iload 4, 2) := by decide +kernel
theorem d_Pt_change_38 : decode b_Pt_change 38 = .ok (.ireturn, 1) := by decide +kernel
theorem d_Pt_change_39 : decode b_Pt_change 39 = .ok (.iload 4, 2) := by decide +kernel
theorem d_Pt_change_41 : decode b_Pt_change 41 = .ok (.aload_n 0, 1) := by decide +kernel
theorem d_Pt_change_42 : decode b_Pt_change 42 = .ok (.getfield 12, 3) := by decide +kernel
theorem d_Pt_change_45 : decode b_Pt_change 45 = .ok (.getfield 49, 3) := by decide +kernel
theorem d_Pt_change_48 : decode b_Pt_change 48 = .ok (.invokestatic 53, 3) := by decide +kernel
theorem d_Pt_change_51 : decode b_Pt_change 51 = .ok (.iconst 1, 1) := by decide +kernel
theorem d_Pt_change_52 : decode b_Pt_change 52 = .ok (.iadd, 1) := by decide +kernel
theorem d_Pt_change_53 : decode b_Pt_change 53 = .ok (.istore 4, 2) := by decide +kernel
theorem d_Pt_change_55 : decode b_Pt_change 55 = .ok (.goto (-37), 3) := by decide +kernel
theorem d_Pt_change_58 : decode b_Pt_change 58 = .ok (.iconst (-1), 1) := by decide +kernel
theorem d_Pt_change_59 : decode b_Pt_change 59 = .ok (.ireturn, 1) := by decide +kernel
theorem d_La_alike_0 : decode b_La_alike 0 = .ok (.aload_n 3, 1) := by decide +kernel
theorem d_La_alike_1 : decode b_La_alike 1 = .ok (.iconst 0, 1) := by decide +kernel
theorem d_La_alike_2 : decode b_La_alike 2 = .ok (.aload_n 0, 1) := by decide +kernel
theorem d_La_alike_3 : decode b_La_alike 3 = .ok (.iload_n 1, 1) := by decide +kernel
theorem d_La_alike_4 : decode b_La_alike 4 = .ok (.iload_n 2, 1) := by decide +kernel
theorem d_La_alike_5 : decode b_La_alike 5 = .ok (.invokevirtual 26, 3) := by decide +kernel
theorem d_La_alike_8 : decode b_La_alike 8 = .ok (.ifCond .eq 7, 3) := by decide +kernel
theorem d_La_alike_11 : decode b_La_alike 11 = .ok (.lconst 1, 1) := by decide +kernel
theorem d_La_alike_12 : decode b_La_alike 12 = .ok (.goto 4, 3) := by decide +kernel
theorem d_La_alike_15 : decode b_La_alike 15 = .ok (.lconst 0, 1) := by decide +kernel
theorem d_La_alike_16 : decode b_La_alike 16 = .ok (.lastore, 1) := by decide +kernel
theorem d_La_alike_17 : decode b_La_alike 17 = .ok (.goto 7, 3) := by decide +kernel
theorem d_La_alike_20 : decode b_La_alike 20 = .ok (.astore 4, 2) := by decide +kernel
theorem d_La_alike_22 : decode b_La_alike 22 = .ok (.iconst 1, 1) := by decide +kernel
theorem d_La_alike_23 : decode b_La_alike 23 = .ok (.ireturn, 1) := by decide +kernel
theorem d_La_alike_24 : decode b_La_alike 24 = .ok (.iconst 0, 1) := by decide +kernel
theorem d_La_alike_25 : decode b_La_alike 25 = .ok (.ireturn, 1) := by decide +kernel
theorem d_Pt_alike_0 : decode b_Pt_alike 0 = .ok (.iload_n 1, 1) := by decide +kernel
theorem d_Pt_alike_1 : decode b_Pt_alike 1 = .ok (.invokestatic 41, 3) := by decide +kernel
theorem d_Pt_alike_4 : decode b_Pt_alike 4 = .ok (.iload_n 2, 1) := by decide +kernel
theorem d_Pt_alike_5 : decode b_Pt_alike 5 = .ok (.invokestatic 41, 3) := by decide +kernel
theorem d_Pt_alike_8 : decode b_Pt_alike 8 = .ok (.aload_n 0, 1) := by decide +kernel
theorem d_Pt_alike_9 : decode b_Pt_alike 9 = .ok (.getfield 12, 3) := by decide +kernel
theorem d_Pt_alike_12 : decode b_Pt_alike 12 = .ok (.iload_n 1, 1) := by decide +kernel
theorem d_Pt_alike_13 : decode b_Pt_alike 13 = .ok (.invokevirtual 58, 3) := by decide +kernel
theorem d_Pt_alike_16 : decode b_Pt_alike 16 = .ok (.aload_n 0, 1) := by decide +kernel
theorem d_Pt_alike_17 : decode b_Pt_alike 17 = .ok (.getfield 12, 3) := by decide +kernel
theorem d_Pt_alike_20 : decode b_Pt_alike 20 = .ok (.iload_n 2, 1) := by decide +kernel
theorem d_Pt_alike_21 : decode b_Pt_alike 21 = .ok (.invokevirtual 58, 3) := by decide +kernel
theorem d_Pt_alike_24 : decode b_Pt_alike 24 = .ok (.if_icmp .ne 7, 3) := by decide +kernel
theorem d_Pt_alike_27 : decode b_Pt_alike 27 = .ok (.iconst 1, 1) := by decide +kernel
theorem d_Pt_alike_28 : decode b_Pt_alike 28 = .ok (.goto 4, 3) := by decide +kernel
theorem d_Pt_alike_31 : decode b_Pt_alike 31 = .ok (.iconst 0, 1) := by decide +kernel
theorem d_Pt_alike_32 : decode b_Pt_alike 32 = .ok (.ireturn, 1) := by decide +kernel
theorem d_La_hash_0 : decode b_La_hash 0 = .ok (.aload 4, 2) := by decide +kernel
theorem d_La_hash_2 : decode b_La_hash 2 = .ok (.iconst 0, 1) := by decide +kernel
theorem d_La_hash_3 : decode b_La_hash 3 = .ok (.aload_n 0, 1) := by decide +kernel
theorem d_La_hash_4 : decode b_La_hash 4 = .ok (.iload_n 1, 1) := by decide +kernel
theorem d_La_hash_5 : decode b_La_hash 5 = .ok (.iload_n 2, 1) := by decide +kernel
theorem d_La_hash_6 : decode b_La_hash 6 = .ok (.iload_n 3, 1) := by decide +kernel
theorem d_La_hash_7 : decode b_La_hash 7 = .ok (.invokevirtual 30, 3) := by decide +kernel
theorem d_La_hash_10 : decode b_La_hash 10 = .ok (.i2l, 1) := by decide +kernel
theorem d_La_hash_11 : decode b_La_hash 11 = .ok (.lastore, 1) := by decide +kernel
theorem d_La_hash_12 : decode b_La_hash 12 = .ok (.goto 7, 3) := by decide +kernel
theorem d_La_hash_15 : decode b_La_hash 15 = .ok (.astore 5, 2) := by decide +kernel
theorem d_La_hash_17 : decode b_La_hash 17 = .ok (.iconst 1, 1) := by decide +kernel
theorem d_La_hash_18 : decode b_La_hash 18 = .ok (.ireturn, 1) := by decide +kernel
theorem d_La_hash_19 : decode b_La_hash 19 = .ok (.iconst 0, 1) := by decide +kernel
theorem d_La_hash_20 : decode b_La_hash 20 = .ok (.ireturn, 1) := by decide +kernel
theorem d_Pt_hash_0 : decode b_Pt_hash 0 = .ok (.iload_n 1, 1) := by decide +kernel
theorem d_Pt_hash_1 : decode b_Pt_hash 1 = .ok (.iload_n 2, 1) := by decide +kernel
theorem d_Pt_hash_2 : decode b_Pt_hash 2 = .ok (.invokestatic 20, 3) := by decide +kernel
theorem d_Pt_hash_5 : decode b_Pt_hash 5 = .ok (.iload_n 2, 1) := by decide +kernel
theorem d_Pt_hash_6 : decode b_Pt_hash 6 = .ok (.iload_n 1, 1) := by decide +kernel
theorem d_Pt_hash_7 : decode b_Pt_hash 7 = .ok (.isub, 1) := by decide +kernel
theorem d_Pt_hash_8 : decode b_Pt_hash 8 = .ok (.iconst 1, 1) := by decide +kernel
theorem d_Pt_hash_9 : decode b_Pt_hash 9 = .ok (.iadd, 1) := by decide +kernel
theorem d_Pt_hash_10 : decode b_Pt_hash 10 = .ok (.invokestatic 62, 3) := by decide +kernel
theorem d_Pt_hash_13 : decode b_Pt_hash 13 = .ok (.iload_n 3, 1) := by decide +kernel
theorem d_Pt_hash_14 : decode b_Pt_hash 14 = .ok (.invokestatic 24, 3) := by decide +kernel
theorem d_Pt_hash_17 : decode b_Pt_hash 17 = .ok (.iconst 1, 1) := by decide +kernel
theorem d_Pt_hash_18 : decode b_Pt_hash 18 = .ok (.istore 4, 2) := by decide +kernel
theorem d_Pt_hash_20 : decode b_Pt_hash 20 = .ok (.iconst 0, 1) := by decide +kernel
theorem d_Pt_hash_21 : decode b_Pt_hash 21 = .ok (.istore 5, 2) := by decide +kernel
theorem d_Pt_hash_23 : decode b_Pt_hash 23 = .ok (.iconst (-1), 1) := by decide +kernel
theorem d_Pt_hash_24 : decode b_Pt_hash 24 = .ok (.istore 6, 2) := by decide +kernel
theorem d_Pt_hash_26 : decode b_Pt_hash 26 = .ok (.iload_n 1, 1) := by decide +kernel
theorem d_Pt_hash_27 : decode b_Pt_hash 27 = .ok (.istore 7, 2) := by decide +kernel
theorem d_Pt_hash_29 : decode b_Pt_hash 29 = .ok (.iload 7, 2) := by decide +kernel
theorem d_Pt_hash_31 : decode b_Pt_hash 31 = .ok (.iload_n 2, 1) := by decide +kernel
theorem d_Pt_hash_32 : decode b_Pt_hash 32 = .ok (.if_icmp .gt 44, 3) := by decide +kernel
theorem d_Pt_hash_35 : decode b_Pt_hash 35 = .ok (.iload 7, 2) := by decide +kernel
theorem d_Pt_hash_37 : decode b_Pt_hash 37 = .ok (.iload 6, 2) := by decide +kernel
theorem d_Pt_hash_39 : decode b_Pt_hash 39 = .ok (.if_icmp .le 21, 3) := by decide +kernel
theorem d_Pt_hash_42 : decode b_Pt_hash 42 = .ok (.aload_n 0, 1) := by decide +kernel
theorem d_Pt_hash_43 : decode b_Pt_hash 43 = .ok (.iload 7, 2) := by decide +kernel
theorem d_Pt_hash_45 : decode b_Pt_hash 45 = .ok (.iload_n 3, 1) := by decide +kernel
theorem d_Pt_hash_46 : decode b_Pt_hash 46 = .ok (.invokevirtual 44, 3) := by decide +kernel
theorem d_Pt_hash_49 : decode b_Pt_hash 49 = .ok (.istore 5, 2) := by decide +kernel
theorem d_Pt_hash_51 : decode b_Pt_hash 51 = .ok (.aload_n 0, 1) := by decide +kernel
theorem d_Pt_hash_52 : decode b_Pt_hash 52 = .ok (.getfield 12, 3) := by decide +kernel
theorem d_Pt_hash_55 : decode b_Pt_hash 55 = .ok (.getfield 49, 3) := by decide +kernel
theorem d_Pt_hash_58 : decode b_Pt_hash 58 = .ok (.istore 6, 2) := by decide +kernel
theorem d_Pt_hash_60 : decode b_Pt_hash 60 = .ok (.bipush 31, 2) := by decide +kernel
theorem d_Pt_hash_62 : decode b_Pt_hash 62 = .ok (.iload 4, 2) := by decide +kernel
theorem d_Pt_hash_64 : decode b_Pt_hash 64 = .ok (.imul, 1) := by decide +kernel
theorem d_Pt_hash_65 : decode b_Pt_hash 65 = .ok (.iload 5, 2) := by decide +kernel
theorem d_Pt_hash_67 : decode b_Pt_hash 67 = .ok (.iadd, 1) := by decide +kernel
theorem d_Pt_hash_68 : decode b_Pt_hash 68 = .ok (.istore 4, 2) := by decide +kernel
theorem d_Pt_hash_70 : decode b_Pt_hash 70 = .ok (.iinc 7 1, 3) := by decide +kernel
theorem d_Pt_hash_73 : decode b_Pt_hash 73 = .ok (.goto (-44), 3) := by decide +kernel
theorem d_Pt_hash_76 : decode b_Pt_hash 76 = .ok (.iload 4, 2) := by decide +kernel
theorem d_Pt_hash_78 : decode b_Pt_hash 78 = .ok (.ireturn, 1) := by decide +kernel
theorem d_Pt_checkLength_0 : decode b_Pt_checkLength 0 = .ok (.iload_n 0, 1) := by decide +kernel
theorem d_Pt_checkLength_1 : decode b_Pt_checkLength 1 = .ok (.sipush 4000, 3) := by decide +kernel
theorem d_Pt_checkLength_4 : decode b_Pt_checkLength 4 = .ok (.if_icmp .le 13, 3) := by decide +kernel
theorem d_Pt_checkLength_7 : decode b_Pt_checkLength 7 = .ok (.new 71, 3) := by decide +kernel
theorem d_Pt_checkLength_10 : decode b_Pt_checkLength 10 = .ok (.dup, 1) := by decide +kernel
theorem d_Pt_checkLength_11 : decode b_Pt_checkLength 11 = .ok (.ldc 82, 2) := by decide +kernel
theorem d_Pt_checkLength_13 : decode b_Pt_checkLength 13 = .ok (.invokespecial 75, 3) := by decide +kernel
theorem d_Pt_checkLength_16 : decode b_Pt_checkLength 16 = .ok (.athrow, 1) := by decide +kernel
theorem d_Pt_checkLength_17 : decode b_Pt_checkLength 17 = .ok (.return_, 1) := by decide +kernel
theorem d_Mo_init_0 : decode b_Mo_init 0 = .ok (.aload_n 0, 1) := by decide +kernel
theorem d_Mo_init_1 : decode b_Mo_init 1 = .ok (.invokespecial 1, 3) := by decide +kernel
theorem d_Mo_init_4 : decode b_Mo_init 4 = .ok (.aload_n 0, 1) := by decide +kernel
theorem d_Mo_init_5 : decode b_Mo_init 5 = .ok (.iconst 1, 1) := by decide +kernel
theorem d_Mo_init_6 : decode b_Mo_init 6 = .ok (.putfield 7, 3) := by decide +kernel
theorem d_Mo_init_9 : decode b_Mo_init 9 = .ok (.aload_n 0, 1) := by decide +kernel
theorem d_Mo_init_10 : decode b_Mo_init 10 = .ok (.sipush 9000, 3) := by decide +kernel
theorem d_Mo_init_13 : decode b_Mo_init 13 = .ok (.newarray .int, 2) := by decide +kernel
theorem d_Mo_init_15 : decode b_Mo_init 15 = .ok (.putfield 13, 3) := by decide +kernel
theorem d_Mo_init_18 : decode b_Mo_init 18 = .ok (.aload_n 0, 1) := by decide +kernel
theorem d_Mo_init_19 : decode b_Mo_init 19 = .ok (.ldc 17, 2) := by decide +kernel
theorem d_Mo_init_21 : decode b_Mo_init 21 = .ok (.newarray .int, 2) := by decide +kernel
theorem d_Mo_init_23 : decode b_Mo_init 23 = .ok (.putfield 18, 3) := by decide +kernel
theorem d_Mo_init_26 : decode b_Mo_init 26 = .ok (.return_, 1) := by decide +kernel
theorem d_Mo_thrown_0 : decode b_Mo_thrown 0 = .ok (.aload_n 0, 1) := by decide +kernel
theorem d_Mo_thrown_1 : decode b_Mo_thrown 1 = .ok (.getfield 21, 3) := by decide +kernel
theorem d_Mo_thrown_4 : decode b_Mo_thrown 4 = .ok (.ireturn, 1) := by decide +kernel
theorem d_Mo_set_0 : decode b_Mo_set 0 = .ok (.aload_n 0, 1) := by decide +kernel
theorem d_Mo_set_1 : decode b_Mo_set 1 = .ok (.iload_n 1, 1) := by decide +kernel
theorem d_Mo_set_2 : decode b_Mo_set 2 = .ok (.iload_n 2, 1) := by decide +kernel
theorem d_Mo_set_3 : decode b_Mo_set 3 = .ok (.iload_n 3, 1) := by decide +kernel
theorem d_Mo_set_4 : decode b_Mo_set 4 = .ok (.iload 4, 2) := by decide +kernel
theorem d_Mo_set_6 : decode b_Mo_set 6 = .ok (.iconst 0, 1) := by decide +kernel
theorem d_Mo_set_7 : decode b_Mo_set 7 = .ok (.invokevirtual 29, 3) := by decide +kernel
theorem d_Mo_set_10 : decode b_Mo_set 10 = .ok (.ireturn, 1) := by decide +kernel
theorem d_Mo_mark_0 : decode b_Mo_mark 0 = .ok (.aload_n 0, 1) := by decide +kernel
theorem d_Mo_mark_1 : decode b_Mo_mark 1 = .ok (.iconst 0, 1) := by decide +kernel
theorem d_Mo_mark_2 : decode b_Mo_mark 2 = .ok (.putfield 21, 3) := by decide +kernel
theorem d_Mo_mark_5 : decode b_Mo_mark 5 = .ok (.aload_n 0, 1) := by decide +kernel
theorem d_Mo_mark_6 : decode b_Mo_mark 6 = .ok (.iload_n 1, 1) := by decide +kernel
theorem d_Mo_mark_7 : decode b_Mo_mark 7 = .ok (.invokevirtual 33, 3) := by decide +kernel
theorem d_Mo_mark_10 : decode b_Mo_mark 10 = .ok (.ifCond .ne 26, 3) := by decide +kernel
theorem d_Mo_mark_13 : decode b_Mo_mark 13 = .ok (.aload_n 0, 1) := by decide +kernel
theorem d_Mo_mark_14 : decode b_Mo_mark 14 = .ok (.iload_n 2, 1) := by decide +kernel
theorem d_Mo_mark_15 : decode b_Mo_mark 15 = .ok (.invokevirtual 33, 3) := by decide +kernel
theorem d_Mo_mark_18 : decode b_Mo_mark 18 = .ok (.ifCond .ne 18, 3) := by decide +kernel
theorem d_Mo_mark_21 : decode b_Mo_mark 21 = .ok (.iload_n 2, 1) := by decide +kernel
theorem d_Mo_mark_22 : decode b_Mo_mark 22 = .ok (.iload_n 1, 1) := by decide +kernel
theorem d_Mo_mark_23 : decode b_Mo_mark 23 = .ok (.if_icmp .lt 13, 3) := by decide +kernel
theorem d_Mo_mark_26 : decode b_Mo_mark 26 = .ok (.iload_n 3, 1) := by decide +kernel
theorem d_Mo_mark_27 : decode b_Mo_mark 27 = .ok (.ifCond .lt 9, 3) := by decide +kernel
theorem d_Mo_mark_30 : decode b_Mo_mark 30 = .ok (.iload_n 3, 1) := by decide +kernel
theorem d_Mo_mark_31 : decode b_Mo_mark 31 = .ok (.bipush 7, 2) := by decide +kernel
theorem d_Mo_mark_33 : decode b_Mo_mark 33 = .ok (.if_icmp .le 9, 3) := by decide +kernel
theorem d_Mo_mark_36 : decode b_Mo_mark 36 = .ok (.aload_n 0, 1) := by decide +kernel
theorem d_Mo_mark_37 : decode b_Mo_mark 37 = .ok (.iconst 1, 1) := by decide +kernel
theorem d_Mo_mark_38 : decode b_Mo_mark 38 = .ok (.invokevirtual 37, 3) := by decide +kernel
theorem d_Mo_mark_41 : decode b_Mo_mark 41 = .ok (.ireturn, 1) := by decide +kernel
theorem d_Mo_mark_42 : decode b_Mo_mark 42 = .ok (.aload_n 0, 1) := by decide +kernel
theorem d_Mo_mark_43 : decode b_Mo_mark 43 = .ok (.iload_n 1, 1) := by decide +kernel
theorem d_Mo_mark_44 : decode b_Mo_mark 44 = .ok (.invokevirtual 40, 3) := by decide +kernel
theorem d_Mo_mark_47 : decode b_Mo_mark 47 = .ok (.aload_n 0, 1) := by decide +kernel
theorem d_Mo_mark_48 : decode b_Mo_mark 48 = .ok (.iload_n 2, 1) := by decide +kernel
theorem d_Mo_mark_49 : decode b_Mo_mark 49 = .ok (.iconst 1, 1) := by decide +kernel
theorem d_Mo_mark_50 : decode b_Mo_mark 50 = .ok (.iadd, 1) := by decide +kernel
theorem d_Mo_mark_51 : decode b_Mo_mark 51 = .ok (.invokevirtual 40, 3) := by decide +kernel
theorem d_Mo_mark_54 : decode b_Mo_mark 54 = .ok (.aload_n 0, 1) := by decide +kernel
theorem d_Mo_mark_55 : decode b_Mo_mark 55 = .ok (.iload_n 1, 1) := by decide +kernel
theorem d_Mo_mark_56 : decode b_Mo_mark 56 = .ok (.invokevirtual 25, 3) := by decide +kernel
theorem d_Mo_mark_59 : decode b_Mo_mark 59 = .ok (.istore 6, 2) := by decide +kernel
theorem d_Mo_mark_61 : decode b_Mo_mark 61 = .ok (.iload 6, 2) := by decide +kernel
theorem d_Mo_mark_63 : decode b_Mo_mark 63 = .ok (.aload_n 0, 1) := by decide +kernel
theorem d_Mo_mark_64 : decode b_Mo_mark 64 = .ok (.getfield 7, 3) := by decide +kernel
theorem d_Mo_mark_67 : decode b_Mo_mark 67 = .ok (.if_icmp .ge 50, 3) := by decide +kernel
theorem d_Mo_mark_70 : decode b_Mo_mark 70 = .ok (.aload_n 0, 1) := by decide +kernel
theorem d_Mo_mark_71 : decode b_Mo_mark 71 = .ok (.getfield 13, 3) := by decide +kernel
theorem d_Mo_mark_74 : decode b_Mo_mark 74 = .ok (.iload 6, 2) := by decide +kernel
theorem d_Mo_mark_76 : decode b_Mo_mark 76 = .ok (.iaload, 1) := by decide +kernel
theorem d_Mo_mark_77 : decode b_Mo_mark 77 = .ok (.iload_n 2, 1) := by decide +kernel
theorem d_Mo_mark_78 : decode b_Mo_mark 78 = .ok (.if_icmp .gt 39, 3) := by decide +kernel
theorem d_Mo_mark_81 : decode b_Mo_mark 81 = .ok (.aload_n 0, 1) := by decide +kernel
theorem d_Mo_mark_82 : decode b_Mo_mark 82 = .ok (.getfield 18, 3) := by decide +kernel
theorem d_Mo_mark_85 : decode b_Mo_mark 85 = .ok (.bipush 8, 2) := by decide +kernel
theorem d_Mo_mark_87 : decode b_Mo_mark 87 = .ok (.iload 6, 2) := by decide +kernel
theorem d_Mo_mark_89 : decode b_Mo_mark 89 = .ok (.imul, 1) := by decide +kernel
theorem d_Mo_mark_90 : decode b_Mo_mark 90 = .ok (.iload_n 3, 1) := by decide +kernel
theorem d_Mo_mark_91 : decode b_Mo_mark 91 = .ok (.iadd, 1) := by decide +kernel
theorem d_Mo_mark_92 : decode b_Mo_mark 92 = .ok (.aload_n 0, 1) := by decide +kernel
theorem d_Mo_mark_93 : decode b_Mo_mark 93 = .ok (.getfield 18, 3) := by decide +kernel
theorem d_Mo_mark_96 : decode b_Mo_mark 96 = .ok (.bipush 8, 2) := by decide +kernel
theorem d_Mo_mark_98 : decode b_Mo_mark 98 = .ok (.iload 6, 2) := by decide +kernel
theorem d_Mo_mark_100 : decode b_Mo_mark 100 = .ok (.imul, 1) := by decide +kernel
theorem d_Mo_mark_101 : decode b_Mo_mark 101 = .ok (.iload_n 3, 1) := by decide +kernel
theorem d_Mo_mark_102 : decode b_Mo_mark 102 = .ok (.iadd, 1) := by decide +kernel
theorem d_Mo_mark_103 : decode b_Mo_mark 103 = .ok (.iaload, 1) := by decide +kernel
theorem d_Mo_mark_104 : decode b_Mo_mark 104 = .ok (.iload 5, 2) := by decide +kernel
theorem d_Mo_mark_106 : decode b_Mo_mark 106 = .ok (.iand, 1) := by decide +kernel
theorem d_Mo_mark_107 : decode b_Mo_mark 107 = .ok (.iload 4, 2) := by decide +kernel
theorem d_Mo_mark_109 : decode b_Mo_mark 109 = .ok (.ior, 1) := by decide +kernel
theorem d_Mo_mark_110 : decode b_Mo_mark 110 = .ok (.iastore, 1) := by decide +kernel
theorem d_Mo_mark_111 : decode b_Mo_mark 111 = .ok (.iinc 6 1, 3) := by decide +kernel
theorem d_Mo_mark_114 : decode b_Mo_mark 114 = .ok (.goto (-53), 3) := by decide +kernel
theorem d_Mo_mark_117 : decode b_Mo_mark 117 = .ok (.iload_n 2, 1) := by decide +kernel
theorem d_Mo_mark_118 : decode b_Mo_mark 118 = .ok (.iload_n 1, 1) := by decide +kernel
theorem d_Mo_mark_119 : decode b_Mo_mark 119 = .ok (.isub, 1) := by decide +kernel
theorem d_Mo_mark_120 : decode b_Mo_mark 120 = .ok (.iconst 1, 1) := by decide +kernel
theorem d_Mo_mark_121 : decode b_Mo_mark 121 = .ok (.iadd, 1) := by decide +kernel
theorem d_Mo_mark_122 : decode b_Mo_mark 122 = .ok (.ireturn, 1) := by decide +kernel
theorem d_Mo_out_0 : decode b_Mo_out 0 = .ok (.iload_n 1, 1) := by decide +kernel
theorem d_Mo_out_1 : decode b_Mo_out 1 = .ok (.ifCond .lt 9, 3) := by decide +kernel
theorem d_Mo_out_4 : decode b_Mo_out 4 = .ok (.iload_n 1, 1) := by decide +kernel
theorem d_Mo_out_5 : decode b_Mo_out 5 = .ok (.ldc 24, 2) := by decide +kernel
theorem d_Mo_out_7 : decode b_Mo_out 7 = .ok (.if_icmp .le 7, 3) := by decide +kernel
theorem d_Mo_out_10 : decode b_Mo_out 10 = .ok (.iconst 1, 1) := by decide +kernel
theorem d_Mo_out_11 : decode b_Mo_out 11 = .ok (.goto 4, 3) := by decide +kernel
theorem d_Mo_out_14 : decode b_Mo_out 14 = .ok (.iconst 0, 1) := by decide +kernel
theorem d_Mo_out_15 : decode b_Mo_out 15 = .ok (.ireturn, 1) := by decide +kernel
theorem d_Mo_fail_0 : decode b_Mo_fail 0 = .ok (.aload_n 0, 1) := by decide +kernel
theorem d_Mo_fail_1 : decode b_Mo_fail 1 = .ok (.iload_n 1, 1) := by decide +kernel
theorem d_Mo_fail_2 : decode b_Mo_fail 2 = .ok (.putfield 21, 3) := by decide +kernel
theorem d_Mo_fail_5 : decode b_Mo_fail 5 = .ok (.iconst 0, 1) := by decide +kernel
theorem d_Mo_fail_6 : decode b_Mo_fail 6 = .ok (.ireturn, 1) := by decide +kernel
theorem d_Mo_cut_0 : decode b_Mo_cut 0 = .ok (.iload_n 1, 1) := by decide +kernel
theorem d_Mo_cut_1 : decode b_Mo_cut 1 = .ok (.ldc 24, 2) := by decide +kernel
theorem d_Mo_cut_3 : decode b_Mo_cut 3 = .ok (.if_icmp .le 4, 3) := by decide +kernel
theorem d_Mo_cut_6 : decode b_Mo_cut 6 = .ok (.return_, 1) := by decide +kernel
theorem d_Mo_cut_7 : decode b_Mo_cut 7 = .ok (.aload_n 0, 1) := by decide +kernel
theorem d_Mo_cut_8 : decode b_Mo_cut 8 = .ok (.iload_n 1, 1) := by decide +kernel
theorem d_Mo_cut_9 : decode b_Mo_cut 9 = .ok (.invokevirtual 25, 3) := by decide +kernel
theorem d_Mo_cut_12 : decode b_Mo_cut 12 = .ok (.istore_n 2, 1) := by decide +kernel
theorem d_Mo_cut_13 : decode b_Mo_cut 13 = .ok (.aload_n 0, 1) := by decide +kernel
theorem d_Mo_cut_14 : decode b_Mo_cut 14 = .ok (.getfield 13, 3) := by decide +kernel
theorem d_Mo_cut_17 : decode b_Mo_cut 17 = .ok (.iload_n 2, 1) := by decide +kernel
theorem d_Mo_cut_18 : decode b_Mo_cut 18 = .ok (.iaload, 1) := by decide +kernel
theorem d_Mo_cut_19 : decode b_Mo_cut 19 = .ok (.iload_n 1, 1) := by decide +kernel
theorem d_Mo_cut_20 : decode b_Mo_cut 20 = .ok (.if_icmp .ne 4, 3) := by decide +kernel
theorem d_Mo_cut_23 : decode b_Mo_cut 23 = .ok (.return_, 1) := by decide +kernel
theorem d_Mo_cut_24 : decode b_Mo_cut 24 = .ok (.aload_n 0, 1) := by decide +kernel
theorem d_Mo_cut_25 : decode b_Mo_cut 25 = .ok (.getfield 7, 3) := by decide +kernel
theorem d_Mo_cut_28 : decode b_Mo_cut 28 = .ok (.istore_n 3, 1) := by decide +kernel
theorem d_Mo_cut_29 : decode b_Mo_cut 29 = .ok (.iload_n 3, 1) := by decide +kernel
theorem d_Mo_cut_30 : decode b_Mo_cut 30 = .ok (.iload_n 2, 1) := by decide +kernel
theorem d_Mo_cut_31 : decode b_Mo_cut 31 = .ok (.iconst 1, 1) := by decide +kernel
theorem d_Mo_cut_32 : decode b_Mo_cut 32 = .ok (.iadd, 1) := by decide +kernel
theorem d_Mo_cut_33 : decode b_Mo_cut 33 = .ok (.if_icmp .le 66, 3) := by decide +kernel
theorem d_Mo_cut_36 : decode b_Mo_cut 36 = .ok (.aload_n 0, 1) := by decide +kernel
theorem d_Mo_cut_37 : decode b_Mo_cut 37 = .ok (.getfield 13, 3) := by decide +kernel
theorem d_Mo_cut_40 : decode b_Mo_cut 40 = .ok (.iload_n 3, 1) := by decide +kernel
theorem d_Mo_cut_41 : decode b_Mo_cut 41 = .ok (.aload_n 0, 1) := by decide +kernel
theorem d_Mo_cut_42 : decode b_Mo_cut 42 = .ok (.getfield 13, 3) := by decide +kernel
theorem d_Mo_cut_45 : decode b_Mo_cut 45 = .ok (.iload_n 3, 1) := by decide +kernel
theorem d_Mo_cut_46 : decode b_Mo_cut 46 = .ok (.iconst 1, 1) := by decide +kernel
theorem d_Mo_cut_47 : decode b_Mo_cut 47 = .ok (.isub, 1) := by decide +kernel
theorem d_Mo_cut_48 : decode b_Mo_cut 48 = .ok (.iaload, 1) := by decide +kernel
end
section
theorem d_Mo_cut_49 : decode b_Mo_cut 49 = .ok (.iastore, 1) := by decide +kernel
theorem d_Mo_cut_50 : decode b_Mo_cut 50 = .ok (.iconst 0, 1) := by decide +kernel
theorem d_Mo_cut_51 : decode b_Mo_cut 51 = .ok (.istore 4, 2) := by decide +kernel
theorem d_Mo_cut_53 : decode b_Mo_cut 53 = .ok (.iload 4, 2) := by decide +kernel
theorem d_Mo_cut_55 : decode b_Mo_cut 55 = .ok (.bipush 8, 2) := by decide +kernel
theorem d_Mo_cut_57 : decode b_Mo_cut 57 = .ok (.if_icmp .ge 36, 3) := by decide +kernel
theorem d_Mo_cut_60 : decode b_Mo_cut 60 = .ok (.aload_n 0, 1) := by decide +kernel
theorem d_Mo_cut_61 : decode b_Mo_cut 61 = .ok (.getfield 18, 3) := by decide +kernel
theorem d_Mo_cut_64 : decode b_Mo_cut 64 = .ok (.bipush 8, 2) := by decide +kernel
theorem d_Mo_cut_66 : decode b_Mo_cut 66 = .ok (.iload_n 3, 1) := by decide +kernel
theorem d_Mo_cut_67 : decode b_Mo_cut 67 = .ok (.imul, 1) := by decide +kernel
theorem d_Mo_cut_68 : decode b_Mo_cut 68 = .ok (.iload 4, 2) := by decide +kernel
theorem d_Mo_cut_70 : decode b_Mo_cut 70 = .ok (.iadd, 1) := by decide +kernel
theorem d_Mo_cut_71 : decode b_Mo_cut 71 = .ok (.aload_n 0, 1) := by decide +kernel
theorem d_Mo_cut_72 : decode b_Mo_cut 72 = .ok (.getfield 18, 3) := by decide +kernel
theorem d_Mo_cut_75 : decode b_Mo_cut 75 = .ok (.bipush 8, 2) := by decide +kernel
theorem d_Mo_cut_77 : decode b_Mo_cut 77 = .ok (.iload_n 3, 1) := by decide +kernel
theorem d_Mo_cut_78 : decode b_Mo_cut 78 = .ok (.imul, 1) := by decide +kernel
theorem d_Mo_cut_79 : decode b_Mo_cut 79 = .ok (.bipush 8, 2) := by decide +kernel
theorem d_Mo_cut_81 : decode b_Mo_cut 81 = .ok (.isub, 1) := by decide +kernel
theorem d_Mo_cut_82 : decode b_Mo_cut 82 = .ok (.iload 4, 2) := by decide +kernel
theorem d_Mo_cut_84 : decode b_Mo_cut 84 = .ok (.iadd, 1) := by decide +kernel
theorem d_Mo_cut_85 : decode b_Mo_cut 85 = .ok (.iaload, 1) := by decide +kernel
theorem d_Mo_cut_86 : decode b_Mo_cut 86 = .ok (.iastore, 1) := by decide +kernel
theorem d_Mo_cut_87 : decode b_Mo_cut 87 = .ok (.iinc 4 1, 3) := by decide +kernel
theorem d_Mo_cut_90 : decode b_Mo_cut 90 = .ok (.goto (-37), 3) := by decide +kernel
theorem d_Mo_cut_93 : decode b_Mo_cut 93 = .ok (.iinc 3 (-1), 3) := by decide +kernel
theorem d_Mo_cut_96 : decode b_Mo_cut 96 = .ok (.goto (-67), 3) := by decide +kernel
theorem d_Mo_cut_99 : decode b_Mo_cut 99 = .ok (.aload_n 0, 1) := by decide +kernel
theorem d_Mo_cut_100 : decode b_Mo_cut 100 = .ok (.getfield 13, 3) := by decide +kernel
theorem d_Mo_cut_103 : decode b_Mo_cut 103 = .ok (.iload_n 2, 1) := by decide +kernel
theorem d_Mo_cut_104 : decode b_Mo_cut 104 = .ok (.iconst 1, 1) := by decide +kernel
theorem d_Mo_cut_105 : decode b_Mo_cut 105 = .ok (.iadd, 1) := by decide +kernel
theorem d_Mo_cut_106 : decode b_Mo_cut 106 = .ok (.iload_n 1, 1) := by decide +kernel
theorem d_Mo_cut_107 : decode b_Mo_cut 107 = .ok (.iastore, 1) := by decide +kernel
theorem d_Mo_cut_108 : decode b_Mo_cut 108 = .ok (.iconst 0, 1) := by decide +kernel
theorem d_Mo_cut_109 : decode b_Mo_cut 109 = .ok (.istore_n 3, 1) := by decide +kernel
theorem d_Mo_cut_110 : decode b_Mo_cut 110 = .ok (.iload_n 3, 1) := by decide +kernel
theorem d_Mo_cut_111 : decode b_Mo_cut 111 = .ok (.bipush 8, 2) := by decide +kernel
theorem d_Mo_cut_113 : decode b_Mo_cut 113 = .ok (.if_icmp .ge 34, 3) := by decide +kernel
theorem d_Mo_cut_116 : decode b_Mo_cut 116 = .ok (.aload_n 0, 1) := by decide +kernel
theorem d_Mo_cut_117 : decode b_Mo_cut 117 = .ok (.getfield 18, 3) := by decide +kernel
theorem d_Mo_cut_120 : decode b_Mo_cut 120 = .ok (.bipush 8, 2) := by decide +kernel
theorem d_Mo_cut_122 : decode b_Mo_cut 122 = .ok (.iload_n 2, 1) := by decide +kernel
theorem d_Mo_cut_123 : decode b_Mo_cut 123 = .ok (.imul, 1) := by decide +kernel
theorem d_Mo_cut_124 : decode b_Mo_cut 124 = .ok (.bipush 8, 2) := by decide +kernel
theorem d_Mo_cut_126 : decode b_Mo_cut 126 = .ok (.iadd, 1) := by decide +kernel
theorem d_Mo_cut_127 : decode b_Mo_cut 127 = .ok (.iload_n 3, 1) := by decide +kernel
theorem d_Mo_cut_128 : decode b_Mo_cut 128 = .ok (.iadd, 1) := by decide +kernel
theorem d_Mo_cut_129 : decode b_Mo_cut 129 = .ok (.aload_n 0, 1) := by decide +kernel
theorem d_Mo_cut_130 : decode b_Mo_cut 130 = .ok (.getfield 18, 3) := by decide +kernel
theorem d_Mo_cut_133 : decode b_Mo_cut 133 = .ok (.bipush 8, 2) := by decide +kernel
theorem d_Mo_cut_135 : decode b_Mo_cut 135 = .ok (.iload_n 2, 1) := by decide +kernel
theorem d_Mo_cut_136 : decode b_Mo_cut 136 = .ok (.imul, 1) := by decide +kernel
theorem d_Mo_cut_137 : decode b_Mo_cut 137 = .ok (.iload_n 3, 1) := by decide +kernel
theorem d_Mo_cut_138 : decode b_Mo_cut 138 = .ok (.iadd, 1) := by decide +kernel
theorem d_Mo_cut_139 : decode b_Mo_cut 139 = .ok (.iaload, 1) := by decide +kernel
theorem d_Mo_cut_140 : decode b_Mo_cut 140 = .ok (.iastore, 1) := by decide +kernel
theorem d_Mo_cut_141 : decode b_Mo_cut 141 = .ok (.iinc 3 1, 3) := by decide +kernel
theorem d_Mo_cut_144 : decode b_Mo_cut 144 = .ok (.goto (-34), 3) := by decide +kernel
theorem d_Mo_cut_147 : decode b_Mo_cut 147 = .ok (.aload_n 0, 1) := by decide +kernel
theorem d_Mo_cut_148 : decode b_Mo_cut 148 = .ok (.dup, 1) := by decide +kernel
theorem d_Mo_cut_149 : decode b_Mo_cut 149 = .ok (.getfield 7, 3) := by decide +kernel
theorem d_Mo_cut_152 : decode b_Mo_cut 152 = .ok (.iconst 1, 1) := by decide +kernel
theorem d_Mo_cut_153 : decode b_Mo_cut 153 = .ok (.iadd, 1) := by decide +kernel
theorem d_Mo_cut_154 : decode b_Mo_cut 154 = .ok (.putfield 7, 3) := by decide +kernel
theorem d_Mo_cut_157 : decode b_Mo_cut 157 = .ok (.return_, 1) := by decide +kernel
theorem d_Mo_at_0 : decode b_Mo_at 0 = .ok (.iconst 0, 1) := by decide +kernel
theorem d_Mo_at_1 : decode b_Mo_at 1 = .ok (.istore_n 2, 1) := by decide +kernel
theorem d_Mo_at_2 : decode b_Mo_at 2 = .ok (.aload_n 0, 1) := by decide +kernel
theorem d_Mo_at_3 : decode b_Mo_at 3 = .ok (.getfield 7, 3) := by decide +kernel
theorem d_Mo_at_6 : decode b_Mo_at 6 = .ok (.iconst 1, 1) := by decide +kernel
theorem d_Mo_at_7 : decode b_Mo_at 7 = .ok (.isub, 1) := by decide +kernel
theorem d_Mo_at_8 : decode b_Mo_at 8 = .ok (.istore_n 3, 1) := by decide +kernel
theorem d_Mo_at_9 : decode b_Mo_at 9 = .ok (.iload_n 2, 1) := by decide +kernel
theorem d_Mo_at_10 : decode b_Mo_at 10 = .ok (.iload_n 3, 1) := by decide +kernel
theorem d_Mo_at_11 : decode b_Mo_at 11 = .ok (.if_icmp .ge 37, 3) := by decide +kernel
theorem d_Mo_at_14 : decode b_Mo_at 14 = .ok (.iload_n 2, 1) := by decide +kernel
theorem d_Mo_at_15 : decode b_Mo_at 15 = .ok (.iload_n 3, 1) := by decide +kernel
theorem d_Mo_at_16 : decode b_Mo_at 16 = .ok (.iadd, 1) := by decide +kernel
theorem d_Mo_at_17 : decode b_Mo_at 17 = .ok (.iconst 1, 1) := by decide +kernel
theorem d_Mo_at_18 : decode b_Mo_at 18 = .ok (.iadd, 1) := by decide +kernel
theorem d_Mo_at_19 : decode b_Mo_at 19 = .ok (.iconst 2, 1) := by decide +kernel
theorem d_Mo_at_20 : decode b_Mo_at 20 = .ok (.idiv, 1) := by decide +kernel
theorem d_Mo_at_21 : decode b_Mo_at 21 = .ok (.istore 4, 2) := by decide +kernel
theorem d_Mo_at_23 : decode b_Mo_at 23 = .ok (.aload_n 0, 1) := by decide +kernel
theorem d_Mo_at_24 : decode b_Mo_at 24 = .ok (.getfield 13, 3) := by decide +kernel
theorem d_Mo_at_27 : decode b_Mo_at 27 = .ok (.iload 4, 2) := by decide +kernel
theorem d_Mo_at_29 : decode b_Mo_at 29 = .ok (.iaload, 1) := by decide +kernel
theorem d_Mo_at_30 : decode b_Mo_at 30 = .ok (.iload_n 1, 1) := by decide +kernel
theorem d_Mo_at_31 : decode b_Mo_at 31 = .ok (.if_icmp .gt 9, 3) := by decide +kernel
theorem d_Mo_at_34 : decode b_Mo_at 34 = .ok (.iload 4, 2) := by decide +kernel
theorem d_Mo_at_36 : decode b_Mo_at 36 = .ok (.istore_n 2, 1) := by decide +kernel
theorem d_Mo_at_37 : decode b_Mo_at 37 = .ok (.goto 8, 3) := by decide +kernel
theorem d_Mo_at_40 : decode b_Mo_at 40 = .ok (.iload 4, 2) := by decide +kernel
theorem d_Mo_at_42 : decode b_Mo_at 42 = .ok (.iconst 1, 1) := by decide +kernel
theorem d_Mo_at_43 : decode b_Mo_at 43 = .ok (.isub, 1) := by decide +kernel
theorem d_Mo_at_44 : decode b_Mo_at 44 = .ok (.istore_n 3, 1) := by decide +kernel
theorem d_Mo_at_45 : decode b_Mo_at 45 = .ok (.goto (-36), 3) := by decide +kernel
theorem d_Mo_at_48 : decode b_Mo_at 48 = .ok (.iload_n 2, 1) := by decide +kernel
theorem d_Mo_at_49 : decode b_Mo_at 49 = .ok (.ireturn, 1) := by decide +kernel
theorem d_Mo_get_0 : decode b_Mo_get 0 = .ok (.aload_n 0, 1) := by decide +kernel
theorem d_Mo_get_1 : decode b_Mo_get 1 = .ok (.iconst 0, 1) := by decide +kernel
theorem d_Mo_get_2 : decode b_Mo_get 2 = .ok (.putfield 21, 3) := by decide +kernel
theorem d_Mo_get_5 : decode b_Mo_get 5 = .ok (.aload_n 0, 1) := by decide +kernel
theorem d_Mo_get_6 : decode b_Mo_get 6 = .ok (.iload_n 1, 1) := by decide +kernel
theorem d_Mo_get_7 : decode b_Mo_get 7 = .ok (.invokevirtual 33, 3) := by decide +kernel
theorem d_Mo_get_10 : decode b_Mo_get 10 = .ok (.ifCond .ne 13, 3) := by decide +kernel
theorem d_Mo_get_13 : decode b_Mo_get 13 = .ok (.iload_n 2, 1) := by decide +kernel
theorem d_Mo_get_14 : decode b_Mo_get 14 = .ok (.ifCond .lt 9, 3) := by decide +kernel
theorem d_Mo_get_17 : decode b_Mo_get 17 = .ok (.iload_n 2, 1) := by decide +kernel
theorem d_Mo_get_18 : decode b_Mo_get 18 = .ok (.bipush 7, 2) := by decide +kernel
theorem d_Mo_get_20 : decode b_Mo_get 20 = .ok (.if_icmp .le 11, 3) := by decide +kernel
theorem d_Mo_get_23 : decode b_Mo_get 23 = .ok (.aload_n 0, 1) := by decide +kernel
theorem d_Mo_get_24 : decode b_Mo_get 24 = .ok (.iconst 1, 1) := by decide +kernel
theorem d_Mo_get_25 : decode b_Mo_get 25 = .ok (.invokevirtual 37, 3) := by decide +kernel
theorem d_Mo_get_28 : decode b_Mo_get 28 = .ok (.goto 18, 3) := by decide +kernel
theorem d_Mo_get_31 : decode b_Mo_get 31 = .ok (.aload_n 0, 1) := by decide +kernel
theorem d_Mo_get_32 : decode b_Mo_get 32 = .ok (.getfield 18, 3) := by decide +kernel
theorem d_Mo_get_35 : decode b_Mo_get 35 = .ok (.bipush 8, 2) := by decide +kernel
theorem d_Mo_get_37 : decode b_Mo_get 37 = .ok (.aload_n 0, 1) := by decide +kernel
theorem d_Mo_get_38 : decode b_Mo_get 38 = .ok (.iload_n 1, 1) := by decide +kernel
theorem d_Mo_get_39 : decode b_Mo_get 39 = .ok (.invokevirtual 25, 3) := by decide +kernel
theorem d_Mo_get_42 : decode b_Mo_get 42 = .ok (.imul, 1) := by decide +kernel
theorem d_Mo_get_43 : decode b_Mo_get 43 = .ok (.iload_n 2, 1) := by decide +kernel
theorem d_Mo_get_44 : decode b_Mo_get 44 = .ok (.iadd, 1) := by decide +kernel
theorem d_Mo_get_45 : decode b_Mo_get 45 = .ok (.iaload, 1) := by decide +kernel
theorem d_Mo_get_46 : decode b_Mo_get 46 = .ok (.ireturn, 1) := by decide +kernel
theorem d_Mo_change_0 : decode b_Mo_change 0 = .ok (.aload_n 0, 1) := by decide +kernel
theorem d_Mo_change_1 : decode b_Mo_change 1 = .ok (.iconst 0, 1) := by decide +kernel
theorem d_Mo_change_2 : decode b_Mo_change 2 = .ok (.putfield 21, 3) := by decide +kernel
theorem d_Mo_change_5 : decode b_Mo_change 5 = .ok (.aload_n 0, 1) := by decide +kernel
theorem d_Mo_change_6 : decode b_Mo_change 6 = .ok (.iload_n 1, 1) := by decide +kernel
theorem d_Mo_change_7 : decode b_Mo_change 7 = .ok (.invokevirtual 33, 3) := by decide +kernel
theorem d_Mo_change_10 : decode b_Mo_change 10 = .ok (.ifCond .ne 13, 3) := by decide +kernel
theorem d_Mo_change_13 : decode b_Mo_change 13 = .ok (.iload_n 2, 1) := by decide +kernel
theorem d_Mo_change_14 : decode b_Mo_change 14 = .ok (.ifCond .lt 9, 3) := by decide +kernel
theorem d_Mo_change_17 : decode b_Mo_change 17 = .ok (.iload_n 2, 1) := by decide +kernel
theorem d_Mo_change_18 : decode b_Mo_change 18 = .ok (.bipush 7, 2) := by decide +kernel
theorem d_Mo_change_20 : decode b_Mo_change 20 = .ok (.if_icmp .le 9, 3) := by decide +kernel
theorem d_Mo_change_23 : decode b_Mo_change 23 = .ok (.aload_n 0, 1) := by decide +kernel
theorem d_Mo_change_24 : decode b_Mo_change 24 = .ok (.iconst 1, 1) := by decide +kernel
theorem d_Mo_change_25 : decode b_Mo_change 25 = .ok (.invokevirtual 37, 3) := by decide +kernel
theorem d_Mo_change_28 : decode b_Mo_change 28 = .ok (.ireturn, 1) := by decide +kernel
theorem d_Mo_change_29 : decode b_Mo_change 29 = .ok (.aload_n 0, 1) := by decide +kernel
theorem d_Mo_change_30 : decode b_Mo_change 30 = .ok (.iload_n 1, 1) := by decide +kernel
theorem d_Mo_change_31 : decode b_Mo_change 31 = .ok (.invokevirtual 25, 3) := by decide +kernel
theorem d_Mo_change_34 : decode b_Mo_change 34 = .ok (.istore_n 3, 1) := by decide +kernel
theorem d_Mo_change_35 : decode b_Mo_change 35 = .ok (.aload_n 0, 1) := by decide +kernel
theorem d_Mo_change_36 : decode b_Mo_change 36 = .ok (.getfield 18, 3) := by decide +kernel
theorem d_Mo_change_39 : decode b_Mo_change 39 = .ok (.bipush 8, 2) := by decide +kernel
theorem d_Mo_change_41 : decode b_Mo_change 41 = .ok (.iload_n 3, 1) := by decide +kernel
theorem d_Mo_change_42 : decode b_Mo_change 42 = .ok (.imul, 1) := by decide +kernel
theorem d_Mo_change_43 : decode b_Mo_change 43 = .ok (.iload_n 2, 1) := by decide +kernel
theorem d_Mo_change_44 : decode b_Mo_change 44 = .ok (.iadd, 1) := by decide +kernel
theorem d_Mo_change_45 : decode b_Mo_change 45 = .ok (.iaload, 1) := by decide +kernel
theorem d_Mo_change_46 : decode b_Mo_change 46 = .ok (.istore 4, 2) := by decide +kernel
theorem d_Mo_change_48 : decode b_Mo_change 48 = .ok (.iload_n 3, 1) := by decide +kernel
theorem d_Mo_change_49 : decode b_Mo_change 49 = .ok (.aload_n 0, 1) := by decide +kernel
theorem d_Mo_change_50 : decode b_Mo_change 50 = .ok (.getfield 7, 3) := by decide +kernel
theorem d_Mo_change_53 : decode b_Mo_change 53 = .ok (.if_icmp .ge 25, 3) := by decide +kernel
theorem d_Mo_change_56 : decode b_Mo_change 56 = .ok (.aload_n 0, 1) := by decide +kernel
theorem d_Mo_change_57 : decode b_Mo_change 57 = .ok (.getfield 18, 3) := by decide +kernel
theorem d_Mo_change_60 : decode b_Mo_change 60 = .ok (.bipush 8, 2) := by decide +kernel
theorem d_Mo_change_62 : decode b_Mo_change 62 = .ok (.iload_n 3, 1) := by decide +kernel
theorem d_Mo_change_63 : decode b_Mo_change 63 = .ok (.imul, 1) := by decide +kernel
theorem d_Mo_change_64 : decode b_Mo_change 64 = .ok (.iload_n 2, 1) := by decide +kernel
theorem d_Mo_change_65 : decode b_Mo_change 65 = .ok (.iadd, 1) := by decide +kernel
theorem d_Mo_change_66 : decode b_Mo_change 66 = .ok (.iaload, 1) := by decide +kernel
theorem d_Mo_change_67 : decode b_Mo_change 67 = .ok (.iload 4, 2) := by decide +kernel
theorem d_Mo_change_69 : decode b_Mo_change 69 = .ok (.if_icmp .ne 9, 3) := by decide +kernel
theorem d_Mo_change_72 : decode b_Mo_change 72 = .ok (.iinc 3 1, 3) := by decide +kernel
theorem d_Mo_change_75 : decode b_Mo_change 75 = .ok (.goto (-27), 3) := by decide +kernel
theorem d_Mo_change_78 : decode b_Mo_change 78 = .ok (.iload_n 3, 1) := by decide +kernel
theorem d_Mo_change_79 : decode b_Mo_change 79 = .ok (.aload_n 0, 1) := by decide +kernel
theorem d_Mo_change_80 : decode b_Mo_change 80 = .ok (.getfield 7, 3) := by decide +kernel
theorem d_Mo_change_83 : decode b_Mo_change 83 = .ok (.if_icmp .ne 7, 3) := by decide +kernel
theorem d_Mo_change_86 : decode b_Mo_change 86 = .ok (.iconst (-1), 1) := by decide +kernel
theorem d_Mo_change_87 : decode b_Mo_change 87 = .ok (.goto 9, 3) := by decide +kernel
theorem d_Mo_change_90 : decode b_Mo_change 90 = .ok (.aload_n 0, 1) := by decide +kernel
theorem d_Mo_change_91 : decode b_Mo_change 91 = .ok (.getfield 13, 3) := by decide +kernel
theorem d_Mo_change_94 : decode b_Mo_change 94 = .ok (.iload_n 3, 1) := by decide +kernel
theorem d_Mo_change_95 : decode b_Mo_change 95 = .ok (.iaload, 1) := by decide +kernel
theorem d_Mo_change_96 : decode b_Mo_change 96 = .ok (.ireturn, 1) := by decide +kernel
theorem d_Mo_alike_0 : decode b_Mo_alike 0 = .ok (.aload_n 0, 1) := by decide +kernel
theorem d_Mo_alike_1 : decode b_Mo_alike 1 = .ok (.iconst 0, 1) := by decide +kernel
theorem d_Mo_alike_2 : decode b_Mo_alike 2 = .ok (.putfield 21, 3) := by decide +kernel
theorem d_Mo_alike_5 : decode b_Mo_alike 5 = .ok (.aload_n 0, 1) := by decide +kernel
theorem d_Mo_alike_6 : decode b_Mo_alike 6 = .ok (.iload_n 1, 1) := by decide +kernel
theorem d_Mo_alike_7 : decode b_Mo_alike 7 = .ok (.invokevirtual 33, 3) := by decide +kernel
theorem d_Mo_alike_10 : decode b_Mo_alike 10 = .ok (.ifCond .ne 11, 3) := by decide +kernel
theorem d_Mo_alike_13 : decode b_Mo_alike 13 = .ok (.aload_n 0, 1) := by decide +kernel
theorem d_Mo_alike_14 : decode b_Mo_alike 14 = .ok (.iload_n 2, 1) := by decide +kernel
theorem d_Mo_alike_15 : decode b_Mo_alike 15 = .ok (.invokevirtual 33, 3) := by decide +kernel
theorem d_Mo_alike_18 : decode b_Mo_alike 18 = .ok (.ifCond .eq 17, 3) := by decide +kernel
theorem d_Mo_alike_21 : decode b_Mo_alike 21 = .ok (.aload_n 0, 1) := by decide +kernel
theorem d_Mo_alike_22 : decode b_Mo_alike 22 = .ok (.iconst 1, 1) := by decide +kernel
theorem d_Mo_alike_23 : decode b_Mo_alike 23 = .ok (.invokevirtual 37, 3) := by decide +kernel
theorem d_Mo_alike_26 : decode b_Mo_alike 26 = .ok (.ifCond .le 7, 3) := by decide +kernel
theorem d_Mo_alike_29 : decode b_Mo_alike 29 = .ok (.iconst 1, 1) := by decide +kernel
theorem d_Mo_alike_30 : decode b_Mo_alike 30 = .ok (.goto 4, 3) := by decide +kernel
theorem d_Mo_alike_33 : decode b_Mo_alike 33 = .ok (.iconst 0, 1) := by decide +kernel
theorem d_Mo_alike_34 : decode b_Mo_alike 34 = .ok (.ireturn, 1) := by decide +kernel
theorem d_Mo_alike_35 : decode b_Mo_alike 35 = .ok (.iconst 0, 1) := by decide +kernel
theorem d_Mo_alike_36 : decode b_Mo_alike 36 = .ok (.istore_n 3, 1) := by decide +kernel
theorem d_Mo_alike_37 : decode b_Mo_alike 37 = .ok (.iload_n 3, 1) := by decide +kernel
theorem d_Mo_alike_38 : decode b_Mo_alike 38 = .ok (.bipush 8, 2) := by decide +kernel
theorem d_Mo_alike_40 : decode b_Mo_alike 40 = .ok (.if_icmp .ge 44, 3) := by decide +kernel
theorem d_Mo_alike_43 : decode b_Mo_alike 43 = .ok (.aload_n 0, 1) := by decide +kernel
theorem d_Mo_alike_44 : decode b_Mo_alike 44 = .ok (.getfield 18, 3) := by decide +kernel
theorem d_Mo_alike_47 : decode b_Mo_alike 47 = .ok (.bipush 8, 2) := by decide +kernel
theorem d_Mo_alike_49 : decode b_Mo_alike 49 = .ok (.aload_n 0, 1) := by decide +kernel
theorem d_Mo_alike_50 : decode b_Mo_alike 50 = .ok (.iload_n 1, 1) := by decide +kernel
theorem d_Mo_alike_51 : decode b_Mo_alike 51 = .ok (.invokevirtual 25, 3) := by decide +kernel
theorem d_Mo_alike_54 : decode b_Mo_alike 54 = .ok (.imul, 1) := by decide +kernel
theorem d_Mo_alike_55 : decode b_Mo_alike 55 = .ok (.iload_n 3, 1) := by decide +kernel
theorem d_Mo_alike_56 : decode b_Mo_alike 56 = .ok (.iadd, 1) := by decide +kernel
theorem d_Mo_alike_57 : decode b_Mo_alike 57 = .ok (.iaload, 1) := by decide +kernel
theorem d_Mo_alike_58 : decode b_Mo_alike 58 = .ok (.aload_n 0, 1) := by decide +kernel
theorem d_Mo_alike_59 : decode b_Mo_alike 59 = .ok (.getfield 18, 3) := by decide +kernel
theorem d_Mo_alike_62 : decode b_Mo_alike 62 = .ok (.bipush 8, 2) := by decide +kernel
theorem d_Mo_alike_64 : decode b_Mo_alike 64 = .ok (.aload_n 0, 1) := by decide +kernel
theorem d_Mo_alike_65 : decode b_Mo_alike 65 = .ok (.iload_n 2, 1) := by decide +kernel
theorem d_Mo_alike_66 : decode b_Mo_alike 66 = .ok (.invokevirtual 25, 3) := by decide +kernel
theorem d_Mo_alike_69 : decode b_Mo_alike 69 = .ok (.imul, 1) := by decide +kernel
theorem d_Mo_alike_70 : decode b_Mo_alike 70 = .ok (.iload_n 3, 1) := by decide +kernel
theorem d_Mo_alike_71 : decode b_Mo_alike 71 = .ok (.iadd, 1) := by decide +kernel
theorem d_Mo_alike_72 : decode b_Mo_alike 72 = .ok (.iaload, 1) := by decide +kernel
theorem d_Mo_alike_73 : decode b_Mo_alike 73 = .ok (.if_icmp .eq 5, 3) := by decide +kernel
theorem d_Mo_alike_76 : decode b_Mo_alike 76 = .ok (.iconst 0, 1) := by decide +kernel
theorem d_Mo_alike_77 : decode b_Mo_alike 77 = .ok (.ireturn, 1) := by decide +kernel
theorem d_Mo_alike_78 : decode b_Mo_alike 78 = .ok (.iinc 3 1, 3) := by decide +kernel
theorem d_Mo_alike_81 : decode b_Mo_alike 81 = .ok (.goto (-44), 3) := by decide +kernel
theorem d_Mo_alike_84 : decode b_Mo_alike 84 = .ok (.iconst 1, 1) := by decide +kernel
theorem d_Mo_alike_85 : decode b_Mo_alike 85 = .ok (.ireturn, 1) := by decide +kernel
theorem d_Mo_hash_0 : decode b_Mo_hash 0 = .ok (.aload_n 0, 1) := by decide +kernel
theorem d_Mo_hash_1 : decode b_Mo_hash 1 = .ok (.iconst 0, 1) := by decide +kernel
theorem d_Mo_hash_2 : decode b_Mo_hash 2 = .ok (.putfield 21, 3) := by decide +kernel
theorem d_Mo_hash_5 : decode b_Mo_hash 5 = .ok (.aload_n 0, 1) := by decide +kernel
theorem d_Mo_hash_6 : decode b_Mo_hash 6 = .ok (.iload_n 1, 1) := by decide +kernel
theorem d_Mo_hash_7 : decode b_Mo_hash 7 = .ok (.invokevirtual 33, 3) := by decide +kernel
theorem d_Mo_hash_10 : decode b_Mo_hash 10 = .ok (.ifCond .ne 35, 3) := by decide +kernel
theorem d_Mo_hash_13 : decode b_Mo_hash 13 = .ok (.aload_n 0, 1) := by decide +kernel
theorem d_Mo_hash_14 : decode b_Mo_hash 14 = .ok (.iload_n 2, 1) := by decide +kernel
theorem d_Mo_hash_15 : decode b_Mo_hash 15 = .ok (.invokevirtual 33, 3) := by decide +kernel
theorem d_Mo_hash_18 : decode b_Mo_hash 18 = .ok (.ifCond .ne 27, 3) := by decide +kernel
theorem d_Mo_hash_21 : decode b_Mo_hash 21 = .ok (.iload_n 2, 1) := by decide +kernel
theorem d_Mo_hash_22 : decode b_Mo_hash 22 = .ok (.iload_n 1, 1) := by decide +kernel
theorem d_Mo_hash_23 : decode b_Mo_hash 23 = .ok (.if_icmp .lt 22, 3) := by decide +kernel
theorem d_Mo_hash_26 : decode b_Mo_hash 26 = .ok (.iload_n 2, 1) := by decide +kernel
theorem d_Mo_hash_27 : decode b_Mo_hash 27 = .ok (.iload_n 1, 1) := by decide +kernel
theorem d_Mo_hash_28 : decode b_Mo_hash 28 = .ok (.isub, 1) := by decide +kernel
theorem d_Mo_hash_29 : decode b_Mo_hash 29 = .ok (.sipush 3999, 3) := by decide +kernel
theorem d_Mo_hash_32 : decode b_Mo_hash 32 = .ok (.if_icmp .gt 13, 3) := by decide +kernel
theorem d_Mo_hash_35 : decode b_Mo_hash 35 = .ok (.iload_n 3, 1) := by decide +kernel
theorem d_Mo_hash_36 : decode b_Mo_hash 36 = .ok (.ifCond .lt 9, 3) := by decide +kernel
theorem d_Mo_hash_39 : decode b_Mo_hash 39 = .ok (.iload_n 3, 1) := by decide +kernel
theorem d_Mo_hash_40 : decode b_Mo_hash 40 = .ok (.bipush 7, 2) := by decide +kernel
theorem d_Mo_hash_42 : decode b_Mo_hash 42 = .ok (.if_icmp .le 9, 3) := by decide +kernel
theorem d_Mo_hash_45 : decode b_Mo_hash 45 = .ok (.aload_n 0, 1) := by decide +kernel
theorem d_Mo_hash_46 : decode b_Mo_hash 46 = .ok (.iconst 1, 1) := by decide +kernel
theorem d_Mo_hash_47 : decode b_Mo_hash 47 = .ok (.invokevirtual 37, 3) := by decide +kernel
theorem d_Mo_hash_50 : decode b_Mo_hash 50 = .ok (.ireturn, 1) := by decide +kernel
theorem d_Mo_hash_51 : decode b_Mo_hash 51 = .ok (.iconst 1, 1) := by decide +kernel
theorem d_Mo_hash_52 : decode b_Mo_hash 52 = .ok (.istore 4, 2) := by decide +kernel
theorem d_Mo_hash_54 : decode b_Mo_hash 54 = .ok (.iload_n 1, 1) := by decide +kernel
theorem d_Mo_hash_55 : decode b_Mo_hash 55 = .ok (.istore 5, 2) := by decide +kernel
theorem d_Mo_hash_57 : decode b_Mo_hash 57 = .ok (.iload 5, 2) := by decide +kernel
theorem d_Mo_hash_59 : decode b_Mo_hash 59 = .ok (.iload_n 2, 1) := by decide +kernel
theorem d_Mo_hash_60 : decode b_Mo_hash 60 = .ok (.if_icmp .gt 33, 3) := by decide +kernel
theorem d_Mo_hash_63 : decode b_Mo_hash 63 = .ok (.bipush 31, 2) := by decide +kernel
theorem d_Mo_hash_65 : decode b_Mo_hash 65 = .ok (.iload 4, 2) := by decide +kernel
theorem d_Mo_hash_67 : decode b_Mo_hash 67 = .ok (.imul, 1) := by decide +kernel
theorem d_Mo_hash_68 : decode b_Mo_hash 68 = .ok (.aload_n 0, 1) := by decide +kernel
theorem d_Mo_hash_69 : decode b_Mo_hash 69 = .ok (.getfield 18, 3) := by decide +kernel
theorem d_Mo_hash_72 : decode b_Mo_hash 72 = .ok (.bipush 8, 2) := by decide +kernel
theorem d_Mo_hash_74 : decode b_Mo_hash 74 = .ok (.aload_n 0, 1) := by decide +kernel
theorem d_Mo_hash_75 : decode b_Mo_hash 75 = .ok (.iload 5, 2) := by decide +kernel
theorem d_Mo_hash_77 : decode b_Mo_hash 77 = .ok (.invokevirtual 25, 3) := by decide +kernel
theorem d_Mo_hash_80 : decode b_Mo_hash 80 = .ok (.imul, 1) := by decide +kernel
theorem d_Mo_hash_81 : decode b_Mo_hash 81 = .ok (.iload_n 3, 1) := by decide +kernel
theorem d_Mo_hash_82 : decode b_Mo_hash 82 = .ok (.iadd, 1) := by decide +kernel
theorem d_Mo_hash_83 : decode b_Mo_hash 83 = .ok (.iaload, 1) := by decide +kernel
theorem d_Mo_hash_84 : decode b_Mo_hash 84 = .ok (.iadd, 1) := by decide +kernel
theorem d_Mo_hash_85 : decode b_Mo_hash 85 = .ok (.istore 4, 2) := by decide +kernel
theorem d_Mo_hash_87 : decode b_Mo_hash 87 = .ok (.iinc 5 1, 3) := by decide +kernel
theorem d_Mo_hash_90 : decode b_Mo_hash 90 = .ok (.goto (-33), 3) := by decide +kernel
theorem d_Mo_hash_93 : decode b_Mo_hash 93 = .ok (.iload 4, 2) := by decide +kernel
theorem d_Mo_hash_95 : decode b_Mo_hash 95 = .ok (.ireturn, 1) := by decide +kernel
theorem d_Mo_clear_0 : decode b_Mo_clear 0 = .ok (.aload_n 0, 1) := by decide +kernel
theorem d_Mo_clear_1 : decode b_Mo_clear 1 = .ok (.iconst 0, 1) := by decide +kernel
theorem d_Mo_clear_2 : decode b_Mo_clear 2 = .ok (.putfield 21, 3) := by decide +kernel
theorem d_Mo_clear_5 : decode b_Mo_clear 5 = .ok (.iconst 0, 1) := by decide +kernel
theorem d_Mo_clear_6 : decode b_Mo_clear 6 = .ok (.istore_n 1, 1) := by decide +kernel
theorem d_Mo_clear_7 : decode b_Mo_clear 7 = .ok (.iconst 0, 1) := by decide +kernel
theorem d_Mo_clear_8 : decode b_Mo_clear 8 = .ok (.istore_n 2, 1) := by decide +kernel
theorem d_Mo_clear_9 : decode b_Mo_clear 9 = .ok (.iload_n 2, 1) := by decide +kernel
theorem d_Mo_clear_10 : decode b_Mo_clear 10 = .ok (.sipush 1024, 3) := by decide +kernel
theorem d_Mo_clear_13 : decode b_Mo_clear 13 = .ok (.if_icmp .ge 60, 3) := by decide +kernel
theorem d_Mo_clear_16 : decode b_Mo_clear 16 = .ok (.iconst 0, 1) := by decide +kernel
theorem d_Mo_clear_17 : decode b_Mo_clear 17 = .ok (.istore_n 3, 1) := by decide +kernel
theorem d_Mo_clear_18 : decode b_Mo_clear 18 = .ok (.iconst 0, 1) := by decide +kernel
theorem d_Mo_clear_19 : decode b_Mo_clear 19 = .ok (.istore 4, 2) := by decide +kernel
theorem d_Mo_clear_21 : decode b_Mo_clear 21 = .ok (.iload 4, 2) := by decide +kernel
theorem d_Mo_clear_23 : decode b_Mo_clear 23 = .ok (.bipush 8, 2) := by decide +kernel
theorem d_Mo_clear_25 : decode b_Mo_clear 25 = .ok (.if_icmp .ge 30, 3) := by decide +kernel
theorem d_Mo_clear_28 : decode b_Mo_clear 28 = .ok (.aload_n 0, 1) := by decide +kernel
theorem d_Mo_clear_29 : decode b_Mo_clear 29 = .ok (.getfield 18, 3) := by decide +kernel
theorem d_Mo_clear_32 : decode b_Mo_clear 32 = .ok (.bipush 8, 2) := by decide +kernel
theorem d_Mo_clear_34 : decode b_Mo_clear 34 = .ok (.aload_n 0, 1) := by decide +kernel
theorem d_Mo_clear_35 : decode b_Mo_clear 35 = .ok (.iload_n 2, 1) := by decide +kernel
theorem d_Mo_clear_36 : decode b_Mo_clear 36 = .ok (.invokevirtual 25, 3) := by decide +kernel
theorem d_Mo_clear_39 : decode b_Mo_clear 39 = .ok (.imul, 1) := by decide +kernel
theorem d_Mo_clear_40 : decode b_Mo_clear 40 = .ok (.iload 4, 2) := by decide +kernel
theorem d_Mo_clear_42 : decode b_Mo_clear 42 = .ok (.iadd, 1) := by decide +kernel
theorem d_Mo_clear_43 : decode b_Mo_clear 43 = .ok (.iaload, 1) := by decide +kernel
theorem d_Mo_clear_44 : decode b_Mo_clear 44 = .ok (.ifCond .eq 5, 3) := by decide +kernel
theorem d_Mo_clear_47 : decode b_Mo_clear 47 = .ok (.iconst 1, 1) := by decide +kernel
theorem d_Mo_clear_48 : decode b_Mo_clear 48 = .ok (.istore_n 3, 1) := by decide +kernel
theorem d_Mo_clear_49 : decode b_Mo_clear 49 = .ok (.iinc 4 1, 3) := by decide +kernel
theorem d_Mo_clear_52 : decode b_Mo_clear 52 = .ok (.goto (-31), 3) := by decide +kernel
theorem d_Mo_clear_55 : decode b_Mo_clear 55 = .ok (.iload_n 1, 1) := by decide +kernel
theorem d_Mo_clear_56 : decode b_Mo_clear 56 = .ok (.iload_n 3, 1) := by decide +kernel
theorem d_Mo_clear_57 : decode b_Mo_clear 57 = .ok (.ifCond .eq 7, 3) := by decide +kernel
theorem d_Mo_clear_60 : decode b_Mo_clear 60 = .ok (.iconst 1, 1) := by decide +kernel
theorem d_Mo_clear_61 : decode b_Mo_clear 61 = .ok (.goto 4, 3) := by decide +kernel
theorem d_Mo_clear_64 : decode b_Mo_clear 64 = .ok (.iconst 0, 1) := by decide +kernel
theorem d_Mo_clear_65 : decode b_Mo_clear 65 = .ok (.iadd, 1) := by decide +kernel
theorem d_Mo_clear_66 : decode b_Mo_clear 66 = .ok (.istore_n 1, 1) := by decide +kernel
theorem d_Mo_clear_67 : decode b_Mo_clear 67 = .ok (.iinc 2 1, 3) := by decide +kernel
theorem d_Mo_clear_70 : decode b_Mo_clear 70 = .ok (.goto (-61), 3) := by decide +kernel
theorem d_Mo_clear_73 : decode b_Mo_clear 73 = .ok (.aload_n 0, 1) := by decide +kernel
theorem d_Mo_clear_74 : decode b_Mo_clear 74 = .ok (.iconst 1, 1) := by decide +kernel
theorem d_Mo_clear_75 : decode b_Mo_clear 75 = .ok (.putfield 7, 3) := by decide +kernel
theorem d_Mo_clear_78 : decode b_Mo_clear 78 = .ok (.iconst 0, 1) := by decide +kernel
theorem d_Mo_clear_79 : decode b_Mo_clear 79 = .ok (.istore_n 2, 1) := by decide +kernel
theorem d_Mo_clear_80 : decode b_Mo_clear 80 = .ok (.iload_n 2, 1) := by decide +kernel
theorem d_Mo_clear_81 : decode b_Mo_clear 81 = .ok (.bipush 8, 2) := by decide +kernel
theorem d_Mo_clear_83 : decode b_Mo_clear 83 = .ok (.if_icmp .ge 16, 3) := by decide +kernel
theorem d_Mo_clear_86 : decode b_Mo_clear 86 = .ok (.aload_n 0, 1) := by decide +kernel
theorem d_Mo_clear_87 : decode b_Mo_clear 87 = .ok (.getfield 18, 3) := by decide +kernel
theorem d_Mo_clear_90 : decode b_Mo_clear 90 = .ok (.iload_n 2, 1) := by decide +kernel
theorem d_Mo_clear_91 : decode b_Mo_clear 91 = .ok (.iconst 0, 1) := by decide +kernel
theorem d_Mo_clear_92 : decode b_Mo_clear 92 = .ok (.iastore, 1) := by decide +kernel
theorem d_Mo_clear_93 : decode b_Mo_clear 93 = .ok (.iinc 2 1, 3) := by decide +kernel
theorem d_Mo_clear_96 : decode b_Mo_clear 96 = .ok (.goto (-16), 3) := by decide +kernel
theorem d_Mo_clear_99 : decode b_Mo_clear 99 = .ok (.iload_n 1, 1) := by decide +kernel
theorem d_Mo_clear_100 : decode b_Mo_clear 100 = .ok (.ireturn, 1) := by decide +kernel
end
section
abbrev classes : List vw_C := [(R_Rc, F_Rc, 11), (R_Bl, F_Bl, 7), (R_Pt, F_Pt, 1), (R_Mo, F_Mo, 4)]
abbrev fsRc (a : Nat → Nat) (σ : St) : List Value := [.ref (a 1), .ref (a 2), .ref (a 3), .int (σ 7 0), .ref (a 4), .ref (a 5), .int (σ 8 0), .int (σ 9 0), .int (σ 10 0), .ref (a 6), .ref (a 7)]
abbrev WRc (cI : ClassId) (a : Nat → Nat) (σ : St) : va_W := [(a 0, .inr (0, fsRc a σ)), (a 1, .inl (cI, 8224, .inl (σ 0))), (a 2, .inl (cI, 1028, .inl (σ 1))), (a 3, .inl (cI, 1028, .inl (σ 2))), (a 4, .inl (cI, 1024, .inl (σ 3))), (a 5, .inl (cI, 1028, .inl (σ 4))), (a 6, .inl (cI, 1028, .inl (σ 5))), (a 7, .inl (cI, 8, .inl (σ 6)))]
abbrev fsBl (a : Nat → Nat) (σ : St) : List Value := [.ref (a 0), .ref (a 9), .ref (a 10), .int (σ 13 0), .int (σ 14 0), .int (σ 15 0), .int (σ 16 0)]
abbrev WBl (cI : ClassId) (a : Nat → Nat) (σ : St) : va_W := [(a 8, .inr (1, fsBl a σ)), (a 9, .inl (cI, 66624, .inl (σ 11))), (a 10, .inl (cI, 2048, .inl (σ 12)))]
abbrev fsPt (a : Nat → Nat) (σ : St) : List Value := [.ref (a 8)]
abbrev WPt (cI : ClassId) (a : Nat → Nat) (σ : St) : va_W := [(a 11, .inr (2, fsPt a σ))]
abbrev fsMo (a : Nat → Nat) (σ : St) : List Value := [.int (σ 19 0), .int (σ 20 0), .ref (a 13), .ref (a 14)]
abbrev WMo (cI : ClassId) (a : Nat → Nat) (σ : St) : va_W := [(a 12, .inr (3, fsMo a σ)), (a 13, .inl (cI, 9000, .inl (σ 17))), (a 14, .inl (cI, 72000, .inl (σ 18)))]
def Fx (n : Nat) (wr : St → va_W) : Prop := ∀ (τ : St) (k : Nat) (f : Nat → Int32), k < n → wr (sA τ k f) = wr τ
abbrev wrB (cI : ClassId) (a : Nat → Nat) (wr : St → va_W) : St → va_W := fun τ => WBl cI a τ ++ wr τ
abbrev wrT (a : Nat → Nat) (wr : St → va_W) : St → va_W := fun τ => [(a 11, .inr (2, [.ref (a 8)]))] ++ wr τ
abbrev wrM (cI : ClassId) (a : Nat → Nat) (wr : St → va_W) : St → va_W := fun τ => WMo cI a τ ++ wr τ
abbrev wRc (cI : ClassId) (a : Nat → Nat) (wr : St → va_W) : St → va_W := fun τ => WRc cI a τ ++ wr τ
abbrev wBl (cI : ClassId) (a : Nat → Nat) (wr : St → va_W) : St → va_W := wRc cI a (wrB cI a wr)
abbrev wPt (cI : ClassId) (a : Nat → Nat) (wr : St → va_W) : St → va_W := wBl cI a (wrT a wr)
abbrev wMo (cI : ClassId) (a : Nat → Nat) (wr : St → va_W) : St → va_W := wPt cI a (wrM cI a wr)
theorem Fx_B {cI : ClassId} {a : Nat → Nat} {wr : St → va_W} (h : Fx 17 wr) : Fx 11 (wrB cI a wr) := by
  intro τ k f hk
  have e : ∀ j, 11 ≤ j → sA τ k f j = τ j := fun j hj => sA_n (by omega)
  show WBl cI a (sA τ k f) ++ wr (sA τ k f) = WBl cI a τ ++ wr τ
  rw [h τ k f (by omega)]
  unfold WBl fsBl
  rw [e 11 (by decide), e 12 (by decide), e 13 (by decide), e 14 (by decide), e 15 (by decide), e 16 (by decide)]
theorem Fx_T {a : Nat → Nat} {wr : St → va_W} (h : Fx 17 wr) : Fx 17 (wrT a wr) := by
  intro τ k f hk
  show [(a 11, .inr (2, [.ref (a 8)]))] ++ wr (sA τ k f) = [(a 11, .inr (2, [.ref (a 8)]))] ++ wr τ
  rw [h τ k f hk]
theorem Fx_M {cI : ClassId} {a : Nat → Nat} {wr : St → va_W} (h : Fx 21 wr) : Fx 17 (wrM cI a wr) := by
  intro τ k f hk
  have e : ∀ j, 17 ≤ j → sA τ k f j = τ j := fun j hj => sA_n (by omega)
  show WMo cI a (sA τ k f) ++ wr (sA τ k f) = WMo cI a τ ++ wr τ
  rw [h τ k f (by omega)]
  unfold WMo fsMo
  rw [e 17 (by decide), e 18 (by decide), e 19 (by decide), e 20 (by decide)]
/-- the tables' side of a state: the classes, the array class of int, the nest mates' links -/
def okS (D : va_G) (cI : ClassId) (U : State) : Prop := va_K D classes [(cI, .int)] U ∧ ∀ w ∈ lwn, va_Nw w U
theorem okS.warm {D : va_G} {cI : ClassId} {s U : State} (hW : s.WarmedH U.vm) (h : okS D cI s) : okS D cI U := ⟨va_K.moved hW.alike h.1, lwn_warm hW h.2⟩
theorem okS.calling {D : va_G} {cI : ClassId} {U : State} (h : okS D cI U) (g : JFrame) (mk : MethodId) (av : Array Value) : okS D cI (U.calling g mk av) := ⟨va_K.moved (u := U) (U := U.calling g mk av) (Vm.Alike.refl U.vm) h.1, fun w hw => va_Nw.same (u := U) (U := U.calling g mk av) (lwn_tab w hw) rfl (h.2 w hw)⟩
def PreW (D : va_G) (cI : ClassId) (w : va_W) (sz : Nat) (U : State) : Prop := U.heap.size = sz ∧ va_P D classes w U.heap ∧ okS D cI U ∧ va_D (fun _ => True) w
def PstW (D : va_G) (A : Nat → Prop) (w : va_W) (t : State) : Prop := va_P D classes w t.heap ∧ va_D A w
/-- a method that answers a number (or a boolean) -/
def Ci (l : Launch) (y : MethodName) (cw : Cond) (rm : Room) (D : va_G) (cI : ClassId) (avs : List Value) (w : St → va_W) (σ : St) (Qp : Int32 → St → Prop) : Prop :=
  ∀ sz : Nat, Met l y (cw :: lwg) rm (va_Pc avs (PreW D cI (w σ) sz)) (va_Qi Qp (fun u t => PstW D (va_A (w σ) sz) (w u) t) (va_A (w σ) sz)) 0 0 (va_A (w σ) sz)
/-- a method that answers nothing -/
def Cv (l : Launch) (y : MethodName) (cw : Cond) (rm : Room) (D : va_G) (cI : ClassId) (avs : List Value) (w : St → va_W) (σ : St) (Qp : St → Prop) : Prop :=
  ∀ sz : Nat, Met l y (cw :: lwg) rm (va_Pc avs (PreW D cI (w σ) sz)) (va_Qv Qp (fun u t => PstW D (va_A (w σ) sz) (w u) t) (va_A (w σ) sz)) 0 0 (va_A (w σ) sz)
theorem Ci.of {l : Launch} {y : MethodName} {cc : ByteArray} {maxL : Nat} {ty : FieldType} {rm : Room} {D : va_G} {cI : ClassId} {avs : List Value} {w : St → va_W} {σ : St} {Qp : Int32 → St → Prop} (hy : plainName y.cls = true) (hav : (lg_sl avs).length ≤ maxL)
    (body : ∀ (p : Program) (e : Env) (s : State) (m : MethodId) (below : List Frame) (meth : Method) (c : Code) (ls : Array Slot) (A : Nat → Prop) (Z : State → Prop), p.tables.exec = Jvm.exec → c.code = cc → c.maxLocals = maxL → s.vm.findClass y.cls = some m.cls → (∀ v ∈ lwg, v.before avs.toArray s = true) → okS D cI s →
      va_P D classes (w σ) s.heap → va_D A (w σ) → (∀ q, s.heap.size ≤ q → A q) → lv_has ls maxL (lv_args 0 avs) →
      (∀ (v : Int32) (u : St) (H : Heap) (locs : List Loc) (pc : Nat) (ls : Array Slot), decode cc pc = .ok (.ireturn, 1) → narrow ty (.int v) = .int v → Qp v u → va_P D classes (w u) H → va_D A (w u) → va_S A s.heap H locs → W p l e rm s m avs.toArray below meth c H locs 0 0 Z (F0 m pc ls [.int v])) →
      W p l e rm s m avs.toArray below meth c s.heap [] 0 0 Z (F0 m 0 ls [])) : Ci l y (.code y cc maxL (some ty)) rm D cI avs w σ Qp := by
  intro sz
  refine Met.ofW (cc := cc) (maxL := maxL) (ret := some ty) hy rfl ?_
  intro p e s m args below meth c s₁ B hml hv
  obtain ⟨rfl, hsz, hP, hok, hD0⟩ := hv
  subst hsz
  have hts := atoms_spec (ws := .code y cc maxL (some ty) :: lwg) B.pre
  have hl := lv_entry avs (n := maxL) hav
  rw [lg_entry_eq]
  exact body p e s m below meth c _ (va_A (w σ) s.heap.size) _ B.exec B.bytes hml (findClass_of_methodNamed B.named) (fun v hv => hts v (List.mem_cons_of_mem _ hv)) hok hP hD0.self (fun q h => Or.inr h) hl
    (fun v u H locs pc ls hd hn hq hP hD hS => W.zret B.exec B.bytes B.returns hn (fun t ht hW => ⟨⟨v, u, rfl, hq, by rw [ht]; exact hP, hD⟩, hS.F ht⟩) hS.2.2 hd B.notSynchronized)
theorem Cv.of {l : Launch} {y : MethodName} {cc : ByteArray} {maxL : Nat} {rm : Room} {D : va_G} {cI : ClassId} {avs : List Value} {w : St → va_W} {σ : St} {Qp : St → Prop} (hy : plainName y.cls = true) (hav : (lg_sl avs).length ≤ maxL)
    (body : ∀ (p : Program) (e : Env) (s : State) (m : MethodId) (below : List Frame) (meth : Method) (c : Code) (ls : Array Slot) (A : Nat → Prop) (Z : State → Prop), p.tables.exec = Jvm.exec → c.code = cc → c.maxLocals = maxL → s.vm.findClass y.cls = some m.cls → (∀ v ∈ lwg, v.before avs.toArray s = true) → okS D cI s →
      va_P D classes (w σ) s.heap → va_D A (w σ) → (∀ q, s.heap.size ≤ q → A q) → lv_has ls maxL (lv_args 0 avs) →
      (∀ (u : St) (H : Heap) (locs : List Loc) (pc : Nat) (ls : Array Slot), decode cc pc = .ok (.return_, 1) → Qp u → va_P D classes (w u) H → va_D A (w u) → va_S A s.heap H locs → W p l e rm s m avs.toArray below meth c H locs 0 0 Z (F0 m pc ls [])) →
      W p l e rm s m avs.toArray below meth c s.heap [] 0 0 Z (F0 m 0 ls [])) : Cv l y (.code y cc maxL (none)) rm D cI avs w σ Qp := by
  intro sz
  refine Met.ofW (cc := cc) (maxL := maxL) (ret := none) hy rfl ?_
  intro p e s m args below meth c s₁ B hml hv
  obtain ⟨rfl, hsz, hP, hok, hD0⟩ := hv
  subst hsz
  have hts := atoms_spec (ws := .code y cc maxL (none) :: lwg) B.pre
  have hl := lv_entry avs (n := maxL) hav
  rw [lg_entry_eq]
  exact body p e s m below meth c _ (va_A (w σ) s.heap.size) _ B.exec B.bytes hml (findClass_of_methodNamed B.named) (fun v hv => hts v (List.mem_cons_of_mem _ hv)) hok hP hD0.self (fun q h => Or.inr h) hl
    (fun u H locs pc ls hd hq hP hD hS => W.vret B.exec B.bytes B.returns (fun t ht hW => ⟨⟨u, rfl, hq, by rw [ht]; exact hP, hD⟩, hS.F ht⟩) hS.2.2 hd B.notSynchronized)
theorem lwg_G {cw : Cond} (h : cw ∈ lwg) : GoodIn lwg (cw :: lwg) := fun w hw => by
  rcases List.mem_cons.mp hw with rfl | h2
  · exact ⟨h, lwg_good h⟩
  · exact ⟨h2, lwg_good h2⟩
section ROWS
variable {p : Program} {l : Launch} {e : Env} {R : Room} {s : State} {m : MethodId} {args : Array Value} {below : List Frame} {meth : Method} {c : Code} {H H0 : Heap} {locs : List Loc} {cells slots : Nat} {Q : State → Prop} {cc : ByteArray} {pc nL : Nat} {ls : Array Slot} {rest : List Value} {D : va_G} {A : Nat → Prop} {cI : ClassId} {a : Nat → Nat} {wr : St → va_W} {σ : St} {own : String} {index : Nat}
theorem r_callVi {C : String} {T : u_T} {N n maxL ci q0 : Nat} {b : Nat} {fs : List Value} {y : MethodName} {bytes : ByteArray} {ty : FieldType} {rm : Room} {w : St → va_W} {As st : List Value} {Qp : Int32 → St → Prop}
    (S : CallFix p m c cc nL s args lwg own) (hok : okS D cI s) (hM : Ci l y (.code y bytes maxL (some ty)) rm D cI (.ref b :: As) w σ Qp)
    (h1 : Cond.methodLink own index y ∈ lwg) (h2 : Cond.instanceMethod y ∈ lwg) (h3 : Cond.selects C y y ∈ lwg) (h4 : Cond.initialized C ∈ lwg) (h5 : Cond.code y bytes maxL (some ty) ∈ lwg) (hrc : rm.cells = 0) (hrs : rm.slots = 0)
    (hd : y.cls = C ∧ y.cls ≠ "java/lang/invoke/MethodHandle" ∧ y.cls ≠ "java/lang/invoke/VarHandle" ∧ (parseMethodDescriptor y.desc).map (fun d => d.parameters.length) = some n) (hR : rm.frames + 1 ≤ R.frames ∧ 8 + (maxL + 11) + rm.locals ≤ R.locals)
    (he : (w σ)[q0]? = some (b, .inr (ci, fs))) (hc : classes[ci]? = some (C, T, N)) (hP : va_P D classes (w σ) H) (hD : va_D A (w σ)) (hS : va_S A s.heap H locs) (hA : ∀ q, s.heap.size ≤ q → A q) (hfc : cells ≤ R.cells) (hfs : slots ≤ R.slots)
    (hsize : ls.size = nL) (hn : As.length = n) (hst : st = As.reverse ++ .ref b :: rest) (hW : (rest.map fun v => v.category).sum ≤ 8) (hdg : decode cc pc = .ok (.invokevirtual index, 3))
    (kk : ∀ (r : Int32) (u : St) (H1 : Heap) (locs1 : List Loc), Qp r u → va_P D classes (w u) H1 → va_D A (w u) → va_S A s.heap H1 locs1 → W p l e R s m args below meth c H1 locs1 cells slots Q (F0 m (pc + 3) ls (.int r :: rest))) :
    W p l e R s m args below meth c H locs cells slots Q (F0 m pc ls st) := by
  subst hst
  have hFc : ∀ q, va_A (w σ) H.size q → A q := fun q h => by
    rcases h with ⟨k, e, h⟩ | h
    · exact hD.2 k _ h
    · exact hA q (Nat.le_trans hS.1 h)
  have hG : GoodIn lwg (wsV own index C y (.code y bytes maxL (some ty) :: lwg)) := fun x hx => by
    unfold wsV at hx
    rcases List.mem_append.mp hx with h | h
    · simp only [List.mem_cons, List.not_mem_nil, or_false] at h
      rcases h with rfl | rfl | rfl | rfl
      · exact ⟨h1, lwg_good h1⟩
      · exact ⟨h2, lwg_good h2⟩
      · exact ⟨h3, lwg_good h3⟩
      · exact ⟨h4, lwg_good h4⟩
    · exact lwg_G h5 x h
  refine va_calli (va_runV (As := As) (rest := rest) S (hM H.size) (cwV n S.2.2.2.2 hG rfl hrc hrs hd hR) ⟨fun av U g mk q => ?_, va_recv hok.1 hP hc he, fun U hU hW => ⟨rfl, by rw [hU], by rw [hU]; exact hP, hok.warm hW, hD.weaken (fun _ _ _ _ => trivial)⟩⟩ rfl hn hsize rfl (lv_room hW) hdg ⟨hfc, hfs⟩) hS (fun q _ h => hFc q h) hFc (fun r u t H1 locs1 ht hvm hq hB hz1 hk1 hS1 => ?_)
  · obtain ⟨q0, q1, qP, qK, qD⟩ := q
    exact ⟨q0, q1, qP, qK.calling g mk av, qD⟩
  · exact kk r u H1 locs1 hq (by rw [← ht]; exact hB.1) (hB.2.weaken (fun _ _ _ h => hFc _ h)) hS1
theorem r_callSi {n maxL : Nat} {y : MethodName} {bytes : ByteArray} {ty : FieldType} {rm : Room} {w : St → va_W} {As st : List Value} {Qp : Int32 → St → Prop}
    (S : CallFix p m c cc nL s args lwg own) (hok : okS D cI s) (hM : Ci l y (.code y bytes maxL (some ty)) rm D cI As w σ Qp)
    (h1 : Cond.methodLink own index y ∈ lwg) (h2 : Cond.static y ∈ lwg) (h4 : Cond.initialized y.cls ∈ lwg) (h5 : Cond.code y bytes maxL (some ty) ∈ lwg) (hrc : rm.cells = 0) (hrs : rm.slots = 0)
    (hd : y.cls ≠ "java/lang/invoke/MethodHandle" ∧ y.cls ≠ "java/lang/invoke/VarHandle" ∧ (parseMethodDescriptor y.desc).map (fun d => d.parameters.length) = some n) (hR : rm.frames + 1 ≤ R.frames ∧ 8 + (maxL + 11) + rm.locals ≤ R.locals)
    (hP : va_P D classes (w σ) H) (hD : va_D A (w σ)) (hS : va_S A s.heap H locs) (hA : ∀ q, s.heap.size ≤ q → A q) (hfc : cells ≤ R.cells) (hfs : slots ≤ R.slots)
    (hsize : ls.size = nL) (hn : As.length = n) (hst : st = As.reverse ++ rest) (hW : (rest.map fun v => v.category).sum ≤ 8) (hdg : decode cc pc = .ok (.invokestatic index, 3))
    (kk : ∀ (r : Int32) (u : St) (H1 : Heap) (locs1 : List Loc), Qp r u → va_P D classes (w u) H1 → va_D A (w u) → va_S A s.heap H1 locs1 → W p l e R s m args below meth c H1 locs1 cells slots Q (F0 m (pc + 3) ls (.int r :: rest))) :
    W p l e R s m args below meth c H locs cells slots Q (F0 m pc ls st) := by
  subst hst
  have hFc : ∀ q, va_A (w σ) H.size q → A q := fun q h => by
    rcases h with ⟨k, e, h⟩ | h
    · exact hD.2 k _ h
    · exact hA q (Nat.le_trans hS.1 h)
  refine va_calli (va_runS (As := As) (rest := rest) S (hM H.size) ⟨callB_of n S.2.2.2.2 (lwg_G h5) rfl hrc hrs (S.2.2.2.2 _ h4) (S.2.2.2.2 _ h1) hd hR, S.2.2.2.2 _ h2⟩ ⟨fun av U g mk q => ?_, fun U hU hW => ⟨rfl, by rw [hU], by rw [hU]; exact hP, hok.warm hW, hD.weaken (fun _ _ _ _ => trivial)⟩⟩ rfl hn hsize rfl (lv_room hW) hdg ⟨hfc, hfs⟩) hS (fun q _ h => hFc q h) hFc (fun r u t H1 locs1 ht hvm hq hB hz1 hk1 hS1 => ?_)
  · obtain ⟨q0, q1, qP, qK, qD⟩ := q
    exact ⟨q0, q1, qP, qK.calling g mk av, qD⟩
  · exact kk r u H1 locs1 hq (by rw [← ht]; exact hB.1) (hB.2.weaken (fun _ _ _ h => hFc _ h)) hS1
theorem r_callVv {C : String} {T : u_T} {N n maxL ci q0 : Nat} {b : Nat} {fs : List Value} {y : MethodName} {bytes : ByteArray} {rm : Room} {w : St → va_W} {As st : List Value} {Qp : St → Prop}
    (S : CallFix p m c cc nL s args lwg own) (hok : okS D cI s) (hM : Cv l y (.code y bytes maxL (none)) rm D cI (.ref b :: As) w σ Qp)
    (h1 : Cond.methodLink own index y ∈ lwg) (h2 : Cond.instanceMethod y ∈ lwg) (h3 : Cond.selects C y y ∈ lwg) (h4 : Cond.initialized C ∈ lwg) (h5 : Cond.code y bytes maxL (none) ∈ lwg) (hrc : rm.cells = 0) (hrs : rm.slots = 0)
    (hd : y.cls = C ∧ y.cls ≠ "java/lang/invoke/MethodHandle" ∧ y.cls ≠ "java/lang/invoke/VarHandle" ∧ (parseMethodDescriptor y.desc).map (fun d => d.parameters.length) = some n) (hR : rm.frames + 1 ≤ R.frames ∧ 8 + (maxL + 11) + rm.locals ≤ R.locals)
    (he : (w σ)[q0]? = some (b, .inr (ci, fs))) (hc : classes[ci]? = some (C, T, N)) (hP : va_P D classes (w σ) H) (hD : va_D A (w σ)) (hS : va_S A s.heap H locs) (hA : ∀ q, s.heap.size ≤ q → A q) (hfc : cells ≤ R.cells) (hfs : slots ≤ R.slots)
    (hsize : ls.size = nL) (hn : As.length = n) (hst : st = As.reverse ++ .ref b :: rest) (hW : (rest.map fun v => v.category).sum ≤ 8) (hdg : decode cc pc = .ok (.invokevirtual index, 3))
    (kk : ∀ (u : St) (H1 : Heap) (locs1 : List Loc), Qp u → va_P D classes (w u) H1 → va_D A (w u) → va_S A s.heap H1 locs1 → W p l e R s m args below meth c H1 locs1 cells slots Q (F0 m (pc + 3) ls rest)) :
    W p l e R s m args below meth c H locs cells slots Q (F0 m pc ls st) := by
  subst hst
  have hFc : ∀ q, va_A (w σ) H.size q → A q := fun q h => by
    rcases h with ⟨k, e, h⟩ | h
    · exact hD.2 k _ h
    · exact hA q (Nat.le_trans hS.1 h)
  have hG : GoodIn lwg (wsV own index C y (.code y bytes maxL (none) :: lwg)) := fun x hx => by
    unfold wsV at hx
    rcases List.mem_append.mp hx with h | h
    · simp only [List.mem_cons, List.not_mem_nil, or_false] at h
      rcases h with rfl | rfl | rfl | rfl
      · exact ⟨h1, lwg_good h1⟩
      · exact ⟨h2, lwg_good h2⟩
      · exact ⟨h3, lwg_good h3⟩
      · exact ⟨h4, lwg_good h4⟩
    · exact lwg_G h5 x h
  refine va_callv (va_runV (As := As) (rest := rest) S (hM H.size) (cwV n S.2.2.2.2 hG rfl hrc hrs hd hR) ⟨fun av U g mk q => ?_, va_recv hok.1 hP hc he, fun U hU hW => ⟨rfl, by rw [hU], by rw [hU]; exact hP, hok.warm hW, hD.weaken (fun _ _ _ _ => trivial)⟩⟩ rfl hn hsize rfl (lv_room hW) hdg ⟨hfc, hfs⟩) hS (fun q _ h => hFc q h) hFc (fun u t H1 locs1 ht hvm hq hB hz1 hk1 hS1 => ?_)
  · obtain ⟨q0, q1, qP, qK, qD⟩ := q
    exact ⟨q0, q1, qP, qK.calling g mk av, qD⟩
  · exact kk u H1 locs1 hq (by rw [← ht]; exact hB.1) (hB.2.weaken (fun _ _ _ h => hFc _ h)) hS1
theorem r_callSv {n maxL : Nat} {y : MethodName} {bytes : ByteArray} {rm : Room} {w : St → va_W} {As st : List Value} {Qp : St → Prop}
    (S : CallFix p m c cc nL s args lwg own) (hok : okS D cI s) (hM : Cv l y (.code y bytes maxL (none)) rm D cI As w σ Qp)
    (h1 : Cond.methodLink own index y ∈ lwg) (h2 : Cond.static y ∈ lwg) (h4 : Cond.initialized y.cls ∈ lwg) (h5 : Cond.code y bytes maxL (none) ∈ lwg) (hrc : rm.cells = 0) (hrs : rm.slots = 0)
    (hd : y.cls ≠ "java/lang/invoke/MethodHandle" ∧ y.cls ≠ "java/lang/invoke/VarHandle" ∧ (parseMethodDescriptor y.desc).map (fun d => d.parameters.length) = some n) (hR : rm.frames + 1 ≤ R.frames ∧ 8 + (maxL + 11) + rm.locals ≤ R.locals)
    (hP : va_P D classes (w σ) H) (hD : va_D A (w σ)) (hS : va_S A s.heap H locs) (hA : ∀ q, s.heap.size ≤ q → A q) (hfc : cells ≤ R.cells) (hfs : slots ≤ R.slots)
    (hsize : ls.size = nL) (hn : As.length = n) (hst : st = As.reverse ++ rest) (hW : (rest.map fun v => v.category).sum ≤ 8) (hdg : decode cc pc = .ok (.invokestatic index, 3))
    (kk : ∀ (u : St) (H1 : Heap) (locs1 : List Loc), Qp u → va_P D classes (w u) H1 → va_D A (w u) → va_S A s.heap H1 locs1 → W p l e R s m args below meth c H1 locs1 cells slots Q (F0 m (pc + 3) ls rest)) :
    W p l e R s m args below meth c H locs cells slots Q (F0 m pc ls st) := by
  subst hst
  have hFc : ∀ q, va_A (w σ) H.size q → A q := fun q h => by
    rcases h with ⟨k, e, h⟩ | h
    · exact hD.2 k _ h
    · exact hA q (Nat.le_trans hS.1 h)
  refine va_callv (va_runS (As := As) (rest := rest) S (hM H.size) ⟨callB_of n S.2.2.2.2 (lwg_G h5) rfl hrc hrs (S.2.2.2.2 _ h4) (S.2.2.2.2 _ h1) hd hR, S.2.2.2.2 _ h2⟩ ⟨fun av U g mk q => ?_, fun U hU hW => ⟨rfl, by rw [hU], by rw [hU]; exact hP, hok.warm hW, hD.weaken (fun _ _ _ _ => trivial)⟩⟩ rfl hn hsize rfl (lv_room hW) hdg ⟨hfc, hfs⟩) hS (fun q _ h => hFc q h) hFc (fun u t H1 locs1 ht hvm hq hB hz1 hk1 hS1 => ?_)
  · obtain ⟨q0, q1, qP, qK, qD⟩ := q
    exact ⟨q0, q1, qP, qK.calling g mk av, qD⟩
  · exact kk u H1 locs1 hq (by rw [← ht]; exact hB.1) (hB.2.weaken (fun _ _ _ h => hFc _ h)) hS1
theorem rg_Rc_values (S : CallFix p m c cc nL s args lwg own) (hok : okS D cI s) (hP : va_P D classes (wRc cI a wr σ) H) (hl : (Cond.fieldLink own index "PropertyTrie$Records" "values" "[I").before args s = true) (hdg : decode cc pc = .ok (.getfield index, 3)) (kk : W p l e R s m args below meth c H locs cells slots Q (F0 m (pc + 3) ls (.ref (a 1) :: rest))) : W p l e R s m args below meth c H locs cells slots Q (F0 m pc ls (.ref (a 0) :: rest)) :=
  va_get (C := R_Rc) (T := F_Rc) (N := 11) (ci := 0) (ref := "PropertyTrie$Records") (fs := fsRc a σ) (v := .ref (a 1)) S.1 S.2.1 S.2.2.2.2 i_Rc S.2.2.2.1 hok.1 hP 0 rfl rfl 0 (by decide) hl (fun _ h9 => h9) rfl hdg kk
theorem rl_Rc_values {i : Int32} (S : CallFix p m c cc nL s args lwg own) (hok : okS D cI s) (hP : va_P D classes (wRc cI a wr σ) H) (hin : vp_in i 8224) (hdg : decode cc pc = .ok (.iaload, 1)) (kk : W p l e R s m args below meth c H locs cells slots Q (F0 m (pc + 1) ls (.int (σ 0 i.toNatClampNeg) :: rest))) : W p l e R s m args below meth c H locs cells slots Q (F0 m pc ls (.int i :: .ref (a 1) :: rest)) :=
  va_iald (n := 8224) (f := σ 0) (cA := cI) S.1 S.2.1 hok.1 hP 1 0 rfl rfl hin hdg kk
theorem ra_Rc_values (S : CallFix p m c cc nL s args lwg own) (hok : okS D cI s) (hP : va_P D classes (wRc cI a wr σ) H) (hdg : decode cc pc = .ok (.arraylength, 1)) (kk : W p l e R s m args below meth c H locs cells slots Q (F0 m (pc + 1) ls (.int 8224 :: rest))) : W p l e R s m args below meth c H locs cells slots Q (F0 m pc ls (.ref (a 1) :: rest)) :=
  va_alen (ty := .int) (cA := cI) (x := (8224, .inl (σ 0))) S.1 S.2.1 hok.1 hP 1 0 rfl rfl rfl hdg kk
theorem e_Rc_values (hwr : Fx 11 wr) (g : Nat → Int32) : wRc cI a wr (sA σ 0 g) = (wRc cI a wr σ).set 1 (a 1, .inl (cI, 8224, .inl g)) := by
  show WRc cI a (sA σ 0 g) ++ wr (sA σ 0 g) = _
  rw [hwr σ 0 g (by decide)]
  rfl
theorem rs_Rc_values {i x : Int32} (S : CallFix p m c cc nL s args lwg own) (hok : okS D cI s) (hwr : Fx 11 wr) (hP : va_P D classes (wRc cI a wr σ) H) (hD : va_D A (wRc cI a wr σ)) (hS : va_S A H0 H locs) (hin : vp_in i 8224) (hdg : decode cc pc = .ok (.iastore, 1)) (kk : ∀ (τ : St) (H1 : Heap) (locs1 : List Loc), τ = sA σ 0 (upd (σ 0) i.toNatClampNeg x) → va_P D classes (wRc cI a wr τ) H1 → va_D A (wRc cI a wr τ) → va_S A H0 H1 locs1 → W p l e R s m args below meth c H1 locs1 cells slots Q (F0 m (pc + 1) ls rest)) : W p l e R s m args below meth c H locs cells slots Q (F0 m pc ls (.int x :: .int i :: .ref (a 1) :: rest)) :=
  va_iast (n := 8224) (f := σ 0) (cA := cI) S.1 S.2.1 hok.1 hP hD hS 1 0 rfl rfl hin hdg (fun H1 locs1 hP hD hS => kk _ H1 locs1 rfl (by rw [e_Rc_values hwr _]; exact hP) (by rw [e_Rc_values hwr _]; exact hD) hS)
theorem rg_Rc_holders (S : CallFix p m c cc nL s args lwg own) (hok : okS D cI s) (hP : va_P D classes (wRc cI a wr σ) H) (hl : (Cond.fieldLink own index "PropertyTrie$Records" "holders" "[I").before args s = true) (hdg : decode cc pc = .ok (.getfield index, 3)) (kk : W p l e R s m args below meth c H locs cells slots Q (F0 m (pc + 3) ls (.ref (a 2) :: rest))) : W p l e R s m args below meth c H locs cells slots Q (F0 m pc ls (.ref (a 0) :: rest)) :=
  va_get (C := R_Rc) (T := F_Rc) (N := 11) (ci := 0) (ref := "PropertyTrie$Records") (fs := fsRc a σ) (v := .ref (a 2)) S.1 S.2.1 S.2.2.2.2 i_Rc S.2.2.2.1 hok.1 hP 0 rfl rfl 1 (by decide) hl (fun _ h9 => h9) rfl hdg kk
theorem rl_Rc_holders {i : Int32} (S : CallFix p m c cc nL s args lwg own) (hok : okS D cI s) (hP : va_P D classes (wRc cI a wr σ) H) (hin : vp_in i 1028) (hdg : decode cc pc = .ok (.iaload, 1)) (kk : W p l e R s m args below meth c H locs cells slots Q (F0 m (pc + 1) ls (.int (σ 1 i.toNatClampNeg) :: rest))) : W p l e R s m args below meth c H locs cells slots Q (F0 m pc ls (.int i :: .ref (a 2) :: rest)) :=
  va_iald (n := 1028) (f := σ 1) (cA := cI) S.1 S.2.1 hok.1 hP 2 0 rfl rfl hin hdg kk
theorem ra_Rc_holders (S : CallFix p m c cc nL s args lwg own) (hok : okS D cI s) (hP : va_P D classes (wRc cI a wr σ) H) (hdg : decode cc pc = .ok (.arraylength, 1)) (kk : W p l e R s m args below meth c H locs cells slots Q (F0 m (pc + 1) ls (.int 1028 :: rest))) : W p l e R s m args below meth c H locs cells slots Q (F0 m pc ls (.ref (a 2) :: rest)) :=
  va_alen (ty := .int) (cA := cI) (x := (1028, .inl (σ 1))) S.1 S.2.1 hok.1 hP 2 0 rfl rfl rfl hdg kk
theorem e_Rc_holders (hwr : Fx 11 wr) (g : Nat → Int32) : wRc cI a wr (sA σ 1 g) = (wRc cI a wr σ).set 2 (a 2, .inl (cI, 1028, .inl g)) := by
  show WRc cI a (sA σ 1 g) ++ wr (sA σ 1 g) = _
  rw [hwr σ 1 g (by decide)]
  rfl
theorem rs_Rc_holders {i x : Int32} (S : CallFix p m c cc nL s args lwg own) (hok : okS D cI s) (hwr : Fx 11 wr) (hP : va_P D classes (wRc cI a wr σ) H) (hD : va_D A (wRc cI a wr σ)) (hS : va_S A H0 H locs) (hin : vp_in i 1028) (hdg : decode cc pc = .ok (.iastore, 1)) (kk : ∀ (τ : St) (H1 : Heap) (locs1 : List Loc), τ = sA σ 1 (upd (σ 1) i.toNatClampNeg x) → va_P D classes (wRc cI a wr τ) H1 → va_D A (wRc cI a wr τ) → va_S A H0 H1 locs1 → W p l e R s m args below meth c H1 locs1 cells slots Q (F0 m (pc + 1) ls rest)) : W p l e R s m args below meth c H locs cells slots Q (F0 m pc ls (.int x :: .int i :: .ref (a 2) :: rest)) :=
  va_iast (n := 1028) (f := σ 1) (cA := cI) S.1 S.2.1 hok.1 hP hD hS 2 0 rfl rfl hin hdg (fun H1 locs1 hP hD hS => kk _ H1 locs1 rfl (by rw [e_Rc_holders hwr _]; exact hP) (by rw [e_Rc_holders hwr _]; exact hD) hS)
theorem rg_Rc_spareRecords (S : CallFix p m c cc nL s args lwg own) (hok : okS D cI s) (hP : va_P D classes (wRc cI a wr σ) H) (hl : (Cond.fieldLink own index "PropertyTrie$Records" "spareRecords" "[I").before args s = true) (hdg : decode cc pc = .ok (.getfield index, 3)) (kk : W p l e R s m args below meth c H locs cells slots Q (F0 m (pc + 3) ls (.ref (a 3) :: rest))) : W p l e R s m args below meth c H locs cells slots Q (F0 m pc ls (.ref (a 0) :: rest)) :=
  va_get (C := R_Rc) (T := F_Rc) (N := 11) (ci := 0) (ref := "PropertyTrie$Records") (fs := fsRc a σ) (v := .ref (a 3)) S.1 S.2.1 S.2.2.2.2 i_Rc S.2.2.2.1 hok.1 hP 0 rfl rfl 2 (by decide) hl (fun _ h9 => h9) rfl hdg kk
theorem rl_Rc_spareRecords {i : Int32} (S : CallFix p m c cc nL s args lwg own) (hok : okS D cI s) (hP : va_P D classes (wRc cI a wr σ) H) (hin : vp_in i 1028) (hdg : decode cc pc = .ok (.iaload, 1)) (kk : W p l e R s m args below meth c H locs cells slots Q (F0 m (pc + 1) ls (.int (σ 2 i.toNatClampNeg) :: rest))) : W p l e R s m args below meth c H locs cells slots Q (F0 m pc ls (.int i :: .ref (a 3) :: rest)) :=
  va_iald (n := 1028) (f := σ 2) (cA := cI) S.1 S.2.1 hok.1 hP 3 0 rfl rfl hin hdg kk
theorem ra_Rc_spareRecords (S : CallFix p m c cc nL s args lwg own) (hok : okS D cI s) (hP : va_P D classes (wRc cI a wr σ) H) (hdg : decode cc pc = .ok (.arraylength, 1)) (kk : W p l e R s m args below meth c H locs cells slots Q (F0 m (pc + 1) ls (.int 1028 :: rest))) : W p l e R s m args below meth c H locs cells slots Q (F0 m pc ls (.ref (a 3) :: rest)) :=
  va_alen (ty := .int) (cA := cI) (x := (1028, .inl (σ 2))) S.1 S.2.1 hok.1 hP 3 0 rfl rfl rfl hdg kk
theorem e_Rc_spareRecords (hwr : Fx 11 wr) (g : Nat → Int32) : wRc cI a wr (sA σ 2 g) = (wRc cI a wr σ).set 3 (a 3, .inl (cI, 1028, .inl g)) := by
  show WRc cI a (sA σ 2 g) ++ wr (sA σ 2 g) = _
  rw [hwr σ 2 g (by decide)]
  rfl
theorem rs_Rc_spareRecords {i x : Int32} (S : CallFix p m c cc nL s args lwg own) (hok : okS D cI s) (hwr : Fx 11 wr) (hP : va_P D classes (wRc cI a wr σ) H) (hD : va_D A (wRc cI a wr σ)) (hS : va_S A H0 H locs) (hin : vp_in i 1028) (hdg : decode cc pc = .ok (.iastore, 1)) (kk : ∀ (τ : St) (H1 : Heap) (locs1 : List Loc), τ = sA σ 2 (upd (σ 2) i.toNatClampNeg x) → va_P D classes (wRc cI a wr τ) H1 → va_D A (wRc cI a wr τ) → va_S A H0 H1 locs1 → W p l e R s m args below meth c H1 locs1 cells slots Q (F0 m (pc + 1) ls rest)) : W p l e R s m args below meth c H locs cells slots Q (F0 m pc ls (.int x :: .int i :: .ref (a 3) :: rest)) :=
  va_iast (n := 1028) (f := σ 2) (cA := cI) S.1 S.2.1 hok.1 hP hD hS 3 0 rfl rfl hin hdg (fun H1 locs1 hP hD hS => kk _ H1 locs1 rfl (by rw [e_Rc_spareRecords hwr _]; exact hP) (by rw [e_Rc_spareRecords hwr _]; exact hD) hS)
theorem rg_Rc_spares (S : CallFix p m c cc nL s args lwg own) (hok : okS D cI s) (hP : va_P D classes (wRc cI a wr σ) H) (hl : (Cond.fieldLink own index "PropertyTrie$Records" "spares" "I").before args s = true) (hdg : decode cc pc = .ok (.getfield index, 3)) (kk : W p l e R s m args below meth c H locs cells slots Q (F0 m (pc + 3) ls (.int (σ 7 0) :: rest))) : W p l e R s m args below meth c H locs cells slots Q (F0 m pc ls (.ref (a 0) :: rest)) :=
  va_get (C := R_Rc) (T := F_Rc) (N := 11) (ci := 0) (ref := "PropertyTrie$Records") (fs := fsRc a σ) (v := .int (σ 7 0)) S.1 S.2.1 S.2.2.2.2 i_Rc S.2.2.2.1 hok.1 hP 0 rfl rfl 3 (by decide) hl (fun _ h9 => h9) rfl hdg kk
theorem e_Rc_spares (hwr : Fx 11 wr) (x : Int32) : wRc cI a wr (sA σ 7 (fun _ => x)) = (wRc cI a wr σ).set 0 (a 0, .inr (0, (fsRc a σ).set 3 (.int x))) := by
  show WRc cI a (sA σ 7 (fun _ => x)) ++ wr (sA σ 7 (fun _ => x)) = _
  rw [hwr σ 7 (fun _ => x) (by decide)]
  rfl
theorem rp_Rc_spares {x : Int32} (S : CallFix p m c cc nL s args lwg own) (hok : okS D cI s) (hwr : Fx 11 wr) (hP : va_P D classes (wRc cI a wr σ) H) (hD : va_D A (wRc cI a wr σ)) (hS : va_S A H0 H locs) (hl : (Cond.fieldLink own index "PropertyTrie$Records" "spares" "I").before args s = true) (hdg : decode cc pc = .ok (.putfield index, 3)) (kk : ∀ (τ : St) (H1 : Heap) (locs1 : List Loc), τ = sA σ 7 (fun _ => x) → va_P D classes (wRc cI a wr τ) H1 → va_D A (wRc cI a wr τ) → va_S A H0 H1 locs1 → W p l e R s m args below meth c H1 locs1 cells slots Q (F0 m (pc + 3) ls rest)) : W p l e R s m args below meth c H locs cells slots Q (F0 m pc ls (.int x :: .ref (a 0) :: rest)) :=
  va_put (D := D) (C := R_Rc) (T := F_Rc) (N := 11) (ci := 0) (ref := "PropertyTrie$Records") (fs := fsRc a σ) (v := .int x) (ty := .int) S.1 S.2.1 S.2.2.2.2 i_Rc t_Rc t_Rc_ok n_Rc S.2.2.2.1 hok.1 hP hD hS 0 rfl rfl 3 (by decide) hl (fun _ h9 => h9) rfl (by decide +kernel) rfl rfl (Nat.le_of_ble_eq_true rfl) hdg (fun H1 locs1 hP hD hS => kk _ H1 locs1 rfl (by rw [e_Rc_spares hwr x]; exact hP) (by rw [e_Rc_spares hwr x]; exact hD) hS)
theorem rg_Rc_heads (S : CallFix p m c cc nL s args lwg own) (hok : okS D cI s) (hP : va_P D classes (wRc cI a wr σ) H) (hl : (Cond.fieldLink own index "PropertyTrie$Records" "heads" "[I").before args s = true) (hdg : decode cc pc = .ok (.getfield index, 3)) (kk : W p l e R s m args below meth c H locs cells slots Q (F0 m (pc + 3) ls (.ref (a 4) :: rest))) : W p l e R s m args below meth c H locs cells slots Q (F0 m pc ls (.ref (a 0) :: rest)) :=
  va_get (C := R_Rc) (T := F_Rc) (N := 11) (ci := 0) (ref := "PropertyTrie$Records") (fs := fsRc a σ) (v := .ref (a 4)) S.1 S.2.1 S.2.2.2.2 i_Rc S.2.2.2.1 hok.1 hP 0 rfl rfl 4 (by decide) hl (fun _ h9 => h9) rfl hdg kk
theorem rl_Rc_heads {i : Int32} (S : CallFix p m c cc nL s args lwg own) (hok : okS D cI s) (hP : va_P D classes (wRc cI a wr σ) H) (hin : vp_in i 1024) (hdg : decode cc pc = .ok (.iaload, 1)) (kk : W p l e R s m args below meth c H locs cells slots Q (F0 m (pc + 1) ls (.int (σ 3 i.toNatClampNeg) :: rest))) : W p l e R s m args below meth c H locs cells slots Q (F0 m pc ls (.int i :: .ref (a 4) :: rest)) :=
  va_iald (n := 1024) (f := σ 3) (cA := cI) S.1 S.2.1 hok.1 hP 4 0 rfl rfl hin hdg kk
theorem ra_Rc_heads (S : CallFix p m c cc nL s args lwg own) (hok : okS D cI s) (hP : va_P D classes (wRc cI a wr σ) H) (hdg : decode cc pc = .ok (.arraylength, 1)) (kk : W p l e R s m args below meth c H locs cells slots Q (F0 m (pc + 1) ls (.int 1024 :: rest))) : W p l e R s m args below meth c H locs cells slots Q (F0 m pc ls (.ref (a 4) :: rest)) :=
  va_alen (ty := .int) (cA := cI) (x := (1024, .inl (σ 3))) S.1 S.2.1 hok.1 hP 4 0 rfl rfl rfl hdg kk
theorem e_Rc_heads (hwr : Fx 11 wr) (g : Nat → Int32) : wRc cI a wr (sA σ 3 g) = (wRc cI a wr σ).set 4 (a 4, .inl (cI, 1024, .inl g)) := by
  show WRc cI a (sA σ 3 g) ++ wr (sA σ 3 g) = _
  rw [hwr σ 3 g (by decide)]
  rfl
theorem rs_Rc_heads {i x : Int32} (S : CallFix p m c cc nL s args lwg own) (hok : okS D cI s) (hwr : Fx 11 wr) (hP : va_P D classes (wRc cI a wr σ) H) (hD : va_D A (wRc cI a wr σ)) (hS : va_S A H0 H locs) (hin : vp_in i 1024) (hdg : decode cc pc = .ok (.iastore, 1)) (kk : ∀ (τ : St) (H1 : Heap) (locs1 : List Loc), τ = sA σ 3 (upd (σ 3) i.toNatClampNeg x) → va_P D classes (wRc cI a wr τ) H1 → va_D A (wRc cI a wr τ) → va_S A H0 H1 locs1 → W p l e R s m args below meth c H1 locs1 cells slots Q (F0 m (pc + 1) ls rest)) : W p l e R s m args below meth c H locs cells slots Q (F0 m pc ls (.int x :: .int i :: .ref (a 4) :: rest)) :=
  va_iast (n := 1024) (f := σ 3) (cA := cI) S.1 S.2.1 hok.1 hP hD hS 4 0 rfl rfl hin hdg (fun H1 locs1 hP hD hS => kk _ H1 locs1 rfl (by rw [e_Rc_heads hwr _]; exact hP) (by rw [e_Rc_heads hwr _]; exact hD) hS)
theorem rg_Rc_behind (S : CallFix p m c cc nL s args lwg own) (hok : okS D cI s) (hP : va_P D classes (wRc cI a wr σ) H) (hl : (Cond.fieldLink own index "PropertyTrie$Records" "behind" "[I").before args s = true) (hdg : decode cc pc = .ok (.getfield index, 3)) (kk : W p l e R s m args below meth c H locs cells slots Q (F0 m (pc + 3) ls (.ref (a 5) :: rest))) : W p l e R s m args below meth c H locs cells slots Q (F0 m pc ls (.ref (a 0) :: rest)) :=
  va_get (C := R_Rc) (T := F_Rc) (N := 11) (ci := 0) (ref := "PropertyTrie$Records") (fs := fsRc a σ) (v := .ref (a 5)) S.1 S.2.1 S.2.2.2.2 i_Rc S.2.2.2.1 hok.1 hP 0 rfl rfl 5 (by decide) hl (fun _ h9 => h9) rfl hdg kk
theorem rl_Rc_behind {i : Int32} (S : CallFix p m c cc nL s args lwg own) (hok : okS D cI s) (hP : va_P D classes (wRc cI a wr σ) H) (hin : vp_in i 1028) (hdg : decode cc pc = .ok (.iaload, 1)) (kk : W p l e R s m args below meth c H locs cells slots Q (F0 m (pc + 1) ls (.int (σ 4 i.toNatClampNeg) :: rest))) : W p l e R s m args below meth c H locs cells slots Q (F0 m pc ls (.int i :: .ref (a 5) :: rest)) :=
  va_iald (n := 1028) (f := σ 4) (cA := cI) S.1 S.2.1 hok.1 hP 5 0 rfl rfl hin hdg kk
theorem ra_Rc_behind (S : CallFix p m c cc nL s args lwg own) (hok : okS D cI s) (hP : va_P D classes (wRc cI a wr σ) H) (hdg : decode cc pc = .ok (.arraylength, 1)) (kk : W p l e R s m args below meth c H locs cells slots Q (F0 m (pc + 1) ls (.int 1028 :: rest))) : W p l e R s m args below meth c H locs cells slots Q (F0 m pc ls (.ref (a 5) :: rest)) :=
  va_alen (ty := .int) (cA := cI) (x := (1028, .inl (σ 4))) S.1 S.2.1 hok.1 hP 5 0 rfl rfl rfl hdg kk
theorem e_Rc_behind (hwr : Fx 11 wr) (g : Nat → Int32) : wRc cI a wr (sA σ 4 g) = (wRc cI a wr σ).set 5 (a 5, .inl (cI, 1028, .inl g)) := by
  show WRc cI a (sA σ 4 g) ++ wr (sA σ 4 g) = _
  rw [hwr σ 4 g (by decide)]
  rfl
theorem rs_Rc_behind {i x : Int32} (S : CallFix p m c cc nL s args lwg own) (hok : okS D cI s) (hwr : Fx 11 wr) (hP : va_P D classes (wRc cI a wr σ) H) (hD : va_D A (wRc cI a wr σ)) (hS : va_S A H0 H locs) (hin : vp_in i 1028) (hdg : decode cc pc = .ok (.iastore, 1)) (kk : ∀ (τ : St) (H1 : Heap) (locs1 : List Loc), τ = sA σ 4 (upd (σ 4) i.toNatClampNeg x) → va_P D classes (wRc cI a wr τ) H1 → va_D A (wRc cI a wr τ) → va_S A H0 H1 locs1 → W p l e R s m args below meth c H1 locs1 cells slots Q (F0 m (pc + 1) ls rest)) : W p l e R s m args below meth c H locs cells slots Q (F0 m pc ls (.int x :: .int i :: .ref (a 5) :: rest)) :=
  va_iast (n := 1028) (f := σ 4) (cA := cI) S.1 S.2.1 hok.1 hP hD hS 5 0 rfl rfl hin hdg (fun H1 locs1 hP hD hS => kk _ H1 locs1 rfl (by rw [e_Rc_behind hwr _]; exact hP) (by rw [e_Rc_behind hwr _]; exact hD) hS)
theorem rg_Rc_field (S : CallFix p m c cc nL s args lwg own) (hok : okS D cI s) (hP : va_P D classes (wRc cI a wr σ) H) (hl : (Cond.fieldLink own index "PropertyTrie$Records" "field" "I").before args s = true) (hdg : decode cc pc = .ok (.getfield index, 3)) (kk : W p l e R s m args below meth c H locs cells slots Q (F0 m (pc + 3) ls (.int (σ 8 0) :: rest))) : W p l e R s m args below meth c H locs cells slots Q (F0 m pc ls (.ref (a 0) :: rest)) :=
  va_get (C := R_Rc) (T := F_Rc) (N := 11) (ci := 0) (ref := "PropertyTrie$Records") (fs := fsRc a σ) (v := .int (σ 8 0)) S.1 S.2.1 S.2.2.2.2 i_Rc S.2.2.2.1 hok.1 hP 0 rfl rfl 6 (by decide) hl (fun _ h9 => h9) rfl hdg kk
theorem e_Rc_field (hwr : Fx 11 wr) (x : Int32) : wRc cI a wr (sA σ 8 (fun _ => x)) = (wRc cI a wr σ).set 0 (a 0, .inr (0, (fsRc a σ).set 6 (.int x))) := by
  show WRc cI a (sA σ 8 (fun _ => x)) ++ wr (sA σ 8 (fun _ => x)) = _
  rw [hwr σ 8 (fun _ => x) (by decide)]
  rfl
theorem rp_Rc_field {x : Int32} (S : CallFix p m c cc nL s args lwg own) (hok : okS D cI s) (hwr : Fx 11 wr) (hP : va_P D classes (wRc cI a wr σ) H) (hD : va_D A (wRc cI a wr σ)) (hS : va_S A H0 H locs) (hl : (Cond.fieldLink own index "PropertyTrie$Records" "field" "I").before args s = true) (hdg : decode cc pc = .ok (.putfield index, 3)) (kk : ∀ (τ : St) (H1 : Heap) (locs1 : List Loc), τ = sA σ 8 (fun _ => x) → va_P D classes (wRc cI a wr τ) H1 → va_D A (wRc cI a wr τ) → va_S A H0 H1 locs1 → W p l e R s m args below meth c H1 locs1 cells slots Q (F0 m (pc + 3) ls rest)) : W p l e R s m args below meth c H locs cells slots Q (F0 m pc ls (.int x :: .ref (a 0) :: rest)) :=
  va_put (D := D) (C := R_Rc) (T := F_Rc) (N := 11) (ci := 0) (ref := "PropertyTrie$Records") (fs := fsRc a σ) (v := .int x) (ty := .int) S.1 S.2.1 S.2.2.2.2 i_Rc t_Rc t_Rc_ok n_Rc S.2.2.2.1 hok.1 hP hD hS 0 rfl rfl 6 (by decide) hl (fun _ h9 => h9) rfl (by decide +kernel) rfl rfl (Nat.le_of_ble_eq_true rfl) hdg (fun H1 locs1 hP hD hS => kk _ H1 locs1 rfl (by rw [e_Rc_field hwr x]; exact hP) (by rw [e_Rc_field hwr x]; exact hD) hS)
theorem rg_Rc_v (S : CallFix p m c cc nL s args lwg own) (hok : okS D cI s) (hP : va_P D classes (wRc cI a wr σ) H) (hl : (Cond.fieldLink own index "PropertyTrie$Records" "v" "I").before args s = true) (hdg : decode cc pc = .ok (.getfield index, 3)) (kk : W p l e R s m args below meth c H locs cells slots Q (F0 m (pc + 3) ls (.int (σ 9 0) :: rest))) : W p l e R s m args below meth c H locs cells slots Q (F0 m pc ls (.ref (a 0) :: rest)) :=
  va_get (C := R_Rc) (T := F_Rc) (N := 11) (ci := 0) (ref := "PropertyTrie$Records") (fs := fsRc a σ) (v := .int (σ 9 0)) S.1 S.2.1 S.2.2.2.2 i_Rc S.2.2.2.1 hok.1 hP 0 rfl rfl 7 (by decide) hl (fun _ h9 => h9) rfl hdg kk
theorem e_Rc_v (hwr : Fx 11 wr) (x : Int32) : wRc cI a wr (sA σ 9 (fun _ => x)) = (wRc cI a wr σ).set 0 (a 0, .inr (0, (fsRc a σ).set 7 (.int x))) := by
  show WRc cI a (sA σ 9 (fun _ => x)) ++ wr (sA σ 9 (fun _ => x)) = _
  rw [hwr σ 9 (fun _ => x) (by decide)]
  rfl
theorem rp_Rc_v {x : Int32} (S : CallFix p m c cc nL s args lwg own) (hok : okS D cI s) (hwr : Fx 11 wr) (hP : va_P D classes (wRc cI a wr σ) H) (hD : va_D A (wRc cI a wr σ)) (hS : va_S A H0 H locs) (hl : (Cond.fieldLink own index "PropertyTrie$Records" "v" "I").before args s = true) (hdg : decode cc pc = .ok (.putfield index, 3)) (kk : ∀ (τ : St) (H1 : Heap) (locs1 : List Loc), τ = sA σ 9 (fun _ => x) → va_P D classes (wRc cI a wr τ) H1 → va_D A (wRc cI a wr τ) → va_S A H0 H1 locs1 → W p l e R s m args below meth c H1 locs1 cells slots Q (F0 m (pc + 3) ls rest)) : W p l e R s m args below meth c H locs cells slots Q (F0 m pc ls (.int x :: .ref (a 0) :: rest)) :=
  va_put (D := D) (C := R_Rc) (T := F_Rc) (N := 11) (ci := 0) (ref := "PropertyTrie$Records") (fs := fsRc a σ) (v := .int x) (ty := .int) S.1 S.2.1 S.2.2.2.2 i_Rc t_Rc t_Rc_ok n_Rc S.2.2.2.1 hok.1 hP hD hS 0 rfl rfl 7 (by decide) hl (fun _ h9 => h9) rfl (by decide +kernel) rfl rfl (Nat.le_of_ble_eq_true rfl) hdg (fun H1 locs1 hP hD hS => kk _ H1 locs1 rfl (by rw [e_Rc_v hwr x]; exact hP) (by rw [e_Rc_v hwr x]; exact hD) hS)
theorem rg_Rc_kept (S : CallFix p m c cc nL s args lwg own) (hok : okS D cI s) (hP : va_P D classes (wRc cI a wr σ) H) (hl : (Cond.fieldLink own index "PropertyTrie$Records" "kept" "I").before args s = true) (hdg : decode cc pc = .ok (.getfield index, 3)) (kk : W p l e R s m args below meth c H locs cells slots Q (F0 m (pc + 3) ls (.int (σ 10 0) :: rest))) : W p l e R s m args below meth c H locs cells slots Q (F0 m pc ls (.ref (a 0) :: rest)) :=
  va_get (C := R_Rc) (T := F_Rc) (N := 11) (ci := 0) (ref := "PropertyTrie$Records") (fs := fsRc a σ) (v := .int (σ 10 0)) S.1 S.2.1 S.2.2.2.2 i_Rc S.2.2.2.1 hok.1 hP 0 rfl rfl 8 (by decide) hl (fun _ h9 => h9) rfl hdg kk
theorem e_Rc_kept (hwr : Fx 11 wr) (x : Int32) : wRc cI a wr (sA σ 10 (fun _ => x)) = (wRc cI a wr σ).set 0 (a 0, .inr (0, (fsRc a σ).set 8 (.int x))) := by
  show WRc cI a (sA σ 10 (fun _ => x)) ++ wr (sA σ 10 (fun _ => x)) = _
  rw [hwr σ 10 (fun _ => x) (by decide)]
  rfl
theorem rp_Rc_kept {x : Int32} (S : CallFix p m c cc nL s args lwg own) (hok : okS D cI s) (hwr : Fx 11 wr) (hP : va_P D classes (wRc cI a wr σ) H) (hD : va_D A (wRc cI a wr σ)) (hS : va_S A H0 H locs) (hl : (Cond.fieldLink own index "PropertyTrie$Records" "kept" "I").before args s = true) (hdg : decode cc pc = .ok (.putfield index, 3)) (kk : ∀ (τ : St) (H1 : Heap) (locs1 : List Loc), τ = sA σ 10 (fun _ => x) → va_P D classes (wRc cI a wr τ) H1 → va_D A (wRc cI a wr τ) → va_S A H0 H1 locs1 → W p l e R s m args below meth c H1 locs1 cells slots Q (F0 m (pc + 3) ls rest)) : W p l e R s m args below meth c H locs cells slots Q (F0 m pc ls (.int x :: .ref (a 0) :: rest)) :=
  va_put (D := D) (C := R_Rc) (T := F_Rc) (N := 11) (ci := 0) (ref := "PropertyTrie$Records") (fs := fsRc a σ) (v := .int x) (ty := .int) S.1 S.2.1 S.2.2.2.2 i_Rc t_Rc t_Rc_ok n_Rc S.2.2.2.1 hok.1 hP hD hS 0 rfl rfl 8 (by decide) hl (fun _ h9 => h9) rfl (by decide +kernel) rfl rfl (Nat.le_of_ble_eq_true rfl) hdg (fun H1 locs1 hP hD hS => kk _ H1 locs1 rfl (by rw [e_Rc_kept hwr x]; exact hP) (by rw [e_Rc_kept hwr x]; exact hD) hS)
theorem rg_Rc_outcome (S : CallFix p m c cc nL s args lwg own) (hok : okS D cI s) (hP : va_P D classes (wRc cI a wr σ) H) (hl : (Cond.fieldLink own index "PropertyTrie$Records" "outcome" "[I").before args s = true) (hdg : decode cc pc = .ok (.getfield index, 3)) (kk : W p l e R s m args below meth c H locs cells slots Q (F0 m (pc + 3) ls (.ref (a 6) :: rest))) : W p l e R s m args below meth c H locs cells slots Q (F0 m pc ls (.ref (a 0) :: rest)) :=
  va_get (C := R_Rc) (T := F_Rc) (N := 11) (ci := 0) (ref := "PropertyTrie$Records") (fs := fsRc a σ) (v := .ref (a 6)) S.1 S.2.1 S.2.2.2.2 i_Rc S.2.2.2.1 hok.1 hP 0 rfl rfl 9 (by decide) hl (fun _ h9 => h9) rfl hdg kk
theorem rl_Rc_outcome {i : Int32} (S : CallFix p m c cc nL s args lwg own) (hok : okS D cI s) (hP : va_P D classes (wRc cI a wr σ) H) (hin : vp_in i 1028) (hdg : decode cc pc = .ok (.iaload, 1)) (kk : W p l e R s m args below meth c H locs cells slots Q (F0 m (pc + 1) ls (.int (σ 5 i.toNatClampNeg) :: rest))) : W p l e R s m args below meth c H locs cells slots Q (F0 m pc ls (.int i :: .ref (a 6) :: rest)) :=
  va_iald (n := 1028) (f := σ 5) (cA := cI) S.1 S.2.1 hok.1 hP 6 0 rfl rfl hin hdg kk
theorem ra_Rc_outcome (S : CallFix p m c cc nL s args lwg own) (hok : okS D cI s) (hP : va_P D classes (wRc cI a wr σ) H) (hdg : decode cc pc = .ok (.arraylength, 1)) (kk : W p l e R s m args below meth c H locs cells slots Q (F0 m (pc + 1) ls (.int 1028 :: rest))) : W p l e R s m args below meth c H locs cells slots Q (F0 m pc ls (.ref (a 6) :: rest)) :=
  va_alen (ty := .int) (cA := cI) (x := (1028, .inl (σ 5))) S.1 S.2.1 hok.1 hP 6 0 rfl rfl rfl hdg kk
theorem e_Rc_outcome (hwr : Fx 11 wr) (g : Nat → Int32) : wRc cI a wr (sA σ 5 g) = (wRc cI a wr σ).set 6 (a 6, .inl (cI, 1028, .inl g)) := by
  show WRc cI a (sA σ 5 g) ++ wr (sA σ 5 g) = _
  rw [hwr σ 5 g (by decide)]
  rfl
theorem rs_Rc_outcome {i x : Int32} (S : CallFix p m c cc nL s args lwg own) (hok : okS D cI s) (hwr : Fx 11 wr) (hP : va_P D classes (wRc cI a wr σ) H) (hD : va_D A (wRc cI a wr σ)) (hS : va_S A H0 H locs) (hin : vp_in i 1028) (hdg : decode cc pc = .ok (.iastore, 1)) (kk : ∀ (τ : St) (H1 : Heap) (locs1 : List Loc), τ = sA σ 5 (upd (σ 5) i.toNatClampNeg x) → va_P D classes (wRc cI a wr τ) H1 → va_D A (wRc cI a wr τ) → va_S A H0 H1 locs1 → W p l e R s m args below meth c H1 locs1 cells slots Q (F0 m (pc + 1) ls rest)) : W p l e R s m args below meth c H locs cells slots Q (F0 m pc ls (.int x :: .int i :: .ref (a 6) :: rest)) :=
  va_iast (n := 1028) (f := σ 5) (cA := cI) S.1 S.2.1 hok.1 hP hD hS 6 0 rfl rfl hin hdg (fun H1 locs1 hP hD hS => kk _ H1 locs1 rfl (by rw [e_Rc_outcome hwr _]; exact hP) (by rw [e_Rc_outcome hwr _]; exact hD) hS)
theorem rg_Rc_wanted (S : CallFix p m c cc nL s args lwg own) (hok : okS D cI s) (hP : va_P D classes (wRc cI a wr σ) H) (hl : (Cond.fieldLink own index "PropertyTrie$Records" "wanted" "[I").before args s = true) (hdg : decode cc pc = .ok (.getfield index, 3)) (kk : W p l e R s m args below meth c H locs cells slots Q (F0 m (pc + 3) ls (.ref (a 7) :: rest))) : W p l e R s m args below meth c H locs cells slots Q (F0 m pc ls (.ref (a 0) :: rest)) :=
  va_get (C := R_Rc) (T := F_Rc) (N := 11) (ci := 0) (ref := "PropertyTrie$Records") (fs := fsRc a σ) (v := .ref (a 7)) S.1 S.2.1 S.2.2.2.2 i_Rc S.2.2.2.1 hok.1 hP 0 rfl rfl 10 (by decide) hl (fun _ h9 => h9) rfl hdg kk
theorem rl_Rc_wanted {i : Int32} (S : CallFix p m c cc nL s args lwg own) (hok : okS D cI s) (hP : va_P D classes (wRc cI a wr σ) H) (hin : vp_in i 8) (hdg : decode cc pc = .ok (.iaload, 1)) (kk : W p l e R s m args below meth c H locs cells slots Q (F0 m (pc + 1) ls (.int (σ 6 i.toNatClampNeg) :: rest))) : W p l e R s m args below meth c H locs cells slots Q (F0 m pc ls (.int i :: .ref (a 7) :: rest)) :=
  va_iald (n := 8) (f := σ 6) (cA := cI) S.1 S.2.1 hok.1 hP 7 0 rfl rfl hin hdg kk
theorem ra_Rc_wanted (S : CallFix p m c cc nL s args lwg own) (hok : okS D cI s) (hP : va_P D classes (wRc cI a wr σ) H) (hdg : decode cc pc = .ok (.arraylength, 1)) (kk : W p l e R s m args below meth c H locs cells slots Q (F0 m (pc + 1) ls (.int 8 :: rest))) : W p l e R s m args below meth c H locs cells slots Q (F0 m pc ls (.ref (a 7) :: rest)) :=
  va_alen (ty := .int) (cA := cI) (x := (8, .inl (σ 6))) S.1 S.2.1 hok.1 hP 7 0 rfl rfl rfl hdg kk
theorem e_Rc_wanted (hwr : Fx 11 wr) (g : Nat → Int32) : wRc cI a wr (sA σ 6 g) = (wRc cI a wr σ).set 7 (a 7, .inl (cI, 8, .inl g)) := by
  show WRc cI a (sA σ 6 g) ++ wr (sA σ 6 g) = _
  rw [hwr σ 6 g (by decide)]
  rfl
theorem rs_Rc_wanted {i x : Int32} (S : CallFix p m c cc nL s args lwg own) (hok : okS D cI s) (hwr : Fx 11 wr) (hP : va_P D classes (wRc cI a wr σ) H) (hD : va_D A (wRc cI a wr σ)) (hS : va_S A H0 H locs) (hin : vp_in i 8) (hdg : decode cc pc = .ok (.iastore, 1)) (kk : ∀ (τ : St) (H1 : Heap) (locs1 : List Loc), τ = sA σ 6 (upd (σ 6) i.toNatClampNeg x) → va_P D classes (wRc cI a wr τ) H1 → va_D A (wRc cI a wr τ) → va_S A H0 H1 locs1 → W p l e R s m args below meth c H1 locs1 cells slots Q (F0 m (pc + 1) ls rest)) : W p l e R s m args below meth c H locs cells slots Q (F0 m pc ls (.int x :: .int i :: .ref (a 7) :: rest)) :=
  va_iast (n := 8) (f := σ 6) (cA := cI) S.1 S.2.1 hok.1 hP hD hS 7 0 rfl rfl hin hdg (fun H1 locs1 hP hD hS => kk _ H1 locs1 rfl (by rw [e_Rc_wanted hwr _]; exact hP) (by rw [e_Rc_wanted hwr _]; exact hD) hS)
theorem rg_Bl_records (S : CallFix p m c cc nL s args lwg own) (hok : okS D cI s) (hP : va_P D classes (wBl cI a wr σ) H) (hl : (Cond.fieldLink own index "PropertyTrie$Blocks" "records" "LPropertyTrie$Records;").before args s = true) (hdg : decode cc pc = .ok (.getfield index, 3)) (kk : W p l e R s m args below meth c H locs cells slots Q (F0 m (pc + 3) ls (.ref (a 0) :: rest))) : W p l e R s m args below meth c H locs cells slots Q (F0 m pc ls (.ref (a 8) :: rest)) :=
  va_get (C := R_Bl) (T := F_Bl) (N := 7) (ci := 1) (ref := "PropertyTrie$Blocks") (fs := fsBl a σ) (v := .ref (a 0)) S.1 S.2.1 S.2.2.2.2 i_Bl S.2.2.2.1 hok.1 hP 8 rfl rfl 0 (by decide) hl (fun _ h9 => h9) rfl hdg kk
theorem rgN_Bl_records (S : CallFix p m c cc nL s args lwg own) (hok : okS D cI s) (hP : va_P D classes (wBl cI a wr σ) H) (hl : (Cond.fieldLinkNest own index "PropertyTrie$Blocks" "records" "LPropertyTrie$Records;" "PropertyTrie").before args s = true) (hdg : decode cc pc = .ok (.getfield index, 3)) (kk : W p l e R s m args below meth c H locs cells slots Q (F0 m (pc + 3) ls (.ref (a 0) :: rest))) : W p l e R s m args below meth c H locs cells slots Q (F0 m pc ls (.ref (a 8) :: rest)) :=
  va_getN (C := R_Bl) (T := F_Bl) (N := 7) (ci := 1) (ref := "PropertyTrie$Blocks") (fs := fsBl a σ) (v := .ref (a 0)) S.1 S.2.1 S.2.2.2.2 i_Bl S.2.2.2.1 hok.1 hP 8 rfl rfl 0 (by decide) hl (fun _ h9 => h9) rfl hdg kk
theorem rg_Bl_cells (S : CallFix p m c cc nL s args lwg own) (hok : okS D cI s) (hP : va_P D classes (wBl cI a wr σ) H) (hl : (Cond.fieldLink own index "PropertyTrie$Blocks" "cells" "[I").before args s = true) (hdg : decode cc pc = .ok (.getfield index, 3)) (kk : W p l e R s m args below meth c H locs cells slots Q (F0 m (pc + 3) ls (.ref (a 9) :: rest))) : W p l e R s m args below meth c H locs cells slots Q (F0 m pc ls (.ref (a 8) :: rest)) :=
  va_get (C := R_Bl) (T := F_Bl) (N := 7) (ci := 1) (ref := "PropertyTrie$Blocks") (fs := fsBl a σ) (v := .ref (a 9)) S.1 S.2.1 S.2.2.2.2 i_Bl S.2.2.2.1 hok.1 hP 8 rfl rfl 1 (by decide) hl (fun _ h9 => h9) rfl hdg kk
theorem rl_Bl_cells {i : Int32} (S : CallFix p m c cc nL s args lwg own) (hok : okS D cI s) (hP : va_P D classes (wBl cI a wr σ) H) (hin : vp_in i 66624) (hdg : decode cc pc = .ok (.iaload, 1)) (kk : W p l e R s m args below meth c H locs cells slots Q (F0 m (pc + 1) ls (.int (σ 11 i.toNatClampNeg) :: rest))) : W p l e R s m args below meth c H locs cells slots Q (F0 m pc ls (.int i :: .ref (a 9) :: rest)) :=
  va_iald (n := 66624) (f := σ 11) (cA := cI) S.1 S.2.1 hok.1 hP 9 0 rfl rfl hin hdg kk
theorem ra_Bl_cells (S : CallFix p m c cc nL s args lwg own) (hok : okS D cI s) (hP : va_P D classes (wBl cI a wr σ) H) (hdg : decode cc pc = .ok (.arraylength, 1)) (kk : W p l e R s m args below meth c H locs cells slots Q (F0 m (pc + 1) ls (.int 66624 :: rest))) : W p l e R s m args below meth c H locs cells slots Q (F0 m pc ls (.ref (a 9) :: rest)) :=
  va_alen (ty := .int) (cA := cI) (x := (66624, .inl (σ 11))) S.1 S.2.1 hok.1 hP 9 0 rfl rfl rfl hdg kk
theorem e_Bl_cells (hwr : Fx 17 wr) (g : Nat → Int32) : wBl cI a wr (sA σ 11 g) = (wBl cI a wr σ).set 9 (a 9, .inl (cI, 66624, .inl g)) := by
  show WRc cI a (sA σ 11 g) ++ (WBl cI a (sA σ 11 g) ++ wr (sA σ 11 g)) = _
  rw [hwr σ 11 g (by decide)]
  rfl
theorem rs_Bl_cells {i x : Int32} (S : CallFix p m c cc nL s args lwg own) (hok : okS D cI s) (hwr : Fx 17 wr) (hP : va_P D classes (wBl cI a wr σ) H) (hD : va_D A (wBl cI a wr σ)) (hS : va_S A H0 H locs) (hin : vp_in i 66624) (hdg : decode cc pc = .ok (.iastore, 1)) (kk : ∀ (τ : St) (H1 : Heap) (locs1 : List Loc), τ = sA σ 11 (upd (σ 11) i.toNatClampNeg x) → va_P D classes (wBl cI a wr τ) H1 → va_D A (wBl cI a wr τ) → va_S A H0 H1 locs1 → W p l e R s m args below meth c H1 locs1 cells slots Q (F0 m (pc + 1) ls rest)) : W p l e R s m args below meth c H locs cells slots Q (F0 m pc ls (.int x :: .int i :: .ref (a 9) :: rest)) :=
  va_iast (n := 66624) (f := σ 11) (cA := cI) S.1 S.2.1 hok.1 hP hD hS 9 0 rfl rfl hin hdg (fun H1 locs1 hP hD hS => kk _ H1 locs1 rfl (by rw [e_Bl_cells hwr _]; exact hP) (by rw [e_Bl_cells hwr _]; exact hD) hS)
theorem rg_Bl_spareRows (S : CallFix p m c cc nL s args lwg own) (hok : okS D cI s) (hP : va_P D classes (wBl cI a wr σ) H) (hl : (Cond.fieldLink own index "PropertyTrie$Blocks" "spareRows" "[I").before args s = true) (hdg : decode cc pc = .ok (.getfield index, 3)) (kk : W p l e R s m args below meth c H locs cells slots Q (F0 m (pc + 3) ls (.ref (a 10) :: rest))) : W p l e R s m args below meth c H locs cells slots Q (F0 m pc ls (.ref (a 8) :: rest)) :=
  va_get (C := R_Bl) (T := F_Bl) (N := 7) (ci := 1) (ref := "PropertyTrie$Blocks") (fs := fsBl a σ) (v := .ref (a 10)) S.1 S.2.1 S.2.2.2.2 i_Bl S.2.2.2.1 hok.1 hP 8 rfl rfl 2 (by decide) hl (fun _ h9 => h9) rfl hdg kk
theorem rl_Bl_spareRows {i : Int32} (S : CallFix p m c cc nL s args lwg own) (hok : okS D cI s) (hP : va_P D classes (wBl cI a wr σ) H) (hin : vp_in i 2048) (hdg : decode cc pc = .ok (.iaload, 1)) (kk : W p l e R s m args below meth c H locs cells slots Q (F0 m (pc + 1) ls (.int (σ 12 i.toNatClampNeg) :: rest))) : W p l e R s m args below meth c H locs cells slots Q (F0 m pc ls (.int i :: .ref (a 10) :: rest)) :=
  va_iald (n := 2048) (f := σ 12) (cA := cI) S.1 S.2.1 hok.1 hP 10 0 rfl rfl hin hdg kk
theorem ra_Bl_spareRows (S : CallFix p m c cc nL s args lwg own) (hok : okS D cI s) (hP : va_P D classes (wBl cI a wr σ) H) (hdg : decode cc pc = .ok (.arraylength, 1)) (kk : W p l e R s m args below meth c H locs cells slots Q (F0 m (pc + 1) ls (.int 2048 :: rest))) : W p l e R s m args below meth c H locs cells slots Q (F0 m pc ls (.ref (a 10) :: rest)) :=
  va_alen (ty := .int) (cA := cI) (x := (2048, .inl (σ 12))) S.1 S.2.1 hok.1 hP 10 0 rfl rfl rfl hdg kk
theorem e_Bl_spareRows (hwr : Fx 17 wr) (g : Nat → Int32) : wBl cI a wr (sA σ 12 g) = (wBl cI a wr σ).set 10 (a 10, .inl (cI, 2048, .inl g)) := by
  show WRc cI a (sA σ 12 g) ++ (WBl cI a (sA σ 12 g) ++ wr (sA σ 12 g)) = _
  rw [hwr σ 12 g (by decide)]
  rfl
theorem rs_Bl_spareRows {i x : Int32} (S : CallFix p m c cc nL s args lwg own) (hok : okS D cI s) (hwr : Fx 17 wr) (hP : va_P D classes (wBl cI a wr σ) H) (hD : va_D A (wBl cI a wr σ)) (hS : va_S A H0 H locs) (hin : vp_in i 2048) (hdg : decode cc pc = .ok (.iastore, 1)) (kk : ∀ (τ : St) (H1 : Heap) (locs1 : List Loc), τ = sA σ 12 (upd (σ 12) i.toNatClampNeg x) → va_P D classes (wBl cI a wr τ) H1 → va_D A (wBl cI a wr τ) → va_S A H0 H1 locs1 → W p l e R s m args below meth c H1 locs1 cells slots Q (F0 m (pc + 1) ls rest)) : W p l e R s m args below meth c H locs cells slots Q (F0 m pc ls (.int x :: .int i :: .ref (a 10) :: rest)) :=
  va_iast (n := 2048) (f := σ 12) (cA := cI) S.1 S.2.1 hok.1 hP hD hS 10 0 rfl rfl hin hdg (fun H1 locs1 hP hD hS => kk _ H1 locs1 rfl (by rw [e_Bl_spareRows hwr _]; exact hP) (by rw [e_Bl_spareRows hwr _]; exact hD) hS)
theorem rg_Bl_spares (S : CallFix p m c cc nL s args lwg own) (hok : okS D cI s) (hP : va_P D classes (wBl cI a wr σ) H) (hl : (Cond.fieldLink own index "PropertyTrie$Blocks" "spares" "I").before args s = true) (hdg : decode cc pc = .ok (.getfield index, 3)) (kk : W p l e R s m args below meth c H locs cells slots Q (F0 m (pc + 3) ls (.int (σ 13 0) :: rest))) : W p l e R s m args below meth c H locs cells slots Q (F0 m pc ls (.ref (a 8) :: rest)) :=
  va_get (C := R_Bl) (T := F_Bl) (N := 7) (ci := 1) (ref := "PropertyTrie$Blocks") (fs := fsBl a σ) (v := .int (σ 13 0)) S.1 S.2.1 S.2.2.2.2 i_Bl S.2.2.2.1 hok.1 hP 8 rfl rfl 3 (by decide) hl (fun _ h9 => h9) rfl hdg kk
theorem e_Bl_spares (hwr : Fx 17 wr) (x : Int32) : wBl cI a wr (sA σ 13 (fun _ => x)) = (wBl cI a wr σ).set 8 (a 8, .inr (1, (fsBl a σ).set 3 (.int x))) := by
  show WRc cI a (sA σ 13 (fun _ => x)) ++ (WBl cI a (sA σ 13 (fun _ => x)) ++ wr (sA σ 13 (fun _ => x))) = _
  rw [hwr σ 13 (fun _ => x) (by decide)]
  rfl
theorem rp_Bl_spares {x : Int32} (S : CallFix p m c cc nL s args lwg own) (hok : okS D cI s) (hwr : Fx 17 wr) (hP : va_P D classes (wBl cI a wr σ) H) (hD : va_D A (wBl cI a wr σ)) (hS : va_S A H0 H locs) (hl : (Cond.fieldLink own index "PropertyTrie$Blocks" "spares" "I").before args s = true) (hdg : decode cc pc = .ok (.putfield index, 3)) (kk : ∀ (τ : St) (H1 : Heap) (locs1 : List Loc), τ = sA σ 13 (fun _ => x) → va_P D classes (wBl cI a wr τ) H1 → va_D A (wBl cI a wr τ) → va_S A H0 H1 locs1 → W p l e R s m args below meth c H1 locs1 cells slots Q (F0 m (pc + 3) ls rest)) : W p l e R s m args below meth c H locs cells slots Q (F0 m pc ls (.int x :: .ref (a 8) :: rest)) :=
  va_put (D := D) (C := R_Bl) (T := F_Bl) (N := 7) (ci := 1) (ref := "PropertyTrie$Blocks") (fs := fsBl a σ) (v := .int x) (ty := .int) S.1 S.2.1 S.2.2.2.2 i_Bl t_Bl t_Bl_ok n_Bl S.2.2.2.1 hok.1 hP hD hS 8 rfl rfl 3 (by decide) hl (fun _ h9 => h9) rfl (by decide +kernel) rfl rfl (Nat.le_of_ble_eq_true rfl) hdg (fun H1 locs1 hP hD hS => kk _ H1 locs1 rfl (by rw [e_Bl_spares hwr x]; exact hP) (by rw [e_Bl_spares hwr x]; exact hD) hS)
theorem rg_Bl_found (S : CallFix p m c cc nL s args lwg own) (hok : okS D cI s) (hP : va_P D classes (wBl cI a wr σ) H) (hl : (Cond.fieldLink own index "PropertyTrie$Blocks" "found" "I").before args s = true) (hdg : decode cc pc = .ok (.getfield index, 3)) (kk : W p l e R s m args below meth c H locs cells slots Q (F0 m (pc + 3) ls (.int (σ 14 0) :: rest))) : W p l e R s m args below meth c H locs cells slots Q (F0 m pc ls (.ref (a 8) :: rest)) :=
  va_get (C := R_Bl) (T := F_Bl) (N := 7) (ci := 1) (ref := "PropertyTrie$Blocks") (fs := fsBl a σ) (v := .int (σ 14 0)) S.1 S.2.1 S.2.2.2.2 i_Bl S.2.2.2.1 hok.1 hP 8 rfl rfl 4 (by decide) hl (fun _ h9 => h9) rfl hdg kk
theorem e_Bl_found (hwr : Fx 17 wr) (x : Int32) : wBl cI a wr (sA σ 14 (fun _ => x)) = (wBl cI a wr σ).set 8 (a 8, .inr (1, (fsBl a σ).set 4 (.int x))) := by
  show WRc cI a (sA σ 14 (fun _ => x)) ++ (WBl cI a (sA σ 14 (fun _ => x)) ++ wr (sA σ 14 (fun _ => x))) = _
  rw [hwr σ 14 (fun _ => x) (by decide)]
  rfl
theorem rp_Bl_found {x : Int32} (S : CallFix p m c cc nL s args lwg own) (hok : okS D cI s) (hwr : Fx 17 wr) (hP : va_P D classes (wBl cI a wr σ) H) (hD : va_D A (wBl cI a wr σ)) (hS : va_S A H0 H locs) (hl : (Cond.fieldLink own index "PropertyTrie$Blocks" "found" "I").before args s = true) (hdg : decode cc pc = .ok (.putfield index, 3)) (kk : ∀ (τ : St) (H1 : Heap) (locs1 : List Loc), τ = sA σ 14 (fun _ => x) → va_P D classes (wBl cI a wr τ) H1 → va_D A (wBl cI a wr τ) → va_S A H0 H1 locs1 → W p l e R s m args below meth c H1 locs1 cells slots Q (F0 m (pc + 3) ls rest)) : W p l e R s m args below meth c H locs cells slots Q (F0 m pc ls (.int x :: .ref (a 8) :: rest)) :=
  va_put (D := D) (C := R_Bl) (T := F_Bl) (N := 7) (ci := 1) (ref := "PropertyTrie$Blocks") (fs := fsBl a σ) (v := .int x) (ty := .int) S.1 S.2.1 S.2.2.2.2 i_Bl t_Bl t_Bl_ok n_Bl S.2.2.2.1 hok.1 hP hD hS 8 rfl rfl 4 (by decide) hl (fun _ h9 => h9) rfl (by decide +kernel) rfl rfl (Nat.le_of_ble_eq_true rfl) hdg (fun H1 locs1 hP hD hS => kk _ H1 locs1 rfl (by rw [e_Bl_found hwr x]; exact hP) (by rw [e_Bl_found hwr x]; exact hD) hS)
theorem rg_Bl_foundFirst (S : CallFix p m c cc nL s args lwg own) (hok : okS D cI s) (hP : va_P D classes (wBl cI a wr σ) H) (hl : (Cond.fieldLink own index "PropertyTrie$Blocks" "foundFirst" "I").before args s = true) (hdg : decode cc pc = .ok (.getfield index, 3)) (kk : W p l e R s m args below meth c H locs cells slots Q (F0 m (pc + 3) ls (.int (σ 15 0) :: rest))) : W p l e R s m args below meth c H locs cells slots Q (F0 m pc ls (.ref (a 8) :: rest)) :=
  va_get (C := R_Bl) (T := F_Bl) (N := 7) (ci := 1) (ref := "PropertyTrie$Blocks") (fs := fsBl a σ) (v := .int (σ 15 0)) S.1 S.2.1 S.2.2.2.2 i_Bl S.2.2.2.1 hok.1 hP 8 rfl rfl 5 (by decide) hl (fun _ h9 => h9) rfl hdg kk
theorem e_Bl_foundFirst (hwr : Fx 17 wr) (x : Int32) : wBl cI a wr (sA σ 15 (fun _ => x)) = (wBl cI a wr σ).set 8 (a 8, .inr (1, (fsBl a σ).set 5 (.int x))) := by
  show WRc cI a (sA σ 15 (fun _ => x)) ++ (WBl cI a (sA σ 15 (fun _ => x)) ++ wr (sA σ 15 (fun _ => x))) = _
  rw [hwr σ 15 (fun _ => x) (by decide)]
  rfl
theorem rp_Bl_foundFirst {x : Int32} (S : CallFix p m c cc nL s args lwg own) (hok : okS D cI s) (hwr : Fx 17 wr) (hP : va_P D classes (wBl cI a wr σ) H) (hD : va_D A (wBl cI a wr σ)) (hS : va_S A H0 H locs) (hl : (Cond.fieldLink own index "PropertyTrie$Blocks" "foundFirst" "I").before args s = true) (hdg : decode cc pc = .ok (.putfield index, 3)) (kk : ∀ (τ : St) (H1 : Heap) (locs1 : List Loc), τ = sA σ 15 (fun _ => x) → va_P D classes (wBl cI a wr τ) H1 → va_D A (wBl cI a wr τ) → va_S A H0 H1 locs1 → W p l e R s m args below meth c H1 locs1 cells slots Q (F0 m (pc + 3) ls rest)) : W p l e R s m args below meth c H locs cells slots Q (F0 m pc ls (.int x :: .ref (a 8) :: rest)) :=
  va_put (D := D) (C := R_Bl) (T := F_Bl) (N := 7) (ci := 1) (ref := "PropertyTrie$Blocks") (fs := fsBl a σ) (v := .int x) (ty := .int) S.1 S.2.1 S.2.2.2.2 i_Bl t_Bl t_Bl_ok n_Bl S.2.2.2.1 hok.1 hP hD hS 8 rfl rfl 5 (by decide) hl (fun _ h9 => h9) rfl (by decide +kernel) rfl rfl (Nat.le_of_ble_eq_true rfl) hdg (fun H1 locs1 hP hD hS => kk _ H1 locs1 rfl (by rw [e_Bl_foundFirst hwr x]; exact hP) (by rw [e_Bl_foundFirst hwr x]; exact hD) hS)
theorem rg_Bl_foundLast (S : CallFix p m c cc nL s args lwg own) (hok : okS D cI s) (hP : va_P D classes (wBl cI a wr σ) H) (hl : (Cond.fieldLink own index "PropertyTrie$Blocks" "foundLast" "I").before args s = true) (hdg : decode cc pc = .ok (.getfield index, 3)) (kk : W p l e R s m args below meth c H locs cells slots Q (F0 m (pc + 3) ls (.int (σ 16 0) :: rest))) : W p l e R s m args below meth c H locs cells slots Q (F0 m pc ls (.ref (a 8) :: rest)) :=
  va_get (C := R_Bl) (T := F_Bl) (N := 7) (ci := 1) (ref := "PropertyTrie$Blocks") (fs := fsBl a σ) (v := .int (σ 16 0)) S.1 S.2.1 S.2.2.2.2 i_Bl S.2.2.2.1 hok.1 hP 8 rfl rfl 6 (by decide) hl (fun _ h9 => h9) rfl hdg kk
theorem rgN_Bl_foundLast (S : CallFix p m c cc nL s args lwg own) (hok : okS D cI s) (hP : va_P D classes (wBl cI a wr σ) H) (hl : (Cond.fieldLinkNest own index "PropertyTrie$Blocks" "foundLast" "I" "PropertyTrie").before args s = true) (hdg : decode cc pc = .ok (.getfield index, 3)) (kk : W p l e R s m args below meth c H locs cells slots Q (F0 m (pc + 3) ls (.int (σ 16 0) :: rest))) : W p l e R s m args below meth c H locs cells slots Q (F0 m pc ls (.ref (a 8) :: rest)) :=
  va_getN (C := R_Bl) (T := F_Bl) (N := 7) (ci := 1) (ref := "PropertyTrie$Blocks") (fs := fsBl a σ) (v := .int (σ 16 0)) S.1 S.2.1 S.2.2.2.2 i_Bl S.2.2.2.1 hok.1 hP 8 rfl rfl 6 (by decide) hl (fun _ h9 => h9) rfl hdg kk
theorem e_Bl_foundLast (hwr : Fx 17 wr) (x : Int32) : wBl cI a wr (sA σ 16 (fun _ => x)) = (wBl cI a wr σ).set 8 (a 8, .inr (1, (fsBl a σ).set 6 (.int x))) := by
  show WRc cI a (sA σ 16 (fun _ => x)) ++ (WBl cI a (sA σ 16 (fun _ => x)) ++ wr (sA σ 16 (fun _ => x))) = _
  rw [hwr σ 16 (fun _ => x) (by decide)]
  rfl
theorem rp_Bl_foundLast {x : Int32} (S : CallFix p m c cc nL s args lwg own) (hok : okS D cI s) (hwr : Fx 17 wr) (hP : va_P D classes (wBl cI a wr σ) H) (hD : va_D A (wBl cI a wr σ)) (hS : va_S A H0 H locs) (hl : (Cond.fieldLink own index "PropertyTrie$Blocks" "foundLast" "I").before args s = true) (hdg : decode cc pc = .ok (.putfield index, 3)) (kk : ∀ (τ : St) (H1 : Heap) (locs1 : List Loc), τ = sA σ 16 (fun _ => x) → va_P D classes (wBl cI a wr τ) H1 → va_D A (wBl cI a wr τ) → va_S A H0 H1 locs1 → W p l e R s m args below meth c H1 locs1 cells slots Q (F0 m (pc + 3) ls rest)) : W p l e R s m args below meth c H locs cells slots Q (F0 m pc ls (.int x :: .ref (a 8) :: rest)) :=
  va_put (D := D) (C := R_Bl) (T := F_Bl) (N := 7) (ci := 1) (ref := "PropertyTrie$Blocks") (fs := fsBl a σ) (v := .int x) (ty := .int) S.1 S.2.1 S.2.2.2.2 i_Bl t_Bl t_Bl_ok n_Bl S.2.2.2.1 hok.1 hP hD hS 8 rfl rfl 6 (by decide) hl (fun _ h9 => h9) rfl (by decide +kernel) rfl rfl (Nat.le_of_ble_eq_true rfl) hdg (fun H1 locs1 hP hD hS => kk _ H1 locs1 rfl (by rw [e_Bl_foundLast hwr x]; exact hP) (by rw [e_Bl_foundLast hwr x]; exact hD) hS)
theorem rg_Pt_blocks (S : CallFix p m c cc nL s args lwg own) (hok : okS D cI s) (hP : va_P D classes (wPt cI a wr σ) H) (hl : (Cond.fieldLink own index "PropertyTrie" "blocks" "LPropertyTrie$Blocks;").before args s = true) (hdg : decode cc pc = .ok (.getfield index, 3)) (kk : W p l e R s m args below meth c H locs cells slots Q (F0 m (pc + 3) ls (.ref (a 8) :: rest))) : W p l e R s m args below meth c H locs cells slots Q (F0 m pc ls (.ref (a 11) :: rest)) :=
  va_get (C := R_Pt) (T := F_Pt) (N := 1) (ci := 2) (ref := "PropertyTrie") (fs := fsPt a σ) (v := .ref (a 8)) S.1 S.2.1 S.2.2.2.2 i_Pt S.2.2.2.1 hok.1 hP 11 rfl rfl 0 (by decide) hl (fun _ h9 => h9) rfl hdg kk
theorem rg_Mo_failed (S : CallFix p m c cc nL s args lwg own) (hok : okS D cI s) (hP : va_P D classes (wMo cI a wr σ) H) (hl : (Cond.fieldLink own index "PropertyTrieModel" "failed" "I").before args s = true) (hdg : decode cc pc = .ok (.getfield index, 3)) (kk : W p l e R s m args below meth c H locs cells slots Q (F0 m (pc + 3) ls (.int (σ 19 0) :: rest))) : W p l e R s m args below meth c H locs cells slots Q (F0 m pc ls (.ref (a 12) :: rest)) :=
  va_get (C := R_Mo) (T := F_Mo) (N := 4) (ci := 3) (ref := "PropertyTrieModel") (fs := fsMo a σ) (v := .int (σ 19 0)) S.1 S.2.1 S.2.2.2.2 i_Mo S.2.2.2.1 hok.1 hP 12 rfl rfl 0 (by decide) hl (fun _ h9 => h9) rfl hdg kk
theorem e_Mo_failed (hwr : Fx 21 wr) (x : Int32) : wMo cI a wr (sA σ 19 (fun _ => x)) = (wMo cI a wr σ).set 12 (a 12, .inr (3, (fsMo a σ).set 0 (.int x))) := by
  show WRc cI a (sA σ 19 (fun _ => x)) ++ (WBl cI a (sA σ 19 (fun _ => x)) ++ ([(a 11, .inr (2, [.ref (a 8)]))] ++ (WMo cI a (sA σ 19 (fun _ => x)) ++ wr (sA σ 19 (fun _ => x))))) = _
  rw [hwr σ 19 (fun _ => x) (by decide)]
  rfl
theorem rp_Mo_failed {x : Int32} (S : CallFix p m c cc nL s args lwg own) (hok : okS D cI s) (hwr : Fx 21 wr) (hP : va_P D classes (wMo cI a wr σ) H) (hD : va_D A (wMo cI a wr σ)) (hS : va_S A H0 H locs) (hl : (Cond.fieldLink own index "PropertyTrieModel" "failed" "I").before args s = true) (hdg : decode cc pc = .ok (.putfield index, 3)) (kk : ∀ (τ : St) (H1 : Heap) (locs1 : List Loc), τ = sA σ 19 (fun _ => x) → va_P D classes (wMo cI a wr τ) H1 → va_D A (wMo cI a wr τ) → va_S A H0 H1 locs1 → W p l e R s m args below meth c H1 locs1 cells slots Q (F0 m (pc + 3) ls rest)) : W p l e R s m args below meth c H locs cells slots Q (F0 m pc ls (.int x :: .ref (a 12) :: rest)) :=
  va_put (D := D) (C := R_Mo) (T := F_Mo) (N := 4) (ci := 3) (ref := "PropertyTrieModel") (fs := fsMo a σ) (v := .int x) (ty := .int) S.1 S.2.1 S.2.2.2.2 i_Mo t_Mo t_Mo_ok n_Mo S.2.2.2.1 hok.1 hP hD hS 12 rfl rfl 0 (by decide) hl (fun _ h9 => h9) rfl (by decide +kernel) rfl rfl (Nat.le_of_ble_eq_true rfl) hdg (fun H1 locs1 hP hD hS => kk _ H1 locs1 rfl (by rw [e_Mo_failed hwr x]; exact hP) (by rw [e_Mo_failed hwr x]; exact hD) hS)
theorem rg_Mo_count (S : CallFix p m c cc nL s args lwg own) (hok : okS D cI s) (hP : va_P D classes (wMo cI a wr σ) H) (hl : (Cond.fieldLink own index "PropertyTrieModel" "count" "I").before args s = true) (hdg : decode cc pc = .ok (.getfield index, 3)) (kk : W p l e R s m args below meth c H locs cells slots Q (F0 m (pc + 3) ls (.int (σ 20 0) :: rest))) : W p l e R s m args below meth c H locs cells slots Q (F0 m pc ls (.ref (a 12) :: rest)) :=
  va_get (C := R_Mo) (T := F_Mo) (N := 4) (ci := 3) (ref := "PropertyTrieModel") (fs := fsMo a σ) (v := .int (σ 20 0)) S.1 S.2.1 S.2.2.2.2 i_Mo S.2.2.2.1 hok.1 hP 12 rfl rfl 1 (by decide) hl (fun _ h9 => h9) rfl hdg kk
theorem e_Mo_count (hwr : Fx 21 wr) (x : Int32) : wMo cI a wr (sA σ 20 (fun _ => x)) = (wMo cI a wr σ).set 12 (a 12, .inr (3, (fsMo a σ).set 1 (.int x))) := by
  show WRc cI a (sA σ 20 (fun _ => x)) ++ (WBl cI a (sA σ 20 (fun _ => x)) ++ ([(a 11, .inr (2, [.ref (a 8)]))] ++ (WMo cI a (sA σ 20 (fun _ => x)) ++ wr (sA σ 20 (fun _ => x))))) = _
  rw [hwr σ 20 (fun _ => x) (by decide)]
  rfl
theorem rp_Mo_count {x : Int32} (S : CallFix p m c cc nL s args lwg own) (hok : okS D cI s) (hwr : Fx 21 wr) (hP : va_P D classes (wMo cI a wr σ) H) (hD : va_D A (wMo cI a wr σ)) (hS : va_S A H0 H locs) (hl : (Cond.fieldLink own index "PropertyTrieModel" "count" "I").before args s = true) (hdg : decode cc pc = .ok (.putfield index, 3)) (kk : ∀ (τ : St) (H1 : Heap) (locs1 : List Loc), τ = sA σ 20 (fun _ => x) → va_P D classes (wMo cI a wr τ) H1 → va_D A (wMo cI a wr τ) → va_S A H0 H1 locs1 → W p l e R s m args below meth c H1 locs1 cells slots Q (F0 m (pc + 3) ls rest)) : W p l e R s m args below meth c H locs cells slots Q (F0 m pc ls (.int x :: .ref (a 12) :: rest)) :=
  va_put (D := D) (C := R_Mo) (T := F_Mo) (N := 4) (ci := 3) (ref := "PropertyTrieModel") (fs := fsMo a σ) (v := .int x) (ty := .int) S.1 S.2.1 S.2.2.2.2 i_Mo t_Mo t_Mo_ok n_Mo S.2.2.2.1 hok.1 hP hD hS 12 rfl rfl 1 (by decide) hl (fun _ h9 => h9) rfl (by decide +kernel) rfl rfl (Nat.le_of_ble_eq_true rfl) hdg (fun H1 locs1 hP hD hS => kk _ H1 locs1 rfl (by rw [e_Mo_count hwr x]; exact hP) (by rw [e_Mo_count hwr x]; exact hD) hS)
theorem rg_Mo_starts (S : CallFix p m c cc nL s args lwg own) (hok : okS D cI s) (hP : va_P D classes (wMo cI a wr σ) H) (hl : (Cond.fieldLink own index "PropertyTrieModel" "starts" "[I").before args s = true) (hdg : decode cc pc = .ok (.getfield index, 3)) (kk : W p l e R s m args below meth c H locs cells slots Q (F0 m (pc + 3) ls (.ref (a 13) :: rest))) : W p l e R s m args below meth c H locs cells slots Q (F0 m pc ls (.ref (a 12) :: rest)) :=
  va_get (C := R_Mo) (T := F_Mo) (N := 4) (ci := 3) (ref := "PropertyTrieModel") (fs := fsMo a σ) (v := .ref (a 13)) S.1 S.2.1 S.2.2.2.2 i_Mo S.2.2.2.1 hok.1 hP 12 rfl rfl 2 (by decide) hl (fun _ h9 => h9) rfl hdg kk
theorem rl_Mo_starts {i : Int32} (S : CallFix p m c cc nL s args lwg own) (hok : okS D cI s) (hP : va_P D classes (wMo cI a wr σ) H) (hin : vp_in i 9000) (hdg : decode cc pc = .ok (.iaload, 1)) (kk : W p l e R s m args below meth c H locs cells slots Q (F0 m (pc + 1) ls (.int (σ 17 i.toNatClampNeg) :: rest))) : W p l e R s m args below meth c H locs cells slots Q (F0 m pc ls (.int i :: .ref (a 13) :: rest)) :=
  va_iald (n := 9000) (f := σ 17) (cA := cI) S.1 S.2.1 hok.1 hP 13 0 rfl rfl hin hdg kk
theorem ra_Mo_starts (S : CallFix p m c cc nL s args lwg own) (hok : okS D cI s) (hP : va_P D classes (wMo cI a wr σ) H) (hdg : decode cc pc = .ok (.arraylength, 1)) (kk : W p l e R s m args below meth c H locs cells slots Q (F0 m (pc + 1) ls (.int 9000 :: rest))) : W p l e R s m args below meth c H locs cells slots Q (F0 m pc ls (.ref (a 13) :: rest)) :=
  va_alen (ty := .int) (cA := cI) (x := (9000, .inl (σ 17))) S.1 S.2.1 hok.1 hP 13 0 rfl rfl rfl hdg kk
theorem e_Mo_starts (hwr : Fx 21 wr) (g : Nat → Int32) : wMo cI a wr (sA σ 17 g) = (wMo cI a wr σ).set 13 (a 13, .inl (cI, 9000, .inl g)) := by
  show WRc cI a (sA σ 17 g) ++ (WBl cI a (sA σ 17 g) ++ ([(a 11, .inr (2, [.ref (a 8)]))] ++ (WMo cI a (sA σ 17 g) ++ wr (sA σ 17 g)))) = _
  rw [hwr σ 17 g (by decide)]
  rfl
theorem rs_Mo_starts {i x : Int32} (S : CallFix p m c cc nL s args lwg own) (hok : okS D cI s) (hwr : Fx 21 wr) (hP : va_P D classes (wMo cI a wr σ) H) (hD : va_D A (wMo cI a wr σ)) (hS : va_S A H0 H locs) (hin : vp_in i 9000) (hdg : decode cc pc = .ok (.iastore, 1)) (kk : ∀ (τ : St) (H1 : Heap) (locs1 : List Loc), τ = sA σ 17 (upd (σ 17) i.toNatClampNeg x) → va_P D classes (wMo cI a wr τ) H1 → va_D A (wMo cI a wr τ) → va_S A H0 H1 locs1 → W p l e R s m args below meth c H1 locs1 cells slots Q (F0 m (pc + 1) ls rest)) : W p l e R s m args below meth c H locs cells slots Q (F0 m pc ls (.int x :: .int i :: .ref (a 13) :: rest)) :=
  va_iast (n := 9000) (f := σ 17) (cA := cI) S.1 S.2.1 hok.1 hP hD hS 13 0 rfl rfl hin hdg (fun H1 locs1 hP hD hS => kk _ H1 locs1 rfl (by rw [e_Mo_starts hwr _]; exact hP) (by rw [e_Mo_starts hwr _]; exact hD) hS)
theorem rg_Mo_fields (S : CallFix p m c cc nL s args lwg own) (hok : okS D cI s) (hP : va_P D classes (wMo cI a wr σ) H) (hl : (Cond.fieldLink own index "PropertyTrieModel" "fields" "[I").before args s = true) (hdg : decode cc pc = .ok (.getfield index, 3)) (kk : W p l e R s m args below meth c H locs cells slots Q (F0 m (pc + 3) ls (.ref (a 14) :: rest))) : W p l e R s m args below meth c H locs cells slots Q (F0 m pc ls (.ref (a 12) :: rest)) :=
  va_get (C := R_Mo) (T := F_Mo) (N := 4) (ci := 3) (ref := "PropertyTrieModel") (fs := fsMo a σ) (v := .ref (a 14)) S.1 S.2.1 S.2.2.2.2 i_Mo S.2.2.2.1 hok.1 hP 12 rfl rfl 3 (by decide) hl (fun _ h9 => h9) rfl hdg kk
theorem rl_Mo_fields {i : Int32} (S : CallFix p m c cc nL s args lwg own) (hok : okS D cI s) (hP : va_P D classes (wMo cI a wr σ) H) (hin : vp_in i 72000) (hdg : decode cc pc = .ok (.iaload, 1)) (kk : W p l e R s m args below meth c H locs cells slots Q (F0 m (pc + 1) ls (.int (σ 18 i.toNatClampNeg) :: rest))) : W p l e R s m args below meth c H locs cells slots Q (F0 m pc ls (.int i :: .ref (a 14) :: rest)) :=
  va_iald (n := 72000) (f := σ 18) (cA := cI) S.1 S.2.1 hok.1 hP 14 0 rfl rfl hin hdg kk
theorem ra_Mo_fields (S : CallFix p m c cc nL s args lwg own) (hok : okS D cI s) (hP : va_P D classes (wMo cI a wr σ) H) (hdg : decode cc pc = .ok (.arraylength, 1)) (kk : W p l e R s m args below meth c H locs cells slots Q (F0 m (pc + 1) ls (.int 72000 :: rest))) : W p l e R s m args below meth c H locs cells slots Q (F0 m pc ls (.ref (a 14) :: rest)) :=
  va_alen (ty := .int) (cA := cI) (x := (72000, .inl (σ 18))) S.1 S.2.1 hok.1 hP 14 0 rfl rfl rfl hdg kk
theorem e_Mo_fields (hwr : Fx 21 wr) (g : Nat → Int32) : wMo cI a wr (sA σ 18 g) = (wMo cI a wr σ).set 14 (a 14, .inl (cI, 72000, .inl g)) := by
  show WRc cI a (sA σ 18 g) ++ (WBl cI a (sA σ 18 g) ++ ([(a 11, .inr (2, [.ref (a 8)]))] ++ (WMo cI a (sA σ 18 g) ++ wr (sA σ 18 g)))) = _
  rw [hwr σ 18 g (by decide)]
  rfl
theorem rs_Mo_fields {i x : Int32} (S : CallFix p m c cc nL s args lwg own) (hok : okS D cI s) (hwr : Fx 21 wr) (hP : va_P D classes (wMo cI a wr σ) H) (hD : va_D A (wMo cI a wr σ)) (hS : va_S A H0 H locs) (hin : vp_in i 72000) (hdg : decode cc pc = .ok (.iastore, 1)) (kk : ∀ (τ : St) (H1 : Heap) (locs1 : List Loc), τ = sA σ 18 (upd (σ 18) i.toNatClampNeg x) → va_P D classes (wMo cI a wr τ) H1 → va_D A (wMo cI a wr τ) → va_S A H0 H1 locs1 → W p l e R s m args below meth c H1 locs1 cells slots Q (F0 m (pc + 1) ls rest)) : W p l e R s m args below meth c H locs cells slots Q (F0 m pc ls (.int x :: .int i :: .ref (a 14) :: rest)) :=
  va_iast (n := 72000) (f := σ 18) (cA := cI) S.1 S.2.1 hok.1 hP hD hS 14 0 rfl rfl hin hdg (fun H1 locs1 hP hD hS => kk _ H1 locs1 rfl (by rw [e_Mo_fields hwr _]; exact hP) (by rw [e_Mo_fields hwr _]; exact hD) hS)
theorem rc_Rc_values_wanted {sp dp n : Int32} (S : CallFix p m c cc nL s args lwg own) (hok : okS D cI s) (hwr : Fx 11 wr) (hP : va_P D classes (wRc cI a wr σ) H) (hD : va_D A (wRc cI a wr σ)) (hS : va_S A H0 H locs) (hl : (Cond.methodLink own index arraycopyName).before args s = true) (hml : c.maxLocals = ls.size)
    (h1 : ¬ sp < 0) (h2 : ¬ dp < 0) (h3 : ¬ n < 0) (h4 : sp.toNatClampNeg + n.toNatClampNeg ≤ 8224) (h5 : dp.toNatClampNeg + n.toNatClampNeg ≤ 8) (hframes : 1 ≤ R.frames) (hlocals : (rest.map fun v => v.category).sum + (nativeFrameWords "java/lang/System" "arraycopy" 5 + 11) ≤ R.locals) (hdg : decode cc pc = .ok (.invokestatic index, 3))
    (kk : ∀ (τ : St) (H1 : Heap) (locs1 : List Loc), τ = sA σ 6 (va_cpy (σ 0) (σ 6) sp.toNatClampNeg dp.toNatClampNeg n.toNatClampNeg) → va_P D classes (wRc cI a wr τ) H1 → va_D A (wRc cI a wr τ) → va_S A H0 H1 locs1 → W p l e R s m args below meth c H1 locs1 cells slots Q (F0 m (pc + 3) ls rest)) : W p l e R s m args below meth c H locs cells slots Q (F0 m pc ls (.int n :: .int dp :: .ref (a 7) :: .int sp :: .ref (a 1) :: rest)) :=
  va_copyi (n0 := 8224) (n1 := 8) (f := σ 0) (g := σ 6) (c0 := cI) (c1 := cI) (ty := .int) S.1 S.2.1 hml S.2.2.2.1 hl (S.2.2.2.2 _ k_nt_Sy_arraycopy) (S.2.2.2.2 _ k_st_Sy_arraycopy) (S.2.2.2.2 _ k_ini_Sy) hok.1 hP hD hS 1 7 0 0 rfl rfl rfl rfl rfl h1 h2 h3 h4 h5 (fun _ _ => rfl) hframes hlocals hdg (fun H1 locs1 hP hD hS => kk _ H1 locs1 rfl (by rw [e_Rc_wanted hwr _]; exact hP) (by rw [e_Rc_wanted hwr _]; exact hD) hS)
theorem rc_Rc_wanted_values {sp dp n : Int32} (S : CallFix p m c cc nL s args lwg own) (hok : okS D cI s) (hwr : Fx 11 wr) (hP : va_P D classes (wRc cI a wr σ) H) (hD : va_D A (wRc cI a wr σ)) (hS : va_S A H0 H locs) (hl : (Cond.methodLink own index arraycopyName).before args s = true) (hml : c.maxLocals = ls.size)
    (h1 : ¬ sp < 0) (h2 : ¬ dp < 0) (h3 : ¬ n < 0) (h4 : sp.toNatClampNeg + n.toNatClampNeg ≤ 8) (h5 : dp.toNatClampNeg + n.toNatClampNeg ≤ 8224) (hframes : 1 ≤ R.frames) (hlocals : (rest.map fun v => v.category).sum + (nativeFrameWords "java/lang/System" "arraycopy" 5 + 11) ≤ R.locals) (hdg : decode cc pc = .ok (.invokestatic index, 3))
    (kk : ∀ (τ : St) (H1 : Heap) (locs1 : List Loc), τ = sA σ 0 (va_cpy (σ 6) (σ 0) sp.toNatClampNeg dp.toNatClampNeg n.toNatClampNeg) → va_P D classes (wRc cI a wr τ) H1 → va_D A (wRc cI a wr τ) → va_S A H0 H1 locs1 → W p l e R s m args below meth c H1 locs1 cells slots Q (F0 m (pc + 3) ls rest)) : W p l e R s m args below meth c H locs cells slots Q (F0 m pc ls (.int n :: .int dp :: .ref (a 1) :: .int sp :: .ref (a 7) :: rest)) :=
  va_copyi (n0 := 8) (n1 := 8224) (f := σ 6) (g := σ 0) (c0 := cI) (c1 := cI) (ty := .int) S.1 S.2.1 hml S.2.2.2.1 hl (S.2.2.2.2 _ k_nt_Sy_arraycopy) (S.2.2.2.2 _ k_st_Sy_arraycopy) (S.2.2.2.2 _ k_ini_Sy) hok.1 hP hD hS 7 1 0 0 rfl rfl rfl rfl rfl h1 h2 h3 h4 h5 (fun _ _ => rfl) hframes hlocals hdg (fun H1 locs1 hP hD hS => kk _ H1 locs1 rfl (by rw [e_Rc_values hwr _]; exact hP) (by rw [e_Rc_values hwr _]; exact hD) hS)
end ROWS
end
section
abbrev rm_Ar_fill2_heads : Room := { frames := 10, cells := 0, slots := 0, locals := 200 }
set_option maxRecDepth 100000 in
set_option maxHeartbeats 4000000 in
theorem c_Ar_fill2_heads (l : Launch) (D : va_G) (cI : ClassId) (a : Nat → Nat) (wr : St → va_W) (hwr : Fx 11 wr) (x1 : Int32) (σ : St) (Q : St → Prop) (hf : F_Ar_fill2_heads x1 σ Q) : Cv l y_Ar_fill2 (.code y_Ar_fill2 b_Ar_fill2 4 none) rm_Ar_fill2_heads D cI [.ref (a 4), .int x1] (wRc cI a wr) σ Q := by
  refine Cv.of (by decide +kernel) (Nat.le_of_ble_eq_true rfl) ?_
  intro p e s m below meth c ls A Z hx hb hml hown hts hok hP hD hA hl hend
  have S : CallFix p m c b_Ar_fill2 4 s ([.ref (a 4), .int x1] : List Value).toArray lwg "java/util/Arrays" := ⟨hx, hb, hml, hown, hts⟩
  have hS : va_S A s.heap s.heap [] := va_S.rf
  have hl : lv_has ls 4 [(0, .ref (a 4)), (1, .int x1)] := hl
  unfold F_Ar_fill2_heads at hf
  have lab5 : ∀ (v1 v2 v3 : Int32) (σ : St) (H : Heap) (locs : List Loc) (ls : Array Slot), F_Ar_fill2_heads_L5 v1 v2 v3 σ Q → va_P D classes (wRc cI a wr σ) H → va_D A (wRc cI a wr σ) → va_S A s.heap H locs → lv_has ls 4 [(0, .ref (a 4)), (1, .int v1), (2, .int v2), (3, .int v3)] → W p l e rm_Ar_fill2_heads s m ([.ref (a 4), .int x1] : List Value).toArray below meth c H locs 0 0 Z (F0 m 5 ls []) := by
    intro v1 v2 v3 σ H locs ls hf hP hD hS hl
    unfold F_Ar_fill2_heads_L5 at hf
    obtain ⟨I5, m5, h0, hst5⟩ := hf
    have lp5 : ∀ (n : Nat) (v2 : Int32) (σ : St) (H : Heap) (locs : List Loc) (ls : Array Slot), m5 v2 σ = n → I5 v2 σ → va_P D classes (wRc cI a wr σ) H → va_D A (wRc cI a wr σ) → va_S A s.heap H locs → lv_has ls 4 [(0, .ref (a 4)), (1, .int v1), (2, .int v2), (3, .int v3)] → W p l e rm_Ar_fill2_heads s m ([.ref (a 4), .int x1] : List Value).toArray below meth c H locs 0 0 Z (F0 m 5 ls []) := by
      intro n5
      induction n5 using Nat.strongRecOn with
      | _ n5 ih5 =>
        intro v2 σ H locs ls hn hI hP hD hS hl
        have hf := hst5 v2 σ n5 hI hn
        refine lv_iload_n hx hb d_Ar_fill2_5 rfl (lv_at hl 2 rfl) ?_
        refine lv_iload_n hx hb d_Ar_fill2_6 rfl (lv_at hl 3 rfl) ?_
        refine lv_icmp_ge hx hb d_Ar_fill2_7 rfl (fun hc => ?_) (fun hc => ?_)
        · have hf := hf.1 hc
          exact hend _ _ _ _ _ d_Ar_fill2_20 hf hP hD hS
        · have hf := hf.2 hc
          refine lv_aload_n hx hb d_Ar_fill2_10 rfl (lv_at hl 0 rfl) ?_
          refine lv_iload_n hx hb d_Ar_fill2_11 rfl (lv_at hl 2 rfl) ?_
          refine lv_iload_n hx hb d_Ar_fill2_12 rfl (lv_at hl 1 rfl) ?_
          obtain ⟨hin, hf⟩ := hf
          refine rs_Rc_heads S hok hwr hP hD hS hin d_Ar_fill2_13 (fun σ1 H locs hσ1 hP hD hS => ?_)
          have hf := hf σ1 hσ1
          obtain ⟨z2, hz2⟩ : ∃ z2 : Int32, z2 = v2 + (1 : Int32) := ⟨_, rfl⟩
          have hf := hf z2 hz2
          refine lv_iinc (k := 2) (v := z2) hx hb d_Ar_fill2_14 hl rfl (by rw [hz2]; rfl) (by decide) rfl (fun ls hl => ?_)
          have hl : lv_has ls 4 [(2, .int z2), (0, .ref (a 4)), (1, .int v1), (3, .int v3)] := hl
          refine lv_goto hx hb d_Ar_fill2_17 rfl ?_
          exact ih5 _ hf.2 _ _ _ _ _ rfl hf.1 hP hD hS (lv_sub hl [1, 2, 0, 3] rfl)
    exact lp5 _ v2 σ H locs ls rfl h0 hP hD hS hl
  refine lv_iconst (v := (0 : Int32)) hx hb d_Ar_fill2_0 (by decide) ?_
  refine lv_topi (fun z3 hz3 => ?_)
  have hf := hf z3 hz3
  refine lv_istore_n hx hb d_Ar_fill2_1 rfl hl (by decide) rfl (fun ls hl => ?_)
  have hl : lv_has ls 4 [(2, .int z3), (0, .ref (a 4)), (1, .int x1)] := hl
  refine lv_aload_n hx hb d_Ar_fill2_2 rfl (lv_at hl 1 rfl) ?_
  refine ra_Rc_heads S hok hP d_Ar_fill2_3 ?_
  refine lv_topi (fun z4 hz4 => ?_)
  have hf := hf z4 hz4
  refine lv_istore_n hx hb d_Ar_fill2_4 rfl hl (by decide) rfl (fun ls hl => ?_)
  have hl : lv_has ls 4 [(3, .int z4), (2, .int z3), (0, .ref (a 4)), (1, .int x1)] := hl
  exact lab5 _ _ _ _ _ _ _ hf hP hD hS (lv_sub hl [2, 3, 1, 0] rfl)
abbrev rm_Ar_fill2_holders : Room := { frames := 10, cells := 0, slots := 0, locals := 200 }
set_option maxRecDepth 100000 in
set_option maxHeartbeats 4000000 in
theorem c_Ar_fill2_holders (l : Launch) (D : va_G) (cI : ClassId) (a : Nat → Nat) (wr : St → va_W) (hwr : Fx 11 wr) (x1 : Int32) (σ : St) (Q : St → Prop) (hf : F_Ar_fill2_holders x1 σ Q) : Cv l y_Ar_fill2 (.code y_Ar_fill2 b_Ar_fill2 4 none) rm_Ar_fill2_holders D cI [.ref (a 2), .int x1] (wRc cI a wr) σ Q := by
  refine Cv.of (by decide +kernel) (Nat.le_of_ble_eq_true rfl) ?_
  intro p e s m below meth c ls A Z hx hb hml hown hts hok hP hD hA hl hend
  have S : CallFix p m c b_Ar_fill2 4 s ([.ref (a 2), .int x1] : List Value).toArray lwg "java/util/Arrays" := ⟨hx, hb, hml, hown, hts⟩
  have hS : va_S A s.heap s.heap [] := va_S.rf
  have hl : lv_has ls 4 [(0, .ref (a 2)), (1, .int x1)] := hl
  unfold F_Ar_fill2_holders at hf
  have lab5 : ∀ (v1 v2 v3 : Int32) (σ : St) (H : Heap) (locs : List Loc) (ls : Array Slot), F_Ar_fill2_holders_L5 v1 v2 v3 σ Q → va_P D classes (wRc cI a wr σ) H → va_D A (wRc cI a wr σ) → va_S A s.heap H locs → lv_has ls 4 [(0, .ref (a 2)), (1, .int v1), (2, .int v2), (3, .int v3)] → W p l e rm_Ar_fill2_holders s m ([.ref (a 2), .int x1] : List Value).toArray below meth c H locs 0 0 Z (F0 m 5 ls []) := by
    intro v1 v2 v3 σ H locs ls hf hP hD hS hl
    unfold F_Ar_fill2_holders_L5 at hf
    obtain ⟨I5, m5, h0, hst5⟩ := hf
    have lp5 : ∀ (n : Nat) (v2 : Int32) (σ : St) (H : Heap) (locs : List Loc) (ls : Array Slot), m5 v2 σ = n → I5 v2 σ → va_P D classes (wRc cI a wr σ) H → va_D A (wRc cI a wr σ) → va_S A s.heap H locs → lv_has ls 4 [(0, .ref (a 2)), (1, .int v1), (2, .int v2), (3, .int v3)] → W p l e rm_Ar_fill2_holders s m ([.ref (a 2), .int x1] : List Value).toArray below meth c H locs 0 0 Z (F0 m 5 ls []) := by
      intro n5
      induction n5 using Nat.strongRecOn with
      | _ n5 ih5 =>
        intro v2 σ H locs ls hn hI hP hD hS hl
        have hf := hst5 v2 σ n5 hI hn
        refine lv_iload_n hx hb d_Ar_fill2_5 rfl (lv_at hl 2 rfl) ?_
        refine lv_iload_n hx hb d_Ar_fill2_6 rfl (lv_at hl 3 rfl) ?_
        refine lv_icmp_ge hx hb d_Ar_fill2_7 rfl (fun hc => ?_) (fun hc => ?_)
        · have hf := hf.1 hc
          exact hend _ _ _ _ _ d_Ar_fill2_20 hf hP hD hS
        · have hf := hf.2 hc
          refine lv_aload_n hx hb d_Ar_fill2_10 rfl (lv_at hl 0 rfl) ?_
          refine lv_iload_n hx hb d_Ar_fill2_11 rfl (lv_at hl 2 rfl) ?_
          refine lv_iload_n hx hb d_Ar_fill2_12 rfl (lv_at hl 1 rfl) ?_
          obtain ⟨hin, hf⟩ := hf
          refine rs_Rc_holders S hok hwr hP hD hS hin d_Ar_fill2_13 (fun σ1 H locs hσ1 hP hD hS => ?_)
          have hf := hf σ1 hσ1
          obtain ⟨z2, hz2⟩ : ∃ z2 : Int32, z2 = v2 + (1 : Int32) := ⟨_, rfl⟩
          have hf := hf z2 hz2
          refine lv_iinc (k := 2) (v := z2) hx hb d_Ar_fill2_14 hl rfl (by rw [hz2]; rfl) (by decide) rfl (fun ls hl => ?_)
          have hl : lv_has ls 4 [(2, .int z2), (0, .ref (a 2)), (1, .int v1), (3, .int v3)] := hl
          refine lv_goto hx hb d_Ar_fill2_17 rfl ?_
          exact ih5 _ hf.2 _ _ _ _ _ rfl hf.1 hP hD hS (lv_sub hl [1, 2, 0, 3] rfl)
    exact lp5 _ v2 σ H locs ls rfl h0 hP hD hS hl
  refine lv_iconst (v := (0 : Int32)) hx hb d_Ar_fill2_0 (by decide) ?_
  refine lv_topi (fun z3 hz3 => ?_)
  have hf := hf z3 hz3
  refine lv_istore_n hx hb d_Ar_fill2_1 rfl hl (by decide) rfl (fun ls hl => ?_)
  have hl : lv_has ls 4 [(2, .int z3), (0, .ref (a 2)), (1, .int x1)] := hl
  refine lv_aload_n hx hb d_Ar_fill2_2 rfl (lv_at hl 1 rfl) ?_
  refine ra_Rc_holders S hok hP d_Ar_fill2_3 ?_
  refine lv_topi (fun z4 hz4 => ?_)
  have hf := hf z4 hz4
  refine lv_istore_n hx hb d_Ar_fill2_4 rfl hl (by decide) rfl (fun ls hl => ?_)
  have hl : lv_has ls 4 [(3, .int z4), (2, .int z3), (0, .ref (a 2)), (1, .int x1)] := hl
  exact lab5 _ _ _ _ _ _ _ hf hP hD hS (lv_sub hl [2, 3, 1, 0] rfl)
abbrev rm_Ar_fill2_wanted : Room := { frames := 10, cells := 0, slots := 0, locals := 200 }
set_option maxRecDepth 100000 in
set_option maxHeartbeats 4000000 in
theorem c_Ar_fill2_wanted (l : Launch) (D : va_G) (cI : ClassId) (a : Nat → Nat) (wr : St → va_W) (hwr : Fx 11 wr) (x1 : Int32) (σ : St) (Q : St → Prop) (hf : F_Ar_fill2_wanted x1 σ Q) : Cv l y_Ar_fill2 (.code y_Ar_fill2 b_Ar_fill2 4 none) rm_Ar_fill2_wanted D cI [.ref (a 7), .int x1] (wRc cI a wr) σ Q := by
  refine Cv.of (by decide +kernel) (Nat.le_of_ble_eq_true rfl) ?_
  intro p e s m below meth c ls A Z hx hb hml hown hts hok hP hD hA hl hend
  have S : CallFix p m c b_Ar_fill2 4 s ([.ref (a 7), .int x1] : List Value).toArray lwg "java/util/Arrays" := ⟨hx, hb, hml, hown, hts⟩
  have hS : va_S A s.heap s.heap [] := va_S.rf
  have hl : lv_has ls 4 [(0, .ref (a 7)), (1, .int x1)] := hl
  unfold F_Ar_fill2_wanted at hf
  have lab5 : ∀ (v1 v2 v3 : Int32) (σ : St) (H : Heap) (locs : List Loc) (ls : Array Slot), F_Ar_fill2_wanted_L5 v1 v2 v3 σ Q → va_P D classes (wRc cI a wr σ) H → va_D A (wRc cI a wr σ) → va_S A s.heap H locs → lv_has ls 4 [(0, .ref (a 7)), (1, .int v1), (2, .int v2), (3, .int v3)] → W p l e rm_Ar_fill2_wanted s m ([.ref (a 7), .int x1] : List Value).toArray below meth c H locs 0 0 Z (F0 m 5 ls []) := by
    intro v1 v2 v3 σ H locs ls hf hP hD hS hl
    unfold F_Ar_fill2_wanted_L5 at hf
    obtain ⟨I5, m5, h0, hst5⟩ := hf
    have lp5 : ∀ (n : Nat) (v2 : Int32) (σ : St) (H : Heap) (locs : List Loc) (ls : Array Slot), m5 v2 σ = n → I5 v2 σ → va_P D classes (wRc cI a wr σ) H → va_D A (wRc cI a wr σ) → va_S A s.heap H locs → lv_has ls 4 [(0, .ref (a 7)), (1, .int v1), (2, .int v2), (3, .int v3)] → W p l e rm_Ar_fill2_wanted s m ([.ref (a 7), .int x1] : List Value).toArray below meth c H locs 0 0 Z (F0 m 5 ls []) := by
      intro n5
      induction n5 using Nat.strongRecOn with
      | _ n5 ih5 =>
        intro v2 σ H locs ls hn hI hP hD hS hl
        have hf := hst5 v2 σ n5 hI hn
        refine lv_iload_n hx hb d_Ar_fill2_5 rfl (lv_at hl 2 rfl) ?_
        refine lv_iload_n hx hb d_Ar_fill2_6 rfl (lv_at hl 3 rfl) ?_
        refine lv_icmp_ge hx hb d_Ar_fill2_7 rfl (fun hc => ?_) (fun hc => ?_)
        · have hf := hf.1 hc
          exact hend _ _ _ _ _ d_Ar_fill2_20 hf hP hD hS
        · have hf := hf.2 hc
          refine lv_aload_n hx hb d_Ar_fill2_10 rfl (lv_at hl 0 rfl) ?_
          refine lv_iload_n hx hb d_Ar_fill2_11 rfl (lv_at hl 2 rfl) ?_
          refine lv_iload_n hx hb d_Ar_fill2_12 rfl (lv_at hl 1 rfl) ?_
          obtain ⟨hin, hf⟩ := hf
          refine rs_Rc_wanted S hok hwr hP hD hS hin d_Ar_fill2_13 (fun σ1 H locs hσ1 hP hD hS => ?_)
          have hf := hf σ1 hσ1
          obtain ⟨z2, hz2⟩ : ∃ z2 : Int32, z2 = v2 + (1 : Int32) := ⟨_, rfl⟩
          have hf := hf z2 hz2
          refine lv_iinc (k := 2) (v := z2) hx hb d_Ar_fill2_14 hl rfl (by rw [hz2]; rfl) (by decide) rfl (fun ls hl => ?_)
          have hl : lv_has ls 4 [(2, .int z2), (0, .ref (a 7)), (1, .int v1), (3, .int v3)] := hl
          refine lv_goto hx hb d_Ar_fill2_17 rfl ?_
          exact ih5 _ hf.2 _ _ _ _ _ rfl hf.1 hP hD hS (lv_sub hl [1, 2, 0, 3] rfl)
    exact lp5 _ v2 σ H locs ls rfl h0 hP hD hS hl
  refine lv_iconst (v := (0 : Int32)) hx hb d_Ar_fill2_0 (by decide) ?_
  refine lv_topi (fun z3 hz3 => ?_)
  have hf := hf z3 hz3
  refine lv_istore_n hx hb d_Ar_fill2_1 rfl hl (by decide) rfl (fun ls hl => ?_)
  have hl : lv_has ls 4 [(2, .int z3), (0, .ref (a 7)), (1, .int x1)] := hl
  refine lv_aload_n hx hb d_Ar_fill2_2 rfl (lv_at hl 1 rfl) ?_
  refine ra_Rc_wanted S hok hP d_Ar_fill2_3 ?_
  refine lv_topi (fun z4 hz4 => ?_)
  have hf := hf z4 hz4
  refine lv_istore_n hx hb d_Ar_fill2_4 rfl hl (by decide) rfl (fun ls hl => ?_)
  have hl : lv_has ls 4 [(3, .int z4), (2, .int z3), (0, .ref (a 7)), (1, .int x1)] := hl
  exact lab5 _ _ _ _ _ _ _ hf hP hD hS (lv_sub hl [2, 3, 1, 0] rfl)
abbrev rm_Ar_fill2_outcome : Room := { frames := 10, cells := 0, slots := 0, locals := 200 }
set_option maxRecDepth 100000 in
set_option maxHeartbeats 4000000 in
theorem c_Ar_fill2_outcome (l : Launch) (D : va_G) (cI : ClassId) (a : Nat → Nat) (wr : St → va_W) (hwr : Fx 11 wr) (x1 : Int32) (σ : St) (Q : St → Prop) (hf : F_Ar_fill2_outcome x1 σ Q) : Cv l y_Ar_fill2 (.code y_Ar_fill2 b_Ar_fill2 4 none) rm_Ar_fill2_outcome D cI [.ref (a 6), .int x1] (wRc cI a wr) σ Q := by
  refine Cv.of (by decide +kernel) (Nat.le_of_ble_eq_true rfl) ?_
  intro p e s m below meth c ls A Z hx hb hml hown hts hok hP hD hA hl hend
  have S : CallFix p m c b_Ar_fill2 4 s ([.ref (a 6), .int x1] : List Value).toArray lwg "java/util/Arrays" := ⟨hx, hb, hml, hown, hts⟩
  have hS : va_S A s.heap s.heap [] := va_S.rf
  have hl : lv_has ls 4 [(0, .ref (a 6)), (1, .int x1)] := hl
  unfold F_Ar_fill2_outcome at hf
  have lab5 : ∀ (v1 v2 v3 : Int32) (σ : St) (H : Heap) (locs : List Loc) (ls : Array Slot), F_Ar_fill2_outcome_L5 v1 v2 v3 σ Q → va_P D classes (wRc cI a wr σ) H → va_D A (wRc cI a wr σ) → va_S A s.heap H locs → lv_has ls 4 [(0, .ref (a 6)), (1, .int v1), (2, .int v2), (3, .int v3)] → W p l e rm_Ar_fill2_outcome s m ([.ref (a 6), .int x1] : List Value).toArray below meth c H locs 0 0 Z (F0 m 5 ls []) := by
    intro v1 v2 v3 σ H locs ls hf hP hD hS hl
    unfold F_Ar_fill2_outcome_L5 at hf
    obtain ⟨I5, m5, h0, hst5⟩ := hf
    have lp5 : ∀ (n : Nat) (v2 : Int32) (σ : St) (H : Heap) (locs : List Loc) (ls : Array Slot), m5 v2 σ = n → I5 v2 σ → va_P D classes (wRc cI a wr σ) H → va_D A (wRc cI a wr σ) → va_S A s.heap H locs → lv_has ls 4 [(0, .ref (a 6)), (1, .int v1), (2, .int v2), (3, .int v3)] → W p l e rm_Ar_fill2_outcome s m ([.ref (a 6), .int x1] : List Value).toArray below meth c H locs 0 0 Z (F0 m 5 ls []) := by
      intro n5
      induction n5 using Nat.strongRecOn with
      | _ n5 ih5 =>
        intro v2 σ H locs ls hn hI hP hD hS hl
        have hf := hst5 v2 σ n5 hI hn
        refine lv_iload_n hx hb d_Ar_fill2_5 rfl (lv_at hl 2 rfl) ?_
        refine lv_iload_n hx hb d_Ar_fill2_6 rfl (lv_at hl 3 rfl) ?_
        refine lv_icmp_ge hx hb d_Ar_fill2_7 rfl (fun hc => ?_) (fun hc => ?_)
        · have hf := hf.1 hc
          exact hend _ _ _ _ _ d_Ar_fill2_20 hf hP hD hS
        · have hf := hf.2 hc
          refine lv_aload_n hx hb d_Ar_fill2_10 rfl (lv_at hl 0 rfl) ?_
          refine lv_iload_n hx hb d_Ar_fill2_11 rfl (lv_at hl 2 rfl) ?_
          refine lv_iload_n hx hb d_Ar_fill2_12 rfl (lv_at hl 1 rfl) ?_
          obtain ⟨hin, hf⟩ := hf
          refine rs_Rc_outcome S hok hwr hP hD hS hin d_Ar_fill2_13 (fun σ1 H locs hσ1 hP hD hS => ?_)
          have hf := hf σ1 hσ1
          obtain ⟨z2, hz2⟩ : ∃ z2 : Int32, z2 = v2 + (1 : Int32) := ⟨_, rfl⟩
          have hf := hf z2 hz2
          refine lv_iinc (k := 2) (v := z2) hx hb d_Ar_fill2_14 hl rfl (by rw [hz2]; rfl) (by decide) rfl (fun ls hl => ?_)
          have hl : lv_has ls 4 [(2, .int z2), (0, .ref (a 6)), (1, .int v1), (3, .int v3)] := hl
          refine lv_goto hx hb d_Ar_fill2_17 rfl ?_
          exact ih5 _ hf.2 _ _ _ _ _ rfl hf.1 hP hD hS (lv_sub hl [1, 2, 0, 3] rfl)
    exact lp5 _ v2 σ H locs ls rfl h0 hP hD hS hl
  refine lv_iconst (v := (0 : Int32)) hx hb d_Ar_fill2_0 (by decide) ?_
  refine lv_topi (fun z3 hz3 => ?_)
  have hf := hf z3 hz3
  refine lv_istore_n hx hb d_Ar_fill2_1 rfl hl (by decide) rfl (fun ls hl => ?_)
  have hl : lv_has ls 4 [(2, .int z3), (0, .ref (a 6)), (1, .int x1)] := hl
  refine lv_aload_n hx hb d_Ar_fill2_2 rfl (lv_at hl 1 rfl) ?_
  refine ra_Rc_outcome S hok hP d_Ar_fill2_3 ?_
  refine lv_topi (fun z4 hz4 => ?_)
  have hf := hf z4 hz4
  refine lv_istore_n hx hb d_Ar_fill2_4 rfl hl (by decide) rfl (fun ls hl => ?_)
  have hl : lv_has ls 4 [(3, .int z4), (2, .int z3), (0, .ref (a 6)), (1, .int x1)] := hl
  exact lab5 _ _ _ _ _ _ _ hf hP hD hS (lv_sub hl [2, 3, 1, 0] rfl)
abbrev rm_Ar_rangeCheck : Room := { frames := 10, cells := 0, slots := 0, locals := 200 }
set_option maxRecDepth 100000 in
set_option maxHeartbeats 4000000 in
theorem c_Ar_rangeCheck (l : Launch) (D : va_G) (cI : ClassId) (a : Nat → Nat) (wr : St → va_W) (hwr : Fx 17 wr) (x0 : Int32) (x1 : Int32) (x2 : Int32) (σ : St) (Q : St → Prop) (hf : F_Ar_rangeCheck x0 x1 x2 σ Q) : Cv l y_Ar_rangeCheck (.code y_Ar_rangeCheck b_Ar_rangeCheck 3 none) rm_Ar_rangeCheck D cI [.int x0, .int x1, .int x2] (wBl cI a wr) σ Q := by
  refine Cv.of (by decide +kernel) (Nat.le_of_ble_eq_true rfl) ?_
  intro p e s m below meth c ls A Z hx hb hml hown hts hok hP hD hA hl hend
  have S : CallFix p m c b_Ar_rangeCheck 3 s ([.int x0, .int x1, .int x2] : List Value).toArray lwg "java/util/Arrays" := ⟨hx, hb, hml, hown, hts⟩
  have hS : va_S A s.heap s.heap [] := va_S.rf
  have hl : lv_has ls 3 [(0, .int x0), (1, .int x1), (2, .int x2)] := hl
  unfold F_Ar_rangeCheck at hf
  refine lv_iload_n hx hb d_Ar_rangeCheck_0 rfl (lv_at hl 1 rfl) ?_
  refine lv_iload_n hx hb d_Ar_rangeCheck_1 rfl (lv_at hl 2 rfl) ?_
  refine lv_icmp_le hx hb d_Ar_rangeCheck_2 rfl (fun hc => ?_) (fun hc => ?_)
  · have hf := hf.1 hc
    refine lv_iload_n hx hb d_Ar_rangeCheck_46 rfl (lv_at hl 1 rfl) ?_
    refine lv_if_ge hx hb d_Ar_rangeCheck_47 rfl (fun hc => ?_) (fun hc => ?_)
    · have hf := hf.1 hc
      refine lv_iload_n hx hb d_Ar_rangeCheck_59 rfl (lv_at hl 2 rfl) ?_
      refine lv_iload_n hx hb d_Ar_rangeCheck_60 rfl (lv_at hl 0 rfl) ?_
      refine lv_icmp_le hx hb d_Ar_rangeCheck_61 rfl (fun hc => ?_) (fun hc => ?_)
      · have hf := hf.1 hc
        exact hend _ _ _ _ _ d_Ar_rangeCheck_73 hf hP hD hS
      · have hf := hf.2 hc
        exact hf.elim
    · have hf := hf.2 hc
      exact hf.elim
  · have hf := hf.2 hc
    exact hf.elim
abbrev rm_Ar_fill4_cells : Room := { frames := 20, cells := 0, slots := 0, locals := 400 }
set_option maxRecDepth 100000 in
set_option maxHeartbeats 4000000 in
theorem c_Ar_fill4_cells (l : Launch) (D : va_G) (cI : ClassId) (a : Nat → Nat) (wr : St → va_W) (hwr : Fx 17 wr) (x1 : Int32) (x2 : Int32) (x3 : Int32) (σ : St) (Q : St → Prop) (hf : F_Ar_fill4_cells x1 x2 x3 σ Q) : Cv l y_Ar_fill4 (.code y_Ar_fill4 b_Ar_fill4 5 none) rm_Ar_fill4_cells D cI [.ref (a 9), .int x1, .int x2, .int x3] (wBl cI a wr) σ Q := by
  refine Cv.of (by decide +kernel) (Nat.le_of_ble_eq_true rfl) ?_
  intro p e s m below meth c ls A Z hx hb hml hown hts hok hP hD hA hl hend
  have S : CallFix p m c b_Ar_fill4 5 s ([.ref (a 9), .int x1, .int x2, .int x3] : List Value).toArray lwg "java/util/Arrays" := ⟨hx, hb, hml, hown, hts⟩
  have hS : va_S A s.heap s.heap [] := va_S.rf
  have hl : lv_has ls 5 [(0, .ref (a 9)), (1, .int x1), (2, .int x2), (3, .int x3)] := hl
  unfold F_Ar_fill4_cells at hf
  have lab10 : ∀ (v2 v3 v4 : Int32) (σ : St) (H : Heap) (locs : List Loc) (ls : Array Slot), F_Ar_fill4_cells_L10 v2 v3 v4 σ Q → va_P D classes (wBl cI a wr σ) H → va_D A (wBl cI a wr σ) → va_S A s.heap H locs → lv_has ls 5 [(0, .ref (a 9)), (2, .int v2), (3, .int v3), (4, .int v4)] → W p l e rm_Ar_fill4_cells s m ([.ref (a 9), .int x1, .int x2, .int x3] : List Value).toArray below meth c H locs 0 0 Z (F0 m 10 ls []) := by
    intro v2 v3 v4 σ H locs ls hf hP hD hS hl
    unfold F_Ar_fill4_cells_L10 at hf
    obtain ⟨I10, m10, h0, hst10⟩ := hf
    have lp10 : ∀ (n : Nat) (v4 : Int32) (σ : St) (H : Heap) (locs : List Loc) (ls : Array Slot), m10 v4 σ = n → I10 v4 σ → va_P D classes (wBl cI a wr σ) H → va_D A (wBl cI a wr σ) → va_S A s.heap H locs → lv_has ls 5 [(0, .ref (a 9)), (2, .int v2), (3, .int v3), (4, .int v4)] → W p l e rm_Ar_fill4_cells s m ([.ref (a 9), .int x1, .int x2, .int x3] : List Value).toArray below meth c H locs 0 0 Z (F0 m 10 ls []) := by
      intro n10
      induction n10 using Nat.strongRecOn with
      | _ n10 ih10 =>
        intro v4 σ H locs ls hn hI hP hD hS hl
        have hf := hst10 v4 σ n10 hI hn
        refine lv_iload hx hb d_Ar_fill4_10 (lv_at hl 3 rfl) ?_
        refine lv_iload_n hx hb d_Ar_fill4_12 rfl (lv_at hl 1 rfl) ?_
        refine lv_icmp_ge hx hb d_Ar_fill4_13 rfl (fun hc => ?_) (fun hc => ?_)
        · have hf := hf.1 hc
          exact hend _ _ _ _ _ d_Ar_fill4_27 hf hP hD hS
        · have hf := hf.2 hc
          refine lv_aload_n hx hb d_Ar_fill4_16 rfl (lv_at hl 0 rfl) ?_
          refine lv_iload hx hb d_Ar_fill4_17 (lv_at hl 3 rfl) ?_
          refine lv_iload_n hx hb d_Ar_fill4_19 rfl (lv_at hl 2 rfl) ?_
          obtain ⟨hin, hf⟩ := hf
          refine rs_Bl_cells S hok hwr hP hD hS hin d_Ar_fill4_20 (fun σ1 H locs hσ1 hP hD hS => ?_)
          have hf := hf σ1 hσ1
          obtain ⟨z2, hz2⟩ : ∃ z2 : Int32, z2 = v4 + (1 : Int32) := ⟨_, rfl⟩
          have hf := hf z2 hz2
          refine lv_iinc (k := 3) (v := z2) hx hb d_Ar_fill4_21 hl rfl (by rw [hz2]; rfl) (by decide) rfl (fun ls hl => ?_)
          have hl : lv_has ls 5 [(4, .int z2), (0, .ref (a 9)), (2, .int v2), (3, .int v3)] := hl
          refine lv_goto hx hb d_Ar_fill4_24 rfl ?_
          exact ih10 _ hf.2 _ _ _ _ _ rfl hf.1 hP hD hS (lv_sub hl [1, 2, 3, 0] rfl)
    exact lp10 _ v4 σ H locs ls rfl h0 hP hD hS hl
  refine lv_aload_n hx hb d_Ar_fill4_0 rfl (lv_at hl 0 rfl) ?_
  refine ra_Bl_cells S hok hP d_Ar_fill4_1 ?_
  refine lv_iload_n hx hb d_Ar_fill4_2 rfl (lv_at hl 1 rfl) ?_
  refine lv_iload_n hx hb d_Ar_fill4_3 rfl (lv_at hl 2 rfl) ?_
  refine r_callSv (As := [.int (66624 : Int32), .int x1, .int x2]) (rest := []) (n := 3) S hok (c_Ar_rangeCheck l D cI a wr hwr _ _ _ _ _ hf) k_ml_Ar_13 k_st_Ar_rangeCheck k_ini_Ar k_code_Ar_rangeCheck rfl rfl (by decide +kernel) ⟨by decide, by decide⟩ hP hD hS hA (Nat.zero_le _) (Nat.zero_le _) hl.1 rfl rfl (Nat.le_of_ble_eq_true rfl) d_Ar_fill4_4 (fun σ3 H locs hf hP hD hS => ?_)
  have hP : va_P D classes (wBl cI a wr σ3) H := hP
  have hD : va_D A (wBl cI a wr σ3) := hD
  refine lv_iload_n hx hb d_Ar_fill4_7 rfl (lv_at hl 1 rfl) ?_
  refine lv_istore hx hb d_Ar_fill4_8 hl (by decide) rfl (fun ls hl => ?_)
  have hl : lv_has ls 5 [(4, .int x1), (0, .ref (a 9)), (1, .int x1), (2, .int x2), (3, .int x3)] := hl
  exact lab10 _ _ _ _ _ _ _ hf hP hD hS (lv_sub hl [1, 3, 4, 0] rfl)
end
section
abbrev rm_Rc_chainOf_values : Room := { frames := 10, cells := 0, slots := 0, locals := 200 }
set_option maxRecDepth 100000 in
set_option maxHeartbeats 4000000 in
theorem c_Rc_chainOf_values (l : Launch) (D : va_G) (cI : ClassId) (a : Nat → Nat) (wr : St → va_W) (hwr : Fx 11 wr) (x1 : Int32) (σ : St) (Q : Int32 → St → Prop) (hf : F_Rc_chainOf_values x1 σ Q) : Ci l y_Rc_chainOf (.code y_Rc_chainOf b_Rc_chainOf 4 (some .int)) rm_Rc_chainOf_values D cI [.ref (a 1), .int x1] (wRc cI a wr) σ Q := by
  refine Ci.of (by decide +kernel) (Nat.le_of_ble_eq_true rfl) ?_
  intro p e s m below meth c ls A Z hx hb hml hown hts hok hP hD hA hl hend
  have S : CallFix p m c b_Rc_chainOf 4 s ([.ref (a 1), .int x1] : List Value).toArray lwg "PropertyTrie$Records" := ⟨hx, hb, hml, hown, hts⟩
  have hS : va_S A s.heap s.heap [] := va_S.rf
  have hl : lv_has ls 4 [(0, .ref (a 1)), (1, .int x1)] := hl
  unfold F_Rc_chainOf_values at hf
  have lab4 : ∀ (v1 v2 v3 : Int32) (σ : St) (H : Heap) (locs : List Loc) (ls : Array Slot), F_Rc_chainOf_values_L4 v1 v2 v3 σ Q → va_P D classes (wRc cI a wr σ) H → va_D A (wRc cI a wr σ) → va_S A s.heap H locs → lv_has ls 4 [(0, .ref (a 1)), (1, .int v1), (2, .int v2), (3, .int v3)] → W p l e rm_Rc_chainOf_values s m ([.ref (a 1), .int x1] : List Value).toArray below meth c H locs 0 0 Z (F0 m 4 ls []) := by
    intro v1 v2 v3 σ H locs ls hf hP hD hS hl
    unfold F_Rc_chainOf_values_L4 at hf
    obtain ⟨I4, m4, h0, hst4⟩ := hf
    have lp4 : ∀ (n : Nat) (v2 v3 : Int32) (σ : St) (H : Heap) (locs : List Loc) (ls : Array Slot), m4 v2 v3 σ = n → I4 v2 v3 σ → va_P D classes (wRc cI a wr σ) H → va_D A (wRc cI a wr σ) → va_S A s.heap H locs → lv_has ls 4 [(0, .ref (a 1)), (1, .int v1), (2, .int v2), (3, .int v3)] → W p l e rm_Rc_chainOf_values s m ([.ref (a 1), .int x1] : List Value).toArray below meth c H locs 0 0 Z (F0 m 4 ls []) := by
      intro n4
      induction n4 using Nat.strongRecOn with
      | _ n4 ih4 =>
        intro v2 v3 σ H locs ls hn hI hP hD hS hl
        have hf := hst4 v2 v3 σ n4 hI hn
        refine lv_iload_n hx hb d_Rc_chainOf_4 rfl (lv_at hl 3 rfl) ?_
        refine lv_iload_n hx hb d_Rc_chainOf_5 rfl (lv_at hl 1 rfl) ?_
        refine lv_bipush (v := (8 : Int32)) hx hb d_Rc_chainOf_6 (by decide) ?_
        refine lv_iadd hx hb d_Rc_chainOf_8 ?_
        refine lv_icmp_ge hx hb d_Rc_chainOf_9 rfl (fun hc => ?_) (fun hc => ?_)
        · have hf := hf.1 hc
          refine lv_iload_n hx hb d_Rc_chainOf_27 rfl (lv_at hl 2 rfl) ?_
          refine lv_iload_n hx hb d_Rc_chainOf_28 rfl (lv_at hl 2 rfl) ?_
          refine lv_bipush (v := (20 : Int32)) hx hb d_Rc_chainOf_29 (by decide) ?_
          refine lv_iushr hx hb d_Rc_chainOf_31 rfl ?_
          refine lv_iload_n hx hb d_Rc_chainOf_32 rfl (lv_at hl 2 rfl) ?_
          refine lv_bipush (v := (10 : Int32)) hx hb d_Rc_chainOf_33 (by decide) ?_
          refine lv_iushr hx hb d_Rc_chainOf_35 rfl ?_
          refine lv_ixor hx hb d_Rc_chainOf_36 ?_
          refine lv_ixor hx hb d_Rc_chainOf_37 ?_
          refine lv_topi (fun z1 hz1 => ?_)
          have hf := hf z1 hz1
          refine lv_istore_n hx hb d_Rc_chainOf_38 rfl hl (by decide) rfl (fun ls hl => ?_)
          have hl : lv_has ls 4 [(2, .int z1), (0, .ref (a 1)), (1, .int v1), (3, .int v3)] := hl
          refine lv_iload_n hx hb d_Rc_chainOf_39 rfl (lv_at hl 0 rfl) ?_
          refine lv_sipush (v := (1023 : Int32)) hx hb d_Rc_chainOf_40 (by decide) ?_
          refine lv_iand hx hb d_Rc_chainOf_43 ?_
          exact hend _ _ _ _ _ _ d_Rc_chainOf_44 rfl hf hP hD hS
        · have hf := hf.2 hc
          refine lv_bipush (v := (31 : Int32)) hx hb d_Rc_chainOf_12 (by decide) ?_
          refine lv_iload_n hx hb d_Rc_chainOf_14 rfl (lv_at hl 2 rfl) ?_
          refine lv_imul hx hb d_Rc_chainOf_15 ?_
          refine lv_aload_n hx hb d_Rc_chainOf_16 rfl (lv_at hl 0 rfl) ?_
          refine lv_iload_n hx hb d_Rc_chainOf_17 rfl (lv_at hl 3 rfl) ?_
          obtain ⟨hin, hf⟩ := hf
          refine rl_Rc_values S hok hP hin d_Rc_chainOf_18 ?_
          refine lv_iadd hx hb d_Rc_chainOf_19 ?_
          refine lv_topi (fun z2 hz2 => ?_)
          have hf := hf z2 hz2
          refine lv_istore_n hx hb d_Rc_chainOf_20 rfl hl (by decide) rfl (fun ls hl => ?_)
          have hl : lv_has ls 4 [(2, .int z2), (0, .ref (a 1)), (1, .int v1), (3, .int v3)] := hl
          obtain ⟨z3, hz3⟩ : ∃ z3 : Int32, z3 = v3 + (1 : Int32) := ⟨_, rfl⟩
          have hf := hf z3 hz3
          refine lv_iinc (k := 3) (v := z3) hx hb d_Rc_chainOf_21 hl rfl (by rw [hz3]; rfl) (by decide) rfl (fun ls hl => ?_)
          have hl : lv_has ls 4 [(3, .int z3), (2, .int z2), (0, .ref (a 1)), (1, .int v1)] := hl
          refine lv_goto hx hb d_Rc_chainOf_24 rfl ?_
          exact ih4 _ hf.2 _ _ _ _ _ _ rfl hf.1 hP hD hS (lv_sub hl [2, 3, 1, 0] rfl)
    exact lp4 _ v2 v3 σ H locs ls rfl h0 hP hD hS hl
  refine lv_iconst (v := (0 : Int32)) hx hb d_Rc_chainOf_0 (by decide) ?_
  refine lv_topi (fun z4 hz4 => ?_)
  have hf := hf z4 hz4
  refine lv_istore_n hx hb d_Rc_chainOf_1 rfl hl (by decide) rfl (fun ls hl => ?_)
  have hl : lv_has ls 4 [(2, .int z4), (0, .ref (a 1)), (1, .int x1)] := hl
  refine lv_iload_n hx hb d_Rc_chainOf_2 rfl (lv_at hl 2 rfl) ?_
  refine lv_istore_n hx hb d_Rc_chainOf_3 rfl hl (by decide) rfl (fun ls hl => ?_)
  have hl : lv_has ls 4 [(3, .int x1), (2, .int z4), (0, .ref (a 1)), (1, .int x1)] := hl
  exact lab4 _ _ _ _ _ _ _ hf hP hD hS (lv_sub hl [2, 3, 1, 0] rfl)
abbrev rm_Rc_chainOf_wanted : Room := { frames := 10, cells := 0, slots := 0, locals := 200 }
set_option maxRecDepth 100000 in
set_option maxHeartbeats 4000000 in
theorem c_Rc_chainOf_wanted (l : Launch) (D : va_G) (cI : ClassId) (a : Nat → Nat) (wr : St → va_W) (hwr : Fx 11 wr) (x1 : Int32) (σ : St) (Q : Int32 → St → Prop) (hf : F_Rc_chainOf_wanted x1 σ Q) : Ci l y_Rc_chainOf (.code y_Rc_chainOf b_Rc_chainOf 4 (some .int)) rm_Rc_chainOf_wanted D cI [.ref (a 7), .int x1] (wRc cI a wr) σ Q := by
  refine Ci.of (by decide +kernel) (Nat.le_of_ble_eq_true rfl) ?_
  intro p e s m below meth c ls A Z hx hb hml hown hts hok hP hD hA hl hend
  have S : CallFix p m c b_Rc_chainOf 4 s ([.ref (a 7), .int x1] : List Value).toArray lwg "PropertyTrie$Records" := ⟨hx, hb, hml, hown, hts⟩
  have hS : va_S A s.heap s.heap [] := va_S.rf
  have hl : lv_has ls 4 [(0, .ref (a 7)), (1, .int x1)] := hl
  unfold F_Rc_chainOf_wanted at hf
  have lab4 : ∀ (v1 v2 v3 : Int32) (σ : St) (H : Heap) (locs : List Loc) (ls : Array Slot), F_Rc_chainOf_wanted_L4 v1 v2 v3 σ Q → va_P D classes (wRc cI a wr σ) H → va_D A (wRc cI a wr σ) → va_S A s.heap H locs → lv_has ls 4 [(0, .ref (a 7)), (1, .int v1), (2, .int v2), (3, .int v3)] → W p l e rm_Rc_chainOf_wanted s m ([.ref (a 7), .int x1] : List Value).toArray below meth c H locs 0 0 Z (F0 m 4 ls []) := by
    intro v1 v2 v3 σ H locs ls hf hP hD hS hl
    unfold F_Rc_chainOf_wanted_L4 at hf
    obtain ⟨I4, m4, h0, hst4⟩ := hf
    have lp4 : ∀ (n : Nat) (v2 v3 : Int32) (σ : St) (H : Heap) (locs : List Loc) (ls : Array Slot), m4 v2 v3 σ = n → I4 v2 v3 σ → va_P D classes (wRc cI a wr σ) H → va_D A (wRc cI a wr σ) → va_S A s.heap H locs → lv_has ls 4 [(0, .ref (a 7)), (1, .int v1), (2, .int v2), (3, .int v3)] → W p l e rm_Rc_chainOf_wanted s m ([.ref (a 7), .int x1] : List Value).toArray below meth c H locs 0 0 Z (F0 m 4 ls []) := by
      intro n4
      induction n4 using Nat.strongRecOn with
      | _ n4 ih4 =>
        intro v2 v3 σ H locs ls hn hI hP hD hS hl
        have hf := hst4 v2 v3 σ n4 hI hn
        refine lv_iload_n hx hb d_Rc_chainOf_4 rfl (lv_at hl 3 rfl) ?_
        refine lv_iload_n hx hb d_Rc_chainOf_5 rfl (lv_at hl 1 rfl) ?_
        refine lv_bipush (v := (8 : Int32)) hx hb d_Rc_chainOf_6 (by decide) ?_
        refine lv_iadd hx hb d_Rc_chainOf_8 ?_
        refine lv_icmp_ge hx hb d_Rc_chainOf_9 rfl (fun hc => ?_) (fun hc => ?_)
        · have hf := hf.1 hc
          refine lv_iload_n hx hb d_Rc_chainOf_27 rfl (lv_at hl 2 rfl) ?_
          refine lv_iload_n hx hb d_Rc_chainOf_28 rfl (lv_at hl 2 rfl) ?_
          refine lv_bipush (v := (20 : Int32)) hx hb d_Rc_chainOf_29 (by decide) ?_
          refine lv_iushr hx hb d_Rc_chainOf_31 rfl ?_
          refine lv_iload_n hx hb d_Rc_chainOf_32 rfl (lv_at hl 2 rfl) ?_
          refine lv_bipush (v := (10 : Int32)) hx hb d_Rc_chainOf_33 (by decide) ?_
          refine lv_iushr hx hb d_Rc_chainOf_35 rfl ?_
          refine lv_ixor hx hb d_Rc_chainOf_36 ?_
          refine lv_ixor hx hb d_Rc_chainOf_37 ?_
          refine lv_topi (fun z1 hz1 => ?_)
          have hf := hf z1 hz1
          refine lv_istore_n hx hb d_Rc_chainOf_38 rfl hl (by decide) rfl (fun ls hl => ?_)
          have hl : lv_has ls 4 [(2, .int z1), (0, .ref (a 7)), (1, .int v1), (3, .int v3)] := hl
          refine lv_iload_n hx hb d_Rc_chainOf_39 rfl (lv_at hl 0 rfl) ?_
          refine lv_sipush (v := (1023 : Int32)) hx hb d_Rc_chainOf_40 (by decide) ?_
          refine lv_iand hx hb d_Rc_chainOf_43 ?_
          exact hend _ _ _ _ _ _ d_Rc_chainOf_44 rfl hf hP hD hS
        · have hf := hf.2 hc
          refine lv_bipush (v := (31 : Int32)) hx hb d_Rc_chainOf_12 (by decide) ?_
          refine lv_iload_n hx hb d_Rc_chainOf_14 rfl (lv_at hl 2 rfl) ?_
          refine lv_imul hx hb d_Rc_chainOf_15 ?_
          refine lv_aload_n hx hb d_Rc_chainOf_16 rfl (lv_at hl 0 rfl) ?_
          refine lv_iload_n hx hb d_Rc_chainOf_17 rfl (lv_at hl 3 rfl) ?_
          obtain ⟨hin, hf⟩ := hf
          refine rl_Rc_wanted S hok hP hin d_Rc_chainOf_18 ?_
          refine lv_iadd hx hb d_Rc_chainOf_19 ?_
          refine lv_topi (fun z2 hz2 => ?_)
          have hf := hf z2 hz2
          refine lv_istore_n hx hb d_Rc_chainOf_20 rfl hl (by decide) rfl (fun ls hl => ?_)
          have hl : lv_has ls 4 [(2, .int z2), (0, .ref (a 7)), (1, .int v1), (3, .int v3)] := hl
          obtain ⟨z3, hz3⟩ : ∃ z3 : Int32, z3 = v3 + (1 : Int32) := ⟨_, rfl⟩
          have hf := hf z3 hz3
          refine lv_iinc (k := 3) (v := z3) hx hb d_Rc_chainOf_21 hl rfl (by rw [hz3]; rfl) (by decide) rfl (fun ls hl => ?_)
          have hl : lv_has ls 4 [(3, .int z3), (2, .int z2), (0, .ref (a 7)), (1, .int v1)] := hl
          refine lv_goto hx hb d_Rc_chainOf_24 rfl ?_
          exact ih4 _ hf.2 _ _ _ _ _ _ rfl hf.1 hP hD hS (lv_sub hl [2, 3, 1, 0] rfl)
    exact lp4 _ v2 v3 σ H locs ls rfl h0 hP hD hS hl
  refine lv_iconst (v := (0 : Int32)) hx hb d_Rc_chainOf_0 (by decide) ?_
  refine lv_topi (fun z4 hz4 => ?_)
  have hf := hf z4 hz4
  refine lv_istore_n hx hb d_Rc_chainOf_1 rfl hl (by decide) rfl (fun ls hl => ?_)
  have hl : lv_has ls 4 [(2, .int z4), (0, .ref (a 7)), (1, .int x1)] := hl
  refine lv_iload_n hx hb d_Rc_chainOf_2 rfl (lv_at hl 2 rfl) ?_
  refine lv_istore_n hx hb d_Rc_chainOf_3 rfl hl (by decide) rfl (fun ls hl => ?_)
  have hl : lv_has ls 4 [(3, .int x1), (2, .int z4), (0, .ref (a 7)), (1, .int x1)] := hl
  exact lab4 _ _ _ _ _ _ _ hf hP hD hS (lv_sub hl [2, 3, 1, 0] rfl)
abbrev rm_Rc_value : Room := { frames := 10, cells := 0, slots := 0, locals := 200 }
set_option maxRecDepth 100000 in
set_option maxHeartbeats 4000000 in
theorem c_Rc_value (l : Launch) (D : va_G) (cI : ClassId) (a : Nat → Nat) (wr : St → va_W) (hwr : Fx 11 wr) (x1 : Int32) (x2 : Int32) (σ : St) (Q : Int32 → St → Prop) (hf : F_Rc_value x1 x2 σ Q) : Ci l y_Rc_value (.code y_Rc_value b_Rc_value 3 (some .int)) rm_Rc_value D cI [.ref (a 0), .int x1, .int x2] (wRc cI a wr) σ Q := by
  refine Ci.of (by decide +kernel) (Nat.le_of_ble_eq_true rfl) ?_
  intro p e s m below meth c ls A Z hx hb hml hown hts hok hP hD hA hl hend
  have S : CallFix p m c b_Rc_value 3 s ([.ref (a 0), .int x1, .int x2] : List Value).toArray lwg "PropertyTrie$Records" := ⟨hx, hb, hml, hown, hts⟩
  have hS : va_S A s.heap s.heap [] := va_S.rf
  have hl : lv_has ls 3 [(0, .ref (a 0)), (1, .int x1), (2, .int x2)] := hl
  unfold F_Rc_value at hf
  refine lv_aload_n hx hb d_Rc_value_0 rfl (lv_at hl 0 rfl) ?_
  refine rg_Rc_values S hok hP (hts _ k_fl_Rc_11) d_Rc_value_1 ?_
  refine lv_iload_n hx hb d_Rc_value_4 rfl (lv_at hl 1 rfl) ?_
  refine lv_bipush (v := (8 : Int32)) hx hb d_Rc_value_5 (by decide) ?_
  refine lv_imul hx hb d_Rc_value_7 ?_
  refine lv_iload_n hx hb d_Rc_value_8 rfl (lv_at hl 2 rfl) ?_
  refine lv_iadd hx hb d_Rc_value_9 ?_
  obtain ⟨hin, hf⟩ := hf
  refine rl_Rc_values S hok hP hin d_Rc_value_10 ?_
  exact hend _ _ _ _ _ _ d_Rc_value_11 rfl hf hP hD hS
abbrev rm_Rc_hold : Room := { frames := 10, cells := 0, slots := 0, locals := 200 }
set_option maxRecDepth 100000 in
set_option maxHeartbeats 4000000 in
theorem c_Rc_hold (l : Launch) (D : va_G) (cI : ClassId) (a : Nat → Nat) (wr : St → va_W) (hwr : Fx 11 wr) (x1 : Int32) (x2 : Int32) (σ : St) (Q : St → Prop) (hf : F_Rc_hold x1 x2 σ Q) : Cv l y_Rc_hold (.code y_Rc_hold b_Rc_hold 3 none) rm_Rc_hold D cI [.ref (a 0), .int x1, .int x2] (wRc cI a wr) σ Q := by
  refine Cv.of (by decide +kernel) (Nat.le_of_ble_eq_true rfl) ?_
  intro p e s m below meth c ls A Z hx hb hml hown hts hok hP hD hA hl hend
  have S : CallFix p m c b_Rc_hold 3 s ([.ref (a 0), .int x1, .int x2] : List Value).toArray lwg "PropertyTrie$Records" := ⟨hx, hb, hml, hown, hts⟩
  have hS : va_S A s.heap s.heap [] := va_S.rf
  have hl : lv_has ls 3 [(0, .ref (a 0)), (1, .int x1), (2, .int x2)] := hl
  unfold F_Rc_hold at hf
  refine lv_aload_n hx hb d_Rc_hold_0 rfl (lv_at hl 0 rfl) ?_
  refine rg_Rc_holders S hok hP (hts _ k_fl_Rc_15) d_Rc_hold_1 ?_
  refine lv_iload_n hx hb d_Rc_hold_4 rfl (lv_at hl 1 rfl) ?_
  refine lv_dup2_11 hx hb d_Rc_hold_5 rfl rfl ?_
  obtain ⟨hin, hf⟩ := hf
  refine rl_Rc_holders S hok hP hin d_Rc_hold_6 ?_
  refine lv_iload_n hx hb d_Rc_hold_7 rfl (lv_at hl 2 rfl) ?_
  refine lv_iadd hx hb d_Rc_hold_8 ?_
  obtain ⟨hin, hf⟩ := hf
  refine rs_Rc_holders S hok hwr hP hD hS hin d_Rc_hold_9 (fun σ1 H locs hσ1 hP hD hS => ?_)
  have hf := hf σ1 hσ1
  exact hend _ _ _ _ _ d_Rc_hold_10 hf hP hD hS
abbrev rm_Rc_isWanted : Room := { frames := 10, cells := 0, slots := 0, locals := 200 }
set_option maxRecDepth 100000 in
set_option maxHeartbeats 4000000 in
theorem c_Rc_isWanted (l : Launch) (D : va_G) (cI : ClassId) (a : Nat → Nat) (wr : St → va_W) (hwr : Fx 11 wr) (x1 : Int32) (σ : St) (Q : Int32 → St → Prop) (hf : F_Rc_isWanted x1 σ Q) : Ci l y_Rc_isWanted (.code y_Rc_isWanted b_Rc_isWanted 3 (some .boolean)) rm_Rc_isWanted D cI [.ref (a 0), .int x1] (wRc cI a wr) σ Q := by
  refine Ci.of (by decide +kernel) (Nat.le_of_ble_eq_true rfl) ?_
  intro p e s m below meth c ls A Z hx hb hml hown hts hok hP hD hA hl hend
  have S : CallFix p m c b_Rc_isWanted 3 s ([.ref (a 0), .int x1] : List Value).toArray lwg "PropertyTrie$Records" := ⟨hx, hb, hml, hown, hts⟩
  have hS : va_S A s.heap s.heap [] := va_S.rf
  have hl : lv_has ls 3 [(0, .ref (a 0)), (1, .int x1)] := hl
  unfold F_Rc_isWanted at hf
  have lab2 : ∀ (v1 v2 : Int32) (σ : St) (H : Heap) (locs : List Loc) (ls : Array Slot), F_Rc_isWanted_L2 v1 v2 σ Q → va_P D classes (wRc cI a wr σ) H → va_D A (wRc cI a wr σ) → va_S A s.heap H locs → lv_has ls 3 [(0, .ref (a 0)), (1, .int v1), (2, .int v2)] → W p l e rm_Rc_isWanted s m ([.ref (a 0), .int x1] : List Value).toArray below meth c H locs 0 0 Z (F0 m 2 ls []) := by
    intro v1 v2 σ H locs ls hf hP hD hS hl
    unfold F_Rc_isWanted_L2 at hf
    obtain ⟨I2, m2, h0, hst2⟩ := hf
    have lp2 : ∀ (n : Nat) (v2 : Int32) (σ : St) (H : Heap) (locs : List Loc) (ls : Array Slot), m2 v2 σ = n → I2 v2 σ → va_P D classes (wRc cI a wr σ) H → va_D A (wRc cI a wr σ) → va_S A s.heap H locs → lv_has ls 3 [(0, .ref (a 0)), (1, .int v1), (2, .int v2)] → W p l e rm_Rc_isWanted s m ([.ref (a 0), .int x1] : List Value).toArray below meth c H locs 0 0 Z (F0 m 2 ls []) := by
      intro n2
      induction n2 using Nat.strongRecOn with
      | _ n2 ih2 =>
        intro v2 σ H locs ls hn hI hP hD hS hl
        have hf := hst2 v2 σ n2 hI hn
        refine lv_iload_n hx hb d_Rc_isWanted_2 rfl (lv_at hl 2 rfl) ?_
        refine lv_bipush (v := (8 : Int32)) hx hb d_Rc_isWanted_3 (by decide) ?_
        refine lv_icmp_ge hx hb d_Rc_isWanted_5 rfl (fun hc => ?_) (fun hc => ?_)
        · have hf := hf.1 hc
          refine lv_iconst (v := (1 : Int32)) hx hb d_Rc_isWanted_36 (by decide) ?_
          exact hend _ _ _ _ _ _ d_Rc_isWanted_37 rfl hf hP hD hS
        · have hf := hf.2 hc
          refine lv_aload_n hx hb d_Rc_isWanted_8 rfl (lv_at hl 0 rfl) ?_
          refine rg_Rc_values S hok hP (hts _ k_fl_Rc_11) d_Rc_isWanted_9 ?_
          refine lv_iload_n hx hb d_Rc_isWanted_12 rfl (lv_at hl 1 rfl) ?_
          refine lv_bipush (v := (8 : Int32)) hx hb d_Rc_isWanted_13 (by decide) ?_
          refine lv_imul hx hb d_Rc_isWanted_15 ?_
          refine lv_iload_n hx hb d_Rc_isWanted_16 rfl (lv_at hl 2 rfl) ?_
          refine lv_iadd hx hb d_Rc_isWanted_17 ?_
          obtain ⟨hin, hf⟩ := hf
          refine rl_Rc_values S hok hP hin d_Rc_isWanted_18 ?_
          refine lv_aload_n hx hb d_Rc_isWanted_19 rfl (lv_at hl 0 rfl) ?_
          refine rg_Rc_wanted S hok hP (hts _ k_fl_Rc_30) d_Rc_isWanted_20 ?_
          refine lv_iload_n hx hb d_Rc_isWanted_23 rfl (lv_at hl 2 rfl) ?_
          obtain ⟨hin, hf⟩ := hf
          refine rl_Rc_wanted S hok hP hin d_Rc_isWanted_24 ?_
          refine lv_icmp_eq hx hb d_Rc_isWanted_25 rfl (fun hc => ?_) (fun hc => ?_)
          · have hf := hf.1 hc
            obtain ⟨z1, hz1⟩ : ∃ z1 : Int32, z1 = v2 + (1 : Int32) := ⟨_, rfl⟩
            have hf := hf z1 hz1
            refine lv_iinc (k := 2) (v := z1) hx hb d_Rc_isWanted_30 hl rfl (by rw [hz1]; rfl) (by decide) rfl (fun ls hl => ?_)
            have hl : lv_has ls 3 [(2, .int z1), (0, .ref (a 0)), (1, .int v1)] := hl
            refine lv_goto hx hb d_Rc_isWanted_33 rfl ?_
            exact ih2 _ hf.2 _ _ _ _ _ rfl hf.1 hP hD hS (lv_sub hl [1, 2, 0] rfl)
          · have hf := hf.2 hc
            refine lv_iconst (v := (0 : Int32)) hx hb d_Rc_isWanted_28 (by decide) ?_
            exact hend _ _ _ _ _ _ d_Rc_isWanted_29 rfl hf hP hD hS
    exact lp2 _ v2 σ H locs ls rfl h0 hP hD hS hl
  refine lv_iconst (v := (0 : Int32)) hx hb d_Rc_isWanted_0 (by decide) ?_
  refine lv_topi (fun z2 hz2 => ?_)
  have hf := hf z2 hz2
  refine lv_istore_n hx hb d_Rc_isWanted_1 rfl hl (by decide) rfl (fun ls hl => ?_)
  have hl : lv_has ls 3 [(2, .int z2), (0, .ref (a 0)), (1, .int x1)] := hl
  exact lab2 _ _ _ _ _ _ hf hP hD hS (lv_sub hl [1, 2, 0] rfl)
abbrev rm_Rc_findWanted : Room := { frames := 20, cells := 0, slots := 0, locals := 400 }
set_option maxRecDepth 100000 in
set_option maxHeartbeats 4000000 in
theorem c_Rc_findWanted (l : Launch) (D : va_G) (cI : ClassId) (a : Nat → Nat) (wr : St → va_W) (hwr : Fx 11 wr) (x1 : Int32) (σ : St) (Q : Int32 → St → Prop) (hf : F_Rc_findWanted x1 σ Q) : Ci l y_Rc_findWanted (.code y_Rc_findWanted b_Rc_findWanted 4 (some .int)) rm_Rc_findWanted D cI [.ref (a 0), .int x1] (wRc cI a wr) σ Q := by
  refine Ci.of (by decide +kernel) (Nat.le_of_ble_eq_true rfl) ?_
  intro p e s m below meth c ls A Z hx hb hml hown hts hok hP hD hA hl hend
  have S : CallFix p m c b_Rc_findWanted 4 s ([.ref (a 0), .int x1] : List Value).toArray lwg "PropertyTrie$Records" := ⟨hx, hb, hml, hown, hts⟩
  have hS : va_S A s.heap s.heap [] := va_S.rf
  have hl : lv_has ls 4 [(0, .ref (a 0)), (1, .int x1)] := hl
  unfold F_Rc_findWanted at hf
  have lab9 : ∀ (v2 v3 : Int32) (σ : St) (H : Heap) (locs : List Loc) (ls : Array Slot), F_Rc_findWanted_L9 v2 v3 σ Q → va_P D classes (wRc cI a wr σ) H → va_D A (wRc cI a wr σ) → va_S A s.heap H locs → lv_has ls 4 [(0, .ref (a 0)), (2, .int v2), (3, .int v3)] → W p l e rm_Rc_findWanted s m ([.ref (a 0), .int x1] : List Value).toArray below meth c H locs 0 0 Z (F0 m 9 ls []) := by
    intro v2 v3 σ H locs ls hf hP hD hS hl
    unfold F_Rc_findWanted_L9 at hf
    obtain ⟨I9, m9, h0, hst9⟩ := hf
    have lp9 : ∀ (n : Nat) (v2 v3 : Int32) (σ : St) (H : Heap) (locs : List Loc) (ls : Array Slot), m9 v2 v3 σ = n → I9 v2 v3 σ → va_P D classes (wRc cI a wr σ) H → va_D A (wRc cI a wr σ) → va_S A s.heap H locs → lv_has ls 4 [(0, .ref (a 0)), (2, .int v2), (3, .int v3)] → W p l e rm_Rc_findWanted s m ([.ref (a 0), .int x1] : List Value).toArray below meth c H locs 0 0 Z (F0 m 9 ls []) := by
      intro n9
      induction n9 using Nat.strongRecOn with
      | _ n9 ih9 =>
        intro v2 v3 σ H locs ls hn hI hP hD hS hl
        have hf := hst9 v2 v3 σ n9 hI hn
        refine lv_iload_n hx hb d_Rc_findWanted_9 rfl (lv_at hl 2 rfl) ?_
        refine lv_sipush (v := (1028 : Int32)) hx hb d_Rc_findWanted_10 (by decide) ?_
        refine lv_icmp_ge hx hb d_Rc_findWanted_13 rfl (fun hc => ?_) (fun hc => ?_)
        · have hf := hf.1 hc
          refine lv_iconst (v := (-1 : Int32)) hx hb d_Rc_findWanted_44 (by decide) ?_
          exact hend _ _ _ _ _ _ d_Rc_findWanted_45 rfl hf hP hD hS
        · have hf := hf.2 hc
          refine lv_iload_n hx hb d_Rc_findWanted_16 rfl (lv_at hl 1 rfl) ?_
          refine lv_iconst (v := (-1 : Int32)) hx hb d_Rc_findWanted_17 (by decide) ?_
          refine lv_icmp_eq hx hb d_Rc_findWanted_18 rfl (fun hc => ?_) (fun hc => ?_)
          · have hf := hf.1 hc
            refine lv_iconst (v := (-1 : Int32)) hx hb d_Rc_findWanted_44 (by decide) ?_
            exact hend _ _ _ _ _ _ d_Rc_findWanted_45 rfl hf hP hD hS
          · have hf := hf.2 hc
            refine lv_aload_n hx hb d_Rc_findWanted_21 rfl (lv_at hl 0 rfl) ?_
            refine lv_iload_n hx hb d_Rc_findWanted_22 rfl (lv_at hl 1 rfl) ?_
            refine r_callVi (As := [.int v2]) (rest := []) (n := 1) (q0 := 0) S hok (c_Rc_isWanted l D cI a wr hwr _ _ _ hf) k_ml_Rc_80 k_im_Rc_isWanted k_sel_Rc_isWanted k_ini_Rc k_code_Rc_isWanted rfl rfl (by decide +kernel) ⟨by decide, by decide⟩ rfl rfl hP hD hS hA (Nat.zero_le _) (Nat.zero_le _) hl.1 rfl rfl (Nat.le_of_ble_eq_true rfl) d_Rc_findWanted_23 (fun r2 σ1 H locs hf hP hD hS => ?_)
            have hP : va_P D classes (wRc cI a wr σ1) H := hP
            have hD : va_D A (wRc cI a wr σ1) := hD
            refine lv_if_eq hx hb d_Rc_findWanted_26 rfl (fun hc => ?_) (fun hc => ?_)
            · have hf := hf.1 hc
              refine lv_aload_n hx hb d_Rc_findWanted_31 rfl (lv_at hl 0 rfl) ?_
              refine rg_Rc_behind S hok hP (hts _ k_fl_Rc_24) d_Rc_findWanted_32 ?_
              refine lv_iload_n hx hb d_Rc_findWanted_35 rfl (lv_at hl 1 rfl) ?_
              obtain ⟨hin, hf⟩ := hf
              refine rl_Rc_behind S hok hP hin d_Rc_findWanted_36 ?_
              refine lv_topi (fun z3 hz3 => ?_)
              have hf := hf z3 hz3
              refine lv_istore_n hx hb d_Rc_findWanted_37 rfl hl (by decide) rfl (fun ls hl => ?_)
              have hl : lv_has ls 4 [(2, .int z3), (0, .ref (a 0)), (3, .int v3)] := hl
              obtain ⟨z4, hz4⟩ : ∃ z4 : Int32, z4 = v3 + (1 : Int32) := ⟨_, rfl⟩
              have hf := hf z4 hz4
              refine lv_iinc (k := 2) (v := z4) hx hb d_Rc_findWanted_38 hl rfl (by rw [hz4]; rfl) (by decide) rfl (fun ls hl => ?_)
              have hl : lv_has ls 4 [(3, .int z4), (2, .int z3), (0, .ref (a 0))] := hl
              refine lv_goto hx hb d_Rc_findWanted_41 rfl ?_
              exact ih9 _ hf.2 _ _ _ _ _ _ rfl hf.1 hP hD hS (lv_sub hl [2, 1, 0] rfl)
            · have hf := hf.2 hc
              refine lv_iload_n hx hb d_Rc_findWanted_29 rfl (lv_at hl 1 rfl) ?_
              exact hend _ _ _ _ _ _ d_Rc_findWanted_30 rfl hf hP hD hS
    exact lp9 _ v2 v3 σ H locs ls rfl h0 hP hD hS hl
  refine lv_aload_n hx hb d_Rc_findWanted_0 rfl (lv_at hl 0 rfl) ?_
  refine rg_Rc_heads S hok hP (hts _ k_fl_Rc_21) d_Rc_findWanted_1 ?_
  refine lv_iload_n hx hb d_Rc_findWanted_4 rfl (lv_at hl 1 rfl) ?_
  obtain ⟨hin, hf⟩ := hf
  refine rl_Rc_heads S hok hP hin d_Rc_findWanted_5 ?_
  refine lv_topi (fun z5 hz5 => ?_)
  have hf := hf z5 hz5
  refine lv_istore_n hx hb d_Rc_findWanted_6 rfl hl (by decide) rfl (fun ls hl => ?_)
  have hl : lv_has ls 4 [(2, .int z5), (0, .ref (a 0)), (1, .int x1)] := hl
  refine lv_iconst (v := (0 : Int32)) hx hb d_Rc_findWanted_7 (by decide) ?_
  refine lv_topi (fun z6 hz6 => ?_)
  have hf := hf z6 hz6
  refine lv_istore_n hx hb d_Rc_findWanted_8 rfl hl (by decide) rfl (fun ls hl => ?_)
  have hl : lv_has ls 4 [(3, .int z6), (2, .int z5), (0, .ref (a 0)), (1, .int x1)] := hl
  exact lab9 _ _ _ _ _ _ hf hP hD hS (lv_sub hl [2, 1, 0] rfl)
abbrev rm_Rc_keepWanted : Room := { frames := 10, cells := 0, slots := 0, locals := 200 }
set_option maxRecDepth 100000 in
set_option maxHeartbeats 4000000 in
theorem c_Rc_keepWanted (l : Launch) (D : va_G) (cI : ClassId) (a : Nat → Nat) (wr : St → va_W) (hwr : Fx 11 wr) (x1 : Int32) (σ : St) (Q : Int32 → St → Prop) (hf : F_Rc_keepWanted x1 σ Q) : Ci l y_Rc_keepWanted (.code y_Rc_keepWanted b_Rc_keepWanted 3 (some .int)) rm_Rc_keepWanted D cI [.ref (a 0), .int x1] (wRc cI a wr) σ Q := by
  refine Ci.of (by decide +kernel) (Nat.le_of_ble_eq_true rfl) ?_
  intro p e s m below meth c ls A Z hx hb hml hown hts hok hP hD hA hl hend
  have S : CallFix p m c b_Rc_keepWanted 3 s ([.ref (a 0), .int x1] : List Value).toArray lwg "PropertyTrie$Records" := ⟨hx, hb, hml, hown, hts⟩
  have hS : va_S A s.heap s.heap [] := va_S.rf
  have hl : lv_has ls 3 [(0, .ref (a 0)), (1, .int x1)] := hl
  unfold F_Rc_keepWanted at hf
  refine lv_aload_n hx hb d_Rc_keepWanted_0 rfl (lv_at hl 0 rfl) ?_
  refine lv_dup hx hb d_Rc_keepWanted_1 rfl ?_
  refine rg_Rc_spares S hok hP (hts _ k_fl_Rc_42) d_Rc_keepWanted_2 ?_
  refine lv_iconst (v := (1 : Int32)) hx hb d_Rc_keepWanted_5 (by decide) ?_
  refine lv_isub hx hb d_Rc_keepWanted_6 ?_
  refine rp_Rc_spares S hok hwr hP hD hS (hts _ k_fl_Rc_42) d_Rc_keepWanted_7 (fun σ1 H locs hσ1 hP hD hS => ?_)
  have hf := hf σ1 hσ1
  refine lv_aload_n hx hb d_Rc_keepWanted_10 rfl (lv_at hl 0 rfl) ?_
  refine rg_Rc_spareRecords S hok hP (hts _ k_fl_Rc_18) d_Rc_keepWanted_11 ?_
  refine lv_aload_n hx hb d_Rc_keepWanted_14 rfl (lv_at hl 0 rfl) ?_
  refine rg_Rc_spares S hok hP (hts _ k_fl_Rc_42) d_Rc_keepWanted_15 ?_
  obtain ⟨hin, hf⟩ := hf
  refine rl_Rc_spareRecords S hok hP hin d_Rc_keepWanted_18 ?_
  refine lv_topi (fun z2 hz2 => ?_)
  have hf := hf z2 hz2
  refine lv_istore_n hx hb d_Rc_keepWanted_19 rfl hl (by decide) rfl (fun ls hl => ?_)
  have hl : lv_has ls 3 [(2, .int z2), (0, .ref (a 0)), (1, .int x1)] := hl
  refine lv_aload_n hx hb d_Rc_keepWanted_20 rfl (lv_at hl 1 rfl) ?_
  refine rg_Rc_wanted S hok hP (hts _ k_fl_Rc_30) d_Rc_keepWanted_21 ?_
  refine lv_iconst (v := (0 : Int32)) hx hb d_Rc_keepWanted_24 (by decide) ?_
  refine lv_aload_n hx hb d_Rc_keepWanted_25 rfl (lv_at hl 1 rfl) ?_
  refine rg_Rc_values S hok hP (hts _ k_fl_Rc_11) d_Rc_keepWanted_26 ?_
  refine lv_iload_n hx hb d_Rc_keepWanted_29 rfl (lv_at hl 0 rfl) ?_
  refine lv_bipush (v := (8 : Int32)) hx hb d_Rc_keepWanted_30 (by decide) ?_
  refine lv_imul hx hb d_Rc_keepWanted_32 ?_
  refine lv_bipush (v := (8 : Int32)) hx hb d_Rc_keepWanted_33 (by decide) ?_
  obtain ⟨h1, h2, h3, h4, h5, hf⟩ := hf
  refine rc_Rc_wanted_values S hok hwr hP hD hS (hts _ k_ml_Rc_71) (hml.trans hl.1.symm) h1 h2 h3 h4 h5 (Nat.le_of_ble_eq_true rfl) (Nat.le_of_ble_eq_true rfl) d_Rc_keepWanted_35 (fun σ3 H locs hσ3 hP hD hS => ?_)
  have hf := hf σ3 hσ3
  refine lv_aload_n hx hb d_Rc_keepWanted_38 rfl (lv_at hl 1 rfl) ?_
  refine rg_Rc_behind S hok hP (hts _ k_fl_Rc_24) d_Rc_keepWanted_39 ?_
  refine lv_iload_n hx hb d_Rc_keepWanted_42 rfl (lv_at hl 0 rfl) ?_
  refine lv_aload_n hx hb d_Rc_keepWanted_43 rfl (lv_at hl 1 rfl) ?_
  refine rg_Rc_heads S hok hP (hts _ k_fl_Rc_21) d_Rc_keepWanted_44 ?_
  refine lv_iload_n hx hb d_Rc_keepWanted_47 rfl (lv_at hl 2 rfl) ?_
  obtain ⟨hin, hf⟩ := hf
  refine rl_Rc_heads S hok hP hin d_Rc_keepWanted_48 ?_
  obtain ⟨hin, hf⟩ := hf
  refine rs_Rc_behind S hok hwr hP hD hS hin d_Rc_keepWanted_49 (fun σ4 H locs hσ4 hP hD hS => ?_)
  have hf := hf σ4 hσ4
  refine lv_aload_n hx hb d_Rc_keepWanted_50 rfl (lv_at hl 1 rfl) ?_
  refine rg_Rc_heads S hok hP (hts _ k_fl_Rc_21) d_Rc_keepWanted_51 ?_
  refine lv_iload_n hx hb d_Rc_keepWanted_54 rfl (lv_at hl 2 rfl) ?_
  refine lv_iload_n hx hb d_Rc_keepWanted_55 rfl (lv_at hl 0 rfl) ?_
  obtain ⟨hin, hf⟩ := hf
  refine rs_Rc_heads S hok hwr hP hD hS hin d_Rc_keepWanted_56 (fun σ5 H locs hσ5 hP hD hS => ?_)
  have hf := hf σ5 hσ5
  refine lv_iload_n hx hb d_Rc_keepWanted_57 rfl (lv_at hl 0 rfl) ?_
  exact hend _ _ _ _ _ _ d_Rc_keepWanted_58 rfl hf hP hD hS
abbrev rm_Rc_drop : Room := { frames := 20, cells := 0, slots := 0, locals := 400 }
set_option maxRecDepth 100000 in
set_option maxHeartbeats 4000000 in
theorem c_Rc_drop (l : Launch) (D : va_G) (cI : ClassId) (a : Nat → Nat) (wr : St → va_W) (hwr : Fx 11 wr) (x1 : Int32) (σ : St) (Q : St → Prop) (hf : F_Rc_drop x1 σ Q) : Cv l y_Rc_drop (.code y_Rc_drop b_Rc_drop 6 none) rm_Rc_drop D cI [.ref (a 0), .int x1] (wRc cI a wr) σ Q := by
  refine Cv.of (by decide +kernel) (Nat.le_of_ble_eq_true rfl) ?_
  intro p e s m below meth c ls A Z hx hb hml hown hts hok hP hD hA hl hend
  have S : CallFix p m c b_Rc_drop 6 s ([.ref (a 0), .int x1] : List Value).toArray lwg "PropertyTrie$Records" := ⟨hx, hb, hml, hown, hts⟩
  have hS : va_S A s.heap s.heap [] := va_S.rf
  have hl : lv_has ls 6 [(0, .ref (a 0)), (1, .int x1)] := hl
  unfold F_Rc_drop at hf
  have lab95 : ∀ (v1 : Int32) (σ : St) (H : Heap) (locs : List Loc) (ls : Array Slot), F_Rc_drop_J95 v1 σ Q → va_P D classes (wRc cI a wr σ) H → va_D A (wRc cI a wr σ) → va_S A s.heap H locs → lv_has ls 6 [(0, .ref (a 0)), (1, .int v1)] → W p l e rm_Rc_drop s m ([.ref (a 0), .int x1] : List Value).toArray below meth c H locs 0 0 Z (F0 m 95 ls []) := by
    intro v1 σ H locs ls hf hP hD hS hl
    unfold F_Rc_drop_J95 at hf
    refine lv_aload_n hx hb d_Rc_drop_95 rfl (lv_at hl 0 rfl) ?_
    refine rg_Rc_spareRecords S hok hP (hts _ k_fl_Rc_18) d_Rc_drop_96 ?_
    refine lv_aload_n hx hb d_Rc_drop_99 rfl (lv_at hl 0 rfl) ?_
    refine rg_Rc_spares S hok hP (hts _ k_fl_Rc_42) d_Rc_drop_100 ?_
    refine lv_iload_n hx hb d_Rc_drop_103 rfl (lv_at hl 1 rfl) ?_
    obtain ⟨hin, hf⟩ := hf
    refine rs_Rc_spareRecords S hok hwr hP hD hS hin d_Rc_drop_104 (fun σ1 H locs hσ1 hP hD hS => ?_)
    have hf := hf σ1 hσ1
    refine lv_aload_n hx hb d_Rc_drop_105 rfl (lv_at hl 0 rfl) ?_
    refine lv_dup hx hb d_Rc_drop_106 rfl ?_
    refine rg_Rc_spares S hok hP (hts _ k_fl_Rc_42) d_Rc_drop_107 ?_
    refine lv_iconst (v := (1 : Int32)) hx hb d_Rc_drop_110 (by decide) ?_
    refine lv_iadd hx hb d_Rc_drop_111 ?_
    refine rp_Rc_spares S hok hwr hP hD hS (hts _ k_fl_Rc_42) d_Rc_drop_112 (fun σ2 H locs hσ2 hP hD hS => ?_)
    have hf := hf σ2 hσ2
    exact hend _ _ _ _ _ d_Rc_drop_115 hf hP hD hS
  have lab63 : ∀ (v1 v2 v3 : Int32) (σ : St) (H : Heap) (locs : List Loc) (ls : Array Slot), F_Rc_drop_J63 v1 v2 v3 σ Q → va_P D classes (wRc cI a wr σ) H → va_D A (wRc cI a wr σ) → va_S A s.heap H locs → lv_has ls 6 [(0, .ref (a 0)), (1, .int v1), (2, .int v2), (3, .int v3)] → W p l e rm_Rc_drop s m ([.ref (a 0), .int x1] : List Value).toArray below meth c H locs 0 0 Z (F0 m 63 ls []) := by
    intro v1 v2 v3 σ H locs ls hf hP hD hS hl
    unfold F_Rc_drop_J63 at hf
    refine lv_iload_n hx hb d_Rc_drop_63 rfl (lv_at hl 3 rfl) ?_
    refine lv_iconst (v := (-1 : Int32)) hx hb d_Rc_drop_64 (by decide) ?_
    refine lv_icmp_ne hx hb d_Rc_drop_65 rfl (fun hc => ?_) (fun hc => ?_)
    · have hf := hf.2 hc
      refine lv_aload_n hx hb d_Rc_drop_83 rfl (lv_at hl 0 rfl) ?_
      refine rg_Rc_behind S hok hP (hts _ k_fl_Rc_24) d_Rc_drop_84 ?_
      refine lv_iload_n hx hb d_Rc_drop_87 rfl (lv_at hl 3 rfl) ?_
      refine lv_aload_n hx hb d_Rc_drop_88 rfl (lv_at hl 0 rfl) ?_
      refine rg_Rc_behind S hok hP (hts _ k_fl_Rc_24) d_Rc_drop_89 ?_
      refine lv_iload_n hx hb d_Rc_drop_92 rfl (lv_at hl 1 rfl) ?_
      obtain ⟨hin, hf⟩ := hf
      refine rl_Rc_behind S hok hP hin d_Rc_drop_93 ?_
      obtain ⟨hin, hf⟩ := hf
      refine rs_Rc_behind S hok hwr hP hD hS hin d_Rc_drop_94 (fun σ3 H locs hσ3 hP hD hS => ?_)
      have hf := hf σ3 hσ3
      exact lab95 _ _ _ _ _ hf hP hD hS (lv_sub hl [0, 1] rfl)
    · have hf := hf.1 hc
      refine lv_aload_n hx hb d_Rc_drop_68 rfl (lv_at hl 0 rfl) ?_
      refine rg_Rc_heads S hok hP (hts _ k_fl_Rc_21) d_Rc_drop_69 ?_
      refine lv_iload_n hx hb d_Rc_drop_72 rfl (lv_at hl 2 rfl) ?_
      refine lv_aload_n hx hb d_Rc_drop_73 rfl (lv_at hl 0 rfl) ?_
      refine rg_Rc_behind S hok hP (hts _ k_fl_Rc_24) d_Rc_drop_74 ?_
      refine lv_iload_n hx hb d_Rc_drop_77 rfl (lv_at hl 1 rfl) ?_
      obtain ⟨hin, hf⟩ := hf
      refine rl_Rc_behind S hok hP hin d_Rc_drop_78 ?_
      obtain ⟨hin, hf⟩ := hf
      refine rs_Rc_heads S hok hwr hP hD hS hin d_Rc_drop_79 (fun σ4 H locs hσ4 hP hD hS => ?_)
      have hf := hf σ4 hσ4
      refine lv_goto hx hb d_Rc_drop_80 rfl ?_
      exact lab95 _ _ _ _ _ hf hP hD hS (lv_sub hl [0, 1] rfl)
  have lab25 : ∀ (v1 v2 v3 v4 v5 : Int32) (σ : St) (H : Heap) (locs : List Loc) (ls : Array Slot), F_Rc_drop_L25 v1 v2 v3 v4 v5 σ Q → va_P D classes (wRc cI a wr σ) H → va_D A (wRc cI a wr σ) → va_S A s.heap H locs → lv_has ls 6 [(0, .ref (a 0)), (1, .int v1), (2, .int v2), (3, .int v3), (4, .int v4), (5, .int v5)] → W p l e rm_Rc_drop s m ([.ref (a 0), .int x1] : List Value).toArray below meth c H locs 0 0 Z (F0 m 25 ls []) := by
    intro v1 v2 v3 v4 v5 σ H locs ls hf hP hD hS hl
    unfold F_Rc_drop_L25 at hf
    obtain ⟨I25, m25, h0, hst25⟩ := hf
    have lp25 : ∀ (n : Nat) (v3 v4 v5 : Int32) (σ : St) (H : Heap) (locs : List Loc) (ls : Array Slot), m25 v3 v4 v5 σ = n → I25 v3 v4 v5 σ → va_P D classes (wRc cI a wr σ) H → va_D A (wRc cI a wr σ) → va_S A s.heap H locs → lv_has ls 6 [(0, .ref (a 0)), (1, .int v1), (2, .int v2), (3, .int v3), (4, .int v4), (5, .int v5)] → W p l e rm_Rc_drop s m ([.ref (a 0), .int x1] : List Value).toArray below meth c H locs 0 0 Z (F0 m 25 ls []) := by
      intro n25
      induction n25 using Nat.strongRecOn with
      | _ n25 ih25 =>
        intro v3 v4 v5 σ H locs ls hn hI hP hD hS hl
        have hf := hst25 v3 v4 v5 σ n25 hI hn
        refine lv_iload hx hb d_Rc_drop_25 (lv_at hl 5 rfl) ?_
        refine lv_sipush (v := (1028 : Int32)) hx hb d_Rc_drop_27 (by decide) ?_
        refine lv_icmp_ge hx hb d_Rc_drop_30 rfl (fun hc => ?_) (fun hc => ?_)
        · have hf := hf.1 hc
          exact lab63 _ _ _ _ _ _ _ hf hP hD hS (lv_sub hl [0, 1, 2, 3] rfl)
        · have hf := hf.2 hc
          refine lv_iload hx hb d_Rc_drop_33 (lv_at hl 4 rfl) ?_
          refine lv_iconst (v := (-1 : Int32)) hx hb d_Rc_drop_35 (by decide) ?_
          refine lv_icmp_eq hx hb d_Rc_drop_36 rfl (fun hc => ?_) (fun hc => ?_)
          · have hf := hf.1 hc
            exact lab63 _ _ _ _ _ _ _ hf hP hD hS (lv_sub hl [0, 1, 2, 3] rfl)
          · have hf := hf.2 hc
            refine lv_iload hx hb d_Rc_drop_39 (lv_at hl 4 rfl) ?_
            refine lv_iload_n hx hb d_Rc_drop_41 rfl (lv_at hl 1 rfl) ?_
            refine lv_icmp_eq hx hb d_Rc_drop_42 rfl (fun hc => ?_) (fun hc => ?_)
            · have hf := hf.1 hc
              exact lab63 _ _ _ _ _ _ _ hf hP hD hS (lv_sub hl [0, 1, 2, 3] rfl)
            · have hf := hf.2 hc
              refine lv_iload hx hb d_Rc_drop_45 (lv_at hl 4 rfl) ?_
              refine lv_istore_n hx hb d_Rc_drop_47 rfl hl (by decide) rfl (fun ls hl => ?_)
              have hl : lv_has ls 6 [(3, .int v4), (0, .ref (a 0)), (1, .int v1), (2, .int v2), (4, .int v4), (5, .int v5)] := hl
              refine lv_aload_n hx hb d_Rc_drop_48 rfl (lv_at hl 1 rfl) ?_
              refine rg_Rc_behind S hok hP (hts _ k_fl_Rc_24) d_Rc_drop_49 ?_
              refine lv_iload hx hb d_Rc_drop_52 (lv_at hl 4 rfl) ?_
              obtain ⟨hin, hf⟩ := hf
              refine rl_Rc_behind S hok hP hin d_Rc_drop_54 ?_
              refine lv_topi (fun z5 hz5 => ?_)
              have hf := hf z5 hz5
              refine lv_istore hx hb d_Rc_drop_55 hl (by decide) rfl (fun ls hl => ?_)
              have hl : lv_has ls 6 [(4, .int z5), (3, .int v4), (0, .ref (a 0)), (1, .int v1), (2, .int v2), (5, .int v5)] := hl
              obtain ⟨z6, hz6⟩ : ∃ z6 : Int32, z6 = v5 + (1 : Int32) := ⟨_, rfl⟩
              have hf := hf z6 hz6
              refine lv_iinc (k := 5) (v := z6) hx hb d_Rc_drop_57 hl rfl (by rw [hz6]; rfl) (by decide) rfl (fun ls hl => ?_)
              have hl : lv_has ls 6 [(5, .int z6), (4, .int z5), (3, .int v4), (0, .ref (a 0)), (1, .int v1), (2, .int v2)] := hl
              refine lv_goto hx hb d_Rc_drop_60 rfl ?_
              exact ih25 _ hf.2 _ _ _ _ _ _ _ rfl hf.1 hP hD hS (lv_sub hl [3, 4, 5, 2, 1, 0] rfl)
    exact lp25 _ v3 v4 v5 σ H locs ls rfl h0 hP hD hS hl
  refine lv_aload_n hx hb d_Rc_drop_0 rfl (lv_at hl 0 rfl) ?_
  refine rg_Rc_values S hok hP (hts _ k_fl_Rc_11) d_Rc_drop_1 ?_
  refine lv_iload_n hx hb d_Rc_drop_4 rfl (lv_at hl 1 rfl) ?_
  refine lv_bipush (v := (8 : Int32)) hx hb d_Rc_drop_5 (by decide) ?_
  refine lv_imul hx hb d_Rc_drop_7 ?_
  refine r_callSi (As := [.ref (a 1), .int (x1 * (8 : Int32))]) (rest := []) (n := 2) S hok (c_Rc_chainOf_values l D cI a wr hwr _ _ _ hf) k_ml_Rc_46 k_st_Rc_chainOf k_ini_Rc k_code_Rc_chainOf rfl rfl (by decide +kernel) ⟨by decide, by decide⟩ hP hD hS hA (Nat.zero_le _) (Nat.zero_le _) hl.1 rfl rfl (Nat.le_of_ble_eq_true rfl) d_Rc_drop_8 (fun r8 σ7 H locs hf hP hD hS => ?_)
  have hP : va_P D classes (wRc cI a wr σ7) H := hP
  have hD : va_D A (wRc cI a wr σ7) := hD
  refine lv_istore_n hx hb d_Rc_drop_11 rfl hl (by decide) rfl (fun ls hl => ?_)
  have hl : lv_has ls 6 [(2, .int r8), (0, .ref (a 0)), (1, .int x1)] := hl
  refine lv_iconst (v := (-1 : Int32)) hx hb d_Rc_drop_12 (by decide) ?_
  refine lv_topi (fun z9 hz9 => ?_)
  have hf := hf z9 hz9
  refine lv_istore_n hx hb d_Rc_drop_13 rfl hl (by decide) rfl (fun ls hl => ?_)
  have hl : lv_has ls 6 [(3, .int z9), (2, .int r8), (0, .ref (a 0)), (1, .int x1)] := hl
  refine lv_aload_n hx hb d_Rc_drop_14 rfl (lv_at hl 2 rfl) ?_
  refine rg_Rc_heads S hok hP (hts _ k_fl_Rc_21) d_Rc_drop_15 ?_
  refine lv_iload_n hx hb d_Rc_drop_18 rfl (lv_at hl 1 rfl) ?_
  obtain ⟨hin, hf⟩ := hf
  refine rl_Rc_heads S hok hP hin d_Rc_drop_19 ?_
  refine lv_topi (fun z10 hz10 => ?_)
  have hf := hf z10 hz10
  refine lv_istore hx hb d_Rc_drop_20 hl (by decide) rfl (fun ls hl => ?_)
  have hl : lv_has ls 6 [(4, .int z10), (3, .int z9), (2, .int r8), (0, .ref (a 0)), (1, .int x1)] := hl
  refine lv_iconst (v := (0 : Int32)) hx hb d_Rc_drop_22 (by decide) ?_
  refine lv_topi (fun z11 hz11 => ?_)
  have hf := hf z11 hz11
  refine lv_istore hx hb d_Rc_drop_23 hl (by decide) rfl (fun ls hl => ?_)
  have hl : lv_has ls 6 [(5, .int z11), (4, .int z10), (3, .int z9), (2, .int r8), (0, .ref (a 0)), (1, .int x1)] := hl
  exact lab25 _ _ _ _ _ _ _ _ _ hf hP hD hS (lv_sub hl [4, 5, 3, 2, 1, 0] rfl)
abbrev rm_Rc_release : Room := { frames := 30, cells := 0, slots := 0, locals := 600 }
set_option maxRecDepth 100000 in
set_option maxHeartbeats 4000000 in
theorem c_Rc_release (l : Launch) (D : va_G) (cI : ClassId) (a : Nat → Nat) (wr : St → va_W) (hwr : Fx 11 wr) (x1 : Int32) (x2 : Int32) (σ : St) (Q : St → Prop) (hf : F_Rc_release x1 x2 σ Q) : Cv l y_Rc_release (.code y_Rc_release b_Rc_release 3 none) rm_Rc_release D cI [.ref (a 0), .int x1, .int x2] (wRc cI a wr) σ Q := by
  refine Cv.of (by decide +kernel) (Nat.le_of_ble_eq_true rfl) ?_
  intro p e s m below meth c ls A Z hx hb hml hown hts hok hP hD hA hl hend
  have S : CallFix p m c b_Rc_release 3 s ([.ref (a 0), .int x1, .int x2] : List Value).toArray lwg "PropertyTrie$Records" := ⟨hx, hb, hml, hown, hts⟩
  have hS : va_S A s.heap s.heap [] := va_S.rf
  have hl : lv_has ls 3 [(0, .ref (a 0)), (1, .int x1), (2, .int x2)] := hl
  unfold F_Rc_release at hf
  refine lv_aload_n hx hb d_Rc_release_0 rfl (lv_at hl 0 rfl) ?_
  refine rg_Rc_holders S hok hP (hts _ k_fl_Rc_15) d_Rc_release_1 ?_
  refine lv_iload_n hx hb d_Rc_release_4 rfl (lv_at hl 1 rfl) ?_
  refine lv_dup2_11 hx hb d_Rc_release_5 rfl rfl ?_
  obtain ⟨hin, hf⟩ := hf
  refine rl_Rc_holders S hok hP hin d_Rc_release_6 ?_
  refine lv_iload_n hx hb d_Rc_release_7 rfl (lv_at hl 2 rfl) ?_
  refine lv_isub hx hb d_Rc_release_8 ?_
  obtain ⟨hin, hf⟩ := hf
  refine rs_Rc_holders S hok hwr hP hD hS hin d_Rc_release_9 (fun σ1 H locs hσ1 hP hD hS => ?_)
  have hf := hf σ1 hσ1
  refine lv_aload_n hx hb d_Rc_release_10 rfl (lv_at hl 0 rfl) ?_
  refine rg_Rc_holders S hok hP (hts _ k_fl_Rc_15) d_Rc_release_11 ?_
  refine lv_iload_n hx hb d_Rc_release_14 rfl (lv_at hl 1 rfl) ?_
  obtain ⟨hin, hf⟩ := hf
  refine rl_Rc_holders S hok hP hin d_Rc_release_15 ?_
  refine lv_if_ne hx hb d_Rc_release_16 rfl (fun hc => ?_) (fun hc => ?_)
  · have hf := hf.2 hc
    exact hend _ _ _ _ _ d_Rc_release_24 hf hP hD hS
  · have hf := hf.1 hc
    refine lv_aload_n hx hb d_Rc_release_19 rfl (lv_at hl 0 rfl) ?_
    refine lv_iload_n hx hb d_Rc_release_20 rfl (lv_at hl 1 rfl) ?_
    refine r_callVv (As := [.int x1]) (rest := []) (n := 1) (q0 := 0) S hok (c_Rc_drop l D cI a wr hwr _ _ _ hf) k_ml_Rc_58 k_im_Rc_drop k_sel_Rc_drop k_ini_Rc k_code_Rc_drop rfl rfl (by decide +kernel) ⟨by decide, by decide⟩ rfl rfl hP hD hS hA (Nat.zero_le _) (Nat.zero_le _) hl.1 rfl rfl (Nat.le_of_ble_eq_true rfl) d_Rc_release_21 (fun σ2 H locs hf hP hD hS => ?_)
    have hP : va_P D classes (wRc cI a wr σ2) H := hP
    have hD : va_D A (wRc cI a wr σ2) := hD
    exact hend _ _ _ _ _ d_Rc_release_24 hf hP hD hS
abbrev rm_Rc_begin : Room := { frames := 20, cells := 0, slots := 0, locals := 400 }
set_option maxRecDepth 100000 in
set_option maxHeartbeats 4000000 in
theorem c_Rc_begin (l : Launch) (D : va_G) (cI : ClassId) (a : Nat → Nat) (wr : St → va_W) (hwr : Fx 11 wr) (x1 : Int32) (x2 : Int32) (x3 : Int32) (σ : St) (Q : St → Prop) (hf : F_Rc_begin x1 x2 x3 σ Q) : Cv l y_Rc_begin (.code y_Rc_begin b_Rc_begin 4 none) rm_Rc_begin D cI [.ref (a 0), .int x1, .int x2, .int x3] (wRc cI a wr) σ Q := by
  refine Cv.of (by decide +kernel) (Nat.le_of_ble_eq_true rfl) ?_
  intro p e s m below meth c ls A Z hx hb hml hown hts hok hP hD hA hl hend
  have S : CallFix p m c b_Rc_begin 4 s ([.ref (a 0), .int x1, .int x2, .int x3] : List Value).toArray lwg "PropertyTrie$Records" := ⟨hx, hb, hml, hown, hts⟩
  have hS : va_S A s.heap s.heap [] := va_S.rf
  have hl : lv_has ls 4 [(0, .ref (a 0)), (1, .int x1), (2, .int x2), (3, .int x3)] := hl
  unfold F_Rc_begin at hf
  refine lv_aload_n hx hb d_Rc_begin_0 rfl (lv_at hl 0 rfl) ?_
  refine lv_iload_n hx hb d_Rc_begin_1 rfl (lv_at hl 1 rfl) ?_
  refine rp_Rc_field S hok hwr hP hD hS (hts _ k_fl_Rc_62) d_Rc_begin_2 (fun σ1 H locs hσ1 hP hD hS => ?_)
  have hf := hf σ1 hσ1
  refine lv_aload_n hx hb d_Rc_begin_5 rfl (lv_at hl 0 rfl) ?_
  refine lv_iload_n hx hb d_Rc_begin_6 rfl (lv_at hl 2 rfl) ?_
  refine rp_Rc_v S hok hwr hP hD hS (hts _ k_fl_Rc_65) d_Rc_begin_7 (fun σ2 H locs hσ2 hP hD hS => ?_)
  have hf := hf σ2 hσ2
  refine lv_aload_n hx hb d_Rc_begin_10 rfl (lv_at hl 0 rfl) ?_
  refine lv_iload_n hx hb d_Rc_begin_11 rfl (lv_at hl 3 rfl) ?_
  refine rp_Rc_kept S hok hwr hP hD hS (hts _ k_fl_Rc_68) d_Rc_begin_12 (fun σ3 H locs hσ3 hP hD hS => ?_)
  have hf := hf σ3 hσ3
  refine lv_aload_n hx hb d_Rc_begin_15 rfl (lv_at hl 0 rfl) ?_
  refine rg_Rc_outcome S hok hP (hts _ k_fl_Rc_27) d_Rc_begin_16 ?_
  refine lv_iconst (v := (-1 : Int32)) hx hb d_Rc_begin_19 (by decide) ?_
  refine r_callSv (As := [.ref (a 6), .int (-1 : Int32)]) (rest := []) (n := 2) S hok (c_Ar_fill2_outcome l D cI a wr hwr _ _ _ hf) k_ml_Rc_36 k_st_Ar_fill2 k_ini_Ar k_code_Ar_fill2 rfl rfl (by decide +kernel) ⟨by decide, by decide⟩ hP hD hS hA (Nat.zero_le _) (Nat.zero_le _) hl.1 rfl rfl (Nat.le_of_ble_eq_true rfl) d_Rc_begin_20 (fun σ4 H locs hf hP hD hS => ?_)
  have hP : va_P D classes (wRc cI a wr σ4) H := hP
  have hD : va_D A (wRc cI a wr σ4) := hD
  exact hend _ _ _ _ _ d_Rc_begin_23 hf hP hD hS
abbrev rm_Rc_altered : Room := { frames := 30, cells := 0, slots := 0, locals := 600 }
set_option maxRecDepth 100000 in
set_option maxHeartbeats 4000000 in
theorem c_Rc_altered (l : Launch) (D : va_G) (cI : ClassId) (a : Nat → Nat) (wr : St → va_W) (hwr : Fx 11 wr) (x1 : Int32) (σ : St) (Q : Int32 → St → Prop) (hf : F_Rc_altered x1 σ Q) : Ci l y_Rc_altered (.code y_Rc_altered b_Rc_altered 4 (some .int)) rm_Rc_altered D cI [.ref (a 0), .int x1] (wRc cI a wr) σ Q := by
  refine Ci.of (by decide +kernel) (Nat.le_of_ble_eq_true rfl) ?_
  intro p e s m below meth c ls A Z hx hb hml hown hts hok hP hD hA hl hend
  have S : CallFix p m c b_Rc_altered 4 s ([.ref (a 0), .int x1] : List Value).toArray lwg "PropertyTrie$Records" := ⟨hx, hb, hml, hown, hts⟩
  have hS : va_S A s.heap s.heap [] := va_S.rf
  have hl : lv_has ls 4 [(0, .ref (a 0)), (1, .int x1)] := hl
  unfold F_Rc_altered at hf
  have lab93 : ∀ (v1 v3 : Int32) (σ : St) (H : Heap) (locs : List Loc) (ls : Array Slot), F_Rc_altered_J93 v1 v3 σ Q → va_P D classes (wRc cI a wr σ) H → va_D A (wRc cI a wr σ) → va_S A s.heap H locs → lv_has ls 4 [(0, .ref (a 0)), (1, .int v1), (3, .int v3)] → W p l e rm_Rc_altered s m ([.ref (a 0), .int x1] : List Value).toArray below meth c H locs 0 0 Z (F0 m 93 ls []) := by
    intro v1 v3 σ H locs ls hf hP hD hS hl
    unfold F_Rc_altered_J93 at hf
    refine lv_aload_n hx hb d_Rc_altered_93 rfl (lv_at hl 0 rfl) ?_
    refine rg_Rc_outcome S hok hP (hts _ k_fl_Rc_27) d_Rc_altered_94 ?_
    refine lv_iload_n hx hb d_Rc_altered_97 rfl (lv_at hl 1 rfl) ?_
    refine lv_iload_n hx hb d_Rc_altered_98 rfl (lv_at hl 2 rfl) ?_
    obtain ⟨hin, hf⟩ := hf
    refine rs_Rc_outcome S hok hwr hP hD hS hin d_Rc_altered_99 (fun σ1 H locs hσ1 hP hD hS => ?_)
    have hf := hf σ1 hσ1
    refine lv_aload_n hx hb d_Rc_altered_100 rfl (lv_at hl 0 rfl) ?_
    refine rg_Rc_outcome S hok hP (hts _ k_fl_Rc_27) d_Rc_altered_101 ?_
    refine lv_iload_n hx hb d_Rc_altered_104 rfl (lv_at hl 1 rfl) ?_
    obtain ⟨hin, hf⟩ := hf
    refine rl_Rc_outcome S hok hP hin d_Rc_altered_105 ?_
    exact hend _ _ _ _ _ _ d_Rc_altered_106 rfl hf hP hD hS
  refine lv_aload_n hx hb d_Rc_altered_0 rfl (lv_at hl 0 rfl) ?_
  refine rg_Rc_outcome S hok hP (hts _ k_fl_Rc_27) d_Rc_altered_1 ?_
  refine lv_iload_n hx hb d_Rc_altered_4 rfl (lv_at hl 1 rfl) ?_
  obtain ⟨hin, hf⟩ := hf
  refine rl_Rc_outcome S hok hP hin d_Rc_altered_5 ?_
  refine lv_iconst (v := (-1 : Int32)) hx hb d_Rc_altered_6 (by decide) ?_
  refine lv_icmp_ne hx hb d_Rc_altered_7 rfl (fun hc => ?_) (fun hc => ?_)
  · have hf := hf.2 hc
    refine lv_aload_n hx hb d_Rc_altered_100 rfl (lv_at hl 0 rfl) ?_
    refine rg_Rc_outcome S hok hP (hts _ k_fl_Rc_27) d_Rc_altered_101 ?_
    refine lv_iload_n hx hb d_Rc_altered_104 rfl (lv_at hl 1 rfl) ?_
    obtain ⟨hin, hf⟩ := hf
    refine rl_Rc_outcome S hok hP hin d_Rc_altered_105 ?_
    exact hend _ _ _ _ _ _ d_Rc_altered_106 rfl hf hP hD hS
  · have hf := hf.1 hc
    refine lv_aload_n hx hb d_Rc_altered_10 rfl (lv_at hl 0 rfl) ?_
    refine rg_Rc_values S hok hP (hts _ k_fl_Rc_11) d_Rc_altered_11 ?_
    refine lv_iload_n hx hb d_Rc_altered_14 rfl (lv_at hl 1 rfl) ?_
    refine lv_bipush (v := (8 : Int32)) hx hb d_Rc_altered_15 (by decide) ?_
    refine lv_imul hx hb d_Rc_altered_17 ?_
    refine lv_aload_n hx hb d_Rc_altered_18 rfl (lv_at hl 0 rfl) ?_
    refine rg_Rc_wanted S hok hP (hts _ k_fl_Rc_30) d_Rc_altered_19 ?_
    refine lv_iconst (v := (0 : Int32)) hx hb d_Rc_altered_22 (by decide) ?_
    refine lv_bipush (v := (8 : Int32)) hx hb d_Rc_altered_23 (by decide) ?_
    obtain ⟨h1, h2, h3, h4, h5, hf⟩ := hf
    refine rc_Rc_values_wanted S hok hwr hP hD hS (hts _ k_ml_Rc_71) (hml.trans hl.1.symm) h1 h2 h3 h4 h5 (Nat.le_of_ble_eq_true rfl) (Nat.le_of_ble_eq_true rfl) d_Rc_altered_25 (fun σ2 H locs hσ2 hP hD hS => ?_)
    have hf := hf σ2 hσ2
    refine lv_aload_n hx hb d_Rc_altered_28 rfl (lv_at hl 0 rfl) ?_
    refine rg_Rc_wanted S hok hP (hts _ k_fl_Rc_30) d_Rc_altered_29 ?_
    refine lv_aload_n hx hb d_Rc_altered_32 rfl (lv_at hl 0 rfl) ?_
    refine rg_Rc_field S hok hP (hts _ k_fl_Rc_62) d_Rc_altered_33 ?_
    refine lv_aload_n hx hb d_Rc_altered_36 rfl (lv_at hl 0 rfl) ?_
    refine rg_Rc_wanted S hok hP (hts _ k_fl_Rc_30) d_Rc_altered_37 ?_
    refine lv_aload_n hx hb d_Rc_altered_40 rfl (lv_at hl 0 rfl) ?_
    refine rg_Rc_field S hok hP (hts _ k_fl_Rc_62) d_Rc_altered_41 ?_
    obtain ⟨hin, hf⟩ := hf
    refine rl_Rc_wanted S hok hP hin d_Rc_altered_44 ?_
    refine lv_aload_n hx hb d_Rc_altered_45 rfl (lv_at hl 0 rfl) ?_
    refine rg_Rc_kept S hok hP (hts _ k_fl_Rc_68) d_Rc_altered_46 ?_
    refine lv_iand hx hb d_Rc_altered_49 ?_
    refine lv_aload_n hx hb d_Rc_altered_50 rfl (lv_at hl 0 rfl) ?_
    refine rg_Rc_v S hok hP (hts _ k_fl_Rc_65) d_Rc_altered_51 ?_
    refine lv_ior hx hb d_Rc_altered_54 ?_
    obtain ⟨hin, hf⟩ := hf
    refine rs_Rc_wanted S hok hwr hP hD hS hin d_Rc_altered_55 (fun σ3 H locs hσ3 hP hD hS => ?_)
    have hf := hf σ3 hσ3
    refine lv_aload_n hx hb d_Rc_altered_56 rfl (lv_at hl 0 rfl) ?_
    refine rg_Rc_wanted S hok hP (hts _ k_fl_Rc_30) d_Rc_altered_57 ?_
    refine lv_iconst (v := (0 : Int32)) hx hb d_Rc_altered_60 (by decide) ?_
    refine r_callSi (As := [.ref (a 7), .int (0 : Int32)]) (rest := []) (n := 2) S hok (c_Rc_chainOf_wanted l D cI a wr hwr _ _ _ hf) k_ml_Rc_46 k_st_Rc_chainOf k_ini_Rc k_code_Rc_chainOf rfl rfl (by decide +kernel) ⟨by decide, by decide⟩ hP hD hS hA (Nat.zero_le _) (Nat.zero_le _) hl.1 rfl rfl (Nat.le_of_ble_eq_true rfl) d_Rc_altered_61 (fun r5 σ4 H locs hf hP hD hS => ?_)
    have hP : va_P D classes (wRc cI a wr σ4) H := hP
    have hD : va_D A (wRc cI a wr σ4) := hD
    refine lv_istore_n hx hb d_Rc_altered_64 rfl hl (by decide) rfl (fun ls hl => ?_)
    have hl : lv_has ls 4 [(2, .int r5), (0, .ref (a 0)), (1, .int x1)] := hl
    refine lv_aload_n hx hb d_Rc_altered_65 rfl (lv_at hl 1 rfl) ?_
    refine lv_iload_n hx hb d_Rc_altered_66 rfl (lv_at hl 0 rfl) ?_
    refine r_callVi (As := [.int r5]) (rest := []) (n := 1) (q0 := 0) S hok (c_Rc_findWanted l D cI a wr hwr _ _ _ hf) k_ml_Rc_77 k_im_Rc_findWanted k_sel_Rc_findWanted k_ini_Rc k_code_Rc_findWanted rfl rfl (by decide +kernel) ⟨by decide, by decide⟩ rfl rfl hP hD hS hA (Nat.zero_le _) (Nat.zero_le _) hl.1 rfl rfl (Nat.le_of_ble_eq_true rfl) d_Rc_altered_67 (fun r7 σ6 H locs hf hP hD hS => ?_)
    have hP : va_P D classes (wRc cI a wr σ6) H := hP
    have hD : va_D A (wRc cI a wr σ6) := hD
    refine lv_istore_n hx hb d_Rc_altered_70 rfl hl (by decide) rfl (fun ls hl => ?_)
    have hl : lv_has ls 4 [(3, .int r7), (2, .int r5), (0, .ref (a 0)), (1, .int x1)] := hl
    refine lv_iload_n hx hb d_Rc_altered_71 rfl (lv_at hl 0 rfl) ?_
    refine lv_iconst (v := (-1 : Int32)) hx hb d_Rc_altered_72 (by decide) ?_
    refine lv_icmp_ne hx hb d_Rc_altered_73 rfl (fun hc => ?_) (fun hc => ?_)
    · have hf := hf.2 hc
      exact lab93 _ _ _ _ _ _ hf hP hD hS (lv_sub hl [2, 3, 0] rfl)
    · have hf := hf.1 hc
      refine lv_aload_n hx hb d_Rc_altered_76 rfl (lv_at hl 2 rfl) ?_
      refine rg_Rc_spares S hok hP (hts _ k_fl_Rc_42) d_Rc_altered_77 ?_
      refine lv_if_le hx hb d_Rc_altered_80 rfl (fun hc => ?_) (fun hc => ?_)
      · have hf := hf.1 hc
        refine lv_iload_n hx hb d_Rc_altered_91 rfl (lv_at hl 3 rfl) ?_
        refine lv_istore_n hx hb d_Rc_altered_92 rfl hl (by decide) rfl (fun ls hl => ?_)
        have hl : lv_has ls 4 [(3, .int x1), (2, .int r5), (0, .ref (a 0)), (1, .int x1)] := hl
        exact lab93 _ _ _ _ _ _ hf hP hD hS (lv_sub hl [2, 3, 0] rfl)
      · have hf := hf.2 hc
        refine lv_aload_n hx hb d_Rc_altered_83 rfl (lv_at hl 2 rfl) ?_
        refine lv_iload_n hx hb d_Rc_altered_84 rfl (lv_at hl 1 rfl) ?_
        refine r_callVi (As := [.int r5]) (rest := []) (n := 1) (q0 := 0) S hok (c_Rc_keepWanted l D cI a wr hwr _ _ _ hf) k_ml_Rc_50 k_im_Rc_keepWanted k_sel_Rc_keepWanted k_ini_Rc k_code_Rc_keepWanted rfl rfl (by decide +kernel) ⟨by decide, by decide⟩ rfl rfl hP hD hS hA (Nat.zero_le _) (Nat.zero_le _) hl.1 rfl rfl (Nat.le_of_ble_eq_true rfl) d_Rc_altered_85 (fun r9 σ8 H locs hf hP hD hS => ?_)
        have hP : va_P D classes (wRc cI a wr σ8) H := hP
        have hD : va_D A (wRc cI a wr σ8) := hD
        refine lv_goto hx hb d_Rc_altered_88 rfl ?_
        refine lv_istore_n hx hb d_Rc_altered_92 rfl hl (by decide) rfl (fun ls hl => ?_)
        have hl : lv_has ls 4 [(3, .int r9), (2, .int r5), (0, .ref (a 0)), (1, .int x1)] := hl
        exact lab93 _ _ _ _ _ _ hf hP hD hS (lv_sub hl [2, 3, 0] rfl)
abbrev rm_Rc_empty : Room := { frames := 20, cells := 0, slots := 0, locals := 400 }
set_option maxRecDepth 100000 in
set_option maxHeartbeats 4000000 in
theorem c_Rc_empty (l : Launch) (D : va_G) (cI : ClassId) (a : Nat → Nat) (wr : St → va_W) (hwr : Fx 11 wr) (σ : St) (Q : St → Prop) (hf : F_Rc_empty σ Q) : Cv l y_Rc_empty (.code y_Rc_empty b_Rc_empty 2 none) rm_Rc_empty D cI [.ref (a 0)] (wRc cI a wr) σ Q := by
  refine Cv.of (by decide +kernel) (Nat.le_of_ble_eq_true rfl) ?_
  intro p e s m below meth c ls A Z hx hb hml hown hts hok hP hD hA hl hend
  have S : CallFix p m c b_Rc_empty 2 s ([.ref (a 0)] : List Value).toArray lwg "PropertyTrie$Records" := ⟨hx, hb, hml, hown, hts⟩
  have hS : va_S A s.heap s.heap [] := va_S.rf
  have hl : lv_has ls 2 [(0, .ref (a 0))] := hl
  unfold F_Rc_empty at hf
  have lab18 : ∀ (v1 : Int32) (σ : St) (H : Heap) (locs : List Loc) (ls : Array Slot), F_Rc_empty_L18 v1 σ Q → va_P D classes (wRc cI a wr σ) H → va_D A (wRc cI a wr σ) → va_S A s.heap H locs → lv_has ls 2 [(0, .ref (a 0)), (1, .int v1)] → W p l e rm_Rc_empty s m ([.ref (a 0)] : List Value).toArray below meth c H locs 0 0 Z (F0 m 18 ls []) := by
    intro v1 σ H locs ls hf hP hD hS hl
    unfold F_Rc_empty_L18 at hf
    obtain ⟨I18, m18, h0, hst18⟩ := hf
    have lp18 : ∀ (n : Nat) (v1 : Int32) (σ : St) (H : Heap) (locs : List Loc) (ls : Array Slot), m18 v1 σ = n → I18 v1 σ → va_P D classes (wRc cI a wr σ) H → va_D A (wRc cI a wr σ) → va_S A s.heap H locs → lv_has ls 2 [(0, .ref (a 0)), (1, .int v1)] → W p l e rm_Rc_empty s m ([.ref (a 0)] : List Value).toArray below meth c H locs 0 0 Z (F0 m 18 ls []) := by
      intro n18
      induction n18 using Nat.strongRecOn with
      | _ n18 ih18 =>
        intro v1 σ H locs ls hn hI hP hD hS hl
        have hf := hst18 v1 σ n18 hI hn
        refine lv_iload_n hx hb d_Rc_empty_18 rfl (lv_at hl 1 rfl) ?_
        refine lv_sipush (v := (1028 : Int32)) hx hb d_Rc_empty_19 (by decide) ?_
        refine lv_icmp_ge hx hb d_Rc_empty_22 rfl (fun hc => ?_) (fun hc => ?_)
        · have hf := hf.1 hc
          refine lv_aload_n hx hb d_Rc_empty_42 rfl (lv_at hl 0 rfl) ?_
          refine lv_sipush (v := (1028 : Int32)) hx hb d_Rc_empty_43 (by decide) ?_
          refine rp_Rc_spares S hok hwr hP hD hS (hts _ k_fl_Rc_42) d_Rc_empty_46 (fun σ1 H locs hσ1 hP hD hS => ?_)
          have hf := hf σ1 hσ1
          refine lv_aload_n hx hb d_Rc_empty_49 rfl (lv_at hl 0 rfl) ?_
          refine rg_Rc_wanted S hok hP (hts _ k_fl_Rc_30) d_Rc_empty_50 ?_
          refine lv_iconst (v := (0 : Int32)) hx hb d_Rc_empty_53 (by decide) ?_
          refine r_callSv (As := [.ref (a 7), .int (0 : Int32)]) (rest := []) (n := 2) S hok (c_Ar_fill2_wanted l D cI a wr hwr _ _ _ hf) k_ml_Rc_36 k_st_Ar_fill2 k_ini_Ar k_code_Ar_fill2 rfl rfl (by decide +kernel) ⟨by decide, by decide⟩ hP hD hS hA (Nat.zero_le _) (Nat.zero_le _) hl.1 rfl rfl (Nat.le_of_ble_eq_true rfl) d_Rc_empty_54 (fun σ2 H locs hf hP hD hS => ?_)
          have hP : va_P D classes (wRc cI a wr σ2) H := hP
          have hD : va_D A (wRc cI a wr σ2) := hD
          refine lv_aload_n hx hb d_Rc_empty_57 rfl (lv_at hl 0 rfl) ?_
          refine lv_aload_n hx hb d_Rc_empty_58 rfl (lv_at hl 0 rfl) ?_
          refine lv_aload_n hx hb d_Rc_empty_59 rfl (lv_at hl 0 rfl) ?_
          refine rg_Rc_wanted S hok hP (hts _ k_fl_Rc_30) d_Rc_empty_60 ?_
          refine lv_iconst (v := (0 : Int32)) hx hb d_Rc_empty_63 (by decide) ?_
          refine r_callSi (As := [.ref (a 7), .int (0 : Int32)]) (rest := [.ref (a 0), .ref (a 0)]) (n := 2) S hok (c_Rc_chainOf_wanted l D cI a wr hwr _ _ _ hf) k_ml_Rc_46 k_st_Rc_chainOf k_ini_Rc k_code_Rc_chainOf rfl rfl (by decide +kernel) ⟨by decide, by decide⟩ hP hD hS hA (Nat.zero_le _) (Nat.zero_le _) hl.1 rfl rfl (Nat.le_of_ble_eq_true rfl) d_Rc_empty_64 (fun r4 σ3 H locs hf hP hD hS => ?_)
          have hP : va_P D classes (wRc cI a wr σ3) H := hP
          have hD : va_D A (wRc cI a wr σ3) := hD
          refine r_callVi (As := [.int r4]) (rest := [.ref (a 0)]) (n := 1) (q0 := 0) S hok (c_Rc_keepWanted l D cI a wr hwr _ _ _ hf) k_ml_Rc_50 k_im_Rc_keepWanted k_sel_Rc_keepWanted k_ini_Rc k_code_Rc_keepWanted rfl rfl (by decide +kernel) ⟨by decide, by decide⟩ rfl rfl hP hD hS hA (Nat.zero_le _) (Nat.zero_le _) hl.1 rfl rfl (Nat.le_of_ble_eq_true rfl) d_Rc_empty_67 (fun r6 σ5 H locs hf hP hD hS => ?_)
          have hP : va_P D classes (wRc cI a wr σ5) H := hP
          have hD : va_D A (wRc cI a wr σ5) := hD
          refine lv_iconst (v := (1 : Int32)) hx hb d_Rc_empty_70 (by decide) ?_
          refine r_callVv (As := [.int r6, .int (1 : Int32)]) (rest := []) (n := 2) (q0 := 0) S hok (c_Rc_hold l D cI a wr hwr _ _ _ _ hf) k_ml_Rc_54 k_im_Rc_hold k_sel_Rc_hold k_ini_Rc k_code_Rc_hold rfl rfl (by decide +kernel) ⟨by decide, by decide⟩ rfl rfl hP hD hS hA (Nat.zero_le _) (Nat.zero_le _) hl.1 rfl rfl (Nat.le_of_ble_eq_true rfl) d_Rc_empty_71 (fun σ7 H locs hf hP hD hS => ?_)
          have hP : va_P D classes (wRc cI a wr σ7) H := hP
          have hD : va_D A (wRc cI a wr σ7) := hD
          exact hend _ _ _ _ _ d_Rc_empty_74 hf hP hD hS
        · have hf := hf.2 hc
          refine lv_aload_n hx hb d_Rc_empty_25 rfl (lv_at hl 0 rfl) ?_
          refine rg_Rc_spareRecords S hok hP (hts _ k_fl_Rc_18) d_Rc_empty_26 ?_
          refine lv_iload_n hx hb d_Rc_empty_29 rfl (lv_at hl 1 rfl) ?_
          refine lv_sipush (v := (1027 : Int32)) hx hb d_Rc_empty_30 (by decide) ?_
          refine lv_iload_n hx hb d_Rc_empty_33 rfl (lv_at hl 1 rfl) ?_
          refine lv_isub hx hb d_Rc_empty_34 ?_
          obtain ⟨hin, hf⟩ := hf
          refine rs_Rc_spareRecords S hok hwr hP hD hS hin d_Rc_empty_35 (fun σ8 H locs hσ8 hP hD hS => ?_)
          have hf := hf σ8 hσ8
          obtain ⟨z9, hz9⟩ : ∃ z9 : Int32, z9 = v1 + (1 : Int32) := ⟨_, rfl⟩
          have hf := hf z9 hz9
          refine lv_iinc (k := 1) (v := z9) hx hb d_Rc_empty_36 hl rfl (by rw [hz9]; rfl) (by decide) rfl (fun ls hl => ?_)
          have hl : lv_has ls 2 [(1, .int z9), (0, .ref (a 0))] := hl
          refine lv_goto hx hb d_Rc_empty_39 rfl ?_
          exact ih18 _ hf.2 _ _ _ _ _ rfl hf.1 hP hD hS (lv_sub hl [1, 0] rfl)
    exact lp18 _ v1 σ H locs ls rfl h0 hP hD hS hl
  refine lv_aload_n hx hb d_Rc_empty_0 rfl (lv_at hl 0 rfl) ?_
  refine rg_Rc_heads S hok hP (hts _ k_fl_Rc_21) d_Rc_empty_1 ?_
  refine lv_iconst (v := (-1 : Int32)) hx hb d_Rc_empty_4 (by decide) ?_
  refine r_callSv (As := [.ref (a 4), .int (-1 : Int32)]) (rest := []) (n := 2) S hok (c_Ar_fill2_heads l D cI a wr hwr _ _ _ hf) k_ml_Rc_36 k_st_Ar_fill2 k_ini_Ar k_code_Ar_fill2 rfl rfl (by decide +kernel) ⟨by decide, by decide⟩ hP hD hS hA (Nat.zero_le _) (Nat.zero_le _) hl.1 rfl rfl (Nat.le_of_ble_eq_true rfl) d_Rc_empty_5 (fun σ10 H locs hf hP hD hS => ?_)
  have hP : va_P D classes (wRc cI a wr σ10) H := hP
  have hD : va_D A (wRc cI a wr σ10) := hD
  refine lv_aload_n hx hb d_Rc_empty_8 rfl (lv_at hl 0 rfl) ?_
  refine rg_Rc_holders S hok hP (hts _ k_fl_Rc_15) d_Rc_empty_9 ?_
  refine lv_iconst (v := (0 : Int32)) hx hb d_Rc_empty_12 (by decide) ?_
  refine r_callSv (As := [.ref (a 2), .int (0 : Int32)]) (rest := []) (n := 2) S hok (c_Ar_fill2_holders l D cI a wr hwr _ _ _ hf) k_ml_Rc_36 k_st_Ar_fill2 k_ini_Ar k_code_Ar_fill2 rfl rfl (by decide +kernel) ⟨by decide, by decide⟩ hP hD hS hA (Nat.zero_le _) (Nat.zero_le _) hl.1 rfl rfl (Nat.le_of_ble_eq_true rfl) d_Rc_empty_13 (fun σ11 H locs hf hP hD hS => ?_)
  have hP : va_P D classes (wRc cI a wr σ11) H := hP
  have hD : va_D A (wRc cI a wr σ11) := hD
  refine lv_iconst (v := (0 : Int32)) hx hb d_Rc_empty_16 (by decide) ?_
  refine lv_topi (fun z12 hz12 => ?_)
  have hf := hf z12 hz12
  refine lv_istore_n hx hb d_Rc_empty_17 rfl hl (by decide) rfl (fun ls hl => ?_)
  have hl : lv_has ls 2 [(1, .int z12), (0, .ref (a 0))] := hl
  exact lab18 _ _ _ _ _ hf hP hD hS (lv_sub hl [1, 0] rfl)
end
section
abbrev rm_Bl_find : Room := { frames := 10, cells := 0, slots := 0, locals := 200 }
set_option maxRecDepth 100000 in
set_option maxHeartbeats 4000000 in
theorem c_Bl_find (l : Launch) (D : va_G) (cI : ClassId) (a : Nat → Nat) (wr : St → va_W) (hwr : Fx 17 wr) (x1 : Int32) (σ : St) (Q : St → Prop) (hf : F_Bl_find x1 σ Q) : Cv l y_Bl_find (.code y_Bl_find b_Bl_find 4 none) rm_Bl_find D cI [.ref (a 8), .int x1] (wBl cI a wr) σ Q := by
  refine Cv.of (by decide +kernel) (Nat.le_of_ble_eq_true rfl) ?_
  intro p e s m below meth c ls A Z hx hb hml hown hts hok hP hD hA hl hend
  have S : CallFix p m c b_Bl_find 4 s ([.ref (a 8), .int x1] : List Value).toArray lwg "PropertyTrie$Blocks" := ⟨hx, hb, hml, hown, hts⟩
  have hS : va_S A s.heap s.heap [] := va_S.rf
  have hl : lv_has ls 4 [(0, .ref (a 8)), (1, .int x1)] := hl
  unfold F_Bl_find at hf
  have lab53 : ∀ (v1 v2 : Int32) (σ : St) (H : Heap) (locs : List Loc) (ls : Array Slot), F_Bl_find_J53 v1 v2 σ Q → va_P D classes (wBl cI a wr σ) H → va_D A (wBl cI a wr σ) → va_S A s.heap H locs → lv_has ls 4 [(0, .ref (a 8)), (1, .int v1), (2, .int v2)] → W p l e rm_Bl_find s m ([.ref (a 8), .int x1] : List Value).toArray below meth c H locs 0 0 Z (F0 m 53 ls []) := by
    intro v1 v2 σ H locs ls hf hP hD hS hl
    unfold F_Bl_find_J53 at hf
    refine lv_iconst (v := (1 : Int32)) hx hb d_Bl_find_53 (by decide) ?_
    refine lv_iload_n hx hb d_Bl_find_54 rfl (lv_at hl 2 rfl) ?_
    refine lv_ishl hx hb d_Bl_find_55 ?_
    refine lv_iconst (v := (1 : Int32)) hx hb d_Bl_find_56 (by decide) ?_
    refine lv_isub hx hb d_Bl_find_57 ?_
    refine lv_topi (fun z1 hz1 => ?_)
    have hf := hf z1 hz1
    refine lv_istore_n hx hb d_Bl_find_58 rfl hl (by decide) rfl (fun ls hl => ?_)
    have hl : lv_has ls 4 [(3, .int z1), (0, .ref (a 8)), (1, .int v1), (2, .int v2)] := hl
    refine lv_aload_n hx hb d_Bl_find_59 rfl (lv_at hl 1 rfl) ?_
    refine lv_iload_n hx hb d_Bl_find_60 rfl (lv_at hl 2 rfl) ?_
    refine lv_iload_n hx hb d_Bl_find_61 rfl (lv_at hl 0 rfl) ?_
    refine lv_iconst (v := (-1 : Int32)) hx hb d_Bl_find_62 (by decide) ?_
    refine lv_ixor hx hb d_Bl_find_63 ?_
    refine lv_iand hx hb d_Bl_find_64 ?_
    refine rp_Bl_foundFirst S hok hwr hP hD hS (hts _ k_fl_Bl_51) d_Bl_find_65 (fun σ2 H locs hσ2 hP hD hS => ?_)
    have hf := hf σ2 hσ2
    refine lv_aload_n hx hb d_Bl_find_68 rfl (lv_at hl 1 rfl) ?_
    refine lv_iload_n hx hb d_Bl_find_69 rfl (lv_at hl 2 rfl) ?_
    refine lv_iload_n hx hb d_Bl_find_70 rfl (lv_at hl 0 rfl) ?_
    refine lv_ior hx hb d_Bl_find_71 ?_
    refine rp_Bl_foundLast S hok hwr hP hD hS (hts _ k_fl_Bl_54) d_Bl_find_72 (fun σ3 H locs hσ3 hP hD hS => ?_)
    have hf := hf σ3 hσ3
    exact hend _ _ _ _ _ d_Bl_find_75 hf hP hD hS
  have lab10 : ∀ (v1 v2 : Int32) (σ : St) (H : Heap) (locs : List Loc) (ls : Array Slot), F_Bl_find_L10 v1 v2 σ Q → va_P D classes (wBl cI a wr σ) H → va_D A (wBl cI a wr σ) → va_S A s.heap H locs → lv_has ls 4 [(0, .ref (a 8)), (1, .int v1), (2, .int v2)] → W p l e rm_Bl_find s m ([.ref (a 8), .int x1] : List Value).toArray below meth c H locs 0 0 Z (F0 m 10 ls []) := by
    intro v1 v2 σ H locs ls hf hP hD hS hl
    unfold F_Bl_find_L10 at hf
    obtain ⟨I10, m10, h0, hst10⟩ := hf
    have lp10 : ∀ (n : Nat) (v2 : Int32) (σ : St) (H : Heap) (locs : List Loc) (ls : Array Slot), m10 v2 σ = n → I10 v2 σ → va_P D classes (wBl cI a wr σ) H → va_D A (wBl cI a wr σ) → va_S A s.heap H locs → lv_has ls 4 [(0, .ref (a 8)), (1, .int v1), (2, .int v2)] → W p l e rm_Bl_find s m ([.ref (a 8), .int x1] : List Value).toArray below meth c H locs 0 0 Z (F0 m 10 ls []) := by
      intro n10
      induction n10 using Nat.strongRecOn with
      | _ n10 ih10 =>
        intro v2 σ H locs ls hn hI hP hD hS hl
        have hf := hst10 v2 σ n10 hI hn
        refine lv_iload_n hx hb d_Bl_find_10 rfl (lv_at hl 2 rfl) ?_
        refine lv_if_le hx hb d_Bl_find_11 rfl (fun hc => ?_) (fun hc => ?_)
        · have hf := hf.1 hc
          exact lab53 _ _ _ _ _ _ hf hP hD hS (lv_sub hl [0, 1, 2] rfl)
        · have hf := hf.2 hc
          refine lv_aload_n hx hb d_Bl_find_14 rfl (lv_at hl 0 rfl) ?_
          refine rg_Bl_cells S hok hP (hts _ k_fl_Bl_19) d_Bl_find_15 ?_
          refine lv_aload_n hx hb d_Bl_find_18 rfl (lv_at hl 0 rfl) ?_
          refine rg_Bl_found S hok hP (hts _ k_fl_Bl_48) d_Bl_find_19 ?_
          obtain ⟨hin, hf⟩ := hf
          refine rl_Bl_cells S hok hP hin d_Bl_find_22 ?_
          refine lv_if_ge hx hb d_Bl_find_23 rfl (fun hc => ?_) (fun hc => ?_)
          · have hf := hf.1 hc
            exact lab53 _ _ _ _ _ _ hf hP hD hS (lv_sub hl [0, 1, 2] rfl)
          · have hf := hf.2 hc
            obtain ⟨z4, hz4⟩ : ∃ z4 : Int32, z4 = v2 + (-5 : Int32) := ⟨_, rfl⟩
            have hf := hf z4 hz4
            refine lv_iinc (k := 2) (v := z4) hx hb d_Bl_find_26 hl rfl (by rw [hz4]; rfl) (by decide) rfl (fun ls hl => ?_)
            have hl : lv_has ls 4 [(2, .int z4), (0, .ref (a 8)), (1, .int v1)] := hl
            refine lv_aload_n hx hb d_Bl_find_29 rfl (lv_at hl 1 rfl) ?_
            refine lv_aload_n hx hb d_Bl_find_30 rfl (lv_at hl 1 rfl) ?_
            refine rg_Bl_cells S hok hP (hts _ k_fl_Bl_19) d_Bl_find_31 ?_
            refine lv_aload_n hx hb d_Bl_find_34 rfl (lv_at hl 1 rfl) ?_
            refine rg_Bl_found S hok hP (hts _ k_fl_Bl_48) d_Bl_find_35 ?_
            obtain ⟨hin, hf⟩ := hf
            refine rl_Bl_cells S hok hP hin d_Bl_find_38 ?_
            refine lv_ineg hx hb d_Bl_find_39 ?_
            refine lv_iload_n hx hb d_Bl_find_40 rfl (lv_at hl 2 rfl) ?_
            refine lv_iload_n hx hb d_Bl_find_41 rfl (lv_at hl 0 rfl) ?_
            refine lv_ishr hx hb d_Bl_find_42 ?_
            refine lv_bipush (v := (31 : Int32)) hx hb d_Bl_find_43 (by decide) ?_
            refine lv_iand hx hb d_Bl_find_45 ?_
            refine lv_iadd hx hb d_Bl_find_46 ?_
            refine rp_Bl_found S hok hwr hP hD hS (hts _ k_fl_Bl_48) d_Bl_find_47 (fun σ5 H locs hσ5 hP hD hS => ?_)
            have hf := hf σ5 hσ5
            refine lv_goto hx hb d_Bl_find_50 rfl ?_
            exact ih10 _ hf.2 _ _ _ _ _ rfl hf.1 hP hD hS (lv_sub hl [1, 2, 0] rfl)
    exact lp10 _ v2 σ H locs ls rfl h0 hP hD hS hl
  refine lv_bipush (v := (10 : Int32)) hx hb d_Bl_find_0 (by decide) ?_
  refine lv_topi (fun z6 hz6 => ?_)
  have hf := hf z6 hz6
  refine lv_istore_n hx hb d_Bl_find_2 rfl hl (by decide) rfl (fun ls hl => ?_)
  have hl : lv_has ls 4 [(2, .int z6), (0, .ref (a 8)), (1, .int x1)] := hl
  refine lv_aload_n hx hb d_Bl_find_3 rfl (lv_at hl 1 rfl) ?_
  refine lv_iload_n hx hb d_Bl_find_4 rfl (lv_at hl 2 rfl) ?_
  refine lv_iload_n hx hb d_Bl_find_5 rfl (lv_at hl 0 rfl) ?_
  refine lv_ishr hx hb d_Bl_find_6 ?_
  refine rp_Bl_found S hok hwr hP hD hS (hts _ k_fl_Bl_48) d_Bl_find_7 (fun σ7 H locs hσ7 hP hD hS => ?_)
  have hf := hf σ7 hσ7
  exact lab10 _ _ _ _ _ _ hf hP hD hS (lv_sub hl [1, 2, 0] rfl)
abbrev rm_Bl_recordOf : Room := { frames := 20, cells := 0, slots := 0, locals := 400 }
set_option maxRecDepth 100000 in
set_option maxHeartbeats 4000000 in
theorem c_Bl_recordOf (l : Launch) (D : va_G) (cI : ClassId) (a : Nat → Nat) (wr : St → va_W) (hwr : Fx 17 wr) (x1 : Int32) (σ : St) (Q : Int32 → St → Prop) (hf : F_Bl_recordOf x1 σ Q) : Ci l y_Bl_recordOf (.code y_Bl_recordOf b_Bl_recordOf 2 (some .int)) rm_Bl_recordOf D cI [.ref (a 8), .int x1] (wBl cI a wr) σ Q := by
  refine Ci.of (by decide +kernel) (Nat.le_of_ble_eq_true rfl) ?_
  intro p e s m below meth c ls A Z hx hb hml hown hts hok hP hD hA hl hend
  have S : CallFix p m c b_Bl_recordOf 2 s ([.ref (a 8), .int x1] : List Value).toArray lwg "PropertyTrie$Blocks" := ⟨hx, hb, hml, hown, hts⟩
  have hS : va_S A s.heap s.heap [] := va_S.rf
  have hl : lv_has ls 2 [(0, .ref (a 8)), (1, .int x1)] := hl
  unfold F_Bl_recordOf at hf
  refine lv_aload_n hx hb d_Bl_recordOf_0 rfl (lv_at hl 0 rfl) ?_
  refine lv_iload_n hx hb d_Bl_recordOf_1 rfl (lv_at hl 1 rfl) ?_
  refine r_callVv (As := [.int x1]) (rest := []) (n := 1) (q0 := 8) S hok (c_Bl_find l D cI a wr hwr _ _ _ hf) k_ml_Bl_44 k_im_Bl_find k_sel_Bl_find k_ini_Bl k_code_Bl_find rfl rfl (by decide +kernel) ⟨by decide, by decide⟩ rfl rfl hP hD hS hA (Nat.zero_le _) (Nat.zero_le _) hl.1 rfl rfl (Nat.le_of_ble_eq_true rfl) d_Bl_recordOf_2 (fun σ1 H locs hf hP hD hS => ?_)
  have hP : va_P D classes (wBl cI a wr σ1) H := hP
  have hD : va_D A (wBl cI a wr σ1) := hD
  refine lv_aload_n hx hb d_Bl_recordOf_5 rfl (lv_at hl 0 rfl) ?_
  refine rg_Bl_cells S hok hP (hts _ k_fl_Bl_19) d_Bl_recordOf_6 ?_
  refine lv_aload_n hx hb d_Bl_recordOf_9 rfl (lv_at hl 0 rfl) ?_
  refine rg_Bl_found S hok hP (hts _ k_fl_Bl_48) d_Bl_recordOf_10 ?_
  obtain ⟨hin, hf⟩ := hf
  refine rl_Bl_cells S hok hP hin d_Bl_recordOf_13 ?_
  exact hend _ _ _ _ _ _ d_Bl_recordOf_14 rfl hf hP hD hS
abbrev rm_Bl_split : Room := { frames := 30, cells := 0, slots := 0, locals := 600 }
set_option maxRecDepth 100000 in
set_option maxHeartbeats 4000000 in
theorem c_Bl_split (l : Launch) (D : va_G) (cI : ClassId) (a : Nat → Nat) (wr : St → va_W) (hwr : Fx 17 wr) (x1 : Int32) (σ : St) (Q : St → Prop) (hf : F_Bl_split x1 σ Q) : Cv l y_Bl_split (.code y_Bl_split b_Bl_split 4 none) rm_Bl_split D cI [.ref (a 8), .int x1] (wBl cI a wr) σ Q := by
  refine Cv.of (by decide +kernel) (Nat.le_of_ble_eq_true rfl) ?_
  intro p e s m below meth c ls A Z hx hb hml hown hts hok hP hD hA hl hend
  have S : CallFix p m c b_Bl_split 4 s ([.ref (a 8), .int x1] : List Value).toArray lwg "PropertyTrie$Blocks" := ⟨hx, hb, hml, hown, hts⟩
  have hS : va_S A s.heap s.heap [] := va_S.rf
  have hl : lv_has ls 4 [(0, .ref (a 8)), (1, .int x1)] := hl
  unfold F_Bl_split at hf
  refine lv_aload_n hx hb d_Bl_split_0 rfl (lv_at hl 0 rfl) ?_
  refine rg_Bl_spares S hok hP (hts _ k_fl_Bl_40) d_Bl_split_1 ?_
  refine lv_if_le hx hb d_Bl_split_4 rfl (fun hc => ?_) (fun hc => ?_)
  · have hf := hf.1 hc
    exact hend _ _ _ _ _ d_Bl_split_65 hf hP hD hS
  · have hf := hf.2 hc
    refine lv_aload_n hx hb d_Bl_split_7 rfl (lv_at hl 0 rfl) ?_
    refine lv_dup hx hb d_Bl_split_8 rfl ?_
    refine rg_Bl_spares S hok hP (hts _ k_fl_Bl_40) d_Bl_split_9 ?_
    refine lv_iconst (v := (1 : Int32)) hx hb d_Bl_split_12 (by decide) ?_
    refine lv_isub hx hb d_Bl_split_13 ?_
    refine rp_Bl_spares S hok hwr hP hD hS (hts _ k_fl_Bl_40) d_Bl_split_14 (fun σ1 H locs hσ1 hP hD hS => ?_)
    have hf := hf σ1 hσ1
    refine lv_aload_n hx hb d_Bl_split_17 rfl (lv_at hl 0 rfl) ?_
    refine rg_Bl_spareRows S hok hP (hts _ k_fl_Bl_23) d_Bl_split_18 ?_
    refine lv_aload_n hx hb d_Bl_split_21 rfl (lv_at hl 0 rfl) ?_
    refine rg_Bl_spares S hok hP (hts _ k_fl_Bl_40) d_Bl_split_22 ?_
    obtain ⟨hin, hf⟩ := hf
    refine rl_Bl_spareRows S hok hP hin d_Bl_split_25 ?_
    refine lv_topi (fun z2 hz2 => ?_)
    have hf := hf z2 hz2
    refine lv_istore_n hx hb d_Bl_split_26 rfl hl (by decide) rfl (fun ls hl => ?_)
    have hl : lv_has ls 4 [(2, .int z2), (0, .ref (a 8)), (1, .int x1)] := hl
    refine lv_aload_n hx hb d_Bl_split_27 rfl (lv_at hl 1 rfl) ?_
    refine rg_Bl_cells S hok hP (hts _ k_fl_Bl_19) d_Bl_split_28 ?_
    refine lv_iload_n hx hb d_Bl_split_31 rfl (lv_at hl 2 rfl) ?_
    obtain ⟨hin, hf⟩ := hf
    refine rl_Bl_cells S hok hP hin d_Bl_split_32 ?_
    refine lv_topi (fun z3 hz3 => ?_)
    have hf := hf z3 hz3
    refine lv_istore_n hx hb d_Bl_split_33 rfl hl (by decide) rfl (fun ls hl => ?_)
    have hl : lv_has ls 4 [(3, .int z3), (2, .int z2), (0, .ref (a 8)), (1, .int x1)] := hl
    refine lv_aload_n hx hb d_Bl_split_34 rfl (lv_at hl 2 rfl) ?_
    refine rg_Bl_cells S hok hP (hts _ k_fl_Bl_19) d_Bl_split_35 ?_
    refine lv_iload_n hx hb d_Bl_split_38 rfl (lv_at hl 1 rfl) ?_
    refine lv_iload_n hx hb d_Bl_split_39 rfl (lv_at hl 1 rfl) ?_
    refine lv_bipush (v := (32 : Int32)) hx hb d_Bl_split_40 (by decide) ?_
    refine lv_iadd hx hb d_Bl_split_42 ?_
    refine lv_iload_n hx hb d_Bl_split_43 rfl (lv_at hl 0 rfl) ?_
    refine r_callSv (As := [.ref (a 9), .int z2, .int (z2 + (32 : Int32)), .int z3]) (rest := []) (n := 4) S hok (c_Ar_fill4_cells l D cI a wr hwr _ _ _ _ _ hf) k_ml_Bl_30 k_st_Ar_fill4 k_ini_Ar k_code_Ar_fill4 rfl rfl (by decide +kernel) ⟨by decide, by decide⟩ hP hD hS hA (Nat.zero_le _) (Nat.zero_le _) hl.1 rfl rfl (Nat.le_of_ble_eq_true rfl) d_Bl_split_44 (fun σ4 H locs hf hP hD hS => ?_)
    have hP : va_P D classes (wBl cI a wr σ4) H := hP
    have hD : va_D A (wBl cI a wr σ4) := hD
    refine lv_aload_n hx hb d_Bl_split_47 rfl (lv_at hl 2 rfl) ?_
    refine rg_Bl_records S hok hP (hts _ k_fl_Bl_14) d_Bl_split_48 ?_
    refine lv_iload_n hx hb d_Bl_split_51 rfl (lv_at hl 0 rfl) ?_
    refine lv_bipush (v := (31 : Int32)) hx hb d_Bl_split_52 (by decide) ?_
    refine r_callVv (As := [.int z3, .int (31 : Int32)]) (rest := []) (n := 2) (q0 := 0) S hok (c_Rc_hold l D cI a (wrB cI a wr) (Fx_B hwr) _ _ _ _ hf) k_ml_Bl_36 k_im_Rc_hold k_sel_Rc_hold k_ini_Rc k_code_Rc_hold rfl rfl (by decide +kernel) ⟨by decide, by decide⟩ rfl rfl hP hD hS hA (Nat.zero_le _) (Nat.zero_le _) hl.1 rfl rfl (Nat.le_of_ble_eq_true rfl) d_Bl_split_54 (fun σ5 H locs hf hP hD hS => ?_)
    have hP : va_P D classes (wBl cI a wr σ5) H := hP
    have hD : va_D A (wBl cI a wr σ5) := hD
    refine lv_aload_n hx hb d_Bl_split_57 rfl (lv_at hl 2 rfl) ?_
    refine rg_Bl_cells S hok hP (hts _ k_fl_Bl_19) d_Bl_split_58 ?_
    refine lv_iload_n hx hb d_Bl_split_61 rfl (lv_at hl 3 rfl) ?_
    refine lv_iload_n hx hb d_Bl_split_62 rfl (lv_at hl 1 rfl) ?_
    refine lv_ineg hx hb d_Bl_split_63 ?_
    obtain ⟨hin, hf⟩ := hf
    refine rs_Bl_cells S hok hwr hP hD hS hin d_Bl_split_64 (fun σ6 H locs hσ6 hP hD hS => ?_)
    have hf := hf σ6 hσ6
    exact hend _ _ _ _ _ d_Bl_split_65 hf hP hD hS
abbrev rm_Bl_splitBefore : Room := { frames := 40, cells := 0, slots := 0, locals := 800 }
set_option maxRecDepth 100000 in
set_option maxHeartbeats 4000000 in
theorem c_Bl_splitBefore (l : Launch) (D : va_G) (cI : ClassId) (a : Nat → Nat) (wr : St → va_W) (hwr : Fx 17 wr) (x1 : Int32) (σ : St) (Q : St → Prop) (hf : F_Bl_splitBefore x1 σ Q) : Cv l y_Bl_splitBefore (.code y_Bl_splitBefore b_Bl_splitBefore 3 none) rm_Bl_splitBefore D cI [.ref (a 8), .int x1] (wBl cI a wr) σ Q := by
  refine Cv.of (by decide +kernel) (Nat.le_of_ble_eq_true rfl) ?_
  intro p e s m below meth c ls A Z hx hb hml hown hts hok hP hD hA hl hend
  have S : CallFix p m c b_Bl_splitBefore 3 s ([.ref (a 8), .int x1] : List Value).toArray lwg "PropertyTrie$Blocks" := ⟨hx, hb, hml, hown, hts⟩
  have hS : va_S A s.heap s.heap [] := va_S.rf
  have hl : lv_has ls 3 [(0, .ref (a 8)), (1, .int x1)] := hl
  unfold F_Bl_splitBefore at hf
  have lab8 : ∀ (v1 v2 : Int32) (σ : St) (H : Heap) (locs : List Loc) (ls : Array Slot), F_Bl_splitBefore_L8 v1 v2 σ Q → va_P D classes (wBl cI a wr σ) H → va_D A (wBl cI a wr σ) → va_S A s.heap H locs → lv_has ls 3 [(0, .ref (a 8)), (1, .int v1), (2, .int v2)] → W p l e rm_Bl_splitBefore s m ([.ref (a 8), .int x1] : List Value).toArray below meth c H locs 0 0 Z (F0 m 8 ls []) := by
    intro v1 v2 σ H locs ls hf hP hD hS hl
    unfold F_Bl_splitBefore_L8 at hf
    obtain ⟨I8, m8, h0, hst8⟩ := hf
    have lp8 : ∀ (n : Nat) (v2 : Int32) (σ : St) (H : Heap) (locs : List Loc) (ls : Array Slot), m8 v2 σ = n → I8 v2 σ → va_P D classes (wBl cI a wr σ) H → va_D A (wBl cI a wr σ) → va_S A s.heap H locs → lv_has ls 3 [(0, .ref (a 8)), (1, .int v1), (2, .int v2)] → W p l e rm_Bl_splitBefore s m ([.ref (a 8), .int x1] : List Value).toArray below meth c H locs 0 0 Z (F0 m 8 ls []) := by
      intro n8
      induction n8 using Nat.strongRecOn with
      | _ n8 ih8 =>
        intro v2 σ H locs ls hn hI hP hD hS hl
        have hf := hst8 v2 σ n8 hI hn
        refine lv_iload_n hx hb d_Bl_splitBefore_8 rfl (lv_at hl 2 rfl) ?_
        refine lv_if_le hx hb d_Bl_splitBefore_9 rfl (fun hc => ?_) (fun hc => ?_)
        · have hf := hf.1 hc
          exact hend _ _ _ _ _ d_Bl_splitBefore_39 hf hP hD hS
        · have hf := hf.2 hc
          refine lv_aload_n hx hb d_Bl_splitBefore_12 rfl (lv_at hl 0 rfl) ?_
          refine rg_Bl_foundFirst S hok hP (hts _ k_fl_Bl_51) d_Bl_splitBefore_13 ?_
          refine lv_iload_n hx hb d_Bl_splitBefore_16 rfl (lv_at hl 1 rfl) ?_
          refine lv_icmp_ge hx hb d_Bl_splitBefore_17 rfl (fun hc => ?_) (fun hc => ?_)
          · have hf := hf.1 hc
            exact hend _ _ _ _ _ d_Bl_splitBefore_39 hf hP hD hS
          · have hf := hf.2 hc
            refine lv_aload_n hx hb d_Bl_splitBefore_20 rfl (lv_at hl 0 rfl) ?_
            refine lv_aload_n hx hb d_Bl_splitBefore_21 rfl (lv_at hl 0 rfl) ?_
            refine rg_Bl_found S hok hP (hts _ k_fl_Bl_48) d_Bl_splitBefore_22 ?_
            refine r_callVv (As := [.int (σ 14 0)]) (rest := []) (n := 1) (q0 := 8) S hok (c_Bl_split l D cI a wr hwr _ _ _ hf) k_ml_Bl_73 k_im_Bl_split k_sel_Bl_split k_ini_Bl k_code_Bl_split rfl rfl (by decide +kernel) ⟨by decide, by decide⟩ rfl rfl hP hD hS hA (Nat.zero_le _) (Nat.zero_le _) hl.1 rfl rfl (Nat.le_of_ble_eq_true rfl) d_Bl_splitBefore_25 (fun σ1 H locs hf hP hD hS => ?_)
            have hP : va_P D classes (wBl cI a wr σ1) H := hP
            have hD : va_D A (wBl cI a wr σ1) := hD
            refine lv_aload_n hx hb d_Bl_splitBefore_28 rfl (lv_at hl 0 rfl) ?_
            refine lv_iload_n hx hb d_Bl_splitBefore_29 rfl (lv_at hl 1 rfl) ?_
            refine r_callVv (As := [.int v1]) (rest := []) (n := 1) (q0 := 8) S hok (c_Bl_find l D cI a wr hwr _ _ _ hf) k_ml_Bl_44 k_im_Bl_find k_sel_Bl_find k_ini_Bl k_code_Bl_find rfl rfl (by decide +kernel) ⟨by decide, by decide⟩ rfl rfl hP hD hS hA (Nat.zero_le _) (Nat.zero_le _) hl.1 rfl rfl (Nat.le_of_ble_eq_true rfl) d_Bl_splitBefore_30 (fun σ2 H locs hf hP hD hS => ?_)
            have hP : va_P D classes (wBl cI a wr σ2) H := hP
            have hD : va_D A (wBl cI a wr σ2) := hD
            obtain ⟨z3, hz3⟩ : ∃ z3 : Int32, z3 = v2 + (-5 : Int32) := ⟨_, rfl⟩
            have hf := hf z3 hz3
            refine lv_iinc (k := 2) (v := z3) hx hb d_Bl_splitBefore_33 hl rfl (by rw [hz3]; rfl) (by decide) rfl (fun ls hl => ?_)
            have hl : lv_has ls 3 [(2, .int z3), (0, .ref (a 8)), (1, .int v1)] := hl
            refine lv_goto hx hb d_Bl_splitBefore_36 rfl ?_
            exact ih8 _ hf.2 _ _ _ _ _ rfl hf.1 hP hD hS (lv_sub hl [1, 2, 0] rfl)
    exact lp8 _ v2 σ H locs ls rfl h0 hP hD hS hl
  refine lv_aload_n hx hb d_Bl_splitBefore_0 rfl (lv_at hl 0 rfl) ?_
  refine lv_iload_n hx hb d_Bl_splitBefore_1 rfl (lv_at hl 1 rfl) ?_
  refine r_callVv (As := [.int x1]) (rest := []) (n := 1) (q0 := 8) S hok (c_Bl_find l D cI a wr hwr _ _ _ hf) k_ml_Bl_44 k_im_Bl_find k_sel_Bl_find k_ini_Bl k_code_Bl_find rfl rfl (by decide +kernel) ⟨by decide, by decide⟩ rfl rfl hP hD hS hA (Nat.zero_le _) (Nat.zero_le _) hl.1 rfl rfl (Nat.le_of_ble_eq_true rfl) d_Bl_splitBefore_2 (fun σ4 H locs hf hP hD hS => ?_)
  have hP : va_P D classes (wBl cI a wr σ4) H := hP
  have hD : va_D A (wBl cI a wr σ4) := hD
  refine lv_bipush (v := (10 : Int32)) hx hb d_Bl_splitBefore_5 (by decide) ?_
  refine lv_topi (fun z5 hz5 => ?_)
  have hf := hf z5 hz5
  refine lv_istore_n hx hb d_Bl_splitBefore_7 rfl hl (by decide) rfl (fun ls hl => ?_)
  have hl : lv_has ls 3 [(2, .int z5), (0, .ref (a 8)), (1, .int x1)] := hl
  exact lab8 _ _ _ _ _ _ hf hP hD hS (lv_sub hl [1, 2, 0] rfl)
abbrev rm_Bl_replace : Room := { frames := 40, cells := 0, slots := 0, locals := 800 }
set_option maxRecDepth 100000 in
set_option maxHeartbeats 4000000 in
theorem c_Bl_replace (l : Launch) (D : va_G) (cI : ClassId) (a : Nat → Nat) (wr : St → va_W) (hwr : Fx 17 wr) (x1 : Int32) (σ : St) (Q : St → Prop) (hf : F_Bl_replace x1 σ Q) : Cv l y_Bl_replace (.code y_Bl_replace b_Bl_replace 4 none) rm_Bl_replace D cI [.ref (a 8), .int x1] (wBl cI a wr) σ Q := by
  refine Cv.of (by decide +kernel) (Nat.le_of_ble_eq_true rfl) ?_
  intro p e s m below meth c ls A Z hx hb hml hown hts hok hP hD hA hl hend
  have S : CallFix p m c b_Bl_replace 4 s ([.ref (a 8), .int x1] : List Value).toArray lwg "PropertyTrie$Blocks" := ⟨hx, hb, hml, hown, hts⟩
  have hS : va_S A s.heap s.heap [] := va_S.rf
  have hl : lv_has ls 4 [(0, .ref (a 8)), (1, .int x1)] := hl
  unfold F_Bl_replace at hf
  refine lv_aload_n hx hb d_Bl_replace_0 rfl (lv_at hl 0 rfl) ?_
  refine rg_Bl_cells S hok hP (hts _ k_fl_Bl_19) d_Bl_replace_1 ?_
  refine lv_iload_n hx hb d_Bl_replace_4 rfl (lv_at hl 1 rfl) ?_
  obtain ⟨hin, hf⟩ := hf
  refine rl_Bl_cells S hok hP hin d_Bl_replace_5 ?_
  refine lv_topi (fun z1 hz1 => ?_)
  have hf := hf z1 hz1
  refine lv_istore_n hx hb d_Bl_replace_6 rfl hl (by decide) rfl (fun ls hl => ?_)
  have hl : lv_has ls 4 [(2, .int z1), (0, .ref (a 8)), (1, .int x1)] := hl
  refine lv_aload_n hx hb d_Bl_replace_7 rfl (lv_at hl 1 rfl) ?_
  refine rg_Bl_records S hok hP (hts _ k_fl_Bl_14) d_Bl_replace_8 ?_
  refine lv_iload_n hx hb d_Bl_replace_11 rfl (lv_at hl 0 rfl) ?_
  refine r_callVi (As := [.int z1]) (rest := []) (n := 1) (q0 := 0) S hok (c_Rc_altered l D cI a (wrB cI a wr) (Fx_B hwr) _ _ _ hf) k_ml_Bl_76 k_im_Rc_altered k_sel_Rc_altered k_ini_Rc k_code_Rc_altered rfl rfl (by decide +kernel) ⟨by decide, by decide⟩ rfl rfl hP hD hS hA (Nat.zero_le _) (Nat.zero_le _) hl.1 rfl rfl (Nat.le_of_ble_eq_true rfl) d_Bl_replace_12 (fun r3 σ2 H locs hf hP hD hS => ?_)
  have hP : va_P D classes (wBl cI a wr σ2) H := hP
  have hD : va_D A (wBl cI a wr σ2) := hD
  refine lv_istore_n hx hb d_Bl_replace_15 rfl hl (by decide) rfl (fun ls hl => ?_)
  have hl : lv_has ls 4 [(3, .int r3), (2, .int z1), (0, .ref (a 8)), (1, .int x1)] := hl
  refine lv_iload_n hx hb d_Bl_replace_16 rfl (lv_at hl 0 rfl) ?_
  refine lv_iload_n hx hb d_Bl_replace_17 rfl (lv_at hl 1 rfl) ?_
  refine lv_icmp_eq hx hb d_Bl_replace_18 rfl (fun hc => ?_) (fun hc => ?_)
  · have hf := hf.1 hc
    exact hend _ _ _ _ _ d_Bl_replace_46 hf hP hD hS
  · have hf := hf.2 hc
    refine lv_aload_n hx hb d_Bl_replace_21 rfl (lv_at hl 2 rfl) ?_
    refine rg_Bl_cells S hok hP (hts _ k_fl_Bl_19) d_Bl_replace_22 ?_
    refine lv_iload_n hx hb d_Bl_replace_25 rfl (lv_at hl 3 rfl) ?_
    refine lv_iload_n hx hb d_Bl_replace_26 rfl (lv_at hl 0 rfl) ?_
    obtain ⟨hin, hf⟩ := hf
    refine rs_Bl_cells S hok hwr hP hD hS hin d_Bl_replace_27 (fun σ4 H locs hσ4 hP hD hS => ?_)
    have hf := hf σ4 hσ4
    refine lv_aload_n hx hb d_Bl_replace_28 rfl (lv_at hl 2 rfl) ?_
    refine rg_Bl_records S hok hP (hts _ k_fl_Bl_14) d_Bl_replace_29 ?_
    refine lv_iload_n hx hb d_Bl_replace_32 rfl (lv_at hl 0 rfl) ?_
    refine lv_iconst (v := (1 : Int32)) hx hb d_Bl_replace_33 (by decide) ?_
    refine r_callVv (As := [.int r3, .int (1 : Int32)]) (rest := []) (n := 2) (q0 := 0) S hok (c_Rc_hold l D cI a (wrB cI a wr) (Fx_B hwr) _ _ _ _ hf) k_ml_Bl_36 k_im_Rc_hold k_sel_Rc_hold k_ini_Rc k_code_Rc_hold rfl rfl (by decide +kernel) ⟨by decide, by decide⟩ rfl rfl hP hD hS hA (Nat.zero_le _) (Nat.zero_le _) hl.1 rfl rfl (Nat.le_of_ble_eq_true rfl) d_Bl_replace_34 (fun σ5 H locs hf hP hD hS => ?_)
    have hP : va_P D classes (wBl cI a wr σ5) H := hP
    have hD : va_D A (wBl cI a wr σ5) := hD
    refine lv_aload_n hx hb d_Bl_replace_37 rfl (lv_at hl 2 rfl) ?_
    refine rg_Bl_records S hok hP (hts _ k_fl_Bl_14) d_Bl_replace_38 ?_
    refine lv_iload_n hx hb d_Bl_replace_41 rfl (lv_at hl 1 rfl) ?_
    refine lv_iconst (v := (1 : Int32)) hx hb d_Bl_replace_42 (by decide) ?_
    refine r_callVv (As := [.int z1, .int (1 : Int32)]) (rest := []) (n := 2) (q0 := 0) S hok (c_Rc_release l D cI a (wrB cI a wr) (Fx_B hwr) _ _ _ _ hf) k_ml_Bl_80 k_im_Rc_release k_sel_Rc_release k_ini_Rc k_code_Rc_release rfl rfl (by decide +kernel) ⟨by decide, by decide⟩ rfl rfl hP hD hS hA (Nat.zero_le _) (Nat.zero_le _) hl.1 rfl rfl (Nat.le_of_ble_eq_true rfl) d_Bl_replace_43 (fun σ6 H locs hf hP hD hS => ?_)
    have hP : va_P D classes (wBl cI a wr σ6) H := hP
    have hD : va_D A (wBl cI a wr σ6) := hD
    exact hend _ _ _ _ _ d_Bl_replace_46 hf hP hD hS
abbrev rm_Bl_isAllAlike : Room := { frames := 10, cells := 0, slots := 0, locals := 200 }
set_option maxRecDepth 100000 in
set_option maxHeartbeats 4000000 in
theorem c_Bl_isAllAlike (l : Launch) (D : va_G) (cI : ClassId) (a : Nat → Nat) (wr : St → va_W) (hwr : Fx 17 wr) (x1 : Int32) (σ : St) (Q : Int32 → St → Prop) (hf : F_Bl_isAllAlike x1 σ Q) : Ci l y_Bl_isAllAlike (.code y_Bl_isAllAlike b_Bl_isAllAlike 4 (some .boolean)) rm_Bl_isAllAlike D cI [.ref (a 8), .int x1] (wBl cI a wr) σ Q := by
  refine Ci.of (by decide +kernel) (Nat.le_of_ble_eq_true rfl) ?_
  intro p e s m below meth c ls A Z hx hb hml hown hts hok hP hD hA hl hend
  have S : CallFix p m c b_Bl_isAllAlike 4 s ([.ref (a 8), .int x1] : List Value).toArray lwg "PropertyTrie$Blocks" := ⟨hx, hb, hml, hown, hts⟩
  have hS : va_S A s.heap s.heap [] := va_S.rf
  have hl : lv_has ls 4 [(0, .ref (a 8)), (1, .int x1)] := hl
  unfold F_Bl_isAllAlike at hf
  have lab15 : ∀ (v1 v2 v3 : Int32) (σ : St) (H : Heap) (locs : List Loc) (ls : Array Slot), F_Bl_isAllAlike_L15 v1 v2 v3 σ Q → va_P D classes (wBl cI a wr σ) H → va_D A (wBl cI a wr σ) → va_S A s.heap H locs → lv_has ls 4 [(0, .ref (a 8)), (1, .int v1), (2, .int v2), (3, .int v3)] → W p l e rm_Bl_isAllAlike s m ([.ref (a 8), .int x1] : List Value).toArray below meth c H locs 0 0 Z (F0 m 15 ls []) := by
    intro v1 v2 v3 σ H locs ls hf hP hD hS hl
    unfold F_Bl_isAllAlike_L15 at hf
    obtain ⟨I15, m15, h0, hst15⟩ := hf
    have lp15 : ∀ (n : Nat) (v3 : Int32) (σ : St) (H : Heap) (locs : List Loc) (ls : Array Slot), m15 v3 σ = n → I15 v3 σ → va_P D classes (wBl cI a wr σ) H → va_D A (wBl cI a wr σ) → va_S A s.heap H locs → lv_has ls 4 [(0, .ref (a 8)), (1, .int v1), (2, .int v2), (3, .int v3)] → W p l e rm_Bl_isAllAlike s m ([.ref (a 8), .int x1] : List Value).toArray below meth c H locs 0 0 Z (F0 m 15 ls []) := by
      intro n15
      induction n15 using Nat.strongRecOn with
      | _ n15 ih15 =>
        intro v3 σ H locs ls hn hI hP hD hS hl
        have hf := hst15 v3 σ n15 hI hn
        refine lv_iload_n hx hb d_Bl_isAllAlike_15 rfl (lv_at hl 3 rfl) ?_
        refine lv_bipush (v := (32 : Int32)) hx hb d_Bl_isAllAlike_16 (by decide) ?_
        refine lv_icmp_ge hx hb d_Bl_isAllAlike_18 rfl (fun hc => ?_) (fun hc => ?_)
        · have hf := hf.1 hc
          refine lv_iconst (v := (1 : Int32)) hx hb d_Bl_isAllAlike_41 (by decide) ?_
          exact hend _ _ _ _ _ _ d_Bl_isAllAlike_42 rfl hf hP hD hS
        · have hf := hf.2 hc
          refine lv_aload_n hx hb d_Bl_isAllAlike_21 rfl (lv_at hl 0 rfl) ?_
          refine rg_Bl_cells S hok hP (hts _ k_fl_Bl_19) d_Bl_isAllAlike_22 ?_
          refine lv_iload_n hx hb d_Bl_isAllAlike_25 rfl (lv_at hl 1 rfl) ?_
          refine lv_iload_n hx hb d_Bl_isAllAlike_26 rfl (lv_at hl 3 rfl) ?_
          refine lv_iadd hx hb d_Bl_isAllAlike_27 ?_
          obtain ⟨hin, hf⟩ := hf
          refine rl_Bl_cells S hok hP hin d_Bl_isAllAlike_28 ?_
          refine lv_iload_n hx hb d_Bl_isAllAlike_29 rfl (lv_at hl 2 rfl) ?_
          refine lv_icmp_eq hx hb d_Bl_isAllAlike_30 rfl (fun hc => ?_) (fun hc => ?_)
          · have hf := hf.1 hc
            obtain ⟨z1, hz1⟩ : ∃ z1 : Int32, z1 = v3 + (1 : Int32) := ⟨_, rfl⟩
            have hf := hf z1 hz1
            refine lv_iinc (k := 3) (v := z1) hx hb d_Bl_isAllAlike_35 hl rfl (by rw [hz1]; rfl) (by decide) rfl (fun ls hl => ?_)
            have hl : lv_has ls 4 [(3, .int z1), (0, .ref (a 8)), (1, .int v1), (2, .int v2)] := hl
            refine lv_goto hx hb d_Bl_isAllAlike_38 rfl ?_
            exact ih15 _ hf.2 _ _ _ _ _ rfl hf.1 hP hD hS (lv_sub hl [1, 2, 3, 0] rfl)
          · have hf := hf.2 hc
            refine lv_iconst (v := (0 : Int32)) hx hb d_Bl_isAllAlike_33 (by decide) ?_
            exact hend _ _ _ _ _ _ d_Bl_isAllAlike_34 rfl hf hP hD hS
    exact lp15 _ v3 σ H locs ls rfl h0 hP hD hS hl
  refine lv_aload_n hx hb d_Bl_isAllAlike_0 rfl (lv_at hl 0 rfl) ?_
  refine rg_Bl_cells S hok hP (hts _ k_fl_Bl_19) d_Bl_isAllAlike_1 ?_
  refine lv_iload_n hx hb d_Bl_isAllAlike_4 rfl (lv_at hl 1 rfl) ?_
  obtain ⟨hin, hf⟩ := hf
  refine rl_Bl_cells S hok hP hin d_Bl_isAllAlike_5 ?_
  refine lv_topi (fun z2 hz2 => ?_)
  have hf := hf z2 hz2
  refine lv_istore_n hx hb d_Bl_isAllAlike_6 rfl hl (by decide) rfl (fun ls hl => ?_)
  have hl : lv_has ls 4 [(2, .int z2), (0, .ref (a 8)), (1, .int x1)] := hl
  refine lv_iload_n hx hb d_Bl_isAllAlike_7 rfl (lv_at hl 0 rfl) ?_
  refine lv_if_ge hx hb d_Bl_isAllAlike_8 rfl (fun hc => ?_) (fun hc => ?_)
  · have hf := hf.1 hc
    refine lv_iconst (v := (1 : Int32)) hx hb d_Bl_isAllAlike_13 (by decide) ?_
    refine lv_topi (fun z3 hz3 => ?_)
    have hf := hf z3 hz3
    refine lv_istore_n hx hb d_Bl_isAllAlike_14 rfl hl (by decide) rfl (fun ls hl => ?_)
    have hl : lv_has ls 4 [(3, .int z3), (2, .int z2), (0, .ref (a 8)), (1, .int x1)] := hl
    exact lab15 _ _ _ _ _ _ _ hf hP hD hS (lv_sub hl [2, 3, 1, 0] rfl)
  · have hf := hf.2 hc
    refine lv_iconst (v := (0 : Int32)) hx hb d_Bl_isAllAlike_11 (by decide) ?_
    exact hend _ _ _ _ _ _ d_Bl_isAllAlike_12 rfl hf hP hD hS
abbrev rm_Bl_join : Room := { frames := 40, cells := 0, slots := 0, locals := 800 }
set_option maxRecDepth 100000 in
set_option maxHeartbeats 4000000 in
theorem c_Bl_join (l : Launch) (D : va_G) (cI : ClassId) (a : Nat → Nat) (wr : St → va_W) (hwr : Fx 17 wr) (x1 : Int32) (σ : St) (Q : St → Prop) (hf : F_Bl_join x1 σ Q) : Cv l y_Bl_join (.code y_Bl_join b_Bl_join 4 none) rm_Bl_join D cI [.ref (a 8), .int x1] (wBl cI a wr) σ Q := by
  refine Cv.of (by decide +kernel) (Nat.le_of_ble_eq_true rfl) ?_
  intro p e s m below meth c ls A Z hx hb hml hown hts hok hP hD hA hl hend
  have S : CallFix p m c b_Bl_join 4 s ([.ref (a 8), .int x1] : List Value).toArray lwg "PropertyTrie$Blocks" := ⟨hx, hb, hml, hown, hts⟩
  have hS : va_S A s.heap s.heap [] := va_S.rf
  have hl : lv_has ls 4 [(0, .ref (a 8)), (1, .int x1)] := hl
  unfold F_Bl_join at hf
  refine lv_aload_n hx hb d_Bl_join_0 rfl (lv_at hl 0 rfl) ?_
  refine rg_Bl_cells S hok hP (hts _ k_fl_Bl_19) d_Bl_join_1 ?_
  refine lv_iload_n hx hb d_Bl_join_4 rfl (lv_at hl 1 rfl) ?_
  obtain ⟨hin, hf⟩ := hf
  refine rl_Bl_cells S hok hP hin d_Bl_join_5 ?_
  refine lv_ineg hx hb d_Bl_join_6 ?_
  refine lv_topi (fun z1 hz1 => ?_)
  have hf := hf z1 hz1
  refine lv_istore_n hx hb d_Bl_join_7 rfl hl (by decide) rfl (fun ls hl => ?_)
  have hl : lv_has ls 4 [(2, .int z1), (0, .ref (a 8)), (1, .int x1)] := hl
  refine lv_iload_n hx hb d_Bl_join_8 rfl (lv_at hl 0 rfl) ?_
  refine lv_if_le hx hb d_Bl_join_9 rfl (fun hc => ?_) (fun hc => ?_)
  · have hf := hf.1 hc
    exact hend _ _ _ _ _ d_Bl_join_64 hf hP hD hS
  · have hf := hf.2 hc
    refine lv_aload_n hx hb d_Bl_join_12 rfl (lv_at hl 1 rfl) ?_
    refine lv_iload_n hx hb d_Bl_join_13 rfl (lv_at hl 0 rfl) ?_
    refine r_callVi (As := [.int z1]) (rest := []) (n := 1) (q0 := 8) S hok (c_Bl_isAllAlike l D cI a wr hwr _ _ _ hf) k_ml_Bl_86 k_im_Bl_isAllAlike k_sel_Bl_isAllAlike k_ini_Bl k_code_Bl_isAllAlike rfl rfl (by decide +kernel) ⟨by decide, by decide⟩ rfl rfl hP hD hS hA (Nat.zero_le _) (Nat.zero_le _) hl.1 rfl rfl (Nat.le_of_ble_eq_true rfl) d_Bl_join_14 (fun r3 σ2 H locs hf hP hD hS => ?_)
    have hP : va_P D classes (wBl cI a wr σ2) H := hP
    have hD : va_D A (wBl cI a wr σ2) := hD
    refine lv_if_eq hx hb d_Bl_join_17 rfl (fun hc => ?_) (fun hc => ?_)
    · have hf := hf.1 hc
      exact hend _ _ _ _ _ d_Bl_join_64 hf hP hD hS
    · have hf := hf.2 hc
      refine lv_aload_n hx hb d_Bl_join_20 rfl (lv_at hl 1 rfl) ?_
      refine rg_Bl_cells S hok hP (hts _ k_fl_Bl_19) d_Bl_join_21 ?_
      refine lv_iload_n hx hb d_Bl_join_24 rfl (lv_at hl 0 rfl) ?_
      obtain ⟨hin, hf⟩ := hf
      refine rl_Bl_cells S hok hP hin d_Bl_join_25 ?_
      refine lv_topi (fun z4 hz4 => ?_)
      have hf := hf z4 hz4
      refine lv_istore_n hx hb d_Bl_join_26 rfl hl (by decide) rfl (fun ls hl => ?_)
      have hl : lv_has ls 4 [(3, .int z4), (2, .int z1), (0, .ref (a 8)), (1, .int x1)] := hl
      refine lv_aload_n hx hb d_Bl_join_27 rfl (lv_at hl 2 rfl) ?_
      refine rg_Bl_cells S hok hP (hts _ k_fl_Bl_19) d_Bl_join_28 ?_
      refine lv_iload_n hx hb d_Bl_join_31 rfl (lv_at hl 3 rfl) ?_
      refine lv_iload_n hx hb d_Bl_join_32 rfl (lv_at hl 0 rfl) ?_
      obtain ⟨hin, hf⟩ := hf
      refine rs_Bl_cells S hok hwr hP hD hS hin d_Bl_join_33 (fun σ5 H locs hσ5 hP hD hS => ?_)
      have hf := hf σ5 hσ5
      refine lv_aload_n hx hb d_Bl_join_34 rfl (lv_at hl 2 rfl) ?_
      refine rg_Bl_records S hok hP (hts _ k_fl_Bl_14) d_Bl_join_35 ?_
      refine lv_iload_n hx hb d_Bl_join_38 rfl (lv_at hl 0 rfl) ?_
      refine lv_bipush (v := (31 : Int32)) hx hb d_Bl_join_39 (by decide) ?_
      refine r_callVv (As := [.int z4, .int (31 : Int32)]) (rest := []) (n := 2) (q0 := 0) S hok (c_Rc_release l D cI a (wrB cI a wr) (Fx_B hwr) _ _ _ _ hf) k_ml_Bl_80 k_im_Rc_release k_sel_Rc_release k_ini_Rc k_code_Rc_release rfl rfl (by decide +kernel) ⟨by decide, by decide⟩ rfl rfl hP hD hS hA (Nat.zero_le _) (Nat.zero_le _) hl.1 rfl rfl (Nat.le_of_ble_eq_true rfl) d_Bl_join_41 (fun σ6 H locs hf hP hD hS => ?_)
      have hP : va_P D classes (wBl cI a wr σ6) H := hP
      have hD : va_D A (wBl cI a wr σ6) := hD
      refine lv_aload_n hx hb d_Bl_join_44 rfl (lv_at hl 2 rfl) ?_
      refine rg_Bl_spareRows S hok hP (hts _ k_fl_Bl_23) d_Bl_join_45 ?_
      refine lv_aload_n hx hb d_Bl_join_48 rfl (lv_at hl 2 rfl) ?_
      refine rg_Bl_spares S hok hP (hts _ k_fl_Bl_40) d_Bl_join_49 ?_
      refine lv_iload_n hx hb d_Bl_join_52 rfl (lv_at hl 1 rfl) ?_
      obtain ⟨hin, hf⟩ := hf
      refine rs_Bl_spareRows S hok hwr hP hD hS hin d_Bl_join_53 (fun σ7 H locs hσ7 hP hD hS => ?_)
      have hf := hf σ7 hσ7
      refine lv_aload_n hx hb d_Bl_join_54 rfl (lv_at hl 2 rfl) ?_
      refine lv_dup hx hb d_Bl_join_55 rfl ?_
      refine rg_Bl_spares S hok hP (hts _ k_fl_Bl_40) d_Bl_join_56 ?_
      refine lv_iconst (v := (1 : Int32)) hx hb d_Bl_join_59 (by decide) ?_
      refine lv_iadd hx hb d_Bl_join_60 ?_
      refine rp_Bl_spares S hok hwr hP hD hS (hts _ k_fl_Bl_40) d_Bl_join_61 (fun σ8 H locs hσ8 hP hD hS => ?_)
      have hf := hf σ8 hσ8
      exact hend _ _ _ _ _ d_Bl_join_64 hf hP hD hS
abbrev rm_Bl_joinBelow : Room := { frames := 50, cells := 0, slots := 0, locals := 1000 }
set_option maxRecDepth 100000 in
set_option maxHeartbeats 4000000 in
theorem c_Bl_joinBelow (l : Launch) (D : va_G) (cI : ClassId) (a : Nat → Nat) (wr : St → va_W) (hwr : Fx 17 wr) (x1 : Int32) (σ : St) (Q : St → Prop) (hf : F_Bl_joinBelow x1 σ Q) : Cv l y_Bl_joinBelow (.code y_Bl_joinBelow b_Bl_joinBelow 4 none) rm_Bl_joinBelow D cI [.ref (a 8), .int x1] (wBl cI a wr) σ Q := by
  refine Cv.of (by decide +kernel) (Nat.le_of_ble_eq_true rfl) ?_
  intro p e s m below meth c ls A Z hx hb hml hown hts hok hP hD hA hl hend
  have S : CallFix p m c b_Bl_joinBelow 4 s ([.ref (a 8), .int x1] : List Value).toArray lwg "PropertyTrie$Blocks" := ⟨hx, hb, hml, hown, hts⟩
  have hS : va_S A s.heap s.heap [] := va_S.rf
  have hl : lv_has ls 4 [(0, .ref (a 8)), (1, .int x1)] := hl
  unfold F_Bl_joinBelow at hf
  have lab14 : ∀ (v1 v2 v3 : Int32) (σ : St) (H : Heap) (locs : List Loc) (ls : Array Slot), F_Bl_joinBelow_L14 v1 v2 v3 σ Q → va_P D classes (wBl cI a wr σ) H → va_D A (wBl cI a wr σ) → va_S A s.heap H locs → lv_has ls 4 [(0, .ref (a 8)), (1, .int v1), (2, .int v2), (3, .int v3)] → W p l e rm_Bl_joinBelow s m ([.ref (a 8), .int x1] : List Value).toArray below meth c H locs 0 0 Z (F0 m 14 ls []) := by
    intro v1 v2 v3 σ H locs ls hf hP hD hS hl
    unfold F_Bl_joinBelow_L14 at hf
    obtain ⟨I14, m14, h0, hst14⟩ := hf
    have lp14 : ∀ (n : Nat) (v3 : Int32) (σ : St) (H : Heap) (locs : List Loc) (ls : Array Slot), m14 v3 σ = n → I14 v3 σ → va_P D classes (wBl cI a wr σ) H → va_D A (wBl cI a wr σ) → va_S A s.heap H locs → lv_has ls 4 [(0, .ref (a 8)), (1, .int v1), (2, .int v2), (3, .int v3)] → W p l e rm_Bl_joinBelow s m ([.ref (a 8), .int x1] : List Value).toArray below meth c H locs 0 0 Z (F0 m 14 ls []) := by
      intro n14
      induction n14 using Nat.strongRecOn with
      | _ n14 ih14 =>
        intro v3 σ H locs ls hn hI hP hD hS hl
        have hf := hst14 v3 σ n14 hI hn
        refine lv_iload_n hx hb d_Bl_joinBelow_14 rfl (lv_at hl 3 rfl) ?_
        refine lv_bipush (v := (32 : Int32)) hx hb d_Bl_joinBelow_15 (by decide) ?_
        refine lv_icmp_ge hx hb d_Bl_joinBelow_17 rfl (fun hc => ?_) (fun hc => ?_)
        · have hf := hf.1 hc
          refine lv_aload_n hx hb d_Bl_joinBelow_33 rfl (lv_at hl 0 rfl) ?_
          refine lv_iload_n hx hb d_Bl_joinBelow_34 rfl (lv_at hl 1 rfl) ?_
          refine r_callVv (As := [.int v1]) (rest := []) (n := 1) (q0 := 8) S hok (c_Bl_join l D cI a wr hwr _ _ _ hf) k_ml_Bl_83 k_im_Bl_join k_sel_Bl_join k_ini_Bl k_code_Bl_join rfl rfl (by decide +kernel) ⟨by decide, by decide⟩ rfl rfl hP hD hS hA (Nat.zero_le _) (Nat.zero_le _) hl.1 rfl rfl (Nat.le_of_ble_eq_true rfl) d_Bl_joinBelow_35 (fun σ1 H locs hf hP hD hS => ?_)
          have hP : va_P D classes (wBl cI a wr σ1) H := hP
          have hD : va_D A (wBl cI a wr σ1) := hD
          exact hend _ _ _ _ _ d_Bl_joinBelow_38 hf hP hD hS
        · have hf := hf.2 hc
          refine lv_aload_n hx hb d_Bl_joinBelow_20 rfl (lv_at hl 0 rfl) ?_
          refine lv_iload_n hx hb d_Bl_joinBelow_21 rfl (lv_at hl 2 rfl) ?_
          refine lv_iload_n hx hb d_Bl_joinBelow_22 rfl (lv_at hl 3 rfl) ?_
          refine lv_iadd hx hb d_Bl_joinBelow_23 ?_
          refine r_callVv (As := [.int (v2 + v3)]) (rest := []) (n := 1) (q0 := 8) S hok (c_Bl_join l D cI a wr hwr _ _ _ hf) k_ml_Bl_83 k_im_Bl_join k_sel_Bl_join k_ini_Bl k_code_Bl_join rfl rfl (by decide +kernel) ⟨by decide, by decide⟩ rfl rfl hP hD hS hA (Nat.zero_le _) (Nat.zero_le _) hl.1 rfl rfl (Nat.le_of_ble_eq_true rfl) d_Bl_joinBelow_24 (fun σ2 H locs hf hP hD hS => ?_)
          have hP : va_P D classes (wBl cI a wr σ2) H := hP
          have hD : va_D A (wBl cI a wr σ2) := hD
          obtain ⟨z3, hz3⟩ : ∃ z3 : Int32, z3 = v3 + (1 : Int32) := ⟨_, rfl⟩
          have hf := hf z3 hz3
          refine lv_iinc (k := 3) (v := z3) hx hb d_Bl_joinBelow_27 hl rfl (by rw [hz3]; rfl) (by decide) rfl (fun ls hl => ?_)
          have hl : lv_has ls 4 [(3, .int z3), (0, .ref (a 8)), (1, .int v1), (2, .int v2)] := hl
          refine lv_goto hx hb d_Bl_joinBelow_30 rfl ?_
          exact ih14 _ hf.2 _ _ _ _ _ rfl hf.1 hP hD hS (lv_sub hl [1, 2, 3, 0] rfl)
    exact lp14 _ v3 σ H locs ls rfl h0 hP hD hS hl
  refine lv_aload_n hx hb d_Bl_joinBelow_0 rfl (lv_at hl 0 rfl) ?_
  refine rg_Bl_cells S hok hP (hts _ k_fl_Bl_19) d_Bl_joinBelow_1 ?_
  refine lv_iload_n hx hb d_Bl_joinBelow_4 rfl (lv_at hl 1 rfl) ?_
  obtain ⟨hin, hf⟩ := hf
  refine rl_Bl_cells S hok hP hin d_Bl_joinBelow_5 ?_
  refine lv_ineg hx hb d_Bl_joinBelow_6 ?_
  refine lv_topi (fun z4 hz4 => ?_)
  have hf := hf z4 hz4
  refine lv_istore_n hx hb d_Bl_joinBelow_7 rfl hl (by decide) rfl (fun ls hl => ?_)
  have hl : lv_has ls 4 [(2, .int z4), (0, .ref (a 8)), (1, .int x1)] := hl
  refine lv_iload_n hx hb d_Bl_joinBelow_8 rfl (lv_at hl 0 rfl) ?_
  refine lv_if_le hx hb d_Bl_joinBelow_9 rfl (fun hc => ?_) (fun hc => ?_)
  · have hf := hf.1 hc
    exact hend _ _ _ _ _ d_Bl_joinBelow_38 hf hP hD hS
  · have hf := hf.2 hc
    refine lv_iconst (v := (0 : Int32)) hx hb d_Bl_joinBelow_12 (by decide) ?_
    refine lv_topi (fun z5 hz5 => ?_)
    have hf := hf z5 hz5
    refine lv_istore_n hx hb d_Bl_joinBelow_13 rfl hl (by decide) rfl (fun ls hl => ?_)
    have hl : lv_has ls 4 [(3, .int z5), (2, .int z4), (0, .ref (a 8)), (1, .int x1)] := hl
    exact lab14 _ _ _ _ _ _ _ hf hP hD hS (lv_sub hl [2, 3, 1, 0] rfl)
abbrev rm_Bl_alter : Room := { frames := 60, cells := 0, slots := 0, locals := 1200 }
set_option maxRecDepth 100000 in
set_option maxHeartbeats 4000000 in
theorem c_Bl_alter (l : Launch) (D : va_G) (cI : ClassId) (a : Nat → Nat) (wr : St → va_W) (hwr : Fx 17 wr) (x1 : Int32) (x2 : Int32) (σ : St) (Q : St → Prop) (hf : F_Bl_alter x1 x2 σ Q) : Cv l y_Bl_alter (.code y_Bl_alter b_Bl_alter 5 none) rm_Bl_alter D cI [.ref (a 8), .int x1, .int x2] (wBl cI a wr) σ Q := by
  refine Cv.of (by decide +kernel) (Nat.le_of_ble_eq_true rfl) ?_
  intro p e s m below meth c ls A Z hx hb hml hown hts hok hP hD hA hl hend
  have S : CallFix p m c b_Bl_alter 5 s ([.ref (a 8), .int x1, .int x2] : List Value).toArray lwg "PropertyTrie$Blocks" := ⟨hx, hb, hml, hown, hts⟩
  have hS : va_S A s.heap s.heap [] := va_S.rf
  have hl : lv_has ls 5 [(0, .ref (a 8)), (1, .int x1), (2, .int x2)] := hl
  unfold F_Bl_alter at hf
  have lab67 : ∀ (v2 v4 : Int32) (σ : St) (H : Heap) (locs : List Loc) (ls : Array Slot), F_Bl_alter_L67 v2 v4 σ Q → va_P D classes (wBl cI a wr σ) H → va_D A (wBl cI a wr σ) → va_S A s.heap H locs → lv_has ls 5 [(0, .ref (a 8)), (2, .int v2), (4, .int v4)] → W p l e rm_Bl_alter s m ([.ref (a 8), .int x1, .int x2] : List Value).toArray below meth c H locs 0 0 Z (F0 m 67 ls []) := by
    intro v2 v4 σ H locs ls hf hP hD hS hl
    unfold F_Bl_alter_L67 at hf
    obtain ⟨I67, m67, h0, hst67⟩ := hf
    have lp67 : ∀ (n : Nat) (v4 : Int32) (σ : St) (H : Heap) (locs : List Loc) (ls : Array Slot), m67 v4 σ = n → I67 v4 σ → va_P D classes (wBl cI a wr σ) H → va_D A (wBl cI a wr σ) → va_S A s.heap H locs → lv_has ls 5 [(0, .ref (a 8)), (2, .int v2), (4, .int v4)] → W p l e rm_Bl_alter s m ([.ref (a 8), .int x1, .int x2] : List Value).toArray below meth c H locs 0 0 Z (F0 m 67 ls []) := by
      intro n67
      induction n67 using Nat.strongRecOn with
      | _ n67 ih67 =>
        intro v4 σ H locs ls hn hI hP hD hS hl
        have hf := hst67 v4 σ n67 hI hn
        refine lv_iload hx hb d_Bl_alter_67 (lv_at hl 2 rfl) ?_
        refine lv_iload_n hx hb d_Bl_alter_69 rfl (lv_at hl 1 rfl) ?_
        refine lv_bipush (v := (10 : Int32)) hx hb d_Bl_alter_70 (by decide) ?_
        refine lv_ishr hx hb d_Bl_alter_72 ?_
        refine lv_icmp_gt hx hb d_Bl_alter_73 rfl (fun hc => ?_) (fun hc => ?_)
        · have hf := hf.1 hc
          exact hend _ _ _ _ _ d_Bl_alter_88 hf hP hD hS
        · have hf := hf.2 hc
          refine lv_aload_n hx hb d_Bl_alter_76 rfl (lv_at hl 0 rfl) ?_
          refine lv_iload hx hb d_Bl_alter_77 (lv_at hl 2 rfl) ?_
          refine r_callVv (As := [.int v4]) (rest := []) (n := 1) (q0 := 8) S hok (c_Bl_joinBelow l D cI a wr hwr _ _ _ hf) k_ml_Bl_70 k_im_Bl_joinBelow k_sel_Bl_joinBelow k_ini_Bl k_code_Bl_joinBelow rfl rfl (by decide +kernel) ⟨by decide, by decide⟩ rfl rfl hP hD hS hA (Nat.zero_le _) (Nat.zero_le _) hl.1 rfl rfl (Nat.le_of_ble_eq_true rfl) d_Bl_alter_79 (fun σ1 H locs hf hP hD hS => ?_)
          have hP : va_P D classes (wBl cI a wr σ1) H := hP
          have hD : va_D A (wBl cI a wr σ1) := hD
          obtain ⟨z2, hz2⟩ : ∃ z2 : Int32, z2 = v4 + (1 : Int32) := ⟨_, rfl⟩
          have hf := hf z2 hz2
          refine lv_iinc (k := 2) (v := z2) hx hb d_Bl_alter_82 hl rfl (by rw [hz2]; rfl) (by decide) rfl (fun ls hl => ?_)
          have hl : lv_has ls 5 [(4, .int z2), (0, .ref (a 8)), (2, .int v2)] := hl
          refine lv_goto hx hb d_Bl_alter_85 rfl ?_
          exact ih67 _ hf.2 _ _ _ _ _ rfl hf.1 hP hD hS (lv_sub hl [1, 2, 0] rfl)
    exact lp67 _ v4 σ H locs ls rfl h0 hP hD hS hl
  have lab29 : ∀ (v1 v2 v3 : Int32) (σ : St) (H : Heap) (locs : List Loc) (ls : Array Slot), F_Bl_alter_L29 v1 v2 v3 σ Q → va_P D classes (wBl cI a wr σ) H → va_D A (wBl cI a wr σ) → va_S A s.heap H locs → lv_has ls 5 [(0, .ref (a 8)), (1, .int v1), (2, .int v2), (3, .int v3)] → W p l e rm_Bl_alter s m ([.ref (a 8), .int x1, .int x2] : List Value).toArray below meth c H locs 0 0 Z (F0 m 29 ls []) := by
    intro v1 v2 v3 σ H locs ls hf hP hD hS hl
    unfold F_Bl_alter_L29 at hf
    obtain ⟨I29, m29, h0, hst29⟩ := hf
    have lp29 : ∀ (n : Nat) (v3 : Int32) (σ : St) (H : Heap) (locs : List Loc) (ls : Array Slot), m29 v3 σ = n → I29 v3 σ → va_P D classes (wBl cI a wr σ) H → va_D A (wBl cI a wr σ) → va_S A s.heap H locs → lv_has ls 5 [(0, .ref (a 8)), (1, .int v1), (2, .int v2), (3, .int v3)] → W p l e rm_Bl_alter s m ([.ref (a 8), .int x1, .int x2] : List Value).toArray below meth c H locs 0 0 Z (F0 m 29 ls []) := by
      intro n29
      induction n29 using Nat.strongRecOn with
      | _ n29 ih29 =>
        intro v3 σ H locs ls hn hI hP hD hS hl
        have hf := hst29 v3 σ n29 hI hn
        refine lv_iload_n hx hb d_Bl_alter_29 rfl (lv_at hl 3 rfl) ?_
        refine lv_iload_n hx hb d_Bl_alter_30 rfl (lv_at hl 2 rfl) ?_
        refine lv_icmp_gt hx hb d_Bl_alter_31 rfl (fun hc => ?_) (fun hc => ?_)
        · have hf := hf.1 hc
          refine lv_iload_n hx hb d_Bl_alter_61 rfl (lv_at hl 1 rfl) ?_
          refine lv_bipush (v := (10 : Int32)) hx hb d_Bl_alter_62 (by decide) ?_
          refine lv_ishr hx hb d_Bl_alter_64 ?_
          refine lv_topi (fun z3 hz3 => ?_)
          have hf := hf z3 hz3
          refine lv_istore hx hb d_Bl_alter_65 hl (by decide) rfl (fun ls hl => ?_)
          have hl : lv_has ls 5 [(4, .int z3), (0, .ref (a 8)), (1, .int v1), (2, .int v2), (3, .int v3)] := hl
          exact lab67 _ _ _ _ _ _ hf hP hD hS (lv_sub hl [1, 3, 0] rfl)
        · have hf := hf.2 hc
          refine lv_aload_n hx hb d_Bl_alter_34 rfl (lv_at hl 0 rfl) ?_
          refine lv_iload_n hx hb d_Bl_alter_35 rfl (lv_at hl 3 rfl) ?_
          refine r_callVv (As := [.int v3]) (rest := []) (n := 1) (q0 := 8) S hok (c_Bl_find l D cI a wr hwr _ _ _ hf) k_ml_Bl_44 k_im_Bl_find k_sel_Bl_find k_ini_Bl k_code_Bl_find rfl rfl (by decide +kernel) ⟨by decide, by decide⟩ rfl rfl hP hD hS hA (Nat.zero_le _) (Nat.zero_le _) hl.1 rfl rfl (Nat.le_of_ble_eq_true rfl) d_Bl_alter_36 (fun σ4 H locs hf hP hD hS => ?_)
          have hP : va_P D classes (wBl cI a wr σ4) H := hP
          have hD : va_D A (wBl cI a wr σ4) := hD
          refine lv_aload_n hx hb d_Bl_alter_39 rfl (lv_at hl 0 rfl) ?_
          refine lv_aload_n hx hb d_Bl_alter_40 rfl (lv_at hl 0 rfl) ?_
          refine rg_Bl_found S hok hP (hts _ k_fl_Bl_48) d_Bl_alter_41 ?_
          refine r_callVv (As := [.int (σ4 14 0)]) (rest := []) (n := 1) (q0 := 8) S hok (c_Bl_replace l D cI a wr hwr _ _ _ hf) k_ml_Bl_61 k_im_Bl_replace k_sel_Bl_replace k_ini_Bl k_code_Bl_replace rfl rfl (by decide +kernel) ⟨by decide, by decide⟩ rfl rfl hP hD hS hA (Nat.zero_le _) (Nat.zero_le _) hl.1 rfl rfl (Nat.le_of_ble_eq_true rfl) d_Bl_alter_44 (fun σ5 H locs hf hP hD hS => ?_)
          have hP : va_P D classes (wBl cI a wr σ5) H := hP
          have hD : va_D A (wBl cI a wr σ5) := hD
          refine lv_iload_n hx hb d_Bl_alter_47 rfl (lv_at hl 3 rfl) ?_
          refine lv_aload_n hx hb d_Bl_alter_48 rfl (lv_at hl 0 rfl) ?_
          refine rg_Bl_foundLast S hok hP (hts _ k_fl_Bl_54) d_Bl_alter_49 ?_
          refine va_mmax hx hb (hml.trans hl.1.symm) hown (hts _ k_ml_Bl_64) (hts _ k_st_Mt_max) (hts _ k_ini_Mt) (hts _ k_code_Mt_max) (by decide) (by decide) (Nat.zero_le _) (Nat.zero_le _) d_Bl_alter_52 ?_
          refine lv_iconst (v := (1 : Int32)) hx hb d_Bl_alter_55 (by decide) ?_
          refine lv_iadd hx hb d_Bl_alter_56 ?_
          refine lv_topi (fun z6 hz6 => ?_)
          have hf := hf z6 hz6
          refine lv_istore_n hx hb d_Bl_alter_57 rfl hl (by decide) rfl (fun ls hl => ?_)
          have hl : lv_has ls 5 [(3, .int z6), (0, .ref (a 8)), (1, .int v1), (2, .int v2)] := hl
          refine lv_goto hx hb d_Bl_alter_58 rfl ?_
          exact ih29 _ hf.2 _ _ _ _ _ rfl hf.1 hP hD hS (lv_sub hl [1, 2, 3, 0] rfl)
    exact lp29 _ v3 σ H locs ls rfl h0 hP hD hS hl
  refine lv_aload_n hx hb d_Bl_alter_0 rfl (lv_at hl 0 rfl) ?_
  refine rg_Bl_spares S hok hP (hts _ k_fl_Bl_40) d_Bl_alter_1 ?_
  refine lv_iconst (v := (4 : Int32)) hx hb d_Bl_alter_4 (by decide) ?_
  refine lv_icmp_ge hx hb d_Bl_alter_5 rfl (fun hc => ?_) (fun hc => ?_)
  · have hf := hf.1 hc
    refine lv_aload_n hx hb d_Bl_alter_9 rfl (lv_at hl 0 rfl) ?_
    refine lv_iload_n hx hb d_Bl_alter_10 rfl (lv_at hl 1 rfl) ?_
    refine r_callVv (As := [.int x1]) (rest := []) (n := 1) (q0 := 8) S hok (c_Bl_splitBefore l D cI a wr hwr _ _ _ hf) k_ml_Bl_57 k_im_Bl_splitBefore k_sel_Bl_splitBefore k_ini_Bl k_code_Bl_splitBefore rfl rfl (by decide +kernel) ⟨by decide, by decide⟩ rfl rfl hP hD hS hA (Nat.zero_le _) (Nat.zero_le _) hl.1 rfl rfl (Nat.le_of_ble_eq_true rfl) d_Bl_alter_11 (fun σ7 H locs hf hP hD hS => ?_)
    have hP : va_P D classes (wBl cI a wr σ7) H := hP
    have hD : va_D A (wBl cI a wr σ7) := hD
    refine lv_iload_n hx hb d_Bl_alter_14 rfl (lv_at hl 2 rfl) ?_
    refine lv_ldc (v := (1114111 : Int32)) hx hb hown (hts _ k_cst_Bl_60) d_Bl_alter_15 ?_
    refine lv_icmp_ge hx hb d_Bl_alter_17 rfl (fun hc => ?_) (fun hc => ?_)
    · have hf := hf.1 hc
      refine lv_iload_n hx hb d_Bl_alter_27 rfl (lv_at hl 1 rfl) ?_
      refine lv_istore_n hx hb d_Bl_alter_28 rfl hl (by decide) rfl (fun ls hl => ?_)
      have hl : lv_has ls 5 [(3, .int x1), (0, .ref (a 8)), (1, .int x1), (2, .int x2)] := hl
      exact lab29 _ _ _ _ _ _ _ hf hP hD hS (lv_sub hl [1, 2, 3, 0] rfl)
    · have hf := hf.2 hc
      refine lv_aload_n hx hb d_Bl_alter_20 rfl (lv_at hl 0 rfl) ?_
      refine lv_iload_n hx hb d_Bl_alter_21 rfl (lv_at hl 2 rfl) ?_
      refine lv_iconst (v := (1 : Int32)) hx hb d_Bl_alter_22 (by decide) ?_
      refine lv_iadd hx hb d_Bl_alter_23 ?_
      refine r_callVv (As := [.int (x2 + (1 : Int32))]) (rest := []) (n := 1) (q0 := 8) S hok (c_Bl_splitBefore l D cI a wr hwr _ _ _ hf) k_ml_Bl_57 k_im_Bl_splitBefore k_sel_Bl_splitBefore k_ini_Bl k_code_Bl_splitBefore rfl rfl (by decide +kernel) ⟨by decide, by decide⟩ rfl rfl hP hD hS hA (Nat.zero_le _) (Nat.zero_le _) hl.1 rfl rfl (Nat.le_of_ble_eq_true rfl) d_Bl_alter_24 (fun σ8 H locs hf hP hD hS => ?_)
      have hP : va_P D classes (wBl cI a wr σ8) H := hP
      have hD : va_D A (wBl cI a wr σ8) := hD
      refine lv_iload_n hx hb d_Bl_alter_27 rfl (lv_at hl 1 rfl) ?_
      refine lv_istore_n hx hb d_Bl_alter_28 rfl hl (by decide) rfl (fun ls hl => ?_)
      have hl : lv_has ls 5 [(3, .int x1), (0, .ref (a 8)), (1, .int x1), (2, .int x2)] := hl
      exact lab29 _ _ _ _ _ _ _ hf hP hD hS (lv_sub hl [1, 2, 3, 0] rfl)
  · have hf := hf.2 hc
    exact hend _ _ _ _ _ d_Bl_alter_8 hf hP hD hS
abbrev rm_Bl_empty : Room := { frames := 30, cells := 0, slots := 0, locals := 600 }
set_option maxRecDepth 100000 in
set_option maxHeartbeats 4000000 in
theorem c_Bl_empty (l : Launch) (D : va_G) (cI : ClassId) (a : Nat → Nat) (wr : St → va_W) (hwr : Fx 17 wr) (σ : St) (Q : St → Prop) (hf : F_Bl_empty σ Q) : Cv l y_Bl_empty (.code y_Bl_empty b_Bl_empty 2 none) rm_Bl_empty D cI [.ref (a 8)] (wBl cI a wr) σ Q := by
  refine Cv.of (by decide +kernel) (Nat.le_of_ble_eq_true rfl) ?_
  intro p e s m below meth c ls A Z hx hb hml hown hts hok hP hD hA hl hend
  have S : CallFix p m c b_Bl_empty 2 s ([.ref (a 8)] : List Value).toArray lwg "PropertyTrie$Blocks" := ⟨hx, hb, hml, hown, hts⟩
  have hS : va_S A s.heap s.heap [] := va_S.rf
  have hl : lv_has ls 2 [(0, .ref (a 8))] := hl
  unfold F_Bl_empty at hf
  have lab32 : ∀ (v1 : Int32) (σ : St) (H : Heap) (locs : List Loc) (ls : Array Slot), F_Bl_empty_L32 v1 σ Q → va_P D classes (wBl cI a wr σ) H → va_D A (wBl cI a wr σ) → va_S A s.heap H locs → lv_has ls 2 [(0, .ref (a 8)), (1, .int v1)] → W p l e rm_Bl_empty s m ([.ref (a 8)] : List Value).toArray below meth c H locs 0 0 Z (F0 m 32 ls []) := by
    intro v1 σ H locs ls hf hP hD hS hl
    unfold F_Bl_empty_L32 at hf
    obtain ⟨I32, m32, h0, hst32⟩ := hf
    have lp32 : ∀ (n : Nat) (v1 : Int32) (σ : St) (H : Heap) (locs : List Loc) (ls : Array Slot), m32 v1 σ = n → I32 v1 σ → va_P D classes (wBl cI a wr σ) H → va_D A (wBl cI a wr σ) → va_S A s.heap H locs → lv_has ls 2 [(0, .ref (a 8)), (1, .int v1)] → W p l e rm_Bl_empty s m ([.ref (a 8)] : List Value).toArray below meth c H locs 0 0 Z (F0 m 32 ls []) := by
      intro n32
      induction n32 using Nat.strongRecOn with
      | _ n32 ih32 =>
        intro v1 σ H locs ls hn hI hP hD hS hl
        have hf := hst32 v1 σ n32 hI hn
        refine lv_iload_n hx hb d_Bl_empty_32 rfl (lv_at hl 1 rfl) ?_
        refine lv_sipush (v := (2048 : Int32)) hx hb d_Bl_empty_33 (by decide) ?_
        refine lv_icmp_ge hx hb d_Bl_empty_36 rfl (fun hc => ?_) (fun hc => ?_)
        · have hf := hf.1 hc
          refine lv_aload_n hx hb d_Bl_empty_59 rfl (lv_at hl 0 rfl) ?_
          refine lv_sipush (v := (2048 : Int32)) hx hb d_Bl_empty_60 (by decide) ?_
          refine rp_Bl_spares S hok hwr hP hD hS (hts _ k_fl_Bl_40) d_Bl_empty_63 (fun σ1 H locs hσ1 hP hD hS => ?_)
          have hf := hf σ1 hσ1
          exact hend _ _ _ _ _ d_Bl_empty_66 hf hP hD hS
        · have hf := hf.2 hc
          refine lv_aload_n hx hb d_Bl_empty_39 rfl (lv_at hl 0 rfl) ?_
          refine rg_Bl_spareRows S hok hP (hts _ k_fl_Bl_23) d_Bl_empty_40 ?_
          refine lv_iload_n hx hb d_Bl_empty_43 rfl (lv_at hl 1 rfl) ?_
          refine lv_sipush (v := (1088 : Int32)) hx hb d_Bl_empty_44 (by decide) ?_
          refine lv_iload_n hx hb d_Bl_empty_47 rfl (lv_at hl 1 rfl) ?_
          refine lv_bipush (v := (32 : Int32)) hx hb d_Bl_empty_48 (by decide) ?_
          refine lv_imul hx hb d_Bl_empty_50 ?_
          refine lv_iadd hx hb d_Bl_empty_51 ?_
          obtain ⟨hin, hf⟩ := hf
          refine rs_Bl_spareRows S hok hwr hP hD hS hin d_Bl_empty_52 (fun σ2 H locs hσ2 hP hD hS => ?_)
          have hf := hf σ2 hσ2
          obtain ⟨z3, hz3⟩ : ∃ z3 : Int32, z3 = v1 + (1 : Int32) := ⟨_, rfl⟩
          have hf := hf z3 hz3
          refine lv_iinc (k := 1) (v := z3) hx hb d_Bl_empty_53 hl rfl (by rw [hz3]; rfl) (by decide) rfl (fun ls hl => ?_)
          have hl : lv_has ls 2 [(1, .int z3), (0, .ref (a 8))] := hl
          refine lv_goto hx hb d_Bl_empty_56 rfl ?_
          exact ih32 _ hf.2 _ _ _ _ _ rfl hf.1 hP hD hS (lv_sub hl [1, 0] rfl)
    exact lp32 _ v1 σ H locs ls rfl h0 hP hD hS hl
  refine lv_aload_n hx hb d_Bl_empty_0 rfl (lv_at hl 0 rfl) ?_
  refine rg_Bl_records S hok hP (hts _ k_fl_Bl_14) d_Bl_empty_1 ?_
  refine r_callVv (As := []) (rest := []) (n := 0) (q0 := 0) S hok (c_Rc_empty l D cI a (wrB cI a wr) (Fx_B hwr)  _ _ hf) k_ml_Bl_29 k_im_Rc_empty k_sel_Rc_empty k_ini_Rc k_code_Rc_empty rfl rfl (by decide +kernel) ⟨by decide, by decide⟩ rfl rfl hP hD hS hA (Nat.zero_le _) (Nat.zero_le _) hl.1 rfl rfl (Nat.le_of_ble_eq_true rfl) d_Bl_empty_4 (fun σ4 H locs hf hP hD hS => ?_)
  have hP : va_P D classes (wBl cI a wr σ4) H := hP
  have hD : va_D A (wBl cI a wr σ4) := hD
  refine lv_aload_n hx hb d_Bl_empty_7 rfl (lv_at hl 0 rfl) ?_
  refine rg_Bl_cells S hok hP (hts _ k_fl_Bl_19) d_Bl_empty_8 ?_
  refine lv_iconst (v := (0 : Int32)) hx hb d_Bl_empty_11 (by decide) ?_
  refine lv_sipush (v := (1088 : Int32)) hx hb d_Bl_empty_12 (by decide) ?_
  refine lv_iconst (v := (0 : Int32)) hx hb d_Bl_empty_15 (by decide) ?_
  refine r_callSv (As := [.ref (a 9), .int (0 : Int32), .int (1088 : Int32), .int (0 : Int32)]) (rest := []) (n := 4) S hok (c_Ar_fill4_cells l D cI a wr hwr _ _ _ _ _ hf) k_ml_Bl_30 k_st_Ar_fill4 k_ini_Ar k_code_Ar_fill4 rfl rfl (by decide +kernel) ⟨by decide, by decide⟩ hP hD hS hA (Nat.zero_le _) (Nat.zero_le _) hl.1 rfl rfl (Nat.le_of_ble_eq_true rfl) d_Bl_empty_16 (fun σ5 H locs hf hP hD hS => ?_)
  have hP : va_P D classes (wBl cI a wr σ5) H := hP
  have hD : va_D A (wBl cI a wr σ5) := hD
  refine lv_aload_n hx hb d_Bl_empty_19 rfl (lv_at hl 0 rfl) ?_
  refine rg_Bl_records S hok hP (hts _ k_fl_Bl_14) d_Bl_empty_20 ?_
  refine lv_iconst (v := (0 : Int32)) hx hb d_Bl_empty_23 (by decide) ?_
  refine lv_sipush (v := (1088 : Int32)) hx hb d_Bl_empty_24 (by decide) ?_
  refine r_callVv (As := [.int (0 : Int32), .int (1088 : Int32)]) (rest := []) (n := 2) (q0 := 0) S hok (c_Rc_hold l D cI a (wrB cI a wr) (Fx_B hwr) _ _ _ _ hf) k_ml_Bl_36 k_im_Rc_hold k_sel_Rc_hold k_ini_Rc k_code_Rc_hold rfl rfl (by decide +kernel) ⟨by decide, by decide⟩ rfl rfl hP hD hS hA (Nat.zero_le _) (Nat.zero_le _) hl.1 rfl rfl (Nat.le_of_ble_eq_true rfl) d_Bl_empty_27 (fun σ6 H locs hf hP hD hS => ?_)
  have hP : va_P D classes (wBl cI a wr σ6) H := hP
  have hD : va_D A (wBl cI a wr σ6) := hD
  refine lv_iconst (v := (0 : Int32)) hx hb d_Bl_empty_30 (by decide) ?_
  refine lv_topi (fun z7 hz7 => ?_)
  have hf := hf z7 hz7
  refine lv_istore_n hx hb d_Bl_empty_31 rfl hl (by decide) rfl (fun ls hl => ?_)
  have hl : lv_has ls 2 [(1, .int z7), (0, .ref (a 8))] := hl
  exact lab32 _ _ _ _ _ hf hP hD hS (lv_sub hl [1, 0] rfl)
end
section
abbrev rm_Pt_valueAt : Room := { frames := 30, cells := 0, slots := 0, locals := 600 }
set_option maxRecDepth 100000 in
set_option maxHeartbeats 4000000 in
theorem c_Pt_valueAt (l : Launch) (D : va_G) (cI : ClassId) (a : Nat → Nat) (wr : St → va_W) (hwr : Fx 17 wr) (x1 : Int32) (x2 : Int32) (σ : St) (Q : Int32 → St → Prop) (hf : F_Pt_valueAt x1 x2 σ Q) : Ci l y_Pt_valueAt (.code y_Pt_valueAt b_Pt_valueAt 3 (some .int)) rm_Pt_valueAt D cI [.ref (a 11), .int x1, .int x2] (wPt cI a wr) σ Q := by
  refine Ci.of (by decide +kernel) (Nat.le_of_ble_eq_true rfl) ?_
  intro p e s m below meth c ls A Z hx hb hml hown hts hok hP hD hA hl hend
  have S : CallFix p m c b_Pt_valueAt 3 s ([.ref (a 11), .int x1, .int x2] : List Value).toArray lwg "PropertyTrie" := ⟨hx, hb, hml, hown, hts⟩
  have hS : va_S A s.heap s.heap [] := va_S.rf
  have hl : lv_has ls 3 [(0, .ref (a 11)), (1, .int x1), (2, .int x2)] := hl
  unfold F_Pt_valueAt at hf
  refine lv_aload_n hx hb d_Pt_valueAt_0 rfl (lv_at hl 0 rfl) ?_
  refine rg_Pt_blocks S hok hP (hts _ k_fl_Pt_12) d_Pt_valueAt_1 ?_
  refine rgN_Bl_records S hok hP (va_Nw.use rfl (hok.2 _ kn_fl_Pt_28)) d_Pt_valueAt_4 ?_
  refine lv_aload_n hx hb d_Pt_valueAt_7 rfl (lv_at hl 0 rfl) ?_
  refine rg_Pt_blocks S hok hP (hts _ k_fl_Pt_12) d_Pt_valueAt_8 ?_
  refine lv_iload_n hx hb d_Pt_valueAt_11 rfl (lv_at hl 1 rfl) ?_
  refine r_callVi (As := [.int x1]) (rest := [.ref (a 0)]) (n := 1) (q0 := 8) S hok (c_Bl_recordOf l D cI a (wrT a wr) (Fx_T hwr) _ _ _ hf) k_ml_Pt_58 k_im_Bl_recordOf k_sel_Bl_recordOf k_ini_Bl k_code_Bl_recordOf rfl rfl (by decide +kernel) ⟨by decide, by decide⟩ rfl rfl hP hD hS hA (Nat.zero_le _) (Nat.zero_le _) hl.1 rfl rfl (Nat.le_of_ble_eq_true rfl) d_Pt_valueAt_12 (fun r2 σ1 H locs hf hP hD hS => ?_)
  have hP : va_P D classes (wPt cI a wr σ1) H := hP
  have hD : va_D A (wPt cI a wr σ1) := hD
  refine lv_iload_n hx hb d_Pt_valueAt_15 rfl (lv_at hl 2 rfl) ?_
  refine r_callVi (As := [.int r2, .int x2]) (rest := []) (n := 2) (q0 := 0) S hok (c_Rc_value l D cI a (wrB cI a (wrT a wr)) (Fx_B (Fx_T hwr)) _ _ _ _ hf) k_ml_Pt_68 k_im_Rc_value k_sel_Rc_value k_ini_Rc k_code_Rc_value rfl rfl (by decide +kernel) ⟨by decide, by decide⟩ rfl rfl hP hD hS hA (Nat.zero_le _) (Nat.zero_le _) hl.1 rfl rfl (Nat.le_of_ble_eq_true rfl) d_Pt_valueAt_16 (fun r4 σ3 H locs hf hP hD hS => ?_)
  have hP : va_P D classes (wPt cI a wr σ3) H := hP
  have hD : va_D A (wPt cI a wr σ3) := hD
  exact hend _ _ _ _ _ _ d_Pt_valueAt_19 rfl hf hP hD hS
abbrev rm_Pt_clear : Room := { frames := 40, cells := 0, slots := 0, locals := 800 }
set_option maxRecDepth 100000 in
set_option maxHeartbeats 4000000 in
theorem c_Pt_clear (l : Launch) (D : va_G) (cI : ClassId) (a : Nat → Nat) (wr : St → va_W) (hwr : Fx 17 wr) (σ : St) (Q : Int32 → St → Prop) (hf : F_Pt_clear σ Q) : Ci l y_Pt_clear (.code y_Pt_clear b_Pt_clear 5 (some .int)) rm_Pt_clear D cI [.ref (a 11)] (wPt cI a wr) σ Q := by
  refine Ci.of (by decide +kernel) (Nat.le_of_ble_eq_true rfl) ?_
  intro p e s m below meth c ls A Z hx hb hml hown hts hok hP hD hA hl hend
  have S : CallFix p m c b_Pt_clear 5 s ([.ref (a 11)] : List Value).toArray lwg "PropertyTrie" := ⟨hx, hb, hml, hown, hts⟩
  have hS : va_S A s.heap s.heap [] := va_S.rf
  have hl : lv_has ls 5 [(0, .ref (a 11))] := hl
  unfold F_Pt_clear at hf
  have lab4 : ∀ (v1 v2 : Int32) (σ : St) (H : Heap) (locs : List Loc) (ls : Array Slot), F_Pt_clear_L4 v1 v2 σ Q → va_P D classes (wPt cI a wr σ) H → va_D A (wPt cI a wr σ) → va_S A s.heap H locs → lv_has ls 5 [(0, .ref (a 11)), (1, .int v1), (2, .int v2)] → W p l e rm_Pt_clear s m ([.ref (a 11)] : List Value).toArray below meth c H locs 0 0 Z (F0 m 4 ls []) := by
    intro v1 v2 σ H locs ls hf hP hD hS hl
    unfold F_Pt_clear_L4 at hf
    obtain ⟨I4, m4, h0, hst4⟩ := hf
    have lp4 : ∀ (n : Nat) (v1 v2 : Int32) (σ : St) (H : Heap) (locs : List Loc) (ls : Array Slot), m4 v1 v2 σ = n → I4 v1 v2 σ → va_P D classes (wPt cI a wr σ) H → va_D A (wPt cI a wr σ) → va_S A s.heap H locs → lv_has ls 5 [(0, .ref (a 11)), (1, .int v1), (2, .int v2)] → W p l e rm_Pt_clear s m ([.ref (a 11)] : List Value).toArray below meth c H locs 0 0 Z (F0 m 4 ls []) := by
      intro n4
      induction n4 using Nat.strongRecOn with
      | _ n4 ih4 =>
        intro v1 v2 σ H locs ls hn hI hP hD hS hl
        have hf := hst4 v1 v2 σ n4 hI hn
        refine lv_iload_n hx hb d_Pt_clear_4 rfl (lv_at hl 2 rfl) ?_
        refine lv_sipush (v := (1024 : Int32)) hx hb d_Pt_clear_5 (by decide) ?_
        refine lv_icmp_ge hx hb d_Pt_clear_8 rfl (fun hc => ?_) (fun hc => ?_)
        · have hf := hf.1 hc
          refine lv_aload_n hx hb d_Pt_clear_60 rfl (lv_at hl 0 rfl) ?_
          refine rg_Pt_blocks S hok hP (hts _ k_fl_Pt_12) d_Pt_clear_61 ?_
          refine r_callVv (As := []) (rest := []) (n := 0) (q0 := 8) S hok (c_Bl_empty l D cI a (wrT a wr) (Fx_T hwr)  _ _ hf) k_ml_Pt_65 k_im_Bl_empty k_sel_Bl_empty k_ini_Bl k_code_Bl_empty rfl rfl (by decide +kernel) ⟨by decide, by decide⟩ rfl rfl hP hD hS hA (Nat.zero_le _) (Nat.zero_le _) hl.1 rfl rfl (Nat.le_of_ble_eq_true rfl) d_Pt_clear_64 (fun σ1 H locs hf hP hD hS => ?_)
          have hP : va_P D classes (wPt cI a wr σ1) H := hP
          have hD : va_D A (wPt cI a wr σ1) := hD
          refine lv_iload_n hx hb d_Pt_clear_67 rfl (lv_at hl 1 rfl) ?_
          exact hend _ _ _ _ _ _ d_Pt_clear_68 rfl hf hP hD hS
        · have hf := hf.2 hc
          refine lv_aload_n hx hb d_Pt_clear_11 rfl (lv_at hl 0 rfl) ?_
          refine rg_Pt_blocks S hok hP (hts _ k_fl_Pt_12) d_Pt_clear_12 ?_
          refine lv_iload_n hx hb d_Pt_clear_15 rfl (lv_at hl 2 rfl) ?_
          refine r_callVi (As := [.int v2]) (rest := []) (n := 1) (q0 := 8) S hok (c_Bl_recordOf l D cI a (wrT a wr) (Fx_T hwr) _ _ _ hf) k_ml_Pt_58 k_im_Bl_recordOf k_sel_Bl_recordOf k_ini_Bl k_code_Bl_recordOf rfl rfl (by decide +kernel) ⟨by decide, by decide⟩ rfl rfl hP hD hS hA (Nat.zero_le _) (Nat.zero_le _) hl.1 rfl rfl (Nat.le_of_ble_eq_true rfl) d_Pt_clear_16 (fun r3 σ2 H locs hf hP hD hS => ?_)
          have hP : va_P D classes (wPt cI a wr σ2) H := hP
          have hD : va_D A (wPt cI a wr σ2) := hD
          refine lv_if_ne hx hb d_Pt_clear_19 rfl (fun hc => ?_) (fun hc => ?_)
          · have hf := hf.2 hc
            refine lv_iconst (v := (0 : Int32)) hx hb d_Pt_clear_26 (by decide) ?_
            refine lv_topi (fun z4 hz4 => ?_)
            have hf := hf z4 hz4
            refine lv_istore_n hx hb d_Pt_clear_27 rfl hl (by decide) rfl (fun ls hl => ?_)
            have hl : lv_has ls 5 [(3, .int z4), (0, .ref (a 11)), (1, .int v1), (2, .int v2)] := hl
            refine lv_iload_n hx hb d_Pt_clear_28 rfl (lv_at hl 3 rfl) ?_
            refine lv_aload_n hx hb d_Pt_clear_29 rfl (lv_at hl 1 rfl) ?_
            refine rg_Pt_blocks S hok hP (hts _ k_fl_Pt_12) d_Pt_clear_30 ?_
            refine rgN_Bl_foundLast S hok hP (va_Nw.use rfl (hok.2 _ kn_fl_Pt_49)) d_Pt_clear_33 ?_
            refine va_mmax hx hb (hml.trans hl.1.symm) hown (hts _ k_ml_Pt_53) (hts _ k_st_Mt_max) (hts _ k_ini_Mt) (hts _ k_code_Mt_max) (by decide) (by decide) (Nat.zero_le _) (Nat.zero_le _) d_Pt_clear_36 ?_
            refine lv_iconst (v := (1 : Int32)) hx hb d_Pt_clear_39 (by decide) ?_
            refine lv_iadd hx hb d_Pt_clear_40 ?_
            refine lv_topi (fun z5 hz5 => ?_)
            have hf := hf z5 hz5
            refine lv_istore hx hb d_Pt_clear_41 hl (by decide) rfl (fun ls hl => ?_)
            have hl : lv_has ls 5 [(4, .int z5), (3, .int z4), (0, .ref (a 11)), (1, .int v1), (2, .int v2)] := hl
            refine lv_iload_n hx hb d_Pt_clear_43 rfl (lv_at hl 1 rfl) ?_
            refine lv_if_ne hx hb d_Pt_clear_44 rfl (fun hc => ?_) (fun hc => ?_)
            · have hf := hf.2 hc
              refine lv_iload hx hb d_Pt_clear_54 (lv_at hl 0 rfl) ?_
              refine lv_istore_n hx hb d_Pt_clear_56 rfl hl (by decide) rfl (fun ls hl => ?_)
              have hl : lv_has ls 5 [(2, .int z5), (4, .int z5), (3, .int z4), (0, .ref (a 11)), (1, .int v1)] := hl
              refine lv_goto hx hb d_Pt_clear_57 rfl ?_
              exact ih4 _ hf.2 _ _ _ _ _ _ rfl hf.1 hP hD hS (lv_sub hl [3, 4, 0] rfl)
            · have hf := hf.1 hc
              refine lv_iload_n hx hb d_Pt_clear_47 rfl (lv_at hl 3 rfl) ?_
              refine lv_iload hx hb d_Pt_clear_48 (lv_at hl 0 rfl) ?_
              refine lv_iload_n hx hb d_Pt_clear_50 rfl (lv_at hl 4 rfl) ?_
              refine lv_isub hx hb d_Pt_clear_51 ?_
              refine lv_iadd hx hb d_Pt_clear_52 ?_
              refine lv_topi (fun z6 hz6 => ?_)
              have hf := hf z6 hz6
              refine lv_istore_n hx hb d_Pt_clear_53 rfl hl (by decide) rfl (fun ls hl => ?_)
              have hl : lv_has ls 5 [(1, .int z6), (4, .int z5), (3, .int z4), (0, .ref (a 11)), (2, .int v2)] := hl
              refine lv_iload hx hb d_Pt_clear_54 (lv_at hl 1 rfl) ?_
              refine lv_istore_n hx hb d_Pt_clear_56 rfl hl (by decide) rfl (fun ls hl => ?_)
              have hl : lv_has ls 5 [(2, .int z5), (1, .int z6), (4, .int z5), (3, .int z4), (0, .ref (a 11))] := hl
              refine lv_goto hx hb d_Pt_clear_57 rfl ?_
              exact ih4 _ hf.2 _ _ _ _ _ _ rfl hf.1 hP hD hS (lv_sub hl [4, 1, 0] rfl)
          · have hf := hf.1 hc
            refine lv_iconst (v := (1 : Int32)) hx hb d_Pt_clear_22 (by decide) ?_
            refine lv_goto hx hb d_Pt_clear_23 rfl ?_
            refine lv_topi (fun z7 hz7 => ?_)
            have hf := hf z7 hz7
            refine lv_istore_n hx hb d_Pt_clear_27 rfl hl (by decide) rfl (fun ls hl => ?_)
            have hl : lv_has ls 5 [(3, .int z7), (0, .ref (a 11)), (1, .int v1), (2, .int v2)] := hl
            refine lv_iload_n hx hb d_Pt_clear_28 rfl (lv_at hl 3 rfl) ?_
            refine lv_aload_n hx hb d_Pt_clear_29 rfl (lv_at hl 1 rfl) ?_
            refine rg_Pt_blocks S hok hP (hts _ k_fl_Pt_12) d_Pt_clear_30 ?_
            refine rgN_Bl_foundLast S hok hP (va_Nw.use rfl (hok.2 _ kn_fl_Pt_49)) d_Pt_clear_33 ?_
            refine va_mmax hx hb (hml.trans hl.1.symm) hown (hts _ k_ml_Pt_53) (hts _ k_st_Mt_max) (hts _ k_ini_Mt) (hts _ k_code_Mt_max) (by decide) (by decide) (Nat.zero_le _) (Nat.zero_le _) d_Pt_clear_36 ?_
            refine lv_iconst (v := (1 : Int32)) hx hb d_Pt_clear_39 (by decide) ?_
            refine lv_iadd hx hb d_Pt_clear_40 ?_
            refine lv_topi (fun z8 hz8 => ?_)
            have hf := hf z8 hz8
            refine lv_istore hx hb d_Pt_clear_41 hl (by decide) rfl (fun ls hl => ?_)
            have hl : lv_has ls 5 [(4, .int z8), (3, .int z7), (0, .ref (a 11)), (1, .int v1), (2, .int v2)] := hl
            refine lv_iload_n hx hb d_Pt_clear_43 rfl (lv_at hl 1 rfl) ?_
            refine lv_if_ne hx hb d_Pt_clear_44 rfl (fun hc => ?_) (fun hc => ?_)
            · have hf := hf.2 hc
              refine lv_iload hx hb d_Pt_clear_54 (lv_at hl 0 rfl) ?_
              refine lv_istore_n hx hb d_Pt_clear_56 rfl hl (by decide) rfl (fun ls hl => ?_)
              have hl : lv_has ls 5 [(2, .int z8), (4, .int z8), (3, .int z7), (0, .ref (a 11)), (1, .int v1)] := hl
              refine lv_goto hx hb d_Pt_clear_57 rfl ?_
              exact ih4 _ hf.2 _ _ _ _ _ _ rfl hf.1 hP hD hS (lv_sub hl [3, 4, 0] rfl)
            · have hf := hf.1 hc
              refine lv_iload_n hx hb d_Pt_clear_47 rfl (lv_at hl 3 rfl) ?_
              refine lv_iload hx hb d_Pt_clear_48 (lv_at hl 0 rfl) ?_
              refine lv_iload_n hx hb d_Pt_clear_50 rfl (lv_at hl 4 rfl) ?_
              refine lv_isub hx hb d_Pt_clear_51 ?_
              refine lv_iadd hx hb d_Pt_clear_52 ?_
              refine lv_topi (fun z9 hz9 => ?_)
              have hf := hf z9 hz9
              refine lv_istore_n hx hb d_Pt_clear_53 rfl hl (by decide) rfl (fun ls hl => ?_)
              have hl : lv_has ls 5 [(1, .int z9), (4, .int z8), (3, .int z7), (0, .ref (a 11)), (2, .int v2)] := hl
              refine lv_iload hx hb d_Pt_clear_54 (lv_at hl 1 rfl) ?_
              refine lv_istore_n hx hb d_Pt_clear_56 rfl hl (by decide) rfl (fun ls hl => ?_)
              have hl : lv_has ls 5 [(2, .int z8), (1, .int z9), (4, .int z8), (3, .int z7), (0, .ref (a 11))] := hl
              refine lv_goto hx hb d_Pt_clear_57 rfl ?_
              exact ih4 _ hf.2 _ _ _ _ _ _ rfl hf.1 hP hD hS (lv_sub hl [4, 1, 0] rfl)
    exact lp4 _ v1 v2 σ H locs ls rfl h0 hP hD hS hl
  refine lv_iconst (v := (0 : Int32)) hx hb d_Pt_clear_0 (by decide) ?_
  refine lv_topi (fun z10 hz10 => ?_)
  have hf := hf z10 hz10
  refine lv_istore_n hx hb d_Pt_clear_1 rfl hl (by decide) rfl (fun ls hl => ?_)
  have hl : lv_has ls 5 [(1, .int z10), (0, .ref (a 11))] := hl
  refine lv_iconst (v := (0 : Int32)) hx hb d_Pt_clear_2 (by decide) ?_
  refine lv_topi (fun z11 hz11 => ?_)
  have hf := hf z11 hz11
  refine lv_istore_n hx hb d_Pt_clear_3 rfl hl (by decide) rfl (fun ls hl => ?_)
  have hl : lv_has ls 5 [(2, .int z11), (1, .int z10), (0, .ref (a 11))] := hl
  exact lab4 _ _ _ _ _ _ hf hP hD hS (lv_sub hl [2, 1, 0] rfl)
abbrev rm_Pt_checkPoint : Room := { frames := 10, cells := 0, slots := 0, locals := 200 }
set_option maxRecDepth 100000 in
set_option maxHeartbeats 4000000 in
theorem c_Pt_checkPoint (l : Launch) (D : va_G) (cI : ClassId) (a : Nat → Nat) (wr : St → va_W) (hwr : Fx 17 wr) (x0 : Int32) (σ : St) (Q : St → Prop) (hf : F_Pt_checkPoint x0 σ Q) : Cv l y_Pt_checkPoint (.code y_Pt_checkPoint b_Pt_checkPoint 1 none) rm_Pt_checkPoint D cI [.int x0] (wPt cI a wr) σ Q := by
  refine Cv.of (by decide +kernel) (Nat.le_of_ble_eq_true rfl) ?_
  intro p e s m below meth c ls A Z hx hb hml hown hts hok hP hD hA hl hend
  have S : CallFix p m c b_Pt_checkPoint 1 s ([.int x0] : List Value).toArray lwg "PropertyTrie" := ⟨hx, hb, hml, hown, hts⟩
  have hS : va_S A s.heap s.heap [] := va_S.rf
  have hl : lv_has ls 1 [(0, .int x0)] := hl
  unfold F_Pt_checkPoint at hf
  refine lv_iload_n hx hb d_Pt_checkPoint_0 rfl (lv_at hl 0 rfl) ?_
  refine lv_if_lt hx hb d_Pt_checkPoint_1 rfl (fun hc => ?_) (fun hc => ?_)
  · have hf := hf.1 hc
    exact hf.elim
  · have hf := hf.2 hc
    refine lv_iload_n hx hb d_Pt_checkPoint_4 rfl (lv_at hl 0 rfl) ?_
    refine lv_ldc (v := (1114111 : Int32)) hx hb hown (hts _ k_cst_Pt_48) d_Pt_checkPoint_5 ?_
    refine lv_icmp_le hx hb d_Pt_checkPoint_7 rfl (fun hc => ?_) (fun hc => ?_)
    · have hf := hf.1 hc
      exact hend _ _ _ _ _ d_Pt_checkPoint_20 hf hP hD hS
    · have hf := hf.2 hc
      exact hf.elim
abbrev rm_Pt_checkRange : Room := { frames := 10, cells := 0, slots := 0, locals := 200 }
set_option maxRecDepth 100000 in
set_option maxHeartbeats 4000000 in
theorem c_Pt_checkRange (l : Launch) (D : va_G) (cI : ClassId) (a : Nat → Nat) (wr : St → va_W) (hwr : Fx 17 wr) (x0 : Int32) (x1 : Int32) (σ : St) (Q : St → Prop) (hf : F_Pt_checkRange x0 x1 σ Q) : Cv l y_Pt_checkRange (.code y_Pt_checkRange b_Pt_checkRange 2 none) rm_Pt_checkRange D cI [.int x0, .int x1] (wPt cI a wr) σ Q := by
  refine Cv.of (by decide +kernel) (Nat.le_of_ble_eq_true rfl) ?_
  intro p e s m below meth c ls A Z hx hb hml hown hts hok hP hD hA hl hend
  have S : CallFix p m c b_Pt_checkRange 2 s ([.int x0, .int x1] : List Value).toArray lwg "PropertyTrie" := ⟨hx, hb, hml, hown, hts⟩
  have hS : va_S A s.heap s.heap [] := va_S.rf
  have hl : lv_has ls 2 [(0, .int x0), (1, .int x1)] := hl
  unfold F_Pt_checkRange at hf
  refine lv_iload_n hx hb d_Pt_checkRange_0 rfl (lv_at hl 0 rfl) ?_
  refine lv_if_lt hx hb d_Pt_checkRange_1 rfl (fun hc => ?_) (fun hc => ?_)
  · have hf := hf.1 hc
    exact hf.elim
  · have hf := hf.2 hc
    refine lv_iload_n hx hb d_Pt_checkRange_4 rfl (lv_at hl 0 rfl) ?_
    refine lv_iload_n hx hb d_Pt_checkRange_5 rfl (lv_at hl 1 rfl) ?_
    refine lv_icmp_gt hx hb d_Pt_checkRange_6 rfl (fun hc => ?_) (fun hc => ?_)
    · have hf := hf.1 hc
      exact hf.elim
    · have hf := hf.2 hc
      refine lv_iload_n hx hb d_Pt_checkRange_9 rfl (lv_at hl 1 rfl) ?_
      refine lv_ldc (v := (1114111 : Int32)) hx hb hown (hts _ k_cst_Pt_48) d_Pt_checkRange_10 ?_
      refine lv_icmp_le hx hb d_Pt_checkRange_12 rfl (fun hc => ?_) (fun hc => ?_)
      · have hf := hf.1 hc
        exact hend _ _ _ _ _ d_Pt_checkRange_25 hf hP hD hS
      · have hf := hf.2 hc
        exact hf.elim
abbrev rm_Pt_checkField : Room := { frames := 10, cells := 0, slots := 0, locals := 200 }
set_option maxRecDepth 100000 in
set_option maxHeartbeats 4000000 in
theorem c_Pt_checkField (l : Launch) (D : va_G) (cI : ClassId) (a : Nat → Nat) (wr : St → va_W) (hwr : Fx 17 wr) (x0 : Int32) (σ : St) (Q : St → Prop) (hf : F_Pt_checkField x0 σ Q) : Cv l y_Pt_checkField (.code y_Pt_checkField b_Pt_checkField 1 none) rm_Pt_checkField D cI [.int x0] (wPt cI a wr) σ Q := by
  refine Cv.of (by decide +kernel) (Nat.le_of_ble_eq_true rfl) ?_
  intro p e s m below meth c ls A Z hx hb hml hown hts hok hP hD hA hl hend
  have S : CallFix p m c b_Pt_checkField 1 s ([.int x0] : List Value).toArray lwg "PropertyTrie" := ⟨hx, hb, hml, hown, hts⟩
  have hS : va_S A s.heap s.heap [] := va_S.rf
  have hl : lv_has ls 1 [(0, .int x0)] := hl
  unfold F_Pt_checkField at hf
  refine lv_iload_n hx hb d_Pt_checkField_0 rfl (lv_at hl 0 rfl) ?_
  refine lv_if_lt hx hb d_Pt_checkField_1 rfl (fun hc => ?_) (fun hc => ?_)
  · have hf := hf.1 hc
    exact hf.elim
  · have hf := hf.2 hc
    refine lv_iload_n hx hb d_Pt_checkField_4 rfl (lv_at hl 0 rfl) ?_
    refine lv_bipush (v := (8 : Int32)) hx hb d_Pt_checkField_5 (by decide) ?_
    refine lv_icmp_lt hx hb d_Pt_checkField_7 rfl (fun hc => ?_) (fun hc => ?_)
    · have hf := hf.1 hc
      exact hend _ _ _ _ _ d_Pt_checkField_20 hf hP hD hS
    · have hf := hf.2 hc
      exact hf.elim
abbrev rm_Pt_checkLength : Room := { frames := 10, cells := 0, slots := 0, locals := 200 }
set_option maxRecDepth 100000 in
set_option maxHeartbeats 4000000 in
theorem c_Pt_checkLength (l : Launch) (D : va_G) (cI : ClassId) (a : Nat → Nat) (wr : St → va_W) (hwr : Fx 17 wr) (x0 : Int32) (σ : St) (Q : St → Prop) (hf : F_Pt_checkLength x0 σ Q) : Cv l y_Pt_checkLength (.code y_Pt_checkLength b_Pt_checkLength 1 none) rm_Pt_checkLength D cI [.int x0] (wPt cI a wr) σ Q := by
  refine Cv.of (by decide +kernel) (Nat.le_of_ble_eq_true rfl) ?_
  intro p e s m below meth c ls A Z hx hb hml hown hts hok hP hD hA hl hend
  have S : CallFix p m c b_Pt_checkLength 1 s ([.int x0] : List Value).toArray lwg "PropertyTrie" := ⟨hx, hb, hml, hown, hts⟩
  have hS : va_S A s.heap s.heap [] := va_S.rf
  have hl : lv_has ls 1 [(0, .int x0)] := hl
  unfold F_Pt_checkLength at hf
  refine lv_iload_n hx hb d_Pt_checkLength_0 rfl (lv_at hl 0 rfl) ?_
  refine lv_sipush (v := (4000 : Int32)) hx hb d_Pt_checkLength_1 (by decide) ?_
  refine lv_icmp_le hx hb d_Pt_checkLength_4 rfl (fun hc => ?_) (fun hc => ?_)
  · have hf := hf.1 hc
    exact hend _ _ _ _ _ d_Pt_checkLength_17 hf hP hD hS
  · have hf := hf.2 hc
    exact hf.elim
abbrev rm_Pt_get : Room := { frames := 40, cells := 0, slots := 0, locals := 800 }
set_option maxRecDepth 100000 in
set_option maxHeartbeats 4000000 in
theorem c_Pt_get (l : Launch) (D : va_G) (cI : ClassId) (a : Nat → Nat) (wr : St → va_W) (hwr : Fx 17 wr) (x1 : Int32) (x2 : Int32) (σ : St) (Q : Int32 → St → Prop) (hf : F_Pt_get x1 x2 σ Q) : Ci l y_Pt_get (.code y_Pt_get b_Pt_get 3 (some .int)) rm_Pt_get D cI [.ref (a 11), .int x1, .int x2] (wPt cI a wr) σ Q := by
  refine Ci.of (by decide +kernel) (Nat.le_of_ble_eq_true rfl) ?_
  intro p e s m below meth c ls A Z hx hb hml hown hts hok hP hD hA hl hend
  have S : CallFix p m c b_Pt_get 3 s ([.ref (a 11), .int x1, .int x2] : List Value).toArray lwg "PropertyTrie" := ⟨hx, hb, hml, hown, hts⟩
  have hS : va_S A s.heap s.heap [] := va_S.rf
  have hl : lv_has ls 3 [(0, .ref (a 11)), (1, .int x1), (2, .int x2)] := hl
  unfold F_Pt_get at hf
  refine lv_iload_n hx hb d_Pt_get_0 rfl (lv_at hl 1 rfl) ?_
  refine r_callSv (As := [.int x1]) (rest := []) (n := 1) S hok (c_Pt_checkPoint l D cI a wr hwr _ _ _ hf) k_ml_Pt_41 k_st_Pt_checkPoint k_ini_Pt k_code_Pt_checkPoint rfl rfl (by decide +kernel) ⟨by decide, by decide⟩ hP hD hS hA (Nat.zero_le _) (Nat.zero_le _) hl.1 rfl rfl (Nat.le_of_ble_eq_true rfl) d_Pt_get_1 (fun σ1 H locs hf hP hD hS => ?_)
  have hP : va_P D classes (wPt cI a wr σ1) H := hP
  have hD : va_D A (wPt cI a wr σ1) := hD
  refine lv_iload_n hx hb d_Pt_get_4 rfl (lv_at hl 2 rfl) ?_
  refine r_callSv (As := [.int x2]) (rest := []) (n := 1) S hok (c_Pt_checkField l D cI a wr hwr _ _ _ hf) k_ml_Pt_24 k_st_Pt_checkField k_ini_Pt k_code_Pt_checkField rfl rfl (by decide +kernel) ⟨by decide, by decide⟩ hP hD hS hA (Nat.zero_le _) (Nat.zero_le _) hl.1 rfl rfl (Nat.le_of_ble_eq_true rfl) d_Pt_get_5 (fun σ2 H locs hf hP hD hS => ?_)
  have hP : va_P D classes (wPt cI a wr σ2) H := hP
  have hD : va_D A (wPt cI a wr σ2) := hD
  refine lv_aload_n hx hb d_Pt_get_8 rfl (lv_at hl 0 rfl) ?_
  refine lv_iload_n hx hb d_Pt_get_9 rfl (lv_at hl 1 rfl) ?_
  refine lv_iload_n hx hb d_Pt_get_10 rfl (lv_at hl 2 rfl) ?_
  refine r_callVi (As := [.int x1, .int x2]) (rest := []) (n := 2) (q0 := 11) S hok (c_Pt_valueAt l D cI a wr hwr _ _ _ _ hf) k_ml_Pt_44 k_im_Pt_valueAt k_sel_Pt_valueAt k_ini_Pt k_code_Pt_valueAt rfl rfl (by decide +kernel) ⟨by decide, by decide⟩ rfl rfl hP hD hS hA (Nat.zero_le _) (Nat.zero_le _) hl.1 rfl rfl (Nat.le_of_ble_eq_true rfl) d_Pt_get_11 (fun r4 σ3 H locs hf hP hD hS => ?_)
  have hP : va_P D classes (wPt cI a wr σ3) H := hP
  have hD : va_D A (wPt cI a wr σ3) := hD
  exact hend _ _ _ _ _ _ d_Pt_get_14 rfl hf hP hD hS
abbrev rm_Pt_change : Room := { frames := 40, cells := 0, slots := 0, locals := 800 }
set_option maxRecDepth 100000 in
set_option maxHeartbeats 4000000 in
theorem c_Pt_change (l : Launch) (D : va_G) (cI : ClassId) (a : Nat → Nat) (wr : St → va_W) (hwr : Fx 17 wr) (x1 : Int32) (x2 : Int32) (σ : St) (Q : Int32 → St → Prop) (hf : F_Pt_change x1 x2 σ Q) : Ci l y_Pt_change (.code y_Pt_change b_Pt_change 5 (some .int)) rm_Pt_change D cI [.ref (a 11), .int x1, .int x2] (wPt cI a wr) σ Q := by
  refine Ci.of (by decide +kernel) (Nat.le_of_ble_eq_true rfl) ?_
  intro p e s m below meth c ls A Z hx hb hml hown hts hok hP hD hA hl hend
  have S : CallFix p m c b_Pt_change 5 s ([.ref (a 11), .int x1, .int x2] : List Value).toArray lwg "PropertyTrie" := ⟨hx, hb, hml, hown, hts⟩
  have hS : va_S A s.heap s.heap [] := va_S.rf
  have hl : lv_has ls 5 [(0, .ref (a 11)), (1, .int x1), (2, .int x2)] := hl
  unfold F_Pt_change at hf
  have lab18 : ∀ (v2 v3 v4 : Int32) (σ : St) (H : Heap) (locs : List Loc) (ls : Array Slot), F_Pt_change_L18 v2 v3 v4 σ Q → va_P D classes (wPt cI a wr σ) H → va_D A (wPt cI a wr σ) → va_S A s.heap H locs → lv_has ls 5 [(0, .ref (a 11)), (2, .int v2), (3, .int v3), (4, .int v4)] → W p l e rm_Pt_change s m ([.ref (a 11), .int x1, .int x2] : List Value).toArray below meth c H locs 0 0 Z (F0 m 18 ls []) := by
    intro v2 v3 v4 σ H locs ls hf hP hD hS hl
    unfold F_Pt_change_L18 at hf
    obtain ⟨I18, m18, h0, hst18⟩ := hf
    have lp18 : ∀ (n : Nat) (v4 : Int32) (σ : St) (H : Heap) (locs : List Loc) (ls : Array Slot), m18 v4 σ = n → I18 v4 σ → va_P D classes (wPt cI a wr σ) H → va_D A (wPt cI a wr σ) → va_S A s.heap H locs → lv_has ls 5 [(0, .ref (a 11)), (2, .int v2), (3, .int v3), (4, .int v4)] → W p l e rm_Pt_change s m ([.ref (a 11), .int x1, .int x2] : List Value).toArray below meth c H locs 0 0 Z (F0 m 18 ls []) := by
      intro n18
      induction n18 using Nat.strongRecOn with
      | _ n18 ih18 =>
        intro v4 σ H locs ls hn hI hP hD hS hl
        have hf := hst18 v4 σ n18 hI hn
        refine lv_iload hx hb d_Pt_change_18 (lv_at hl 3 rfl) ?_
        refine lv_ldc (v := (1114111 : Int32)) hx hb hown (hts _ k_cst_Pt_48) d_Pt_change_20 ?_
        refine lv_icmp_gt hx hb d_Pt_change_22 rfl (fun hc => ?_) (fun hc => ?_)
        · have hf := hf.1 hc
          refine lv_iconst (v := (-1 : Int32)) hx hb d_Pt_change_58 (by decide) ?_
          exact hend _ _ _ _ _ _ d_Pt_change_59 rfl hf hP hD hS
        · have hf := hf.2 hc
          refine lv_aload_n hx hb d_Pt_change_25 rfl (lv_at hl 0 rfl) ?_
          refine lv_iload hx hb d_Pt_change_26 (lv_at hl 3 rfl) ?_
          refine lv_iload_n hx hb d_Pt_change_28 rfl (lv_at hl 1 rfl) ?_
          refine r_callVi (As := [.int v4, .int v2]) (rest := []) (n := 2) (q0 := 11) S hok (c_Pt_valueAt l D cI a wr hwr _ _ _ _ hf) k_ml_Pt_44 k_im_Pt_valueAt k_sel_Pt_valueAt k_ini_Pt k_code_Pt_valueAt rfl rfl (by decide +kernel) ⟨by decide, by decide⟩ rfl rfl hP hD hS hA (Nat.zero_le _) (Nat.zero_le _) hl.1 rfl rfl (Nat.le_of_ble_eq_true rfl) d_Pt_change_29 (fun r2 σ1 H locs hf hP hD hS => ?_)
          have hP : va_P D classes (wPt cI a wr σ1) H := hP
          have hD : va_D A (wPt cI a wr σ1) := hD
          refine lv_iload_n hx hb d_Pt_change_32 rfl (lv_at hl 2 rfl) ?_
          refine lv_icmp_eq hx hb d_Pt_change_33 rfl (fun hc => ?_) (fun hc => ?_)
          · have hf := hf.1 hc
            refine lv_iload hx hb d_Pt_change_39 (lv_at hl 3 rfl) ?_
            refine lv_aload_n hx hb d_Pt_change_41 rfl (lv_at hl 0 rfl) ?_
            refine rg_Pt_blocks S hok hP (hts _ k_fl_Pt_12) d_Pt_change_42 ?_
            refine rgN_Bl_foundLast S hok hP (va_Nw.use rfl (hok.2 _ kn_fl_Pt_49)) d_Pt_change_45 ?_
            refine va_mmax hx hb (hml.trans hl.1.symm) hown (hts _ k_ml_Pt_53) (hts _ k_st_Mt_max) (hts _ k_ini_Mt) (hts _ k_code_Mt_max) (by decide) (by decide) (Nat.zero_le _) (Nat.zero_le _) d_Pt_change_48 ?_
            refine lv_iconst (v := (1 : Int32)) hx hb d_Pt_change_51 (by decide) ?_
            refine lv_iadd hx hb d_Pt_change_52 ?_
            refine lv_topi (fun z3 hz3 => ?_)
            have hf := hf z3 hz3
            refine lv_istore hx hb d_Pt_change_53 hl (by decide) rfl (fun ls hl => ?_)
            have hl : lv_has ls 5 [(4, .int z3), (0, .ref (a 11)), (2, .int v2), (3, .int v3)] := hl
            refine lv_goto hx hb d_Pt_change_55 rfl ?_
            exact ih18 _ hf.2 _ _ _ _ _ rfl hf.1 hP hD hS (lv_sub hl [1, 2, 3, 0] rfl)
          · have hf := hf.2 hc
            refine lv_iload hx hb d_Pt_change_36 (lv_at hl 3 rfl) ?_
            exact hend _ _ _ _ _ _ d_Pt_change_38 rfl hf hP hD hS
    exact lp18 _ v4 σ H locs ls rfl h0 hP hD hS hl
  refine lv_iload_n hx hb d_Pt_change_0 rfl (lv_at hl 1 rfl) ?_
  refine r_callSv (As := [.int x1]) (rest := []) (n := 1) S hok (c_Pt_checkPoint l D cI a wr hwr _ _ _ hf) k_ml_Pt_41 k_st_Pt_checkPoint k_ini_Pt k_code_Pt_checkPoint rfl rfl (by decide +kernel) ⟨by decide, by decide⟩ hP hD hS hA (Nat.zero_le _) (Nat.zero_le _) hl.1 rfl rfl (Nat.le_of_ble_eq_true rfl) d_Pt_change_1 (fun σ4 H locs hf hP hD hS => ?_)
  have hP : va_P D classes (wPt cI a wr σ4) H := hP
  have hD : va_D A (wPt cI a wr σ4) := hD
  refine lv_iload_n hx hb d_Pt_change_4 rfl (lv_at hl 2 rfl) ?_
  refine r_callSv (As := [.int x2]) (rest := []) (n := 1) S hok (c_Pt_checkField l D cI a wr hwr _ _ _ hf) k_ml_Pt_24 k_st_Pt_checkField k_ini_Pt k_code_Pt_checkField rfl rfl (by decide +kernel) ⟨by decide, by decide⟩ hP hD hS hA (Nat.zero_le _) (Nat.zero_le _) hl.1 rfl rfl (Nat.le_of_ble_eq_true rfl) d_Pt_change_5 (fun σ5 H locs hf hP hD hS => ?_)
  have hP : va_P D classes (wPt cI a wr σ5) H := hP
  have hD : va_D A (wPt cI a wr σ5) := hD
  refine lv_aload_n hx hb d_Pt_change_8 rfl (lv_at hl 0 rfl) ?_
  refine lv_iload_n hx hb d_Pt_change_9 rfl (lv_at hl 1 rfl) ?_
  refine lv_iload_n hx hb d_Pt_change_10 rfl (lv_at hl 2 rfl) ?_
  refine r_callVi (As := [.int x1, .int x2]) (rest := []) (n := 2) (q0 := 11) S hok (c_Pt_valueAt l D cI a wr hwr _ _ _ _ hf) k_ml_Pt_44 k_im_Pt_valueAt k_sel_Pt_valueAt k_ini_Pt k_code_Pt_valueAt rfl rfl (by decide +kernel) ⟨by decide, by decide⟩ rfl rfl hP hD hS hA (Nat.zero_le _) (Nat.zero_le _) hl.1 rfl rfl (Nat.le_of_ble_eq_true rfl) d_Pt_change_11 (fun r7 σ6 H locs hf hP hD hS => ?_)
  have hP : va_P D classes (wPt cI a wr σ6) H := hP
  have hD : va_D A (wPt cI a wr σ6) := hD
  refine lv_istore_n hx hb d_Pt_change_14 rfl hl (by decide) rfl (fun ls hl => ?_)
  have hl : lv_has ls 5 [(3, .int r7), (0, .ref (a 11)), (1, .int x1), (2, .int x2)] := hl
  refine lv_iload_n hx hb d_Pt_change_15 rfl (lv_at hl 2 rfl) ?_
  refine lv_istore hx hb d_Pt_change_16 hl (by decide) rfl (fun ls hl => ?_)
  have hl : lv_has ls 5 [(4, .int x1), (3, .int r7), (0, .ref (a 11)), (1, .int x1), (2, .int x2)] := hl
  exact lab18 _ _ _ _ _ _ _ hf hP hD hS (lv_sub hl [2, 4, 1, 0] rfl)
abbrev rm_Pt_alike : Room := { frames := 30, cells := 0, slots := 0, locals := 600 }
set_option maxRecDepth 100000 in
set_option maxHeartbeats 4000000 in
theorem c_Pt_alike (l : Launch) (D : va_G) (cI : ClassId) (a : Nat → Nat) (wr : St → va_W) (hwr : Fx 17 wr) (x1 : Int32) (x2 : Int32) (σ : St) (Q : Int32 → St → Prop) (hf : F_Pt_alike x1 x2 σ Q) : Ci l y_Pt_alike (.code y_Pt_alike b_Pt_alike 3 (some .boolean)) rm_Pt_alike D cI [.ref (a 11), .int x1, .int x2] (wPt cI a wr) σ Q := by
  refine Ci.of (by decide +kernel) (Nat.le_of_ble_eq_true rfl) ?_
  intro p e s m below meth c ls A Z hx hb hml hown hts hok hP hD hA hl hend
  have S : CallFix p m c b_Pt_alike 3 s ([.ref (a 11), .int x1, .int x2] : List Value).toArray lwg "PropertyTrie" := ⟨hx, hb, hml, hown, hts⟩
  have hS : va_S A s.heap s.heap [] := va_S.rf
  have hl : lv_has ls 3 [(0, .ref (a 11)), (1, .int x1), (2, .int x2)] := hl
  unfold F_Pt_alike at hf
  refine lv_iload_n hx hb d_Pt_alike_0 rfl (lv_at hl 1 rfl) ?_
  refine r_callSv (As := [.int x1]) (rest := []) (n := 1) S hok (c_Pt_checkPoint l D cI a wr hwr _ _ _ hf) k_ml_Pt_41 k_st_Pt_checkPoint k_ini_Pt k_code_Pt_checkPoint rfl rfl (by decide +kernel) ⟨by decide, by decide⟩ hP hD hS hA (Nat.zero_le _) (Nat.zero_le _) hl.1 rfl rfl (Nat.le_of_ble_eq_true rfl) d_Pt_alike_1 (fun σ1 H locs hf hP hD hS => ?_)
  have hP : va_P D classes (wPt cI a wr σ1) H := hP
  have hD : va_D A (wPt cI a wr σ1) := hD
  refine lv_iload_n hx hb d_Pt_alike_4 rfl (lv_at hl 2 rfl) ?_
  refine r_callSv (As := [.int x2]) (rest := []) (n := 1) S hok (c_Pt_checkPoint l D cI a wr hwr _ _ _ hf) k_ml_Pt_41 k_st_Pt_checkPoint k_ini_Pt k_code_Pt_checkPoint rfl rfl (by decide +kernel) ⟨by decide, by decide⟩ hP hD hS hA (Nat.zero_le _) (Nat.zero_le _) hl.1 rfl rfl (Nat.le_of_ble_eq_true rfl) d_Pt_alike_5 (fun σ2 H locs hf hP hD hS => ?_)
  have hP : va_P D classes (wPt cI a wr σ2) H := hP
  have hD : va_D A (wPt cI a wr σ2) := hD
  refine lv_aload_n hx hb d_Pt_alike_8 rfl (lv_at hl 0 rfl) ?_
  refine rg_Pt_blocks S hok hP (hts _ k_fl_Pt_12) d_Pt_alike_9 ?_
  refine lv_iload_n hx hb d_Pt_alike_12 rfl (lv_at hl 1 rfl) ?_
  refine r_callVi (As := [.int x1]) (rest := []) (n := 1) (q0 := 8) S hok (c_Bl_recordOf l D cI a (wrT a wr) (Fx_T hwr) _ _ _ hf) k_ml_Pt_58 k_im_Bl_recordOf k_sel_Bl_recordOf k_ini_Bl k_code_Bl_recordOf rfl rfl (by decide +kernel) ⟨by decide, by decide⟩ rfl rfl hP hD hS hA (Nat.zero_le _) (Nat.zero_le _) hl.1 rfl rfl (Nat.le_of_ble_eq_true rfl) d_Pt_alike_13 (fun r4 σ3 H locs hf hP hD hS => ?_)
  have hP : va_P D classes (wPt cI a wr σ3) H := hP
  have hD : va_D A (wPt cI a wr σ3) := hD
  refine lv_aload_n hx hb d_Pt_alike_16 rfl (lv_at hl 0 rfl) ?_
  refine rg_Pt_blocks S hok hP (hts _ k_fl_Pt_12) d_Pt_alike_17 ?_
  refine lv_iload_n hx hb d_Pt_alike_20 rfl (lv_at hl 2 rfl) ?_
  refine r_callVi (As := [.int x2]) (rest := [.int r4]) (n := 1) (q0 := 8) S hok (c_Bl_recordOf l D cI a (wrT a wr) (Fx_T hwr) _ _ _ hf) k_ml_Pt_58 k_im_Bl_recordOf k_sel_Bl_recordOf k_ini_Bl k_code_Bl_recordOf rfl rfl (by decide +kernel) ⟨by decide, by decide⟩ rfl rfl hP hD hS hA (Nat.zero_le _) (Nat.zero_le _) hl.1 rfl rfl (Nat.le_of_ble_eq_true rfl) d_Pt_alike_21 (fun r6 σ5 H locs hf hP hD hS => ?_)
  have hP : va_P D classes (wPt cI a wr σ5) H := hP
  have hD : va_D A (wPt cI a wr σ5) := hD
  refine lv_icmp_ne hx hb d_Pt_alike_24 rfl (fun hc => ?_) (fun hc => ?_)
  · have hf := hf.2 hc
    refine lv_iconst (v := (0 : Int32)) hx hb d_Pt_alike_31 (by decide) ?_
    exact hend _ _ _ _ _ _ d_Pt_alike_32 rfl hf hP hD hS
  · have hf := hf.1 hc
    refine lv_iconst (v := (1 : Int32)) hx hb d_Pt_alike_27 (by decide) ?_
    refine lv_goto hx hb d_Pt_alike_28 rfl ?_
    exact hend _ _ _ _ _ _ d_Pt_alike_32 rfl hf hP hD hS
abbrev rm_Pt_hash : Room := { frames := 40, cells := 0, slots := 0, locals := 800 }
set_option maxRecDepth 100000 in
set_option maxHeartbeats 4000000 in
theorem c_Pt_hash (l : Launch) (D : va_G) (cI : ClassId) (a : Nat → Nat) (wr : St → va_W) (hwr : Fx 17 wr) (x1 : Int32) (x2 : Int32) (x3 : Int32) (σ : St) (Q : Int32 → St → Prop) (hf : F_Pt_hash x1 x2 x3 σ Q) : Ci l y_Pt_hash (.code y_Pt_hash b_Pt_hash 8 (some .int)) rm_Pt_hash D cI [.ref (a 11), .int x1, .int x2, .int x3] (wPt cI a wr) σ Q := by
  refine Ci.of (by decide +kernel) (Nat.le_of_ble_eq_true rfl) ?_
  intro p e s m below meth c ls A Z hx hb hml hown hts hok hP hD hA hl hend
  have S : CallFix p m c b_Pt_hash 8 s ([.ref (a 11), .int x1, .int x2, .int x3] : List Value).toArray lwg "PropertyTrie" := ⟨hx, hb, hml, hown, hts⟩
  have hS : va_S A s.heap s.heap [] := va_S.rf
  have hl : lv_has ls 8 [(0, .ref (a 11)), (1, .int x1), (2, .int x2), (3, .int x3)] := hl
  unfold F_Pt_hash at hf
  have lab29 : ∀ (v2 v3 v4 v5 v6 v7 : Int32) (σ : St) (H : Heap) (locs : List Loc) (ls : Array Slot), F_Pt_hash_L29 v2 v3 v4 v5 v6 v7 σ Q → va_P D classes (wPt cI a wr σ) H → va_D A (wPt cI a wr σ) → va_S A s.heap H locs → lv_has ls 8 [(0, .ref (a 11)), (2, .int v2), (3, .int v3), (4, .int v4), (5, .int v5), (6, .int v6), (7, .int v7)] → W p l e rm_Pt_hash s m ([.ref (a 11), .int x1, .int x2, .int x3] : List Value).toArray below meth c H locs 0 0 Z (F0 m 29 ls []) := by
    intro v2 v3 v4 v5 v6 v7 σ H locs ls hf hP hD hS hl
    unfold F_Pt_hash_L29 at hf
    obtain ⟨I29, m29, h0, hst29⟩ := hf
    have lp29 : ∀ (n : Nat) (v4 v5 v6 v7 : Int32) (σ : St) (H : Heap) (locs : List Loc) (ls : Array Slot), m29 v4 v5 v6 v7 σ = n → I29 v4 v5 v6 v7 σ → va_P D classes (wPt cI a wr σ) H → va_D A (wPt cI a wr σ) → va_S A s.heap H locs → lv_has ls 8 [(0, .ref (a 11)), (2, .int v2), (3, .int v3), (4, .int v4), (5, .int v5), (6, .int v6), (7, .int v7)] → W p l e rm_Pt_hash s m ([.ref (a 11), .int x1, .int x2, .int x3] : List Value).toArray below meth c H locs 0 0 Z (F0 m 29 ls []) := by
      intro n29
      induction n29 using Nat.strongRecOn with
      | _ n29 ih29 =>
        intro v4 v5 v6 v7 σ H locs ls hn hI hP hD hS hl
        have hf := hst29 v4 v5 v6 v7 σ n29 hI hn
        have lab60 : ∀ (v4 v5 v6 v7 : Int32) (σ : St) (H : Heap) (locs : List Loc) (ls : Array Slot), F_Pt_hash_J60 v2 v3 v4 v5 v6 v7 σ (fun b4 b5 b6 b7 τ => I29 b4 b5 b6 b7 τ ∧ m29 b4 b5 b6 b7 τ < n29) Q → va_P D classes (wPt cI a wr σ) H → va_D A (wPt cI a wr σ) → va_S A s.heap H locs → lv_has ls 8 [(0, .ref (a 11)), (2, .int v2), (3, .int v3), (4, .int v4), (5, .int v5), (6, .int v6), (7, .int v7)] → W p l e rm_Pt_hash s m ([.ref (a 11), .int x1, .int x2, .int x3] : List Value).toArray below meth c H locs 0 0 Z (F0 m 60 ls []) := by
          intro v4 v5 v6 v7 σ H locs ls hf hP hD hS hl
          unfold F_Pt_hash_J60 at hf
          refine lv_bipush (v := (31 : Int32)) hx hb d_Pt_hash_60 (by decide) ?_
          refine lv_iload hx hb d_Pt_hash_62 (lv_at hl 3 rfl) ?_
          refine lv_imul hx hb d_Pt_hash_64 ?_
          refine lv_iload hx hb d_Pt_hash_65 (lv_at hl 4 rfl) ?_
          refine lv_iadd hx hb d_Pt_hash_67 ?_
          refine lv_topi (fun z1 hz1 => ?_)
          have hf := hf z1 hz1
          refine lv_istore hx hb d_Pt_hash_68 hl (by decide) rfl (fun ls hl => ?_)
          have hl : lv_has ls 8 [(4, .int z1), (0, .ref (a 11)), (2, .int v2), (3, .int v3), (5, .int v5), (6, .int v6), (7, .int v7)] := hl
          obtain ⟨z2, hz2⟩ : ∃ z2 : Int32, z2 = v7 + (1 : Int32) := ⟨_, rfl⟩
          have hf := hf z2 hz2
          refine lv_iinc (k := 6) (v := z2) hx hb d_Pt_hash_70 hl rfl (by rw [hz2]; rfl) (by decide) rfl (fun ls hl => ?_)
          have hl : lv_has ls 8 [(7, .int z2), (4, .int z1), (0, .ref (a 11)), (2, .int v2), (3, .int v3), (5, .int v5), (6, .int v6)] := hl
          refine lv_goto hx hb d_Pt_hash_73 rfl ?_
          exact ih29 _ hf.2 _ _ _ _ _ _ _ _ rfl hf.1 hP hD hS (lv_sub hl [2, 3, 4, 1, 5, 6, 0] rfl)
        refine lv_iload hx hb d_Pt_hash_29 (lv_at hl 6 rfl) ?_
        refine lv_iload_n hx hb d_Pt_hash_31 rfl (lv_at hl 1 rfl) ?_
        refine lv_icmp_gt hx hb d_Pt_hash_32 rfl (fun hc => ?_) (fun hc => ?_)
        · have hf := hf.1 hc
          refine lv_iload hx hb d_Pt_hash_76 (lv_at hl 3 rfl) ?_
          exact hend _ _ _ _ _ _ d_Pt_hash_78 rfl hf hP hD hS
        · have hf := hf.2 hc
          refine lv_iload hx hb d_Pt_hash_35 (lv_at hl 6 rfl) ?_
          refine lv_iload hx hb d_Pt_hash_37 (lv_at hl 5 rfl) ?_
          refine lv_icmp_le hx hb d_Pt_hash_39 rfl (fun hc => ?_) (fun hc => ?_)
          · have hf := hf.1 hc
            exact lab60 _ _ _ _ _ _ _ _ hf hP hD hS (lv_sub hl [0, 1, 2, 3, 4, 5, 6] rfl)
          · have hf := hf.2 hc
            refine lv_aload_n hx hb d_Pt_hash_42 rfl (lv_at hl 0 rfl) ?_
            refine lv_iload hx hb d_Pt_hash_43 (lv_at hl 6 rfl) ?_
            refine lv_iload_n hx hb d_Pt_hash_45 rfl (lv_at hl 2 rfl) ?_
            refine r_callVi (As := [.int v7, .int v3]) (rest := []) (n := 2) (q0 := 11) S hok (c_Pt_valueAt l D cI a wr hwr _ _ _ _ hf) k_ml_Pt_44 k_im_Pt_valueAt k_sel_Pt_valueAt k_ini_Pt k_code_Pt_valueAt rfl rfl (by decide +kernel) ⟨by decide, by decide⟩ rfl rfl hP hD hS hA (Nat.zero_le _) (Nat.zero_le _) hl.1 rfl rfl (Nat.le_of_ble_eq_true rfl) d_Pt_hash_46 (fun r4 σ3 H locs hf hP hD hS => ?_)
            have hP : va_P D classes (wPt cI a wr σ3) H := hP
            have hD : va_D A (wPt cI a wr σ3) := hD
            refine lv_istore hx hb d_Pt_hash_49 hl (by decide) rfl (fun ls hl => ?_)
            have hl : lv_has ls 8 [(5, .int r4), (0, .ref (a 11)), (2, .int v2), (3, .int v3), (4, .int v4), (6, .int v6), (7, .int v7)] := hl
            refine lv_aload_n hx hb d_Pt_hash_51 rfl (lv_at hl 1 rfl) ?_
            refine rg_Pt_blocks S hok hP (hts _ k_fl_Pt_12) d_Pt_hash_52 ?_
            refine rgN_Bl_foundLast S hok hP (va_Nw.use rfl (hok.2 _ kn_fl_Pt_49)) d_Pt_hash_55 ?_
            refine lv_topi (fun z5 hz5 => ?_)
            have hf := hf z5 hz5
            refine lv_istore hx hb d_Pt_hash_58 hl (by decide) rfl (fun ls hl => ?_)
            have hl : lv_has ls 8 [(6, .int z5), (5, .int r4), (0, .ref (a 11)), (2, .int v2), (3, .int v3), (4, .int v4), (7, .int v7)] := hl
            exact lab60 _ _ _ _ _ _ _ _ hf hP hD hS (lv_sub hl [2, 3, 4, 5, 1, 0, 6] rfl)
    exact lp29 _ v4 v5 v6 v7 σ H locs ls rfl h0 hP hD hS hl
  refine lv_iload_n hx hb d_Pt_hash_0 rfl (lv_at hl 1 rfl) ?_
  refine lv_iload_n hx hb d_Pt_hash_1 rfl (lv_at hl 2 rfl) ?_
  refine r_callSv (As := [.int x1, .int x2]) (rest := []) (n := 2) S hok (c_Pt_checkRange l D cI a wr hwr _ _ _ _ hf) k_ml_Pt_20 k_st_Pt_checkRange k_ini_Pt k_code_Pt_checkRange rfl rfl (by decide +kernel) ⟨by decide, by decide⟩ hP hD hS hA (Nat.zero_le _) (Nat.zero_le _) hl.1 rfl rfl (Nat.le_of_ble_eq_true rfl) d_Pt_hash_2 (fun σ6 H locs hf hP hD hS => ?_)
  have hP : va_P D classes (wPt cI a wr σ6) H := hP
  have hD : va_D A (wPt cI a wr σ6) := hD
  refine lv_iload_n hx hb d_Pt_hash_5 rfl (lv_at hl 2 rfl) ?_
  refine lv_iload_n hx hb d_Pt_hash_6 rfl (lv_at hl 1 rfl) ?_
  refine lv_isub hx hb d_Pt_hash_7 ?_
  refine lv_iconst (v := (1 : Int32)) hx hb d_Pt_hash_8 (by decide) ?_
  refine lv_iadd hx hb d_Pt_hash_9 ?_
  refine r_callSv (As := [.int ((x2 - x1) + (1 : Int32))]) (rest := []) (n := 1) S hok (c_Pt_checkLength l D cI a wr hwr _ _ _ hf) k_ml_Pt_62 k_st_Pt_checkLength k_ini_Pt k_code_Pt_checkLength rfl rfl (by decide +kernel) ⟨by decide, by decide⟩ hP hD hS hA (Nat.zero_le _) (Nat.zero_le _) hl.1 rfl rfl (Nat.le_of_ble_eq_true rfl) d_Pt_hash_10 (fun σ7 H locs hf hP hD hS => ?_)
  have hP : va_P D classes (wPt cI a wr σ7) H := hP
  have hD : va_D A (wPt cI a wr σ7) := hD
  refine lv_iload_n hx hb d_Pt_hash_13 rfl (lv_at hl 3 rfl) ?_
  refine r_callSv (As := [.int x3]) (rest := []) (n := 1) S hok (c_Pt_checkField l D cI a wr hwr _ _ _ hf) k_ml_Pt_24 k_st_Pt_checkField k_ini_Pt k_code_Pt_checkField rfl rfl (by decide +kernel) ⟨by decide, by decide⟩ hP hD hS hA (Nat.zero_le _) (Nat.zero_le _) hl.1 rfl rfl (Nat.le_of_ble_eq_true rfl) d_Pt_hash_14 (fun σ8 H locs hf hP hD hS => ?_)
  have hP : va_P D classes (wPt cI a wr σ8) H := hP
  have hD : va_D A (wPt cI a wr σ8) := hD
  refine lv_iconst (v := (1 : Int32)) hx hb d_Pt_hash_17 (by decide) ?_
  refine lv_topi (fun z9 hz9 => ?_)
  have hf := hf z9 hz9
  refine lv_istore hx hb d_Pt_hash_18 hl (by decide) rfl (fun ls hl => ?_)
  have hl : lv_has ls 8 [(4, .int z9), (0, .ref (a 11)), (1, .int x1), (2, .int x2), (3, .int x3)] := hl
  refine lv_iconst (v := (0 : Int32)) hx hb d_Pt_hash_20 (by decide) ?_
  refine lv_topi (fun z10 hz10 => ?_)
  have hf := hf z10 hz10
  refine lv_istore hx hb d_Pt_hash_21 hl (by decide) rfl (fun ls hl => ?_)
  have hl : lv_has ls 8 [(5, .int z10), (4, .int z9), (0, .ref (a 11)), (1, .int x1), (2, .int x2), (3, .int x3)] := hl
  refine lv_iconst (v := (-1 : Int32)) hx hb d_Pt_hash_23 (by decide) ?_
  refine lv_topi (fun z11 hz11 => ?_)
  have hf := hf z11 hz11
  refine lv_istore hx hb d_Pt_hash_24 hl (by decide) rfl (fun ls hl => ?_)
  have hl : lv_has ls 8 [(6, .int z11), (5, .int z10), (4, .int z9), (0, .ref (a 11)), (1, .int x1), (2, .int x2), (3, .int x3)] := hl
  refine lv_iload_n hx hb d_Pt_hash_26 rfl (lv_at hl 4 rfl) ?_
  refine lv_istore hx hb d_Pt_hash_27 hl (by decide) rfl (fun ls hl => ?_)
  have hl : lv_has ls 8 [(7, .int x1), (6, .int z11), (5, .int z10), (4, .int z9), (0, .ref (a 11)), (1, .int x1), (2, .int x2), (3, .int x3)] := hl
  exact lab29 _ _ _ _ _ _ _ _ _ _ hf hP hD hS (lv_sub hl [4, 6, 7, 3, 2, 1, 0] rfl)
abbrev rm_Pt_mark : Room := { frames := 70, cells := 0, slots := 0, locals := 1400 }
set_option maxRecDepth 100000 in
set_option maxHeartbeats 4000000 in
theorem c_Pt_mark (l : Launch) (D : va_G) (cI : ClassId) (a : Nat → Nat) (wr : St → va_W) (hwr : Fx 17 wr) (x1 : Int32) (x2 : Int32) (x3 : Int32) (x4 : Int32) (x5 : Int32) (σ : St) (Q : Int32 → St → Prop) (hf : F_Pt_mark x1 x2 x3 x4 x5 σ Q) : Ci l y_Pt_mark (.code y_Pt_mark b_Pt_mark 6 (some .int)) rm_Pt_mark D cI [.ref (a 11), .int x1, .int x2, .int x3, .int x4, .int x5] (wPt cI a wr) σ Q := by
  refine Ci.of (by decide +kernel) (Nat.le_of_ble_eq_true rfl) ?_
  intro p e s m below meth c ls A Z hx hb hml hown hts hok hP hD hA hl hend
  have S : CallFix p m c b_Pt_mark 6 s ([.ref (a 11), .int x1, .int x2, .int x3, .int x4, .int x5] : List Value).toArray lwg "PropertyTrie" := ⟨hx, hb, hml, hown, hts⟩
  have hS : va_S A s.heap s.heap [] := va_S.rf
  have hl : lv_has ls 6 [(0, .ref (a 11)), (1, .int x1), (2, .int x2), (3, .int x3), (4, .int x4), (5, .int x5)] := hl
  unfold F_Pt_mark at hf
  refine lv_iload_n hx hb d_Pt_mark_0 rfl (lv_at hl 1 rfl) ?_
  refine lv_iload_n hx hb d_Pt_mark_1 rfl (lv_at hl 2 rfl) ?_
  refine r_callSv (As := [.int x1, .int x2]) (rest := []) (n := 2) S hok (c_Pt_checkRange l D cI a wr hwr _ _ _ _ hf) k_ml_Pt_20 k_st_Pt_checkRange k_ini_Pt k_code_Pt_checkRange rfl rfl (by decide +kernel) ⟨by decide, by decide⟩ hP hD hS hA (Nat.zero_le _) (Nat.zero_le _) hl.1 rfl rfl (Nat.le_of_ble_eq_true rfl) d_Pt_mark_2 (fun σ1 H locs hf hP hD hS => ?_)
  have hP : va_P D classes (wPt cI a wr σ1) H := hP
  have hD : va_D A (wPt cI a wr σ1) := hD
  refine lv_iload_n hx hb d_Pt_mark_5 rfl (lv_at hl 3 rfl) ?_
  refine r_callSv (As := [.int x3]) (rest := []) (n := 1) S hok (c_Pt_checkField l D cI a wr hwr _ _ _ hf) k_ml_Pt_24 k_st_Pt_checkField k_ini_Pt k_code_Pt_checkField rfl rfl (by decide +kernel) ⟨by decide, by decide⟩ hP hD hS hA (Nat.zero_le _) (Nat.zero_le _) hl.1 rfl rfl (Nat.le_of_ble_eq_true rfl) d_Pt_mark_6 (fun σ2 H locs hf hP hD hS => ?_)
  have hP : va_P D classes (wPt cI a wr σ2) H := hP
  have hD : va_D A (wPt cI a wr σ2) := hD
  refine lv_aload_n hx hb d_Pt_mark_9 rfl (lv_at hl 0 rfl) ?_
  refine rg_Pt_blocks S hok hP (hts _ k_fl_Pt_12) d_Pt_mark_10 ?_
  refine rgN_Bl_records S hok hP (va_Nw.use rfl (hok.2 _ kn_fl_Pt_28)) d_Pt_mark_13 ?_
  refine lv_iload_n hx hb d_Pt_mark_16 rfl (lv_at hl 3 rfl) ?_
  refine lv_iload hx hb d_Pt_mark_17 (lv_at hl 4 rfl) ?_
  refine lv_iload hx hb d_Pt_mark_19 (lv_at hl 5 rfl) ?_
  refine r_callVv (As := [.int x3, .int x4, .int x5]) (rest := []) (n := 3) (q0 := 0) S hok (c_Rc_begin l D cI a (wrB cI a (wrT a wr)) (Fx_B (Fx_T hwr)) _ _ _ _ _ hf) k_ml_Pt_32 k_im_Rc_begin k_sel_Rc_begin k_ini_Rc k_code_Rc_begin rfl rfl (by decide +kernel) ⟨by decide, by decide⟩ rfl rfl hP hD hS hA (Nat.zero_le _) (Nat.zero_le _) hl.1 rfl rfl (Nat.le_of_ble_eq_true rfl) d_Pt_mark_21 (fun σ3 H locs hf hP hD hS => ?_)
  have hP : va_P D classes (wPt cI a wr σ3) H := hP
  have hD : va_D A (wPt cI a wr σ3) := hD
  refine lv_aload_n hx hb d_Pt_mark_24 rfl (lv_at hl 0 rfl) ?_
  refine rg_Pt_blocks S hok hP (hts _ k_fl_Pt_12) d_Pt_mark_25 ?_
  refine lv_iload_n hx hb d_Pt_mark_28 rfl (lv_at hl 1 rfl) ?_
  refine lv_iload_n hx hb d_Pt_mark_29 rfl (lv_at hl 2 rfl) ?_
  refine r_callVv (As := [.int x1, .int x2]) (rest := []) (n := 2) (q0 := 8) S hok (c_Bl_alter l D cI a (wrT a wr) (Fx_T hwr) _ _ _ _ hf) k_ml_Pt_38 k_im_Bl_alter k_sel_Bl_alter k_ini_Bl k_code_Bl_alter rfl rfl (by decide +kernel) ⟨by decide, by decide⟩ rfl rfl hP hD hS hA (Nat.zero_le _) (Nat.zero_le _) hl.1 rfl rfl (Nat.le_of_ble_eq_true rfl) d_Pt_mark_30 (fun σ4 H locs hf hP hD hS => ?_)
  have hP : va_P D classes (wPt cI a wr σ4) H := hP
  have hD : va_D A (wPt cI a wr σ4) := hD
  refine lv_iload_n hx hb d_Pt_mark_33 rfl (lv_at hl 2 rfl) ?_
  refine lv_iload_n hx hb d_Pt_mark_34 rfl (lv_at hl 1 rfl) ?_
  refine lv_isub hx hb d_Pt_mark_35 ?_
  refine lv_iconst (v := (1 : Int32)) hx hb d_Pt_mark_36 (by decide) ?_
  refine lv_iadd hx hb d_Pt_mark_37 ?_
  exact hend _ _ _ _ _ _ d_Pt_mark_38 rfl hf hP hD hS
abbrev rm_Pt_set : Room := { frames := 80, cells := 0, slots := 0, locals := 1600 }
set_option maxRecDepth 100000 in
set_option maxHeartbeats 4000000 in
theorem c_Pt_set (l : Launch) (D : va_G) (cI : ClassId) (a : Nat → Nat) (wr : St → va_W) (hwr : Fx 17 wr) (x1 : Int32) (x2 : Int32) (x3 : Int32) (x4 : Int32) (σ : St) (Q : Int32 → St → Prop) (hf : F_Pt_set x1 x2 x3 x4 σ Q) : Ci l y_Pt_set (.code y_Pt_set b_Pt_set 5 (some .int)) rm_Pt_set D cI [.ref (a 11), .int x1, .int x2, .int x3, .int x4] (wPt cI a wr) σ Q := by
  refine Ci.of (by decide +kernel) (Nat.le_of_ble_eq_true rfl) ?_
  intro p e s m below meth c ls A Z hx hb hml hown hts hok hP hD hA hl hend
  have S : CallFix p m c b_Pt_set 5 s ([.ref (a 11), .int x1, .int x2, .int x3, .int x4] : List Value).toArray lwg "PropertyTrie" := ⟨hx, hb, hml, hown, hts⟩
  have hS : va_S A s.heap s.heap [] := va_S.rf
  have hl : lv_has ls 5 [(0, .ref (a 11)), (1, .int x1), (2, .int x2), (3, .int x3), (4, .int x4)] := hl
  unfold F_Pt_set at hf
  refine lv_aload_n hx hb d_Pt_set_0 rfl (lv_at hl 0 rfl) ?_
  refine lv_iload_n hx hb d_Pt_set_1 rfl (lv_at hl 1 rfl) ?_
  refine lv_iload_n hx hb d_Pt_set_2 rfl (lv_at hl 2 rfl) ?_
  refine lv_iload_n hx hb d_Pt_set_3 rfl (lv_at hl 3 rfl) ?_
  refine lv_iload hx hb d_Pt_set_4 (lv_at hl 4 rfl) ?_
  refine lv_iconst (v := (0 : Int32)) hx hb d_Pt_set_6 (by decide) ?_
  refine r_callVi (As := [.int x1, .int x2, .int x3, .int x4, .int (0 : Int32)]) (rest := []) (n := 5) (q0 := 11) S hok (c_Pt_mark l D cI a wr hwr _ _ _ _ _ _ _ hf) k_ml_Pt_16 k_im_Pt_mark k_sel_Pt_mark k_ini_Pt k_code_Pt_mark rfl rfl (by decide +kernel) ⟨by decide, by decide⟩ rfl rfl hP hD hS hA (Nat.zero_le _) (Nat.zero_le _) hl.1 rfl rfl (Nat.le_of_ble_eq_true rfl) d_Pt_set_7 (fun r2 σ1 H locs hf hP hD hS => ?_)
  have hP : va_P D classes (wPt cI a wr σ1) H := hP
  have hD : va_D A (wPt cI a wr σ1) := hD
  exact hend _ _ _ _ _ _ d_Pt_set_10 rfl hf hP hD hS
end
section
abbrev rm_Mo_thrown : Room := { frames := 10, cells := 0, slots := 0, locals := 200 }
set_option maxRecDepth 100000 in
set_option maxHeartbeats 4000000 in
theorem c_Mo_thrown (l : Launch) (D : va_G) (cI : ClassId) (a : Nat → Nat) (wr : St → va_W) (hwr : Fx 21 wr) (σ : St) (Q : Int32 → St → Prop) (hf : F_Mo_thrown σ Q) : Ci l y_Mo_thrown (.code y_Mo_thrown b_Mo_thrown 1 (some .int)) rm_Mo_thrown D cI [.ref (a 12)] (wMo cI a wr) σ Q := by
  refine Ci.of (by decide +kernel) (Nat.le_of_ble_eq_true rfl) ?_
  intro p e s m below meth c ls A Z hx hb hml hown hts hok hP hD hA hl hend
  have S : CallFix p m c b_Mo_thrown 1 s ([.ref (a 12)] : List Value).toArray lwg "PropertyTrieModel" := ⟨hx, hb, hml, hown, hts⟩
  have hS : va_S A s.heap s.heap [] := va_S.rf
  have hl : lv_has ls 1 [(0, .ref (a 12))] := hl
  unfold F_Mo_thrown at hf
  refine lv_aload_n hx hb d_Mo_thrown_0 rfl (lv_at hl 0 rfl) ?_
  refine rg_Mo_failed S hok hP (hts _ k_fl_Mo_21) d_Mo_thrown_1 ?_
  exact hend _ _ _ _ _ _ d_Mo_thrown_4 rfl hf hP hD hS
abbrev rm_Mo_fail : Room := { frames := 10, cells := 0, slots := 0, locals := 200 }
set_option maxRecDepth 100000 in
set_option maxHeartbeats 4000000 in
theorem c_Mo_fail (l : Launch) (D : va_G) (cI : ClassId) (a : Nat → Nat) (wr : St → va_W) (hwr : Fx 21 wr) (x1 : Int32) (σ : St) (Q : Int32 → St → Prop) (hf : F_Mo_fail x1 σ Q) : Ci l y_Mo_fail (.code y_Mo_fail b_Mo_fail 2 (some .int)) rm_Mo_fail D cI [.ref (a 12), .int x1] (wMo cI a wr) σ Q := by
  refine Ci.of (by decide +kernel) (Nat.le_of_ble_eq_true rfl) ?_
  intro p e s m below meth c ls A Z hx hb hml hown hts hok hP hD hA hl hend
  have S : CallFix p m c b_Mo_fail 2 s ([.ref (a 12), .int x1] : List Value).toArray lwg "PropertyTrieModel" := ⟨hx, hb, hml, hown, hts⟩
  have hS : va_S A s.heap s.heap [] := va_S.rf
  have hl : lv_has ls 2 [(0, .ref (a 12)), (1, .int x1)] := hl
  unfold F_Mo_fail at hf
  refine lv_aload_n hx hb d_Mo_fail_0 rfl (lv_at hl 0 rfl) ?_
  refine lv_iload_n hx hb d_Mo_fail_1 rfl (lv_at hl 1 rfl) ?_
  refine rp_Mo_failed S hok hwr hP hD hS (hts _ k_fl_Mo_21) d_Mo_fail_2 (fun σ1 H locs hσ1 hP hD hS => ?_)
  have hf := hf σ1 hσ1
  refine lv_iconst (v := (0 : Int32)) hx hb d_Mo_fail_5 (by decide) ?_
  exact hend _ _ _ _ _ _ d_Mo_fail_6 rfl hf hP hD hS
abbrev rm_Mo_at : Room := { frames := 10, cells := 0, slots := 0, locals := 200 }
set_option maxRecDepth 100000 in
set_option maxHeartbeats 4000000 in
theorem c_Mo_at (l : Launch) (D : va_G) (cI : ClassId) (a : Nat → Nat) (wr : St → va_W) (hwr : Fx 21 wr) (x1 : Int32) (σ : St) (Q : Int32 → St → Prop) (hf : F_Mo_at x1 σ Q) : Ci l y_Mo_at (.code y_Mo_at b_Mo_at 5 (some .int)) rm_Mo_at D cI [.ref (a 12), .int x1] (wMo cI a wr) σ Q := by
  refine Ci.of (by decide +kernel) (Nat.le_of_ble_eq_true rfl) ?_
  intro p e s m below meth c ls A Z hx hb hml hown hts hok hP hD hA hl hend
  have S : CallFix p m c b_Mo_at 5 s ([.ref (a 12), .int x1] : List Value).toArray lwg "PropertyTrieModel" := ⟨hx, hb, hml, hown, hts⟩
  have hS : va_S A s.heap s.heap [] := va_S.rf
  have hl : lv_has ls 5 [(0, .ref (a 12)), (1, .int x1)] := hl
  unfold F_Mo_at at hf
  have lab9 : ∀ (v1 v2 v3 : Int32) (σ : St) (H : Heap) (locs : List Loc) (ls : Array Slot), F_Mo_at_L9 v1 v2 v3 σ Q → va_P D classes (wMo cI a wr σ) H → va_D A (wMo cI a wr σ) → va_S A s.heap H locs → lv_has ls 5 [(0, .ref (a 12)), (1, .int v1), (2, .int v2), (3, .int v3)] → W p l e rm_Mo_at s m ([.ref (a 12), .int x1] : List Value).toArray below meth c H locs 0 0 Z (F0 m 9 ls []) := by
    intro v1 v2 v3 σ H locs ls hf hP hD hS hl
    unfold F_Mo_at_L9 at hf
    obtain ⟨I9, m9, h0, hst9⟩ := hf
    have lp9 : ∀ (n : Nat) (v2 v3 : Int32) (σ : St) (H : Heap) (locs : List Loc) (ls : Array Slot), m9 v2 v3 σ = n → I9 v2 v3 σ → va_P D classes (wMo cI a wr σ) H → va_D A (wMo cI a wr σ) → va_S A s.heap H locs → lv_has ls 5 [(0, .ref (a 12)), (1, .int v1), (2, .int v2), (3, .int v3)] → W p l e rm_Mo_at s m ([.ref (a 12), .int x1] : List Value).toArray below meth c H locs 0 0 Z (F0 m 9 ls []) := by
      intro n9
      induction n9 using Nat.strongRecOn with
      | _ n9 ih9 =>
        intro v2 v3 σ H locs ls hn hI hP hD hS hl
        have hf := hst9 v2 v3 σ n9 hI hn
        refine lv_iload_n hx hb d_Mo_at_9 rfl (lv_at hl 2 rfl) ?_
        refine lv_iload_n hx hb d_Mo_at_10 rfl (lv_at hl 3 rfl) ?_
        refine lv_icmp_ge hx hb d_Mo_at_11 rfl (fun hc => ?_) (fun hc => ?_)
        · have hf := hf.1 hc
          refine lv_iload_n hx hb d_Mo_at_48 rfl (lv_at hl 2 rfl) ?_
          exact hend _ _ _ _ _ _ d_Mo_at_49 rfl hf hP hD hS
        · have hf := hf.2 hc
          refine lv_iload_n hx hb d_Mo_at_14 rfl (lv_at hl 2 rfl) ?_
          refine lv_iload_n hx hb d_Mo_at_15 rfl (lv_at hl 3 rfl) ?_
          refine lv_iadd hx hb d_Mo_at_16 ?_
          refine lv_iconst (v := (1 : Int32)) hx hb d_Mo_at_17 (by decide) ?_
          refine lv_iadd hx hb d_Mo_at_18 ?_
          refine lv_iconst (v := (2 : Int32)) hx hb d_Mo_at_19 (by decide) ?_
          refine lv_idiv hx hb d_Mo_at_20 (by decide) ?_
          refine lv_topi (fun z1 hz1 => ?_)
          have hf := hf z1 hz1
          refine lv_istore hx hb d_Mo_at_21 hl (by decide) rfl (fun ls hl => ?_)
          have hl : lv_has ls 5 [(4, .int z1), (0, .ref (a 12)), (1, .int v1), (2, .int v2), (3, .int v3)] := hl
          refine lv_aload_n hx hb d_Mo_at_23 rfl (lv_at hl 1 rfl) ?_
          refine rg_Mo_starts S hok hP (hts _ k_fl_Mo_13) d_Mo_at_24 ?_
          refine lv_iload hx hb d_Mo_at_27 (lv_at hl 0 rfl) ?_
          obtain ⟨hin, hf⟩ := hf
          refine rl_Mo_starts S hok hP hin d_Mo_at_29 ?_
          refine lv_iload_n hx hb d_Mo_at_30 rfl (lv_at hl 2 rfl) ?_
          refine lv_icmp_gt hx hb d_Mo_at_31 rfl (fun hc => ?_) (fun hc => ?_)
          · have hf := hf.1 hc
            refine lv_iload hx hb d_Mo_at_40 (lv_at hl 0 rfl) ?_
            refine lv_iconst (v := (1 : Int32)) hx hb d_Mo_at_42 (by decide) ?_
            refine lv_isub hx hb d_Mo_at_43 ?_
            refine lv_topi (fun z2 hz2 => ?_)
            have hf := hf z2 hz2
            refine lv_istore_n hx hb d_Mo_at_44 rfl hl (by decide) rfl (fun ls hl => ?_)
            have hl : lv_has ls 5 [(3, .int z2), (4, .int z1), (0, .ref (a 12)), (1, .int v1), (2, .int v2)] := hl
            refine lv_goto hx hb d_Mo_at_45 rfl ?_
            exact ih9 _ hf.2 _ _ _ _ _ _ rfl hf.1 hP hD hS (lv_sub hl [2, 3, 4, 0] rfl)
          · have hf := hf.2 hc
            refine lv_iload hx hb d_Mo_at_34 (lv_at hl 0 rfl) ?_
            refine lv_istore_n hx hb d_Mo_at_36 rfl hl (by decide) rfl (fun ls hl => ?_)
            have hl : lv_has ls 5 [(2, .int z1), (4, .int z1), (0, .ref (a 12)), (1, .int v1), (3, .int v3)] := hl
            refine lv_goto hx hb d_Mo_at_37 rfl ?_
            refine lv_goto hx hb d_Mo_at_45 rfl ?_
            exact ih9 _ hf.2 _ _ _ _ _ _ rfl hf.1 hP hD hS (lv_sub hl [2, 3, 0, 4] rfl)
    exact lp9 _ v2 v3 σ H locs ls rfl h0 hP hD hS hl
  refine lv_iconst (v := (0 : Int32)) hx hb d_Mo_at_0 (by decide) ?_
  refine lv_topi (fun z3 hz3 => ?_)
  have hf := hf z3 hz3
  refine lv_istore_n hx hb d_Mo_at_1 rfl hl (by decide) rfl (fun ls hl => ?_)
  have hl : lv_has ls 5 [(2, .int z3), (0, .ref (a 12)), (1, .int x1)] := hl
  refine lv_aload_n hx hb d_Mo_at_2 rfl (lv_at hl 1 rfl) ?_
  refine rg_Mo_count S hok hP (hts _ k_fl_Mo_7) d_Mo_at_3 ?_
  refine lv_iconst (v := (1 : Int32)) hx hb d_Mo_at_6 (by decide) ?_
  refine lv_isub hx hb d_Mo_at_7 ?_
  refine lv_topi (fun z4 hz4 => ?_)
  have hf := hf z4 hz4
  refine lv_istore_n hx hb d_Mo_at_8 rfl hl (by decide) rfl (fun ls hl => ?_)
  have hl : lv_has ls 5 [(3, .int z4), (2, .int z3), (0, .ref (a 12)), (1, .int x1)] := hl
  exact lab9 _ _ _ _ _ _ _ hf hP hD hS (lv_sub hl [2, 3, 1, 0] rfl)
abbrev rm_Mo_out : Room := { frames := 10, cells := 0, slots := 0, locals := 200 }
set_option maxRecDepth 100000 in
set_option maxHeartbeats 4000000 in
theorem c_Mo_out (l : Launch) (D : va_G) (cI : ClassId) (a : Nat → Nat) (wr : St → va_W) (hwr : Fx 21 wr) (x1 : Int32) (σ : St) (Q : Int32 → St → Prop) (hf : F_Mo_out x1 σ Q) : Ci l y_Mo_out (.code y_Mo_out b_Mo_out 2 (some .boolean)) rm_Mo_out D cI [.ref (a 12), .int x1] (wMo cI a wr) σ Q := by
  refine Ci.of (by decide +kernel) (Nat.le_of_ble_eq_true rfl) ?_
  intro p e s m below meth c ls A Z hx hb hml hown hts hok hP hD hA hl hend
  have S : CallFix p m c b_Mo_out 2 s ([.ref (a 12), .int x1] : List Value).toArray lwg "PropertyTrieModel" := ⟨hx, hb, hml, hown, hts⟩
  have hS : va_S A s.heap s.heap [] := va_S.rf
  have hl : lv_has ls 2 [(0, .ref (a 12)), (1, .int x1)] := hl
  unfold F_Mo_out at hf
  refine lv_iload_n hx hb d_Mo_out_0 rfl (lv_at hl 1 rfl) ?_
  refine lv_if_lt hx hb d_Mo_out_1 rfl (fun hc => ?_) (fun hc => ?_)
  · have hf := hf.1 hc
    refine lv_iconst (v := (1 : Int32)) hx hb d_Mo_out_10 (by decide) ?_
    refine lv_goto hx hb d_Mo_out_11 rfl ?_
    exact hend _ _ _ _ _ _ d_Mo_out_15 rfl hf hP hD hS
  · have hf := hf.2 hc
    refine lv_iload_n hx hb d_Mo_out_4 rfl (lv_at hl 1 rfl) ?_
    refine lv_ldc (v := (1114111 : Int32)) hx hb hown (hts _ k_cst_Mo_24) d_Mo_out_5 ?_
    refine lv_icmp_le hx hb d_Mo_out_7 rfl (fun hc => ?_) (fun hc => ?_)
    · have hf := hf.1 hc
      refine lv_iconst (v := (0 : Int32)) hx hb d_Mo_out_14 (by decide) ?_
      exact hend _ _ _ _ _ _ d_Mo_out_15 rfl hf hP hD hS
    · have hf := hf.2 hc
      refine lv_iconst (v := (1 : Int32)) hx hb d_Mo_out_10 (by decide) ?_
      refine lv_goto hx hb d_Mo_out_11 rfl ?_
      exact hend _ _ _ _ _ _ d_Mo_out_15 rfl hf hP hD hS
abbrev rm_Mo_cut : Room := { frames := 20, cells := 0, slots := 0, locals := 400 }
set_option maxRecDepth 100000 in
set_option maxHeartbeats 4000000 in
theorem c_Mo_cut (l : Launch) (D : va_G) (cI : ClassId) (a : Nat → Nat) (wr : St → va_W) (hwr : Fx 21 wr) (x1 : Int32) (σ : St) (Q : St → Prop) (hf : F_Mo_cut x1 σ Q) : Cv l y_Mo_cut (.code y_Mo_cut b_Mo_cut 5 none) rm_Mo_cut D cI [.ref (a 12), .int x1] (wMo cI a wr) σ Q := by
  refine Cv.of (by decide +kernel) (Nat.le_of_ble_eq_true rfl) ?_
  intro p e s m below meth c ls A Z hx hb hml hown hts hok hP hD hA hl hend
  have S : CallFix p m c b_Mo_cut 5 s ([.ref (a 12), .int x1] : List Value).toArray lwg "PropertyTrieModel" := ⟨hx, hb, hml, hown, hts⟩
  have hS : va_S A s.heap s.heap [] := va_S.rf
  have hl : lv_has ls 5 [(0, .ref (a 12)), (1, .int x1)] := hl
  unfold F_Mo_cut at hf
  have lab110 : ∀ (v2 v3 : Int32) (σ : St) (H : Heap) (locs : List Loc) (ls : Array Slot), F_Mo_cut_L110 v2 v3 σ Q → va_P D classes (wMo cI a wr σ) H → va_D A (wMo cI a wr σ) → va_S A s.heap H locs → lv_has ls 5 [(0, .ref (a 12)), (2, .int v2), (3, .int v3)] → W p l e rm_Mo_cut s m ([.ref (a 12), .int x1] : List Value).toArray below meth c H locs 0 0 Z (F0 m 110 ls []) := by
    intro v2 v3 σ H locs ls hf hP hD hS hl
    unfold F_Mo_cut_L110 at hf
    obtain ⟨I110, m110, h0, hst110⟩ := hf
    have lp110 : ∀ (n : Nat) (v3 : Int32) (σ : St) (H : Heap) (locs : List Loc) (ls : Array Slot), m110 v3 σ = n → I110 v3 σ → va_P D classes (wMo cI a wr σ) H → va_D A (wMo cI a wr σ) → va_S A s.heap H locs → lv_has ls 5 [(0, .ref (a 12)), (2, .int v2), (3, .int v3)] → W p l e rm_Mo_cut s m ([.ref (a 12), .int x1] : List Value).toArray below meth c H locs 0 0 Z (F0 m 110 ls []) := by
      intro n110
      induction n110 using Nat.strongRecOn with
      | _ n110 ih110 =>
        intro v3 σ H locs ls hn hI hP hD hS hl
        have hf := hst110 v3 σ n110 hI hn
        refine lv_iload_n hx hb d_Mo_cut_110 rfl (lv_at hl 2 rfl) ?_
        refine lv_bipush (v := (8 : Int32)) hx hb d_Mo_cut_111 (by decide) ?_
        refine lv_icmp_ge hx hb d_Mo_cut_113 rfl (fun hc => ?_) (fun hc => ?_)
        · have hf := hf.1 hc
          refine lv_aload_n hx hb d_Mo_cut_147 rfl (lv_at hl 0 rfl) ?_
          refine lv_dup hx hb d_Mo_cut_148 rfl ?_
          refine rg_Mo_count S hok hP (hts _ k_fl_Mo_7) d_Mo_cut_149 ?_
          refine lv_iconst (v := (1 : Int32)) hx hb d_Mo_cut_152 (by decide) ?_
          refine lv_iadd hx hb d_Mo_cut_153 ?_
          refine rp_Mo_count S hok hwr hP hD hS (hts _ k_fl_Mo_7) d_Mo_cut_154 (fun σ1 H locs hσ1 hP hD hS => ?_)
          have hf := hf σ1 hσ1
          exact hend _ _ _ _ _ d_Mo_cut_157 hf hP hD hS
        · have hf := hf.2 hc
          refine lv_aload_n hx hb d_Mo_cut_116 rfl (lv_at hl 0 rfl) ?_
          refine rg_Mo_fields S hok hP (hts _ k_fl_Mo_18) d_Mo_cut_117 ?_
          refine lv_bipush (v := (8 : Int32)) hx hb d_Mo_cut_120 (by decide) ?_
          refine lv_iload_n hx hb d_Mo_cut_122 rfl (lv_at hl 1 rfl) ?_
          refine lv_imul hx hb d_Mo_cut_123 ?_
          refine lv_bipush (v := (8 : Int32)) hx hb d_Mo_cut_124 (by decide) ?_
          refine lv_iadd hx hb d_Mo_cut_126 ?_
          refine lv_iload_n hx hb d_Mo_cut_127 rfl (lv_at hl 2 rfl) ?_
          refine lv_iadd hx hb d_Mo_cut_128 ?_
          refine lv_aload_n hx hb d_Mo_cut_129 rfl (lv_at hl 0 rfl) ?_
          refine rg_Mo_fields S hok hP (hts _ k_fl_Mo_18) d_Mo_cut_130 ?_
          refine lv_bipush (v := (8 : Int32)) hx hb d_Mo_cut_133 (by decide) ?_
          refine lv_iload_n hx hb d_Mo_cut_135 rfl (lv_at hl 1 rfl) ?_
          refine lv_imul hx hb d_Mo_cut_136 ?_
          refine lv_iload_n hx hb d_Mo_cut_137 rfl (lv_at hl 2 rfl) ?_
          refine lv_iadd hx hb d_Mo_cut_138 ?_
          obtain ⟨hin, hf⟩ := hf
          refine rl_Mo_fields S hok hP hin d_Mo_cut_139 ?_
          obtain ⟨hin, hf⟩ := hf
          refine rs_Mo_fields S hok hwr hP hD hS hin d_Mo_cut_140 (fun σ2 H locs hσ2 hP hD hS => ?_)
          have hf := hf σ2 hσ2
          obtain ⟨z3, hz3⟩ : ∃ z3 : Int32, z3 = v3 + (1 : Int32) := ⟨_, rfl⟩
          have hf := hf z3 hz3
          refine lv_iinc (k := 2) (v := z3) hx hb d_Mo_cut_141 hl rfl (by rw [hz3]; rfl) (by decide) rfl (fun ls hl => ?_)
          have hl : lv_has ls 5 [(3, .int z3), (0, .ref (a 12)), (2, .int v2)] := hl
          refine lv_goto hx hb d_Mo_cut_144 rfl ?_
          exact ih110 _ hf.2 _ _ _ _ _ rfl hf.1 hP hD hS (lv_sub hl [1, 2, 0] rfl)
    exact lp110 _ v3 σ H locs ls rfl h0 hP hD hS hl
  have lab29 : ∀ (v1 v2 v3 : Int32) (σ : St) (H : Heap) (locs : List Loc) (ls : Array Slot), F_Mo_cut_L29 v1 v2 v3 σ Q → va_P D classes (wMo cI a wr σ) H → va_D A (wMo cI a wr σ) → va_S A s.heap H locs → lv_has ls 5 [(0, .ref (a 12)), (1, .int v1), (2, .int v2), (3, .int v3)] → W p l e rm_Mo_cut s m ([.ref (a 12), .int x1] : List Value).toArray below meth c H locs 0 0 Z (F0 m 29 ls []) := by
    intro v1 v2 v3 σ H locs ls hf hP hD hS hl
    unfold F_Mo_cut_L29 at hf
    obtain ⟨I29, m29, h0, hst29⟩ := hf
    have lp29 : ∀ (n : Nat) (v3 : Int32) (σ : St) (H : Heap) (locs : List Loc) (ls : Array Slot), m29 v3 σ = n → I29 v3 σ → va_P D classes (wMo cI a wr σ) H → va_D A (wMo cI a wr σ) → va_S A s.heap H locs → lv_has ls 5 [(0, .ref (a 12)), (1, .int v1), (2, .int v2), (3, .int v3)] → W p l e rm_Mo_cut s m ([.ref (a 12), .int x1] : List Value).toArray below meth c H locs 0 0 Z (F0 m 29 ls []) := by
      intro n29
      induction n29 using Nat.strongRecOn with
      | _ n29 ih29 =>
        intro v3 σ H locs ls hn hI hP hD hS hl
        have hf := hst29 v3 σ n29 hI hn
        have lab53 : ∀ (v3 v4 : Int32) (σ : St) (H : Heap) (locs : List Loc) (ls : Array Slot), F_Mo_cut_L53 v1 v2 v3 v4 σ (fun b3 τ => I29 b3 τ ∧ m29 b3 τ < n29) Q → va_P D classes (wMo cI a wr σ) H → va_D A (wMo cI a wr σ) → va_S A s.heap H locs → lv_has ls 5 [(0, .ref (a 12)), (1, .int v1), (2, .int v2), (3, .int v3), (4, .int v4)] → W p l e rm_Mo_cut s m ([.ref (a 12), .int x1] : List Value).toArray below meth c H locs 0 0 Z (F0 m 53 ls []) := by
          intro v3 v4 σ H locs ls hf hP hD hS hl
          unfold F_Mo_cut_L53 at hf
          obtain ⟨I53, m53, h0, hst53⟩ := hf
          have lp53 : ∀ (n : Nat) (v4 : Int32) (σ : St) (H : Heap) (locs : List Loc) (ls : Array Slot), m53 v4 σ = n → I53 v4 σ → va_P D classes (wMo cI a wr σ) H → va_D A (wMo cI a wr σ) → va_S A s.heap H locs → lv_has ls 5 [(0, .ref (a 12)), (1, .int v1), (2, .int v2), (3, .int v3), (4, .int v4)] → W p l e rm_Mo_cut s m ([.ref (a 12), .int x1] : List Value).toArray below meth c H locs 0 0 Z (F0 m 53 ls []) := by
            intro n53
            induction n53 using Nat.strongRecOn with
            | _ n53 ih53 =>
              intro v4 σ H locs ls hn hI hP hD hS hl
              have hf := hst53 v4 σ n53 hI hn
              refine lv_iload hx hb d_Mo_cut_53 (lv_at hl 4 rfl) ?_
              refine lv_bipush (v := (8 : Int32)) hx hb d_Mo_cut_55 (by decide) ?_
              refine lv_icmp_ge hx hb d_Mo_cut_57 rfl (fun hc => ?_) (fun hc => ?_)
              · have hf := hf.1 hc
                obtain ⟨z4, hz4⟩ : ∃ z4 : Int32, z4 = v3 + (-1 : Int32) := ⟨_, rfl⟩
                have hf := hf z4 hz4
                refine lv_iinc (k := 3) (v := z4) hx hb d_Mo_cut_93 hl rfl (by rw [hz4]; rfl) (by decide) rfl (fun ls hl => ?_)
                have hl : lv_has ls 5 [(3, .int z4), (0, .ref (a 12)), (1, .int v1), (2, .int v2), (4, .int v4)] := hl
                refine lv_goto hx hb d_Mo_cut_96 rfl ?_
                exact ih29 _ hf.2 _ _ _ _ _ rfl hf.1 hP hD hS (lv_sub hl [1, 2, 3, 0] rfl)
              · have hf := hf.2 hc
                refine lv_aload_n hx hb d_Mo_cut_60 rfl (lv_at hl 0 rfl) ?_
                refine rg_Mo_fields S hok hP (hts _ k_fl_Mo_18) d_Mo_cut_61 ?_
                refine lv_bipush (v := (8 : Int32)) hx hb d_Mo_cut_64 (by decide) ?_
                refine lv_iload_n hx hb d_Mo_cut_66 rfl (lv_at hl 3 rfl) ?_
                refine lv_imul hx hb d_Mo_cut_67 ?_
                refine lv_iload hx hb d_Mo_cut_68 (lv_at hl 4 rfl) ?_
                refine lv_iadd hx hb d_Mo_cut_70 ?_
                refine lv_aload_n hx hb d_Mo_cut_71 rfl (lv_at hl 0 rfl) ?_
                refine rg_Mo_fields S hok hP (hts _ k_fl_Mo_18) d_Mo_cut_72 ?_
                refine lv_bipush (v := (8 : Int32)) hx hb d_Mo_cut_75 (by decide) ?_
                refine lv_iload_n hx hb d_Mo_cut_77 rfl (lv_at hl 3 rfl) ?_
                refine lv_imul hx hb d_Mo_cut_78 ?_
                refine lv_bipush (v := (8 : Int32)) hx hb d_Mo_cut_79 (by decide) ?_
                refine lv_isub hx hb d_Mo_cut_81 ?_
                refine lv_iload hx hb d_Mo_cut_82 (lv_at hl 4 rfl) ?_
                refine lv_iadd hx hb d_Mo_cut_84 ?_
                obtain ⟨hin, hf⟩ := hf
                refine rl_Mo_fields S hok hP hin d_Mo_cut_85 ?_
                obtain ⟨hin, hf⟩ := hf
                refine rs_Mo_fields S hok hwr hP hD hS hin d_Mo_cut_86 (fun σ5 H locs hσ5 hP hD hS => ?_)
                have hf := hf σ5 hσ5
                obtain ⟨z6, hz6⟩ : ∃ z6 : Int32, z6 = v4 + (1 : Int32) := ⟨_, rfl⟩
                have hf := hf z6 hz6
                refine lv_iinc (k := 4) (v := z6) hx hb d_Mo_cut_87 hl rfl (by rw [hz6]; rfl) (by decide) rfl (fun ls hl => ?_)
                have hl : lv_has ls 5 [(4, .int z6), (0, .ref (a 12)), (1, .int v1), (2, .int v2), (3, .int v3)] := hl
                refine lv_goto hx hb d_Mo_cut_90 rfl ?_
                exact ih53 _ hf.2 _ _ _ _ _ rfl hf.1 hP hD hS (lv_sub hl [1, 2, 3, 4, 0] rfl)
          exact lp53 _ v4 σ H locs ls rfl h0 hP hD hS hl
        refine lv_iload_n hx hb d_Mo_cut_29 rfl (lv_at hl 3 rfl) ?_
        refine lv_iload_n hx hb d_Mo_cut_30 rfl (lv_at hl 2 rfl) ?_
        refine lv_iconst (v := (1 : Int32)) hx hb d_Mo_cut_31 (by decide) ?_
        refine lv_iadd hx hb d_Mo_cut_32 ?_
        refine lv_icmp_le hx hb d_Mo_cut_33 rfl (fun hc => ?_) (fun hc => ?_)
        · have hf := hf.1 hc
          refine lv_aload_n hx hb d_Mo_cut_99 rfl (lv_at hl 0 rfl) ?_
          refine rg_Mo_starts S hok hP (hts _ k_fl_Mo_13) d_Mo_cut_100 ?_
          refine lv_iload_n hx hb d_Mo_cut_103 rfl (lv_at hl 2 rfl) ?_
          refine lv_iconst (v := (1 : Int32)) hx hb d_Mo_cut_104 (by decide) ?_
          refine lv_iadd hx hb d_Mo_cut_105 ?_
          refine lv_iload_n hx hb d_Mo_cut_106 rfl (lv_at hl 1 rfl) ?_
          obtain ⟨hin, hf⟩ := hf
          refine rs_Mo_starts S hok hwr hP hD hS hin d_Mo_cut_107 (fun σ7 H locs hσ7 hP hD hS => ?_)
          have hf := hf σ7 hσ7
          refine lv_iconst (v := (0 : Int32)) hx hb d_Mo_cut_108 (by decide) ?_
          refine lv_topi (fun z8 hz8 => ?_)
          have hf := hf z8 hz8
          refine lv_istore_n hx hb d_Mo_cut_109 rfl hl (by decide) rfl (fun ls hl => ?_)
          have hl : lv_has ls 5 [(3, .int z8), (0, .ref (a 12)), (1, .int v1), (2, .int v2)] := hl
          exact lab110 _ _ _ _ _ _ hf hP hD hS (lv_sub hl [1, 3, 0] rfl)
        · have hf := hf.2 hc
          refine lv_aload_n hx hb d_Mo_cut_36 rfl (lv_at hl 0 rfl) ?_
          refine rg_Mo_starts S hok hP (hts _ k_fl_Mo_13) d_Mo_cut_37 ?_
          refine lv_iload_n hx hb d_Mo_cut_40 rfl (lv_at hl 3 rfl) ?_
          refine lv_aload_n hx hb d_Mo_cut_41 rfl (lv_at hl 0 rfl) ?_
          refine rg_Mo_starts S hok hP (hts _ k_fl_Mo_13) d_Mo_cut_42 ?_
          refine lv_iload_n hx hb d_Mo_cut_45 rfl (lv_at hl 3 rfl) ?_
          refine lv_iconst (v := (1 : Int32)) hx hb d_Mo_cut_46 (by decide) ?_
          refine lv_isub hx hb d_Mo_cut_47 ?_
          obtain ⟨hin, hf⟩ := hf
          refine rl_Mo_starts S hok hP hin d_Mo_cut_48 ?_
          obtain ⟨hin, hf⟩ := hf
          refine rs_Mo_starts S hok hwr hP hD hS hin d_Mo_cut_49 (fun σ9 H locs hσ9 hP hD hS => ?_)
          have hf := hf σ9 hσ9
          refine lv_iconst (v := (0 : Int32)) hx hb d_Mo_cut_50 (by decide) ?_
          refine lv_topi (fun z10 hz10 => ?_)
          have hf := hf z10 hz10
          refine lv_istore hx hb d_Mo_cut_51 hl (by decide) rfl (fun ls hl => ?_)
          have hl : lv_has ls 5 [(4, .int z10), (0, .ref (a 12)), (1, .int v1), (2, .int v2), (3, .int v3)] := hl
          exact lab53 _ _ _ _ _ _ hf hP hD hS (lv_sub hl [1, 2, 3, 4, 0] rfl)
    exact lp29 _ v3 σ H locs ls rfl h0 hP hD hS hl
  refine lv_iload_n hx hb d_Mo_cut_0 rfl (lv_at hl 1 rfl) ?_
  refine lv_ldc (v := (1114111 : Int32)) hx hb hown (hts _ k_cst_Mo_24) d_Mo_cut_1 ?_
  refine lv_icmp_le hx hb d_Mo_cut_3 rfl (fun hc => ?_) (fun hc => ?_)
  · have hf := hf.1 hc
    refine lv_aload_n hx hb d_Mo_cut_7 rfl (lv_at hl 0 rfl) ?_
    refine lv_iload_n hx hb d_Mo_cut_8 rfl (lv_at hl 1 rfl) ?_
    refine r_callVi (As := [.int x1]) (rest := []) (n := 1) (q0 := 12) S hok (c_Mo_at l D cI a wr hwr _ _ _ hf) k_ml_Mo_25 k_im_Mo_at k_sel_Mo_at k_ini_Mo k_code_Mo_at rfl rfl (by decide +kernel) ⟨by decide, by decide⟩ rfl rfl hP hD hS hA (Nat.zero_le _) (Nat.zero_le _) hl.1 rfl rfl (Nat.le_of_ble_eq_true rfl) d_Mo_cut_9 (fun r12 σ11 H locs hf hP hD hS => ?_)
    have hP : va_P D classes (wMo cI a wr σ11) H := hP
    have hD : va_D A (wMo cI a wr σ11) := hD
    refine lv_istore_n hx hb d_Mo_cut_12 rfl hl (by decide) rfl (fun ls hl => ?_)
    have hl : lv_has ls 5 [(2, .int r12), (0, .ref (a 12)), (1, .int x1)] := hl
    refine lv_aload_n hx hb d_Mo_cut_13 rfl (lv_at hl 1 rfl) ?_
    refine rg_Mo_starts S hok hP (hts _ k_fl_Mo_13) d_Mo_cut_14 ?_
    refine lv_iload_n hx hb d_Mo_cut_17 rfl (lv_at hl 0 rfl) ?_
    obtain ⟨hin, hf⟩ := hf
    refine rl_Mo_starts S hok hP hin d_Mo_cut_18 ?_
    refine lv_iload_n hx hb d_Mo_cut_19 rfl (lv_at hl 2 rfl) ?_
    refine lv_icmp_ne hx hb d_Mo_cut_20 rfl (fun hc => ?_) (fun hc => ?_)
    · have hf := hf.2 hc
      refine lv_aload_n hx hb d_Mo_cut_24 rfl (lv_at hl 1 rfl) ?_
      refine rg_Mo_count S hok hP (hts _ k_fl_Mo_7) d_Mo_cut_25 ?_
      refine lv_topi (fun z13 hz13 => ?_)
      have hf := hf z13 hz13
      refine lv_istore_n hx hb d_Mo_cut_28 rfl hl (by decide) rfl (fun ls hl => ?_)
      have hl : lv_has ls 5 [(3, .int z13), (2, .int r12), (0, .ref (a 12)), (1, .int x1)] := hl
      exact lab29 _ _ _ _ _ _ _ hf hP hD hS (lv_sub hl [2, 3, 1, 0] rfl)
    · have hf := hf.1 hc
      exact hend _ _ _ _ _ d_Mo_cut_23 hf hP hD hS
  · have hf := hf.2 hc
    exact hend _ _ _ _ _ d_Mo_cut_6 hf hP hD hS
abbrev rm_Mo_mark : Room := { frames := 30, cells := 0, slots := 0, locals := 600 }
set_option maxRecDepth 100000 in
set_option maxHeartbeats 4000000 in
theorem c_Mo_mark (l : Launch) (D : va_G) (cI : ClassId) (a : Nat → Nat) (wr : St → va_W) (hwr : Fx 21 wr) (x1 : Int32) (x2 : Int32) (x3 : Int32) (x4 : Int32) (x5 : Int32) (σ : St) (Q : Int32 → St → Prop) (hf : F_Mo_mark x1 x2 x3 x4 x5 σ Q) : Ci l y_Mo_mark (.code y_Mo_mark b_Mo_mark 7 (some .int)) rm_Mo_mark D cI [.ref (a 12), .int x1, .int x2, .int x3, .int x4, .int x5] (wMo cI a wr) σ Q := by
  refine Ci.of (by decide +kernel) (Nat.le_of_ble_eq_true rfl) ?_
  intro p e s m below meth c ls A Z hx hb hml hown hts hok hP hD hA hl hend
  have S : CallFix p m c b_Mo_mark 7 s ([.ref (a 12), .int x1, .int x2, .int x3, .int x4, .int x5] : List Value).toArray lwg "PropertyTrieModel" := ⟨hx, hb, hml, hown, hts⟩
  have hS : va_S A s.heap s.heap [] := va_S.rf
  have hl : lv_has ls 7 [(0, .ref (a 12)), (1, .int x1), (2, .int x2), (3, .int x3), (4, .int x4), (5, .int x5)] := hl
  unfold F_Mo_mark at hf
  have lab117 : ∀ (v1 v2 : Int32) (σ : St) (H : Heap) (locs : List Loc) (ls : Array Slot), F_Mo_mark_J117 v1 v2 σ Q → va_P D classes (wMo cI a wr σ) H → va_D A (wMo cI a wr σ) → va_S A s.heap H locs → lv_has ls 7 [(1, .int v1), (2, .int v2)] → W p l e rm_Mo_mark s m ([.ref (a 12), .int x1, .int x2, .int x3, .int x4, .int x5] : List Value).toArray below meth c H locs 0 0 Z (F0 m 117 ls []) := by
    intro v1 v2 σ H locs ls hf hP hD hS hl
    unfold F_Mo_mark_J117 at hf
    refine lv_iload_n hx hb d_Mo_mark_117 rfl (lv_at hl 1 rfl) ?_
    refine lv_iload_n hx hb d_Mo_mark_118 rfl (lv_at hl 0 rfl) ?_
    refine lv_isub hx hb d_Mo_mark_119 ?_
    refine lv_iconst (v := (1 : Int32)) hx hb d_Mo_mark_120 (by decide) ?_
    refine lv_iadd hx hb d_Mo_mark_121 ?_
    exact hend _ _ _ _ _ _ d_Mo_mark_122 rfl hf hP hD hS
  have lab61 : ∀ (v1 v2 v3 v4 v5 v6 : Int32) (σ : St) (H : Heap) (locs : List Loc) (ls : Array Slot), F_Mo_mark_L61 v1 v2 v3 v4 v5 v6 σ Q → va_P D classes (wMo cI a wr σ) H → va_D A (wMo cI a wr σ) → va_S A s.heap H locs → lv_has ls 7 [(0, .ref (a 12)), (1, .int v1), (2, .int v2), (3, .int v3), (4, .int v4), (5, .int v5), (6, .int v6)] → W p l e rm_Mo_mark s m ([.ref (a 12), .int x1, .int x2, .int x3, .int x4, .int x5] : List Value).toArray below meth c H locs 0 0 Z (F0 m 61 ls []) := by
    intro v1 v2 v3 v4 v5 v6 σ H locs ls hf hP hD hS hl
    unfold F_Mo_mark_L61 at hf
    obtain ⟨I61, m61, h0, hst61⟩ := hf
    have lp61 : ∀ (n : Nat) (v6 : Int32) (σ : St) (H : Heap) (locs : List Loc) (ls : Array Slot), m61 v6 σ = n → I61 v6 σ → va_P D classes (wMo cI a wr σ) H → va_D A (wMo cI a wr σ) → va_S A s.heap H locs → lv_has ls 7 [(0, .ref (a 12)), (1, .int v1), (2, .int v2), (3, .int v3), (4, .int v4), (5, .int v5), (6, .int v6)] → W p l e rm_Mo_mark s m ([.ref (a 12), .int x1, .int x2, .int x3, .int x4, .int x5] : List Value).toArray below meth c H locs 0 0 Z (F0 m 61 ls []) := by
      intro n61
      induction n61 using Nat.strongRecOn with
      | _ n61 ih61 =>
        intro v6 σ H locs ls hn hI hP hD hS hl
        have hf := hst61 v6 σ n61 hI hn
        refine lv_iload hx hb d_Mo_mark_61 (lv_at hl 6 rfl) ?_
        refine lv_aload_n hx hb d_Mo_mark_63 rfl (lv_at hl 0 rfl) ?_
        refine rg_Mo_count S hok hP (hts _ k_fl_Mo_7) d_Mo_mark_64 ?_
        refine lv_icmp_ge hx hb d_Mo_mark_67 rfl (fun hc => ?_) (fun hc => ?_)
        · have hf := hf.1 hc
          exact lab117 _ _ _ _ _ _ hf hP hD hS (lv_sub hl [1, 2] rfl)
        · have hf := hf.2 hc
          refine lv_aload_n hx hb d_Mo_mark_70 rfl (lv_at hl 0 rfl) ?_
          refine rg_Mo_starts S hok hP (hts _ k_fl_Mo_13) d_Mo_mark_71 ?_
          refine lv_iload hx hb d_Mo_mark_74 (lv_at hl 6 rfl) ?_
          obtain ⟨hin, hf⟩ := hf
          refine rl_Mo_starts S hok hP hin d_Mo_mark_76 ?_
          refine lv_iload_n hx hb d_Mo_mark_77 rfl (lv_at hl 2 rfl) ?_
          refine lv_icmp_gt hx hb d_Mo_mark_78 rfl (fun hc => ?_) (fun hc => ?_)
          · have hf := hf.1 hc
            exact lab117 _ _ _ _ _ _ hf hP hD hS (lv_sub hl [1, 2] rfl)
          · have hf := hf.2 hc
            refine lv_aload_n hx hb d_Mo_mark_81 rfl (lv_at hl 0 rfl) ?_
            refine rg_Mo_fields S hok hP (hts _ k_fl_Mo_18) d_Mo_mark_82 ?_
            refine lv_bipush (v := (8 : Int32)) hx hb d_Mo_mark_85 (by decide) ?_
            refine lv_iload hx hb d_Mo_mark_87 (lv_at hl 6 rfl) ?_
            refine lv_imul hx hb d_Mo_mark_89 ?_
            refine lv_iload_n hx hb d_Mo_mark_90 rfl (lv_at hl 3 rfl) ?_
            refine lv_iadd hx hb d_Mo_mark_91 ?_
            refine lv_aload_n hx hb d_Mo_mark_92 rfl (lv_at hl 0 rfl) ?_
            refine rg_Mo_fields S hok hP (hts _ k_fl_Mo_18) d_Mo_mark_93 ?_
            refine lv_bipush (v := (8 : Int32)) hx hb d_Mo_mark_96 (by decide) ?_
            refine lv_iload hx hb d_Mo_mark_98 (lv_at hl 6 rfl) ?_
            refine lv_imul hx hb d_Mo_mark_100 ?_
            refine lv_iload_n hx hb d_Mo_mark_101 rfl (lv_at hl 3 rfl) ?_
            refine lv_iadd hx hb d_Mo_mark_102 ?_
            obtain ⟨hin, hf⟩ := hf
            refine rl_Mo_fields S hok hP hin d_Mo_mark_103 ?_
            refine lv_iload hx hb d_Mo_mark_104 (lv_at hl 5 rfl) ?_
            refine lv_iand hx hb d_Mo_mark_106 ?_
            refine lv_iload hx hb d_Mo_mark_107 (lv_at hl 4 rfl) ?_
            refine lv_ior hx hb d_Mo_mark_109 ?_
            obtain ⟨hin, hf⟩ := hf
            refine rs_Mo_fields S hok hwr hP hD hS hin d_Mo_mark_110 (fun σ1 H locs hσ1 hP hD hS => ?_)
            have hf := hf σ1 hσ1
            obtain ⟨z2, hz2⟩ : ∃ z2 : Int32, z2 = v6 + (1 : Int32) := ⟨_, rfl⟩
            have hf := hf z2 hz2
            refine lv_iinc (k := 6) (v := z2) hx hb d_Mo_mark_111 hl rfl (by rw [hz2]; rfl) (by decide) rfl (fun ls hl => ?_)
            have hl : lv_has ls 7 [(6, .int z2), (0, .ref (a 12)), (1, .int v1), (2, .int v2), (3, .int v3), (4, .int v4), (5, .int v5)] := hl
            refine lv_goto hx hb d_Mo_mark_114 rfl ?_
            exact ih61 _ hf.2 _ _ _ _ _ rfl hf.1 hP hD hS (lv_sub hl [1, 2, 3, 4, 5, 6, 0] rfl)
    exact lp61 _ v6 σ H locs ls rfl h0 hP hD hS hl
  refine lv_aload_n hx hb d_Mo_mark_0 rfl (lv_at hl 0 rfl) ?_
  refine lv_iconst (v := (0 : Int32)) hx hb d_Mo_mark_1 (by decide) ?_
  refine rp_Mo_failed S hok hwr hP hD hS (hts _ k_fl_Mo_21) d_Mo_mark_2 (fun σ3 H locs hσ3 hP hD hS => ?_)
  have hf := hf σ3 hσ3
  refine lv_aload_n hx hb d_Mo_mark_5 rfl (lv_at hl 0 rfl) ?_
  refine lv_iload_n hx hb d_Mo_mark_6 rfl (lv_at hl 1 rfl) ?_
  refine r_callVi (As := [.int x1]) (rest := []) (n := 1) (q0 := 12) S hok (c_Mo_out l D cI a wr hwr _ _ _ hf) k_ml_Mo_33 k_im_Mo_out k_sel_Mo_out k_ini_Mo k_code_Mo_out rfl rfl (by decide +kernel) ⟨by decide, by decide⟩ rfl rfl hP hD hS hA (Nat.zero_le _) (Nat.zero_le _) hl.1 rfl rfl (Nat.le_of_ble_eq_true rfl) d_Mo_mark_7 (fun r5 σ4 H locs hf hP hD hS => ?_)
  have hP : va_P D classes (wMo cI a wr σ4) H := hP
  have hD : va_D A (wMo cI a wr σ4) := hD
  refine lv_if_ne hx hb d_Mo_mark_10 rfl (fun hc => ?_) (fun hc => ?_)
  · have hf := hf.2 hc
    refine lv_aload_n hx hb d_Mo_mark_36 rfl (lv_at hl 0 rfl) ?_
    refine lv_iconst (v := (1 : Int32)) hx hb d_Mo_mark_37 (by decide) ?_
    refine r_callVi (As := [.int (1 : Int32)]) (rest := []) (n := 1) (q0 := 12) S hok (c_Mo_fail l D cI a wr hwr _ _ _ hf) k_ml_Mo_37 k_im_Mo_fail k_sel_Mo_fail k_ini_Mo k_code_Mo_fail rfl rfl (by decide +kernel) ⟨by decide, by decide⟩ rfl rfl hP hD hS hA (Nat.zero_le _) (Nat.zero_le _) hl.1 rfl rfl (Nat.le_of_ble_eq_true rfl) d_Mo_mark_38 (fun r7 σ6 H locs hf hP hD hS => ?_)
    have hP : va_P D classes (wMo cI a wr σ6) H := hP
    have hD : va_D A (wMo cI a wr σ6) := hD
    exact hend _ _ _ _ _ _ d_Mo_mark_41 rfl hf hP hD hS
  · have hf := hf.1 hc
    refine lv_aload_n hx hb d_Mo_mark_13 rfl (lv_at hl 0 rfl) ?_
    refine lv_iload_n hx hb d_Mo_mark_14 rfl (lv_at hl 2 rfl) ?_
    refine r_callVi (As := [.int x2]) (rest := []) (n := 1) (q0 := 12) S hok (c_Mo_out l D cI a wr hwr _ _ _ hf) k_ml_Mo_33 k_im_Mo_out k_sel_Mo_out k_ini_Mo k_code_Mo_out rfl rfl (by decide +kernel) ⟨by decide, by decide⟩ rfl rfl hP hD hS hA (Nat.zero_le _) (Nat.zero_le _) hl.1 rfl rfl (Nat.le_of_ble_eq_true rfl) d_Mo_mark_15 (fun r9 σ8 H locs hf hP hD hS => ?_)
    have hP : va_P D classes (wMo cI a wr σ8) H := hP
    have hD : va_D A (wMo cI a wr σ8) := hD
    refine lv_if_ne hx hb d_Mo_mark_18 rfl (fun hc => ?_) (fun hc => ?_)
    · have hf := hf.2 hc
      refine lv_aload_n hx hb d_Mo_mark_36 rfl (lv_at hl 0 rfl) ?_
      refine lv_iconst (v := (1 : Int32)) hx hb d_Mo_mark_37 (by decide) ?_
      refine r_callVi (As := [.int (1 : Int32)]) (rest := []) (n := 1) (q0 := 12) S hok (c_Mo_fail l D cI a wr hwr _ _ _ hf) k_ml_Mo_37 k_im_Mo_fail k_sel_Mo_fail k_ini_Mo k_code_Mo_fail rfl rfl (by decide +kernel) ⟨by decide, by decide⟩ rfl rfl hP hD hS hA (Nat.zero_le _) (Nat.zero_le _) hl.1 rfl rfl (Nat.le_of_ble_eq_true rfl) d_Mo_mark_38 (fun r11 σ10 H locs hf hP hD hS => ?_)
      have hP : va_P D classes (wMo cI a wr σ10) H := hP
      have hD : va_D A (wMo cI a wr σ10) := hD
      exact hend _ _ _ _ _ _ d_Mo_mark_41 rfl hf hP hD hS
    · have hf := hf.1 hc
      refine lv_iload_n hx hb d_Mo_mark_21 rfl (lv_at hl 2 rfl) ?_
      refine lv_iload_n hx hb d_Mo_mark_22 rfl (lv_at hl 1 rfl) ?_
      refine lv_icmp_lt hx hb d_Mo_mark_23 rfl (fun hc => ?_) (fun hc => ?_)
      · have hf := hf.1 hc
        refine lv_aload_n hx hb d_Mo_mark_36 rfl (lv_at hl 0 rfl) ?_
        refine lv_iconst (v := (1 : Int32)) hx hb d_Mo_mark_37 (by decide) ?_
        refine r_callVi (As := [.int (1 : Int32)]) (rest := []) (n := 1) (q0 := 12) S hok (c_Mo_fail l D cI a wr hwr _ _ _ hf) k_ml_Mo_37 k_im_Mo_fail k_sel_Mo_fail k_ini_Mo k_code_Mo_fail rfl rfl (by decide +kernel) ⟨by decide, by decide⟩ rfl rfl hP hD hS hA (Nat.zero_le _) (Nat.zero_le _) hl.1 rfl rfl (Nat.le_of_ble_eq_true rfl) d_Mo_mark_38 (fun r13 σ12 H locs hf hP hD hS => ?_)
        have hP : va_P D classes (wMo cI a wr σ12) H := hP
        have hD : va_D A (wMo cI a wr σ12) := hD
        exact hend _ _ _ _ _ _ d_Mo_mark_41 rfl hf hP hD hS
      · have hf := hf.2 hc
        refine lv_iload_n hx hb d_Mo_mark_26 rfl (lv_at hl 3 rfl) ?_
        refine lv_if_lt hx hb d_Mo_mark_27 rfl (fun hc => ?_) (fun hc => ?_)
        · have hf := hf.1 hc
          refine lv_aload_n hx hb d_Mo_mark_36 rfl (lv_at hl 0 rfl) ?_
          refine lv_iconst (v := (1 : Int32)) hx hb d_Mo_mark_37 (by decide) ?_
          refine r_callVi (As := [.int (1 : Int32)]) (rest := []) (n := 1) (q0 := 12) S hok (c_Mo_fail l D cI a wr hwr _ _ _ hf) k_ml_Mo_37 k_im_Mo_fail k_sel_Mo_fail k_ini_Mo k_code_Mo_fail rfl rfl (by decide +kernel) ⟨by decide, by decide⟩ rfl rfl hP hD hS hA (Nat.zero_le _) (Nat.zero_le _) hl.1 rfl rfl (Nat.le_of_ble_eq_true rfl) d_Mo_mark_38 (fun r15 σ14 H locs hf hP hD hS => ?_)
          have hP : va_P D classes (wMo cI a wr σ14) H := hP
          have hD : va_D A (wMo cI a wr σ14) := hD
          exact hend _ _ _ _ _ _ d_Mo_mark_41 rfl hf hP hD hS
        · have hf := hf.2 hc
          refine lv_iload_n hx hb d_Mo_mark_30 rfl (lv_at hl 3 rfl) ?_
          refine lv_bipush (v := (7 : Int32)) hx hb d_Mo_mark_31 (by decide) ?_
          refine lv_icmp_le hx hb d_Mo_mark_33 rfl (fun hc => ?_) (fun hc => ?_)
          · have hf := hf.1 hc
            refine lv_aload_n hx hb d_Mo_mark_42 rfl (lv_at hl 0 rfl) ?_
            refine lv_iload_n hx hb d_Mo_mark_43 rfl (lv_at hl 1 rfl) ?_
            refine r_callVv (As := [.int x1]) (rest := []) (n := 1) (q0 := 12) S hok (c_Mo_cut l D cI a wr hwr _ _ _ hf) k_ml_Mo_40 k_im_Mo_cut k_sel_Mo_cut k_ini_Mo k_code_Mo_cut rfl rfl (by decide +kernel) ⟨by decide, by decide⟩ rfl rfl hP hD hS hA (Nat.zero_le _) (Nat.zero_le _) hl.1 rfl rfl (Nat.le_of_ble_eq_true rfl) d_Mo_mark_44 (fun σ16 H locs hf hP hD hS => ?_)
            have hP : va_P D classes (wMo cI a wr σ16) H := hP
            have hD : va_D A (wMo cI a wr σ16) := hD
            refine lv_aload_n hx hb d_Mo_mark_47 rfl (lv_at hl 0 rfl) ?_
            refine lv_iload_n hx hb d_Mo_mark_48 rfl (lv_at hl 2 rfl) ?_
            refine lv_iconst (v := (1 : Int32)) hx hb d_Mo_mark_49 (by decide) ?_
            refine lv_iadd hx hb d_Mo_mark_50 ?_
            refine r_callVv (As := [.int (x2 + (1 : Int32))]) (rest := []) (n := 1) (q0 := 12) S hok (c_Mo_cut l D cI a wr hwr _ _ _ hf) k_ml_Mo_40 k_im_Mo_cut k_sel_Mo_cut k_ini_Mo k_code_Mo_cut rfl rfl (by decide +kernel) ⟨by decide, by decide⟩ rfl rfl hP hD hS hA (Nat.zero_le _) (Nat.zero_le _) hl.1 rfl rfl (Nat.le_of_ble_eq_true rfl) d_Mo_mark_51 (fun σ17 H locs hf hP hD hS => ?_)
            have hP : va_P D classes (wMo cI a wr σ17) H := hP
            have hD : va_D A (wMo cI a wr σ17) := hD
            refine lv_aload_n hx hb d_Mo_mark_54 rfl (lv_at hl 0 rfl) ?_
            refine lv_iload_n hx hb d_Mo_mark_55 rfl (lv_at hl 1 rfl) ?_
            refine r_callVi (As := [.int x1]) (rest := []) (n := 1) (q0 := 12) S hok (c_Mo_at l D cI a wr hwr _ _ _ hf) k_ml_Mo_25 k_im_Mo_at k_sel_Mo_at k_ini_Mo k_code_Mo_at rfl rfl (by decide +kernel) ⟨by decide, by decide⟩ rfl rfl hP hD hS hA (Nat.zero_le _) (Nat.zero_le _) hl.1 rfl rfl (Nat.le_of_ble_eq_true rfl) d_Mo_mark_56 (fun r19 σ18 H locs hf hP hD hS => ?_)
            have hP : va_P D classes (wMo cI a wr σ18) H := hP
            have hD : va_D A (wMo cI a wr σ18) := hD
            refine lv_istore hx hb d_Mo_mark_59 hl (by decide) rfl (fun ls hl => ?_)
            have hl : lv_has ls 7 [(6, .int r19), (0, .ref (a 12)), (1, .int x1), (2, .int x2), (3, .int x3), (4, .int x4), (5, .int x5)] := hl
            exact lab61 _ _ _ _ _ _ _ _ _ _ hf hP hD hS (lv_sub hl [1, 2, 3, 4, 5, 6, 0] rfl)
          · have hf := hf.2 hc
            refine lv_aload_n hx hb d_Mo_mark_36 rfl (lv_at hl 0 rfl) ?_
            refine lv_iconst (v := (1 : Int32)) hx hb d_Mo_mark_37 (by decide) ?_
            refine r_callVi (As := [.int (1 : Int32)]) (rest := []) (n := 1) (q0 := 12) S hok (c_Mo_fail l D cI a wr hwr _ _ _ hf) k_ml_Mo_37 k_im_Mo_fail k_sel_Mo_fail k_ini_Mo k_code_Mo_fail rfl rfl (by decide +kernel) ⟨by decide, by decide⟩ rfl rfl hP hD hS hA (Nat.zero_le _) (Nat.zero_le _) hl.1 rfl rfl (Nat.le_of_ble_eq_true rfl) d_Mo_mark_38 (fun r21 σ20 H locs hf hP hD hS => ?_)
            have hP : va_P D classes (wMo cI a wr σ20) H := hP
            have hD : va_D A (wMo cI a wr σ20) := hD
            exact hend _ _ _ _ _ _ d_Mo_mark_41 rfl hf hP hD hS
abbrev rm_Mo_set : Room := { frames := 40, cells := 0, slots := 0, locals := 800 }
set_option maxRecDepth 100000 in
set_option maxHeartbeats 4000000 in
theorem c_Mo_set (l : Launch) (D : va_G) (cI : ClassId) (a : Nat → Nat) (wr : St → va_W) (hwr : Fx 21 wr) (x1 : Int32) (x2 : Int32) (x3 : Int32) (x4 : Int32) (σ : St) (Q : Int32 → St → Prop) (hf : F_Mo_set x1 x2 x3 x4 σ Q) : Ci l y_Mo_set (.code y_Mo_set b_Mo_set 5 (some .int)) rm_Mo_set D cI [.ref (a 12), .int x1, .int x2, .int x3, .int x4] (wMo cI a wr) σ Q := by
  refine Ci.of (by decide +kernel) (Nat.le_of_ble_eq_true rfl) ?_
  intro p e s m below meth c ls A Z hx hb hml hown hts hok hP hD hA hl hend
  have S : CallFix p m c b_Mo_set 5 s ([.ref (a 12), .int x1, .int x2, .int x3, .int x4] : List Value).toArray lwg "PropertyTrieModel" := ⟨hx, hb, hml, hown, hts⟩
  have hS : va_S A s.heap s.heap [] := va_S.rf
  have hl : lv_has ls 5 [(0, .ref (a 12)), (1, .int x1), (2, .int x2), (3, .int x3), (4, .int x4)] := hl
  unfold F_Mo_set at hf
  refine lv_aload_n hx hb d_Mo_set_0 rfl (lv_at hl 0 rfl) ?_
  refine lv_iload_n hx hb d_Mo_set_1 rfl (lv_at hl 1 rfl) ?_
  refine lv_iload_n hx hb d_Mo_set_2 rfl (lv_at hl 2 rfl) ?_
  refine lv_iload_n hx hb d_Mo_set_3 rfl (lv_at hl 3 rfl) ?_
  refine lv_iload hx hb d_Mo_set_4 (lv_at hl 4 rfl) ?_
  refine lv_iconst (v := (0 : Int32)) hx hb d_Mo_set_6 (by decide) ?_
  refine r_callVi (As := [.int x1, .int x2, .int x3, .int x4, .int (0 : Int32)]) (rest := []) (n := 5) (q0 := 12) S hok (c_Mo_mark l D cI a wr hwr _ _ _ _ _ _ _ hf) k_ml_Mo_29 k_im_Mo_mark k_sel_Mo_mark k_ini_Mo k_code_Mo_mark rfl rfl (by decide +kernel) ⟨by decide, by decide⟩ rfl rfl hP hD hS hA (Nat.zero_le _) (Nat.zero_le _) hl.1 rfl rfl (Nat.le_of_ble_eq_true rfl) d_Mo_set_7 (fun r2 σ1 H locs hf hP hD hS => ?_)
  have hP : va_P D classes (wMo cI a wr σ1) H := hP
  have hD : va_D A (wMo cI a wr σ1) := hD
  exact hend _ _ _ _ _ _ d_Mo_set_10 rfl hf hP hD hS
abbrev rm_Mo_get : Room := { frames := 20, cells := 0, slots := 0, locals := 400 }
set_option maxRecDepth 100000 in
set_option maxHeartbeats 4000000 in
theorem c_Mo_get (l : Launch) (D : va_G) (cI : ClassId) (a : Nat → Nat) (wr : St → va_W) (hwr : Fx 21 wr) (x1 : Int32) (x2 : Int32) (σ : St) (Q : Int32 → St → Prop) (hf : F_Mo_get x1 x2 σ Q) : Ci l y_Mo_get (.code y_Mo_get b_Mo_get 3 (some .int)) rm_Mo_get D cI [.ref (a 12), .int x1, .int x2] (wMo cI a wr) σ Q := by
  refine Ci.of (by decide +kernel) (Nat.le_of_ble_eq_true rfl) ?_
  intro p e s m below meth c ls A Z hx hb hml hown hts hok hP hD hA hl hend
  have S : CallFix p m c b_Mo_get 3 s ([.ref (a 12), .int x1, .int x2] : List Value).toArray lwg "PropertyTrieModel" := ⟨hx, hb, hml, hown, hts⟩
  have hS : va_S A s.heap s.heap [] := va_S.rf
  have hl : lv_has ls 3 [(0, .ref (a 12)), (1, .int x1), (2, .int x2)] := hl
  unfold F_Mo_get at hf
  refine lv_aload_n hx hb d_Mo_get_0 rfl (lv_at hl 0 rfl) ?_
  refine lv_iconst (v := (0 : Int32)) hx hb d_Mo_get_1 (by decide) ?_
  refine rp_Mo_failed S hok hwr hP hD hS (hts _ k_fl_Mo_21) d_Mo_get_2 (fun σ1 H locs hσ1 hP hD hS => ?_)
  have hf := hf σ1 hσ1
  refine lv_aload_n hx hb d_Mo_get_5 rfl (lv_at hl 0 rfl) ?_
  refine lv_iload_n hx hb d_Mo_get_6 rfl (lv_at hl 1 rfl) ?_
  refine r_callVi (As := [.int x1]) (rest := []) (n := 1) (q0 := 12) S hok (c_Mo_out l D cI a wr hwr _ _ _ hf) k_ml_Mo_33 k_im_Mo_out k_sel_Mo_out k_ini_Mo k_code_Mo_out rfl rfl (by decide +kernel) ⟨by decide, by decide⟩ rfl rfl hP hD hS hA (Nat.zero_le _) (Nat.zero_le _) hl.1 rfl rfl (Nat.le_of_ble_eq_true rfl) d_Mo_get_7 (fun r3 σ2 H locs hf hP hD hS => ?_)
  have hP : va_P D classes (wMo cI a wr σ2) H := hP
  have hD : va_D A (wMo cI a wr σ2) := hD
  refine lv_if_ne hx hb d_Mo_get_10 rfl (fun hc => ?_) (fun hc => ?_)
  · have hf := hf.2 hc
    refine lv_aload_n hx hb d_Mo_get_23 rfl (lv_at hl 0 rfl) ?_
    refine lv_iconst (v := (1 : Int32)) hx hb d_Mo_get_24 (by decide) ?_
    refine r_callVi (As := [.int (1 : Int32)]) (rest := []) (n := 1) (q0 := 12) S hok (c_Mo_fail l D cI a wr hwr _ _ _ hf) k_ml_Mo_37 k_im_Mo_fail k_sel_Mo_fail k_ini_Mo k_code_Mo_fail rfl rfl (by decide +kernel) ⟨by decide, by decide⟩ rfl rfl hP hD hS hA (Nat.zero_le _) (Nat.zero_le _) hl.1 rfl rfl (Nat.le_of_ble_eq_true rfl) d_Mo_get_25 (fun r5 σ4 H locs hf hP hD hS => ?_)
    have hP : va_P D classes (wMo cI a wr σ4) H := hP
    have hD : va_D A (wMo cI a wr σ4) := hD
    refine lv_goto hx hb d_Mo_get_28 rfl ?_
    exact hend _ _ _ _ _ _ d_Mo_get_46 rfl hf hP hD hS
  · have hf := hf.1 hc
    refine lv_iload_n hx hb d_Mo_get_13 rfl (lv_at hl 2 rfl) ?_
    refine lv_if_lt hx hb d_Mo_get_14 rfl (fun hc => ?_) (fun hc => ?_)
    · have hf := hf.1 hc
      refine lv_aload_n hx hb d_Mo_get_23 rfl (lv_at hl 0 rfl) ?_
      refine lv_iconst (v := (1 : Int32)) hx hb d_Mo_get_24 (by decide) ?_
      refine r_callVi (As := [.int (1 : Int32)]) (rest := []) (n := 1) (q0 := 12) S hok (c_Mo_fail l D cI a wr hwr _ _ _ hf) k_ml_Mo_37 k_im_Mo_fail k_sel_Mo_fail k_ini_Mo k_code_Mo_fail rfl rfl (by decide +kernel) ⟨by decide, by decide⟩ rfl rfl hP hD hS hA (Nat.zero_le _) (Nat.zero_le _) hl.1 rfl rfl (Nat.le_of_ble_eq_true rfl) d_Mo_get_25 (fun r7 σ6 H locs hf hP hD hS => ?_)
      have hP : va_P D classes (wMo cI a wr σ6) H := hP
      have hD : va_D A (wMo cI a wr σ6) := hD
      refine lv_goto hx hb d_Mo_get_28 rfl ?_
      exact hend _ _ _ _ _ _ d_Mo_get_46 rfl hf hP hD hS
    · have hf := hf.2 hc
      refine lv_iload_n hx hb d_Mo_get_17 rfl (lv_at hl 2 rfl) ?_
      refine lv_bipush (v := (7 : Int32)) hx hb d_Mo_get_18 (by decide) ?_
      refine lv_icmp_le hx hb d_Mo_get_20 rfl (fun hc => ?_) (fun hc => ?_)
      · have hf := hf.1 hc
        refine lv_aload_n hx hb d_Mo_get_31 rfl (lv_at hl 0 rfl) ?_
        refine rg_Mo_fields S hok hP (hts _ k_fl_Mo_18) d_Mo_get_32 ?_
        refine lv_bipush (v := (8 : Int32)) hx hb d_Mo_get_35 (by decide) ?_
        refine lv_aload_n hx hb d_Mo_get_37 rfl (lv_at hl 0 rfl) ?_
        refine lv_iload_n hx hb d_Mo_get_38 rfl (lv_at hl 1 rfl) ?_
        refine r_callVi (As := [.int x1]) (rest := [.int (8 : Int32), .ref (a 14)]) (n := 1) (q0 := 12) S hok (c_Mo_at l D cI a wr hwr _ _ _ hf) k_ml_Mo_25 k_im_Mo_at k_sel_Mo_at k_ini_Mo k_code_Mo_at rfl rfl (by decide +kernel) ⟨by decide, by decide⟩ rfl rfl hP hD hS hA (Nat.zero_le _) (Nat.zero_le _) hl.1 rfl rfl (Nat.le_of_ble_eq_true rfl) d_Mo_get_39 (fun r9 σ8 H locs hf hP hD hS => ?_)
        have hP : va_P D classes (wMo cI a wr σ8) H := hP
        have hD : va_D A (wMo cI a wr σ8) := hD
        refine lv_imul hx hb d_Mo_get_42 ?_
        refine lv_iload_n hx hb d_Mo_get_43 rfl (lv_at hl 2 rfl) ?_
        refine lv_iadd hx hb d_Mo_get_44 ?_
        obtain ⟨hin, hf⟩ := hf
        refine rl_Mo_fields S hok hP hin d_Mo_get_45 ?_
        exact hend _ _ _ _ _ _ d_Mo_get_46 rfl hf hP hD hS
      · have hf := hf.2 hc
        refine lv_aload_n hx hb d_Mo_get_23 rfl (lv_at hl 0 rfl) ?_
        refine lv_iconst (v := (1 : Int32)) hx hb d_Mo_get_24 (by decide) ?_
        refine r_callVi (As := [.int (1 : Int32)]) (rest := []) (n := 1) (q0 := 12) S hok (c_Mo_fail l D cI a wr hwr _ _ _ hf) k_ml_Mo_37 k_im_Mo_fail k_sel_Mo_fail k_ini_Mo k_code_Mo_fail rfl rfl (by decide +kernel) ⟨by decide, by decide⟩ rfl rfl hP hD hS hA (Nat.zero_le _) (Nat.zero_le _) hl.1 rfl rfl (Nat.le_of_ble_eq_true rfl) d_Mo_get_25 (fun r11 σ10 H locs hf hP hD hS => ?_)
        have hP : va_P D classes (wMo cI a wr σ10) H := hP
        have hD : va_D A (wMo cI a wr σ10) := hD
        refine lv_goto hx hb d_Mo_get_28 rfl ?_
        exact hend _ _ _ _ _ _ d_Mo_get_46 rfl hf hP hD hS
abbrev rm_Mo_change : Room := { frames := 20, cells := 0, slots := 0, locals := 400 }
set_option maxRecDepth 100000 in
set_option maxHeartbeats 4000000 in
theorem c_Mo_change (l : Launch) (D : va_G) (cI : ClassId) (a : Nat → Nat) (wr : St → va_W) (hwr : Fx 21 wr) (x1 : Int32) (x2 : Int32) (σ : St) (Q : Int32 → St → Prop) (hf : F_Mo_change x1 x2 σ Q) : Ci l y_Mo_change (.code y_Mo_change b_Mo_change 5 (some .int)) rm_Mo_change D cI [.ref (a 12), .int x1, .int x2] (wMo cI a wr) σ Q := by
  refine Ci.of (by decide +kernel) (Nat.le_of_ble_eq_true rfl) ?_
  intro p e s m below meth c ls A Z hx hb hml hown hts hok hP hD hA hl hend
  have S : CallFix p m c b_Mo_change 5 s ([.ref (a 12), .int x1, .int x2] : List Value).toArray lwg "PropertyTrieModel" := ⟨hx, hb, hml, hown, hts⟩
  have hS : va_S A s.heap s.heap [] := va_S.rf
  have hl : lv_has ls 5 [(0, .ref (a 12)), (1, .int x1), (2, .int x2)] := hl
  unfold F_Mo_change at hf
  have lab78 : ∀ (v3 : Int32) (σ : St) (H : Heap) (locs : List Loc) (ls : Array Slot), F_Mo_change_J78 v3 σ Q → va_P D classes (wMo cI a wr σ) H → va_D A (wMo cI a wr σ) → va_S A s.heap H locs → lv_has ls 5 [(0, .ref (a 12)), (3, .int v3)] → W p l e rm_Mo_change s m ([.ref (a 12), .int x1, .int x2] : List Value).toArray below meth c H locs 0 0 Z (F0 m 78 ls []) := by
    intro v3 σ H locs ls hf hP hD hS hl
    unfold F_Mo_change_J78 at hf
    refine lv_iload_n hx hb d_Mo_change_78 rfl (lv_at hl 1 rfl) ?_
    refine lv_aload_n hx hb d_Mo_change_79 rfl (lv_at hl 0 rfl) ?_
    refine rg_Mo_count S hok hP (hts _ k_fl_Mo_7) d_Mo_change_80 ?_
    refine lv_icmp_ne hx hb d_Mo_change_83 rfl (fun hc => ?_) (fun hc => ?_)
    · have hf := hf.2 hc
      refine lv_aload_n hx hb d_Mo_change_90 rfl (lv_at hl 0 rfl) ?_
      refine rg_Mo_starts S hok hP (hts _ k_fl_Mo_13) d_Mo_change_91 ?_
      refine lv_iload_n hx hb d_Mo_change_94 rfl (lv_at hl 1 rfl) ?_
      obtain ⟨hin, hf⟩ := hf
      refine rl_Mo_starts S hok hP hin d_Mo_change_95 ?_
      exact hend _ _ _ _ _ _ d_Mo_change_96 rfl hf hP hD hS
    · have hf := hf.1 hc
      refine lv_iconst (v := (-1 : Int32)) hx hb d_Mo_change_86 (by decide) ?_
      refine lv_goto hx hb d_Mo_change_87 rfl ?_
      exact hend _ _ _ _ _ _ d_Mo_change_96 rfl hf hP hD hS
  have lab48 : ∀ (v2 v3 v4 : Int32) (σ : St) (H : Heap) (locs : List Loc) (ls : Array Slot), F_Mo_change_L48 v2 v3 v4 σ Q → va_P D classes (wMo cI a wr σ) H → va_D A (wMo cI a wr σ) → va_S A s.heap H locs → lv_has ls 5 [(0, .ref (a 12)), (2, .int v2), (3, .int v3), (4, .int v4)] → W p l e rm_Mo_change s m ([.ref (a 12), .int x1, .int x2] : List Value).toArray below meth c H locs 0 0 Z (F0 m 48 ls []) := by
    intro v2 v3 v4 σ H locs ls hf hP hD hS hl
    unfold F_Mo_change_L48 at hf
    obtain ⟨I48, m48, h0, hst48⟩ := hf
    have lp48 : ∀ (n : Nat) (v3 : Int32) (σ : St) (H : Heap) (locs : List Loc) (ls : Array Slot), m48 v3 σ = n → I48 v3 σ → va_P D classes (wMo cI a wr σ) H → va_D A (wMo cI a wr σ) → va_S A s.heap H locs → lv_has ls 5 [(0, .ref (a 12)), (2, .int v2), (3, .int v3), (4, .int v4)] → W p l e rm_Mo_change s m ([.ref (a 12), .int x1, .int x2] : List Value).toArray below meth c H locs 0 0 Z (F0 m 48 ls []) := by
      intro n48
      induction n48 using Nat.strongRecOn with
      | _ n48 ih48 =>
        intro v3 σ H locs ls hn hI hP hD hS hl
        have hf := hst48 v3 σ n48 hI hn
        refine lv_iload_n hx hb d_Mo_change_48 rfl (lv_at hl 2 rfl) ?_
        refine lv_aload_n hx hb d_Mo_change_49 rfl (lv_at hl 0 rfl) ?_
        refine rg_Mo_count S hok hP (hts _ k_fl_Mo_7) d_Mo_change_50 ?_
        refine lv_icmp_ge hx hb d_Mo_change_53 rfl (fun hc => ?_) (fun hc => ?_)
        · have hf := hf.1 hc
          exact lab78 _ _ _ _ _ hf hP hD hS (lv_sub hl [0, 2] rfl)
        · have hf := hf.2 hc
          refine lv_aload_n hx hb d_Mo_change_56 rfl (lv_at hl 0 rfl) ?_
          refine rg_Mo_fields S hok hP (hts _ k_fl_Mo_18) d_Mo_change_57 ?_
          refine lv_bipush (v := (8 : Int32)) hx hb d_Mo_change_60 (by decide) ?_
          refine lv_iload_n hx hb d_Mo_change_62 rfl (lv_at hl 2 rfl) ?_
          refine lv_imul hx hb d_Mo_change_63 ?_
          refine lv_iload_n hx hb d_Mo_change_64 rfl (lv_at hl 1 rfl) ?_
          refine lv_iadd hx hb d_Mo_change_65 ?_
          obtain ⟨hin, hf⟩ := hf
          refine rl_Mo_fields S hok hP hin d_Mo_change_66 ?_
          refine lv_iload hx hb d_Mo_change_67 (lv_at hl 3 rfl) ?_
          refine lv_icmp_ne hx hb d_Mo_change_69 rfl (fun hc => ?_) (fun hc => ?_)
          · have hf := hf.2 hc
            exact lab78 _ _ _ _ _ hf hP hD hS (lv_sub hl [0, 2] rfl)
          · have hf := hf.1 hc
            obtain ⟨z1, hz1⟩ : ∃ z1 : Int32, z1 = v3 + (1 : Int32) := ⟨_, rfl⟩
            have hf := hf z1 hz1
            refine lv_iinc (k := 2) (v := z1) hx hb d_Mo_change_72 hl rfl (by rw [hz1]; rfl) (by decide) rfl (fun ls hl => ?_)
            have hl : lv_has ls 5 [(3, .int z1), (0, .ref (a 12)), (2, .int v2), (4, .int v4)] := hl
            refine lv_goto hx hb d_Mo_change_75 rfl ?_
            exact ih48 _ hf.2 _ _ _ _ _ rfl hf.1 hP hD hS (lv_sub hl [1, 2, 0, 3] rfl)
    exact lp48 _ v3 σ H locs ls rfl h0 hP hD hS hl
  refine lv_aload_n hx hb d_Mo_change_0 rfl (lv_at hl 0 rfl) ?_
  refine lv_iconst (v := (0 : Int32)) hx hb d_Mo_change_1 (by decide) ?_
  refine rp_Mo_failed S hok hwr hP hD hS (hts _ k_fl_Mo_21) d_Mo_change_2 (fun σ2 H locs hσ2 hP hD hS => ?_)
  have hf := hf σ2 hσ2
  refine lv_aload_n hx hb d_Mo_change_5 rfl (lv_at hl 0 rfl) ?_
  refine lv_iload_n hx hb d_Mo_change_6 rfl (lv_at hl 1 rfl) ?_
  refine r_callVi (As := [.int x1]) (rest := []) (n := 1) (q0 := 12) S hok (c_Mo_out l D cI a wr hwr _ _ _ hf) k_ml_Mo_33 k_im_Mo_out k_sel_Mo_out k_ini_Mo k_code_Mo_out rfl rfl (by decide +kernel) ⟨by decide, by decide⟩ rfl rfl hP hD hS hA (Nat.zero_le _) (Nat.zero_le _) hl.1 rfl rfl (Nat.le_of_ble_eq_true rfl) d_Mo_change_7 (fun r4 σ3 H locs hf hP hD hS => ?_)
  have hP : va_P D classes (wMo cI a wr σ3) H := hP
  have hD : va_D A (wMo cI a wr σ3) := hD
  refine lv_if_ne hx hb d_Mo_change_10 rfl (fun hc => ?_) (fun hc => ?_)
  · have hf := hf.2 hc
    refine lv_aload_n hx hb d_Mo_change_23 rfl (lv_at hl 0 rfl) ?_
    refine lv_iconst (v := (1 : Int32)) hx hb d_Mo_change_24 (by decide) ?_
    refine r_callVi (As := [.int (1 : Int32)]) (rest := []) (n := 1) (q0 := 12) S hok (c_Mo_fail l D cI a wr hwr _ _ _ hf) k_ml_Mo_37 k_im_Mo_fail k_sel_Mo_fail k_ini_Mo k_code_Mo_fail rfl rfl (by decide +kernel) ⟨by decide, by decide⟩ rfl rfl hP hD hS hA (Nat.zero_le _) (Nat.zero_le _) hl.1 rfl rfl (Nat.le_of_ble_eq_true rfl) d_Mo_change_25 (fun r6 σ5 H locs hf hP hD hS => ?_)
    have hP : va_P D classes (wMo cI a wr σ5) H := hP
    have hD : va_D A (wMo cI a wr σ5) := hD
    exact hend _ _ _ _ _ _ d_Mo_change_28 rfl hf hP hD hS
  · have hf := hf.1 hc
    refine lv_iload_n hx hb d_Mo_change_13 rfl (lv_at hl 2 rfl) ?_
    refine lv_if_lt hx hb d_Mo_change_14 rfl (fun hc => ?_) (fun hc => ?_)
    · have hf := hf.1 hc
      refine lv_aload_n hx hb d_Mo_change_23 rfl (lv_at hl 0 rfl) ?_
      refine lv_iconst (v := (1 : Int32)) hx hb d_Mo_change_24 (by decide) ?_
      refine r_callVi (As := [.int (1 : Int32)]) (rest := []) (n := 1) (q0 := 12) S hok (c_Mo_fail l D cI a wr hwr _ _ _ hf) k_ml_Mo_37 k_im_Mo_fail k_sel_Mo_fail k_ini_Mo k_code_Mo_fail rfl rfl (by decide +kernel) ⟨by decide, by decide⟩ rfl rfl hP hD hS hA (Nat.zero_le _) (Nat.zero_le _) hl.1 rfl rfl (Nat.le_of_ble_eq_true rfl) d_Mo_change_25 (fun r8 σ7 H locs hf hP hD hS => ?_)
      have hP : va_P D classes (wMo cI a wr σ7) H := hP
      have hD : va_D A (wMo cI a wr σ7) := hD
      exact hend _ _ _ _ _ _ d_Mo_change_28 rfl hf hP hD hS
    · have hf := hf.2 hc
      refine lv_iload_n hx hb d_Mo_change_17 rfl (lv_at hl 2 rfl) ?_
      refine lv_bipush (v := (7 : Int32)) hx hb d_Mo_change_18 (by decide) ?_
      refine lv_icmp_le hx hb d_Mo_change_20 rfl (fun hc => ?_) (fun hc => ?_)
      · have hf := hf.1 hc
        refine lv_aload_n hx hb d_Mo_change_29 rfl (lv_at hl 0 rfl) ?_
        refine lv_iload_n hx hb d_Mo_change_30 rfl (lv_at hl 1 rfl) ?_
        refine r_callVi (As := [.int x1]) (rest := []) (n := 1) (q0 := 12) S hok (c_Mo_at l D cI a wr hwr _ _ _ hf) k_ml_Mo_25 k_im_Mo_at k_sel_Mo_at k_ini_Mo k_code_Mo_at rfl rfl (by decide +kernel) ⟨by decide, by decide⟩ rfl rfl hP hD hS hA (Nat.zero_le _) (Nat.zero_le _) hl.1 rfl rfl (Nat.le_of_ble_eq_true rfl) d_Mo_change_31 (fun r10 σ9 H locs hf hP hD hS => ?_)
        have hP : va_P D classes (wMo cI a wr σ9) H := hP
        have hD : va_D A (wMo cI a wr σ9) := hD
        refine lv_istore_n hx hb d_Mo_change_34 rfl hl (by decide) rfl (fun ls hl => ?_)
        have hl : lv_has ls 5 [(3, .int r10), (0, .ref (a 12)), (1, .int x1), (2, .int x2)] := hl
        refine lv_aload_n hx hb d_Mo_change_35 rfl (lv_at hl 1 rfl) ?_
        refine rg_Mo_fields S hok hP (hts _ k_fl_Mo_18) d_Mo_change_36 ?_
        refine lv_bipush (v := (8 : Int32)) hx hb d_Mo_change_39 (by decide) ?_
        refine lv_iload_n hx hb d_Mo_change_41 rfl (lv_at hl 0 rfl) ?_
        refine lv_imul hx hb d_Mo_change_42 ?_
        refine lv_iload_n hx hb d_Mo_change_43 rfl (lv_at hl 3 rfl) ?_
        refine lv_iadd hx hb d_Mo_change_44 ?_
        obtain ⟨hin, hf⟩ := hf
        refine rl_Mo_fields S hok hP hin d_Mo_change_45 ?_
        refine lv_topi (fun z11 hz11 => ?_)
        have hf := hf z11 hz11
        refine lv_istore hx hb d_Mo_change_46 hl (by decide) rfl (fun ls hl => ?_)
        have hl : lv_has ls 5 [(4, .int z11), (3, .int r10), (0, .ref (a 12)), (1, .int x1), (2, .int x2)] := hl
        exact lab48 _ _ _ _ _ _ _ hf hP hD hS (lv_sub hl [2, 4, 1, 0] rfl)
      · have hf := hf.2 hc
        refine lv_aload_n hx hb d_Mo_change_23 rfl (lv_at hl 0 rfl) ?_
        refine lv_iconst (v := (1 : Int32)) hx hb d_Mo_change_24 (by decide) ?_
        refine r_callVi (As := [.int (1 : Int32)]) (rest := []) (n := 1) (q0 := 12) S hok (c_Mo_fail l D cI a wr hwr _ _ _ hf) k_ml_Mo_37 k_im_Mo_fail k_sel_Mo_fail k_ini_Mo k_code_Mo_fail rfl rfl (by decide +kernel) ⟨by decide, by decide⟩ rfl rfl hP hD hS hA (Nat.zero_le _) (Nat.zero_le _) hl.1 rfl rfl (Nat.le_of_ble_eq_true rfl) d_Mo_change_25 (fun r13 σ12 H locs hf hP hD hS => ?_)
        have hP : va_P D classes (wMo cI a wr σ12) H := hP
        have hD : va_D A (wMo cI a wr σ12) := hD
        exact hend _ _ _ _ _ _ d_Mo_change_28 rfl hf hP hD hS
abbrev rm_Mo_alike : Room := { frames := 20, cells := 0, slots := 0, locals := 400 }
set_option maxRecDepth 100000 in
set_option maxHeartbeats 4000000 in
theorem c_Mo_alike (l : Launch) (D : va_G) (cI : ClassId) (a : Nat → Nat) (wr : St → va_W) (hwr : Fx 21 wr) (x1 : Int32) (x2 : Int32) (σ : St) (Q : Int32 → St → Prop) (hf : F_Mo_alike x1 x2 σ Q) : Ci l y_Mo_alike (.code y_Mo_alike b_Mo_alike 4 (some .boolean)) rm_Mo_alike D cI [.ref (a 12), .int x1, .int x2] (wMo cI a wr) σ Q := by
  refine Ci.of (by decide +kernel) (Nat.le_of_ble_eq_true rfl) ?_
  intro p e s m below meth c ls A Z hx hb hml hown hts hok hP hD hA hl hend
  have S : CallFix p m c b_Mo_alike 4 s ([.ref (a 12), .int x1, .int x2] : List Value).toArray lwg "PropertyTrieModel" := ⟨hx, hb, hml, hown, hts⟩
  have hS : va_S A s.heap s.heap [] := va_S.rf
  have hl : lv_has ls 4 [(0, .ref (a 12)), (1, .int x1), (2, .int x2)] := hl
  unfold F_Mo_alike at hf
  have lab37 : ∀ (v1 v2 v3 : Int32) (σ : St) (H : Heap) (locs : List Loc) (ls : Array Slot), F_Mo_alike_L37 v1 v2 v3 σ Q → va_P D classes (wMo cI a wr σ) H → va_D A (wMo cI a wr σ) → va_S A s.heap H locs → lv_has ls 4 [(0, .ref (a 12)), (1, .int v1), (2, .int v2), (3, .int v3)] → W p l e rm_Mo_alike s m ([.ref (a 12), .int x1, .int x2] : List Value).toArray below meth c H locs 0 0 Z (F0 m 37 ls []) := by
    intro v1 v2 v3 σ H locs ls hf hP hD hS hl
    unfold F_Mo_alike_L37 at hf
    obtain ⟨I37, m37, h0, hst37⟩ := hf
    have lp37 : ∀ (n : Nat) (v3 : Int32) (σ : St) (H : Heap) (locs : List Loc) (ls : Array Slot), m37 v3 σ = n → I37 v3 σ → va_P D classes (wMo cI a wr σ) H → va_D A (wMo cI a wr σ) → va_S A s.heap H locs → lv_has ls 4 [(0, .ref (a 12)), (1, .int v1), (2, .int v2), (3, .int v3)] → W p l e rm_Mo_alike s m ([.ref (a 12), .int x1, .int x2] : List Value).toArray below meth c H locs 0 0 Z (F0 m 37 ls []) := by
      intro n37
      induction n37 using Nat.strongRecOn with
      | _ n37 ih37 =>
        intro v3 σ H locs ls hn hI hP hD hS hl
        have hf := hst37 v3 σ n37 hI hn
        refine lv_iload_n hx hb d_Mo_alike_37 rfl (lv_at hl 3 rfl) ?_
        refine lv_bipush (v := (8 : Int32)) hx hb d_Mo_alike_38 (by decide) ?_
        refine lv_icmp_ge hx hb d_Mo_alike_40 rfl (fun hc => ?_) (fun hc => ?_)
        · have hf := hf.1 hc
          refine lv_iconst (v := (1 : Int32)) hx hb d_Mo_alike_84 (by decide) ?_
          exact hend _ _ _ _ _ _ d_Mo_alike_85 rfl hf hP hD hS
        · have hf := hf.2 hc
          refine lv_aload_n hx hb d_Mo_alike_43 rfl (lv_at hl 0 rfl) ?_
          refine rg_Mo_fields S hok hP (hts _ k_fl_Mo_18) d_Mo_alike_44 ?_
          refine lv_bipush (v := (8 : Int32)) hx hb d_Mo_alike_47 (by decide) ?_
          refine lv_aload_n hx hb d_Mo_alike_49 rfl (lv_at hl 0 rfl) ?_
          refine lv_iload_n hx hb d_Mo_alike_50 rfl (lv_at hl 1 rfl) ?_
          refine r_callVi (As := [.int v1]) (rest := [.int (8 : Int32), .ref (a 14)]) (n := 1) (q0 := 12) S hok (c_Mo_at l D cI a wr hwr _ _ _ hf) k_ml_Mo_25 k_im_Mo_at k_sel_Mo_at k_ini_Mo k_code_Mo_at rfl rfl (by decide +kernel) ⟨by decide, by decide⟩ rfl rfl hP hD hS hA (Nat.zero_le _) (Nat.zero_le _) hl.1 rfl rfl (Nat.le_of_ble_eq_true rfl) d_Mo_alike_51 (fun r2 σ1 H locs hf hP hD hS => ?_)
          have hP : va_P D classes (wMo cI a wr σ1) H := hP
          have hD : va_D A (wMo cI a wr σ1) := hD
          refine lv_imul hx hb d_Mo_alike_54 ?_
          refine lv_iload_n hx hb d_Mo_alike_55 rfl (lv_at hl 3 rfl) ?_
          refine lv_iadd hx hb d_Mo_alike_56 ?_
          obtain ⟨hin, hf⟩ := hf
          refine rl_Mo_fields S hok hP hin d_Mo_alike_57 ?_
          refine lv_aload_n hx hb d_Mo_alike_58 rfl (lv_at hl 0 rfl) ?_
          refine rg_Mo_fields S hok hP (hts _ k_fl_Mo_18) d_Mo_alike_59 ?_
          refine lv_bipush (v := (8 : Int32)) hx hb d_Mo_alike_62 (by decide) ?_
          refine lv_aload_n hx hb d_Mo_alike_64 rfl (lv_at hl 0 rfl) ?_
          refine lv_iload_n hx hb d_Mo_alike_65 rfl (lv_at hl 2 rfl) ?_
          refine r_callVi (As := [.int v2]) (rest := [.int (8 : Int32), .ref (a 14), .int (σ1 18 (((8 : Int32) * r2) + v3).toNatClampNeg)]) (n := 1) (q0 := 12) S hok (c_Mo_at l D cI a wr hwr _ _ _ hf) k_ml_Mo_25 k_im_Mo_at k_sel_Mo_at k_ini_Mo k_code_Mo_at rfl rfl (by decide +kernel) ⟨by decide, by decide⟩ rfl rfl hP hD hS hA (Nat.zero_le _) (Nat.zero_le _) hl.1 rfl rfl (Nat.le_of_ble_eq_true rfl) d_Mo_alike_66 (fun r4 σ3 H locs hf hP hD hS => ?_)
          have hP : va_P D classes (wMo cI a wr σ3) H := hP
          have hD : va_D A (wMo cI a wr σ3) := hD
          refine lv_imul hx hb d_Mo_alike_69 ?_
          refine lv_iload_n hx hb d_Mo_alike_70 rfl (lv_at hl 3 rfl) ?_
          refine lv_iadd hx hb d_Mo_alike_71 ?_
          obtain ⟨hin, hf⟩ := hf
          refine rl_Mo_fields S hok hP hin d_Mo_alike_72 ?_
          refine lv_icmp_eq hx hb d_Mo_alike_73 rfl (fun hc => ?_) (fun hc => ?_)
          · have hf := hf.1 hc
            obtain ⟨z5, hz5⟩ : ∃ z5 : Int32, z5 = v3 + (1 : Int32) := ⟨_, rfl⟩
            have hf := hf z5 hz5
            refine lv_iinc (k := 3) (v := z5) hx hb d_Mo_alike_78 hl rfl (by rw [hz5]; rfl) (by decide) rfl (fun ls hl => ?_)
            have hl : lv_has ls 4 [(3, .int z5), (0, .ref (a 12)), (1, .int v1), (2, .int v2)] := hl
            refine lv_goto hx hb d_Mo_alike_81 rfl ?_
            exact ih37 _ hf.2 _ _ _ _ _ rfl hf.1 hP hD hS (lv_sub hl [1, 2, 3, 0] rfl)
          · have hf := hf.2 hc
            refine lv_iconst (v := (0 : Int32)) hx hb d_Mo_alike_76 (by decide) ?_
            exact hend _ _ _ _ _ _ d_Mo_alike_77 rfl hf hP hD hS
    exact lp37 _ v3 σ H locs ls rfl h0 hP hD hS hl
  have lab21 : ∀ (σ : St) (H : Heap) (locs : List Loc) (ls : Array Slot), F_Mo_alike_J21 σ Q → va_P D classes (wMo cI a wr σ) H → va_D A (wMo cI a wr σ) → va_S A s.heap H locs → lv_has ls 4 [(0, .ref (a 12))] → W p l e rm_Mo_alike s m ([.ref (a 12), .int x1, .int x2] : List Value).toArray below meth c H locs 0 0 Z (F0 m 21 ls []) := by
    intro  σ H locs ls hf hP hD hS hl
    unfold F_Mo_alike_J21 at hf
    refine lv_aload_n hx hb d_Mo_alike_21 rfl (lv_at hl 0 rfl) ?_
    refine lv_iconst (v := (1 : Int32)) hx hb d_Mo_alike_22 (by decide) ?_
    refine r_callVi (As := [.int (1 : Int32)]) (rest := []) (n := 1) (q0 := 12) S hok (c_Mo_fail l D cI a wr hwr _ _ _ hf) k_ml_Mo_37 k_im_Mo_fail k_sel_Mo_fail k_ini_Mo k_code_Mo_fail rfl rfl (by decide +kernel) ⟨by decide, by decide⟩ rfl rfl hP hD hS hA (Nat.zero_le _) (Nat.zero_le _) hl.1 rfl rfl (Nat.le_of_ble_eq_true rfl) d_Mo_alike_23 (fun r7 σ6 H locs hf hP hD hS => ?_)
    have hP : va_P D classes (wMo cI a wr σ6) H := hP
    have hD : va_D A (wMo cI a wr σ6) := hD
    refine lv_if_le hx hb d_Mo_alike_26 rfl (fun hc => ?_) (fun hc => ?_)
    · have hf := hf.1 hc
      refine lv_iconst (v := (0 : Int32)) hx hb d_Mo_alike_33 (by decide) ?_
      exact hend _ _ _ _ _ _ d_Mo_alike_34 rfl hf hP hD hS
    · have hf := hf.2 hc
      refine lv_iconst (v := (1 : Int32)) hx hb d_Mo_alike_29 (by decide) ?_
      refine lv_goto hx hb d_Mo_alike_30 rfl ?_
      exact hend _ _ _ _ _ _ d_Mo_alike_34 rfl hf hP hD hS
  refine lv_aload_n hx hb d_Mo_alike_0 rfl (lv_at hl 0 rfl) ?_
  refine lv_iconst (v := (0 : Int32)) hx hb d_Mo_alike_1 (by decide) ?_
  refine rp_Mo_failed S hok hwr hP hD hS (hts _ k_fl_Mo_21) d_Mo_alike_2 (fun σ8 H locs hσ8 hP hD hS => ?_)
  have hf := hf σ8 hσ8
  refine lv_aload_n hx hb d_Mo_alike_5 rfl (lv_at hl 0 rfl) ?_
  refine lv_iload_n hx hb d_Mo_alike_6 rfl (lv_at hl 1 rfl) ?_
  refine r_callVi (As := [.int x1]) (rest := []) (n := 1) (q0 := 12) S hok (c_Mo_out l D cI a wr hwr _ _ _ hf) k_ml_Mo_33 k_im_Mo_out k_sel_Mo_out k_ini_Mo k_code_Mo_out rfl rfl (by decide +kernel) ⟨by decide, by decide⟩ rfl rfl hP hD hS hA (Nat.zero_le _) (Nat.zero_le _) hl.1 rfl rfl (Nat.le_of_ble_eq_true rfl) d_Mo_alike_7 (fun r10 σ9 H locs hf hP hD hS => ?_)
  have hP : va_P D classes (wMo cI a wr σ9) H := hP
  have hD : va_D A (wMo cI a wr σ9) := hD
  refine lv_if_ne hx hb d_Mo_alike_10 rfl (fun hc => ?_) (fun hc => ?_)
  · have hf := hf.2 hc
    exact lab21  _ _ _ _ hf hP hD hS (lv_sub hl [0] rfl)
  · have hf := hf.1 hc
    refine lv_aload_n hx hb d_Mo_alike_13 rfl (lv_at hl 0 rfl) ?_
    refine lv_iload_n hx hb d_Mo_alike_14 rfl (lv_at hl 2 rfl) ?_
    refine r_callVi (As := [.int x2]) (rest := []) (n := 1) (q0 := 12) S hok (c_Mo_out l D cI a wr hwr _ _ _ hf) k_ml_Mo_33 k_im_Mo_out k_sel_Mo_out k_ini_Mo k_code_Mo_out rfl rfl (by decide +kernel) ⟨by decide, by decide⟩ rfl rfl hP hD hS hA (Nat.zero_le _) (Nat.zero_le _) hl.1 rfl rfl (Nat.le_of_ble_eq_true rfl) d_Mo_alike_15 (fun r12 σ11 H locs hf hP hD hS => ?_)
    have hP : va_P D classes (wMo cI a wr σ11) H := hP
    have hD : va_D A (wMo cI a wr σ11) := hD
    refine lv_if_eq hx hb d_Mo_alike_18 rfl (fun hc => ?_) (fun hc => ?_)
    · have hf := hf.1 hc
      refine lv_iconst (v := (0 : Int32)) hx hb d_Mo_alike_35 (by decide) ?_
      refine lv_topi (fun z13 hz13 => ?_)
      have hf := hf z13 hz13
      refine lv_istore_n hx hb d_Mo_alike_36 rfl hl (by decide) rfl (fun ls hl => ?_)
      have hl : lv_has ls 4 [(3, .int z13), (0, .ref (a 12)), (1, .int x1), (2, .int x2)] := hl
      exact lab37 _ _ _ _ _ _ _ hf hP hD hS (lv_sub hl [1, 2, 3, 0] rfl)
    · have hf := hf.2 hc
      exact lab21  _ _ _ _ hf hP hD hS (lv_sub hl [0] rfl)
abbrev rm_Mo_hash : Room := { frames := 20, cells := 0, slots := 0, locals := 400 }
set_option maxRecDepth 100000 in
set_option maxHeartbeats 4000000 in
theorem c_Mo_hash (l : Launch) (D : va_G) (cI : ClassId) (a : Nat → Nat) (wr : St → va_W) (hwr : Fx 21 wr) (x1 : Int32) (x2 : Int32) (x3 : Int32) (σ : St) (Q : Int32 → St → Prop) (hf : F_Mo_hash x1 x2 x3 σ Q) : Ci l y_Mo_hash (.code y_Mo_hash b_Mo_hash 6 (some .int)) rm_Mo_hash D cI [.ref (a 12), .int x1, .int x2, .int x3] (wMo cI a wr) σ Q := by
  refine Ci.of (by decide +kernel) (Nat.le_of_ble_eq_true rfl) ?_
  intro p e s m below meth c ls A Z hx hb hml hown hts hok hP hD hA hl hend
  have S : CallFix p m c b_Mo_hash 6 s ([.ref (a 12), .int x1, .int x2, .int x3] : List Value).toArray lwg "PropertyTrieModel" := ⟨hx, hb, hml, hown, hts⟩
  have hS : va_S A s.heap s.heap [] := va_S.rf
  have hl : lv_has ls 6 [(0, .ref (a 12)), (1, .int x1), (2, .int x2), (3, .int x3)] := hl
  unfold F_Mo_hash at hf
  have lab57 : ∀ (v2 v3 v4 v5 : Int32) (σ : St) (H : Heap) (locs : List Loc) (ls : Array Slot), F_Mo_hash_L57 v2 v3 v4 v5 σ Q → va_P D classes (wMo cI a wr σ) H → va_D A (wMo cI a wr σ) → va_S A s.heap H locs → lv_has ls 6 [(0, .ref (a 12)), (2, .int v2), (3, .int v3), (4, .int v4), (5, .int v5)] → W p l e rm_Mo_hash s m ([.ref (a 12), .int x1, .int x2, .int x3] : List Value).toArray below meth c H locs 0 0 Z (F0 m 57 ls []) := by
    intro v2 v3 v4 v5 σ H locs ls hf hP hD hS hl
    unfold F_Mo_hash_L57 at hf
    obtain ⟨I57, m57, h0, hst57⟩ := hf
    have lp57 : ∀ (n : Nat) (v4 v5 : Int32) (σ : St) (H : Heap) (locs : List Loc) (ls : Array Slot), m57 v4 v5 σ = n → I57 v4 v5 σ → va_P D classes (wMo cI a wr σ) H → va_D A (wMo cI a wr σ) → va_S A s.heap H locs → lv_has ls 6 [(0, .ref (a 12)), (2, .int v2), (3, .int v3), (4, .int v4), (5, .int v5)] → W p l e rm_Mo_hash s m ([.ref (a 12), .int x1, .int x2, .int x3] : List Value).toArray below meth c H locs 0 0 Z (F0 m 57 ls []) := by
      intro n57
      induction n57 using Nat.strongRecOn with
      | _ n57 ih57 =>
        intro v4 v5 σ H locs ls hn hI hP hD hS hl
        have hf := hst57 v4 v5 σ n57 hI hn
        refine lv_iload hx hb d_Mo_hash_57 (lv_at hl 4 rfl) ?_
        refine lv_iload_n hx hb d_Mo_hash_59 rfl (lv_at hl 1 rfl) ?_
        refine lv_icmp_gt hx hb d_Mo_hash_60 rfl (fun hc => ?_) (fun hc => ?_)
        · have hf := hf.1 hc
          refine lv_iload hx hb d_Mo_hash_93 (lv_at hl 3 rfl) ?_
          exact hend _ _ _ _ _ _ d_Mo_hash_95 rfl hf hP hD hS
        · have hf := hf.2 hc
          refine lv_bipush (v := (31 : Int32)) hx hb d_Mo_hash_63 (by decide) ?_
          refine lv_iload hx hb d_Mo_hash_65 (lv_at hl 3 rfl) ?_
          refine lv_imul hx hb d_Mo_hash_67 ?_
          refine lv_aload_n hx hb d_Mo_hash_68 rfl (lv_at hl 0 rfl) ?_
          refine rg_Mo_fields S hok hP (hts _ k_fl_Mo_18) d_Mo_hash_69 ?_
          refine lv_bipush (v := (8 : Int32)) hx hb d_Mo_hash_72 (by decide) ?_
          refine lv_aload_n hx hb d_Mo_hash_74 rfl (lv_at hl 0 rfl) ?_
          refine lv_iload hx hb d_Mo_hash_75 (lv_at hl 4 rfl) ?_
          refine r_callVi (As := [.int v5]) (rest := [.int (8 : Int32), .ref (a 14), .int ((31 : Int32) * v4)]) (n := 1) (q0 := 12) S hok (c_Mo_at l D cI a wr hwr _ _ _ hf) k_ml_Mo_25 k_im_Mo_at k_sel_Mo_at k_ini_Mo k_code_Mo_at rfl rfl (by decide +kernel) ⟨by decide, by decide⟩ rfl rfl hP hD hS hA (Nat.zero_le _) (Nat.zero_le _) hl.1 rfl rfl (Nat.le_of_ble_eq_true rfl) d_Mo_hash_77 (fun r2 σ1 H locs hf hP hD hS => ?_)
          have hP : va_P D classes (wMo cI a wr σ1) H := hP
          have hD : va_D A (wMo cI a wr σ1) := hD
          refine lv_imul hx hb d_Mo_hash_80 ?_
          refine lv_iload_n hx hb d_Mo_hash_81 rfl (lv_at hl 2 rfl) ?_
          refine lv_iadd hx hb d_Mo_hash_82 ?_
          obtain ⟨hin, hf⟩ := hf
          refine rl_Mo_fields S hok hP hin d_Mo_hash_83 ?_
          refine lv_iadd hx hb d_Mo_hash_84 ?_
          refine lv_topi (fun z3 hz3 => ?_)
          have hf := hf z3 hz3
          refine lv_istore hx hb d_Mo_hash_85 hl (by decide) rfl (fun ls hl => ?_)
          have hl : lv_has ls 6 [(4, .int z3), (0, .ref (a 12)), (2, .int v2), (3, .int v3), (5, .int v5)] := hl
          obtain ⟨z4, hz4⟩ : ∃ z4 : Int32, z4 = v5 + (1 : Int32) := ⟨_, rfl⟩
          have hf := hf z4 hz4
          refine lv_iinc (k := 4) (v := z4) hx hb d_Mo_hash_87 hl rfl (by rw [hz4]; rfl) (by decide) rfl (fun ls hl => ?_)
          have hl : lv_has ls 6 [(5, .int z4), (4, .int z3), (0, .ref (a 12)), (2, .int v2), (3, .int v3)] := hl
          refine lv_goto hx hb d_Mo_hash_90 rfl ?_
          exact ih57 _ hf.2 _ _ _ _ _ _ rfl hf.1 hP hD hS (lv_sub hl [2, 3, 4, 1, 0] rfl)
    exact lp57 _ v4 v5 σ H locs ls rfl h0 hP hD hS hl
  refine lv_aload_n hx hb d_Mo_hash_0 rfl (lv_at hl 0 rfl) ?_
  refine lv_iconst (v := (0 : Int32)) hx hb d_Mo_hash_1 (by decide) ?_
  refine rp_Mo_failed S hok hwr hP hD hS (hts _ k_fl_Mo_21) d_Mo_hash_2 (fun σ5 H locs hσ5 hP hD hS => ?_)
  have hf := hf σ5 hσ5
  refine lv_aload_n hx hb d_Mo_hash_5 rfl (lv_at hl 0 rfl) ?_
  refine lv_iload_n hx hb d_Mo_hash_6 rfl (lv_at hl 1 rfl) ?_
  refine r_callVi (As := [.int x1]) (rest := []) (n := 1) (q0 := 12) S hok (c_Mo_out l D cI a wr hwr _ _ _ hf) k_ml_Mo_33 k_im_Mo_out k_sel_Mo_out k_ini_Mo k_code_Mo_out rfl rfl (by decide +kernel) ⟨by decide, by decide⟩ rfl rfl hP hD hS hA (Nat.zero_le _) (Nat.zero_le _) hl.1 rfl rfl (Nat.le_of_ble_eq_true rfl) d_Mo_hash_7 (fun r7 σ6 H locs hf hP hD hS => ?_)
  have hP : va_P D classes (wMo cI a wr σ6) H := hP
  have hD : va_D A (wMo cI a wr σ6) := hD
  refine lv_if_ne hx hb d_Mo_hash_10 rfl (fun hc => ?_) (fun hc => ?_)
  · have hf := hf.2 hc
    refine lv_aload_n hx hb d_Mo_hash_45 rfl (lv_at hl 0 rfl) ?_
    refine lv_iconst (v := (1 : Int32)) hx hb d_Mo_hash_46 (by decide) ?_
    refine r_callVi (As := [.int (1 : Int32)]) (rest := []) (n := 1) (q0 := 12) S hok (c_Mo_fail l D cI a wr hwr _ _ _ hf) k_ml_Mo_37 k_im_Mo_fail k_sel_Mo_fail k_ini_Mo k_code_Mo_fail rfl rfl (by decide +kernel) ⟨by decide, by decide⟩ rfl rfl hP hD hS hA (Nat.zero_le _) (Nat.zero_le _) hl.1 rfl rfl (Nat.le_of_ble_eq_true rfl) d_Mo_hash_47 (fun r9 σ8 H locs hf hP hD hS => ?_)
    have hP : va_P D classes (wMo cI a wr σ8) H := hP
    have hD : va_D A (wMo cI a wr σ8) := hD
    exact hend _ _ _ _ _ _ d_Mo_hash_50 rfl hf hP hD hS
  · have hf := hf.1 hc
    refine lv_aload_n hx hb d_Mo_hash_13 rfl (lv_at hl 0 rfl) ?_
    refine lv_iload_n hx hb d_Mo_hash_14 rfl (lv_at hl 2 rfl) ?_
    refine r_callVi (As := [.int x2]) (rest := []) (n := 1) (q0 := 12) S hok (c_Mo_out l D cI a wr hwr _ _ _ hf) k_ml_Mo_33 k_im_Mo_out k_sel_Mo_out k_ini_Mo k_code_Mo_out rfl rfl (by decide +kernel) ⟨by decide, by decide⟩ rfl rfl hP hD hS hA (Nat.zero_le _) (Nat.zero_le _) hl.1 rfl rfl (Nat.le_of_ble_eq_true rfl) d_Mo_hash_15 (fun r11 σ10 H locs hf hP hD hS => ?_)
    have hP : va_P D classes (wMo cI a wr σ10) H := hP
    have hD : va_D A (wMo cI a wr σ10) := hD
    refine lv_if_ne hx hb d_Mo_hash_18 rfl (fun hc => ?_) (fun hc => ?_)
    · have hf := hf.2 hc
      refine lv_aload_n hx hb d_Mo_hash_45 rfl (lv_at hl 0 rfl) ?_
      refine lv_iconst (v := (1 : Int32)) hx hb d_Mo_hash_46 (by decide) ?_
      refine r_callVi (As := [.int (1 : Int32)]) (rest := []) (n := 1) (q0 := 12) S hok (c_Mo_fail l D cI a wr hwr _ _ _ hf) k_ml_Mo_37 k_im_Mo_fail k_sel_Mo_fail k_ini_Mo k_code_Mo_fail rfl rfl (by decide +kernel) ⟨by decide, by decide⟩ rfl rfl hP hD hS hA (Nat.zero_le _) (Nat.zero_le _) hl.1 rfl rfl (Nat.le_of_ble_eq_true rfl) d_Mo_hash_47 (fun r13 σ12 H locs hf hP hD hS => ?_)
      have hP : va_P D classes (wMo cI a wr σ12) H := hP
      have hD : va_D A (wMo cI a wr σ12) := hD
      exact hend _ _ _ _ _ _ d_Mo_hash_50 rfl hf hP hD hS
    · have hf := hf.1 hc
      refine lv_iload_n hx hb d_Mo_hash_21 rfl (lv_at hl 2 rfl) ?_
      refine lv_iload_n hx hb d_Mo_hash_22 rfl (lv_at hl 1 rfl) ?_
      refine lv_icmp_lt hx hb d_Mo_hash_23 rfl (fun hc => ?_) (fun hc => ?_)
      · have hf := hf.1 hc
        refine lv_aload_n hx hb d_Mo_hash_45 rfl (lv_at hl 0 rfl) ?_
        refine lv_iconst (v := (1 : Int32)) hx hb d_Mo_hash_46 (by decide) ?_
        refine r_callVi (As := [.int (1 : Int32)]) (rest := []) (n := 1) (q0 := 12) S hok (c_Mo_fail l D cI a wr hwr _ _ _ hf) k_ml_Mo_37 k_im_Mo_fail k_sel_Mo_fail k_ini_Mo k_code_Mo_fail rfl rfl (by decide +kernel) ⟨by decide, by decide⟩ rfl rfl hP hD hS hA (Nat.zero_le _) (Nat.zero_le _) hl.1 rfl rfl (Nat.le_of_ble_eq_true rfl) d_Mo_hash_47 (fun r15 σ14 H locs hf hP hD hS => ?_)
        have hP : va_P D classes (wMo cI a wr σ14) H := hP
        have hD : va_D A (wMo cI a wr σ14) := hD
        exact hend _ _ _ _ _ _ d_Mo_hash_50 rfl hf hP hD hS
      · have hf := hf.2 hc
        refine lv_iload_n hx hb d_Mo_hash_26 rfl (lv_at hl 2 rfl) ?_
        refine lv_iload_n hx hb d_Mo_hash_27 rfl (lv_at hl 1 rfl) ?_
        refine lv_isub hx hb d_Mo_hash_28 ?_
        refine lv_sipush (v := (3999 : Int32)) hx hb d_Mo_hash_29 (by decide) ?_
        refine lv_icmp_gt hx hb d_Mo_hash_32 rfl (fun hc => ?_) (fun hc => ?_)
        · have hf := hf.1 hc
          refine lv_aload_n hx hb d_Mo_hash_45 rfl (lv_at hl 0 rfl) ?_
          refine lv_iconst (v := (1 : Int32)) hx hb d_Mo_hash_46 (by decide) ?_
          refine r_callVi (As := [.int (1 : Int32)]) (rest := []) (n := 1) (q0 := 12) S hok (c_Mo_fail l D cI a wr hwr _ _ _ hf) k_ml_Mo_37 k_im_Mo_fail k_sel_Mo_fail k_ini_Mo k_code_Mo_fail rfl rfl (by decide +kernel) ⟨by decide, by decide⟩ rfl rfl hP hD hS hA (Nat.zero_le _) (Nat.zero_le _) hl.1 rfl rfl (Nat.le_of_ble_eq_true rfl) d_Mo_hash_47 (fun r17 σ16 H locs hf hP hD hS => ?_)
          have hP : va_P D classes (wMo cI a wr σ16) H := hP
          have hD : va_D A (wMo cI a wr σ16) := hD
          exact hend _ _ _ _ _ _ d_Mo_hash_50 rfl hf hP hD hS
        · have hf := hf.2 hc
          refine lv_iload_n hx hb d_Mo_hash_35 rfl (lv_at hl 3 rfl) ?_
          refine lv_if_lt hx hb d_Mo_hash_36 rfl (fun hc => ?_) (fun hc => ?_)
          · have hf := hf.1 hc
            refine lv_aload_n hx hb d_Mo_hash_45 rfl (lv_at hl 0 rfl) ?_
            refine lv_iconst (v := (1 : Int32)) hx hb d_Mo_hash_46 (by decide) ?_
            refine r_callVi (As := [.int (1 : Int32)]) (rest := []) (n := 1) (q0 := 12) S hok (c_Mo_fail l D cI a wr hwr _ _ _ hf) k_ml_Mo_37 k_im_Mo_fail k_sel_Mo_fail k_ini_Mo k_code_Mo_fail rfl rfl (by decide +kernel) ⟨by decide, by decide⟩ rfl rfl hP hD hS hA (Nat.zero_le _) (Nat.zero_le _) hl.1 rfl rfl (Nat.le_of_ble_eq_true rfl) d_Mo_hash_47 (fun r19 σ18 H locs hf hP hD hS => ?_)
            have hP : va_P D classes (wMo cI a wr σ18) H := hP
            have hD : va_D A (wMo cI a wr σ18) := hD
            exact hend _ _ _ _ _ _ d_Mo_hash_50 rfl hf hP hD hS
          · have hf := hf.2 hc
            refine lv_iload_n hx hb d_Mo_hash_39 rfl (lv_at hl 3 rfl) ?_
            refine lv_bipush (v := (7 : Int32)) hx hb d_Mo_hash_40 (by decide) ?_
            refine lv_icmp_le hx hb d_Mo_hash_42 rfl (fun hc => ?_) (fun hc => ?_)
            · have hf := hf.1 hc
              refine lv_iconst (v := (1 : Int32)) hx hb d_Mo_hash_51 (by decide) ?_
              refine lv_topi (fun z20 hz20 => ?_)
              have hf := hf z20 hz20
              refine lv_istore hx hb d_Mo_hash_52 hl (by decide) rfl (fun ls hl => ?_)
              have hl : lv_has ls 6 [(4, .int z20), (0, .ref (a 12)), (1, .int x1), (2, .int x2), (3, .int x3)] := hl
              refine lv_iload_n hx hb d_Mo_hash_54 rfl (lv_at hl 2 rfl) ?_
              refine lv_istore hx hb d_Mo_hash_55 hl (by decide) rfl (fun ls hl => ?_)
              have hl : lv_has ls 6 [(5, .int x1), (4, .int z20), (0, .ref (a 12)), (1, .int x1), (2, .int x2), (3, .int x3)] := hl
              exact lab57 _ _ _ _ _ _ _ _ hf hP hD hS (lv_sub hl [2, 4, 5, 1, 0] rfl)
            · have hf := hf.2 hc
              refine lv_aload_n hx hb d_Mo_hash_45 rfl (lv_at hl 0 rfl) ?_
              refine lv_iconst (v := (1 : Int32)) hx hb d_Mo_hash_46 (by decide) ?_
              refine r_callVi (As := [.int (1 : Int32)]) (rest := []) (n := 1) (q0 := 12) S hok (c_Mo_fail l D cI a wr hwr _ _ _ hf) k_ml_Mo_37 k_im_Mo_fail k_sel_Mo_fail k_ini_Mo k_code_Mo_fail rfl rfl (by decide +kernel) ⟨by decide, by decide⟩ rfl rfl hP hD hS hA (Nat.zero_le _) (Nat.zero_le _) hl.1 rfl rfl (Nat.le_of_ble_eq_true rfl) d_Mo_hash_47 (fun r22 σ21 H locs hf hP hD hS => ?_)
              have hP : va_P D classes (wMo cI a wr σ21) H := hP
              have hD : va_D A (wMo cI a wr σ21) := hD
              exact hend _ _ _ _ _ _ d_Mo_hash_50 rfl hf hP hD hS
abbrev rm_Mo_clear : Room := { frames := 20, cells := 0, slots := 0, locals := 400 }
set_option maxRecDepth 100000 in
set_option maxHeartbeats 4000000 in
theorem c_Mo_clear (l : Launch) (D : va_G) (cI : ClassId) (a : Nat → Nat) (wr : St → va_W) (hwr : Fx 21 wr) (σ : St) (Q : Int32 → St → Prop) (hf : F_Mo_clear σ Q) : Ci l y_Mo_clear (.code y_Mo_clear b_Mo_clear 5 (some .int)) rm_Mo_clear D cI [.ref (a 12)] (wMo cI a wr) σ Q := by
  refine Ci.of (by decide +kernel) (Nat.le_of_ble_eq_true rfl) ?_
  intro p e s m below meth c ls A Z hx hb hml hown hts hok hP hD hA hl hend
  have S : CallFix p m c b_Mo_clear 5 s ([.ref (a 12)] : List Value).toArray lwg "PropertyTrieModel" := ⟨hx, hb, hml, hown, hts⟩
  have hS : va_S A s.heap s.heap [] := va_S.rf
  have hl : lv_has ls 5 [(0, .ref (a 12))] := hl
  unfold F_Mo_clear at hf
  have lab80 : ∀ (v1 v2 : Int32) (σ : St) (H : Heap) (locs : List Loc) (ls : Array Slot), F_Mo_clear_L80 v1 v2 σ Q → va_P D classes (wMo cI a wr σ) H → va_D A (wMo cI a wr σ) → va_S A s.heap H locs → lv_has ls 5 [(0, .ref (a 12)), (1, .int v1), (2, .int v2)] → W p l e rm_Mo_clear s m ([.ref (a 12)] : List Value).toArray below meth c H locs 0 0 Z (F0 m 80 ls []) := by
    intro v1 v2 σ H locs ls hf hP hD hS hl
    unfold F_Mo_clear_L80 at hf
    obtain ⟨I80, m80, h0, hst80⟩ := hf
    have lp80 : ∀ (n : Nat) (v2 : Int32) (σ : St) (H : Heap) (locs : List Loc) (ls : Array Slot), m80 v2 σ = n → I80 v2 σ → va_P D classes (wMo cI a wr σ) H → va_D A (wMo cI a wr σ) → va_S A s.heap H locs → lv_has ls 5 [(0, .ref (a 12)), (1, .int v1), (2, .int v2)] → W p l e rm_Mo_clear s m ([.ref (a 12)] : List Value).toArray below meth c H locs 0 0 Z (F0 m 80 ls []) := by
      intro n80
      induction n80 using Nat.strongRecOn with
      | _ n80 ih80 =>
        intro v2 σ H locs ls hn hI hP hD hS hl
        have hf := hst80 v2 σ n80 hI hn
        refine lv_iload_n hx hb d_Mo_clear_80 rfl (lv_at hl 2 rfl) ?_
        refine lv_bipush (v := (8 : Int32)) hx hb d_Mo_clear_81 (by decide) ?_
        refine lv_icmp_ge hx hb d_Mo_clear_83 rfl (fun hc => ?_) (fun hc => ?_)
        · have hf := hf.1 hc
          refine lv_iload_n hx hb d_Mo_clear_99 rfl (lv_at hl 1 rfl) ?_
          exact hend _ _ _ _ _ _ d_Mo_clear_100 rfl hf hP hD hS
        · have hf := hf.2 hc
          refine lv_aload_n hx hb d_Mo_clear_86 rfl (lv_at hl 0 rfl) ?_
          refine rg_Mo_fields S hok hP (hts _ k_fl_Mo_18) d_Mo_clear_87 ?_
          refine lv_iload_n hx hb d_Mo_clear_90 rfl (lv_at hl 2 rfl) ?_
          refine lv_iconst (v := (0 : Int32)) hx hb d_Mo_clear_91 (by decide) ?_
          obtain ⟨hin, hf⟩ := hf
          refine rs_Mo_fields S hok hwr hP hD hS hin d_Mo_clear_92 (fun σ1 H locs hσ1 hP hD hS => ?_)
          have hf := hf σ1 hσ1
          obtain ⟨z2, hz2⟩ : ∃ z2 : Int32, z2 = v2 + (1 : Int32) := ⟨_, rfl⟩
          have hf := hf z2 hz2
          refine lv_iinc (k := 2) (v := z2) hx hb d_Mo_clear_93 hl rfl (by rw [hz2]; rfl) (by decide) rfl (fun ls hl => ?_)
          have hl : lv_has ls 5 [(2, .int z2), (0, .ref (a 12)), (1, .int v1)] := hl
          refine lv_goto hx hb d_Mo_clear_96 rfl ?_
          exact ih80 _ hf.2 _ _ _ _ _ rfl hf.1 hP hD hS (lv_sub hl [1, 2, 0] rfl)
    exact lp80 _ v2 σ H locs ls rfl h0 hP hD hS hl
  have lab9 : ∀ (v1 v2 : Int32) (σ : St) (H : Heap) (locs : List Loc) (ls : Array Slot), F_Mo_clear_L9 v1 v2 σ Q → va_P D classes (wMo cI a wr σ) H → va_D A (wMo cI a wr σ) → va_S A s.heap H locs → lv_has ls 5 [(0, .ref (a 12)), (1, .int v1), (2, .int v2)] → W p l e rm_Mo_clear s m ([.ref (a 12)] : List Value).toArray below meth c H locs 0 0 Z (F0 m 9 ls []) := by
    intro v1 v2 σ H locs ls hf hP hD hS hl
    unfold F_Mo_clear_L9 at hf
    obtain ⟨I9, m9, h0, hst9⟩ := hf
    have lp9 : ∀ (n : Nat) (v1 v2 : Int32) (σ : St) (H : Heap) (locs : List Loc) (ls : Array Slot), m9 v1 v2 σ = n → I9 v1 v2 σ → va_P D classes (wMo cI a wr σ) H → va_D A (wMo cI a wr σ) → va_S A s.heap H locs → lv_has ls 5 [(0, .ref (a 12)), (1, .int v1), (2, .int v2)] → W p l e rm_Mo_clear s m ([.ref (a 12)] : List Value).toArray below meth c H locs 0 0 Z (F0 m 9 ls []) := by
      intro n9
      induction n9 using Nat.strongRecOn with
      | _ n9 ih9 =>
        intro v1 v2 σ H locs ls hn hI hP hD hS hl
        have hf := hst9 v1 v2 σ n9 hI hn
        have lab21 : ∀ (v1 v2 v3 v4 : Int32) (σ : St) (H : Heap) (locs : List Loc) (ls : Array Slot), F_Mo_clear_L21 v1 v2 v3 v4 σ (fun b1 b2 τ => I9 b1 b2 τ ∧ m9 b1 b2 τ < n9) Q → va_P D classes (wMo cI a wr σ) H → va_D A (wMo cI a wr σ) → va_S A s.heap H locs → lv_has ls 5 [(0, .ref (a 12)), (1, .int v1), (2, .int v2), (3, .int v3), (4, .int v4)] → W p l e rm_Mo_clear s m ([.ref (a 12)] : List Value).toArray below meth c H locs 0 0 Z (F0 m 21 ls []) := by
          intro v1 v2 v3 v4 σ H locs ls hf hP hD hS hl
          unfold F_Mo_clear_L21 at hf
          obtain ⟨I21, m21, h0, hst21⟩ := hf
          have lp21 : ∀ (n : Nat) (v3 v4 : Int32) (σ : St) (H : Heap) (locs : List Loc) (ls : Array Slot), m21 v3 v4 σ = n → I21 v3 v4 σ → va_P D classes (wMo cI a wr σ) H → va_D A (wMo cI a wr σ) → va_S A s.heap H locs → lv_has ls 5 [(0, .ref (a 12)), (1, .int v1), (2, .int v2), (3, .int v3), (4, .int v4)] → W p l e rm_Mo_clear s m ([.ref (a 12)] : List Value).toArray below meth c H locs 0 0 Z (F0 m 21 ls []) := by
            intro n21
            induction n21 using Nat.strongRecOn with
            | _ n21 ih21 =>
              intro v3 v4 σ H locs ls hn hI hP hD hS hl
              have hf := hst21 v3 v4 σ n21 hI hn
              refine lv_iload hx hb d_Mo_clear_21 (lv_at hl 4 rfl) ?_
              refine lv_bipush (v := (8 : Int32)) hx hb d_Mo_clear_23 (by decide) ?_
              refine lv_icmp_ge hx hb d_Mo_clear_25 rfl (fun hc => ?_) (fun hc => ?_)
              · have hf := hf.1 hc
                refine lv_iload_n hx hb d_Mo_clear_55 rfl (lv_at hl 1 rfl) ?_
                refine lv_iload_n hx hb d_Mo_clear_56 rfl (lv_at hl 3 rfl) ?_
                refine lv_if_eq hx hb d_Mo_clear_57 rfl (fun hc => ?_) (fun hc => ?_)
                · have hf := hf.1 hc
                  refine lv_iconst (v := (0 : Int32)) hx hb d_Mo_clear_64 (by decide) ?_
                  refine lv_iadd hx hb d_Mo_clear_65 ?_
                  refine lv_topi (fun z3 hz3 => ?_)
                  have hf := hf z3 hz3
                  refine lv_istore_n hx hb d_Mo_clear_66 rfl hl (by decide) rfl (fun ls hl => ?_)
                  have hl : lv_has ls 5 [(1, .int z3), (0, .ref (a 12)), (2, .int v2), (3, .int v3), (4, .int v4)] := hl
                  obtain ⟨z4, hz4⟩ : ∃ z4 : Int32, z4 = v2 + (1 : Int32) := ⟨_, rfl⟩
                  have hf := hf z4 hz4
                  refine lv_iinc (k := 2) (v := z4) hx hb d_Mo_clear_67 hl rfl (by rw [hz4]; rfl) (by decide) rfl (fun ls hl => ?_)
                  have hl : lv_has ls 5 [(2, .int z4), (1, .int z3), (0, .ref (a 12)), (3, .int v3), (4, .int v4)] := hl
                  refine lv_goto hx hb d_Mo_clear_70 rfl ?_
                  exact ih9 _ hf.2 _ _ _ _ _ _ rfl hf.1 hP hD hS (lv_sub hl [2, 1, 0] rfl)
                · have hf := hf.2 hc
                  refine lv_iconst (v := (1 : Int32)) hx hb d_Mo_clear_60 (by decide) ?_
                  refine lv_goto hx hb d_Mo_clear_61 rfl ?_
                  refine lv_iadd hx hb d_Mo_clear_65 ?_
                  refine lv_topi (fun z5 hz5 => ?_)
                  have hf := hf z5 hz5
                  refine lv_istore_n hx hb d_Mo_clear_66 rfl hl (by decide) rfl (fun ls hl => ?_)
                  have hl : lv_has ls 5 [(1, .int z5), (0, .ref (a 12)), (2, .int v2), (3, .int v3), (4, .int v4)] := hl
                  obtain ⟨z6, hz6⟩ : ∃ z6 : Int32, z6 = v2 + (1 : Int32) := ⟨_, rfl⟩
                  have hf := hf z6 hz6
                  refine lv_iinc (k := 2) (v := z6) hx hb d_Mo_clear_67 hl rfl (by rw [hz6]; rfl) (by decide) rfl (fun ls hl => ?_)
                  have hl : lv_has ls 5 [(2, .int z6), (1, .int z5), (0, .ref (a 12)), (3, .int v3), (4, .int v4)] := hl
                  refine lv_goto hx hb d_Mo_clear_70 rfl ?_
                  exact ih9 _ hf.2 _ _ _ _ _ _ rfl hf.1 hP hD hS (lv_sub hl [2, 1, 0] rfl)
              · have hf := hf.2 hc
                refine lv_aload_n hx hb d_Mo_clear_28 rfl (lv_at hl 0 rfl) ?_
                refine rg_Mo_fields S hok hP (hts _ k_fl_Mo_18) d_Mo_clear_29 ?_
                refine lv_bipush (v := (8 : Int32)) hx hb d_Mo_clear_32 (by decide) ?_
                refine lv_aload_n hx hb d_Mo_clear_34 rfl (lv_at hl 0 rfl) ?_
                refine lv_iload_n hx hb d_Mo_clear_35 rfl (lv_at hl 2 rfl) ?_
                refine r_callVi (As := [.int v2]) (rest := [.int (8 : Int32), .ref (a 14)]) (n := 1) (q0 := 12) S hok (c_Mo_at l D cI a wr hwr _ _ _ hf) k_ml_Mo_25 k_im_Mo_at k_sel_Mo_at k_ini_Mo k_code_Mo_at rfl rfl (by decide +kernel) ⟨by decide, by decide⟩ rfl rfl hP hD hS hA (Nat.zero_le _) (Nat.zero_le _) hl.1 rfl rfl (Nat.le_of_ble_eq_true rfl) d_Mo_clear_36 (fun r8 σ7 H locs hf hP hD hS => ?_)
                have hP : va_P D classes (wMo cI a wr σ7) H := hP
                have hD : va_D A (wMo cI a wr σ7) := hD
                refine lv_imul hx hb d_Mo_clear_39 ?_
                refine lv_iload hx hb d_Mo_clear_40 (lv_at hl 4 rfl) ?_
                refine lv_iadd hx hb d_Mo_clear_42 ?_
                obtain ⟨hin, hf⟩ := hf
                refine rl_Mo_fields S hok hP hin d_Mo_clear_43 ?_
                refine lv_if_eq hx hb d_Mo_clear_44 rfl (fun hc => ?_) (fun hc => ?_)
                · have hf := hf.1 hc
                  obtain ⟨z9, hz9⟩ : ∃ z9 : Int32, z9 = v4 + (1 : Int32) := ⟨_, rfl⟩
                  have hf := hf z9 hz9
                  refine lv_iinc (k := 4) (v := z9) hx hb d_Mo_clear_49 hl rfl (by rw [hz9]; rfl) (by decide) rfl (fun ls hl => ?_)
                  have hl : lv_has ls 5 [(4, .int z9), (0, .ref (a 12)), (1, .int v1), (2, .int v2), (3, .int v3)] := hl
                  refine lv_goto hx hb d_Mo_clear_52 rfl ?_
                  exact ih21 _ hf.2 _ _ _ _ _ _ rfl hf.1 hP hD hS (lv_sub hl [1, 2, 3, 4, 0] rfl)
                · have hf := hf.2 hc
                  refine lv_iconst (v := (1 : Int32)) hx hb d_Mo_clear_47 (by decide) ?_
                  refine lv_topi (fun z10 hz10 => ?_)
                  have hf := hf z10 hz10
                  refine lv_istore_n hx hb d_Mo_clear_48 rfl hl (by decide) rfl (fun ls hl => ?_)
                  have hl : lv_has ls 5 [(3, .int z10), (0, .ref (a 12)), (1, .int v1), (2, .int v2), (4, .int v4)] := hl
                  obtain ⟨z11, hz11⟩ : ∃ z11 : Int32, z11 = v4 + (1 : Int32) := ⟨_, rfl⟩
                  have hf := hf z11 hz11
                  refine lv_iinc (k := 4) (v := z11) hx hb d_Mo_clear_49 hl rfl (by rw [hz11]; rfl) (by decide) rfl (fun ls hl => ?_)
                  have hl : lv_has ls 5 [(4, .int z11), (3, .int z10), (0, .ref (a 12)), (1, .int v1), (2, .int v2)] := hl
                  refine lv_goto hx hb d_Mo_clear_52 rfl ?_
                  exact ih21 _ hf.2 _ _ _ _ _ _ rfl hf.1 hP hD hS (lv_sub hl [2, 3, 4, 1, 0] rfl)
          exact lp21 _ v3 v4 σ H locs ls rfl h0 hP hD hS hl
        refine lv_iload_n hx hb d_Mo_clear_9 rfl (lv_at hl 2 rfl) ?_
        refine lv_sipush (v := (1024 : Int32)) hx hb d_Mo_clear_10 (by decide) ?_
        refine lv_icmp_ge hx hb d_Mo_clear_13 rfl (fun hc => ?_) (fun hc => ?_)
        · have hf := hf.1 hc
          refine lv_aload_n hx hb d_Mo_clear_73 rfl (lv_at hl 0 rfl) ?_
          refine lv_iconst (v := (1 : Int32)) hx hb d_Mo_clear_74 (by decide) ?_
          refine rp_Mo_count S hok hwr hP hD hS (hts _ k_fl_Mo_7) d_Mo_clear_75 (fun σ12 H locs hσ12 hP hD hS => ?_)
          have hf := hf σ12 hσ12
          refine lv_iconst (v := (0 : Int32)) hx hb d_Mo_clear_78 (by decide) ?_
          refine lv_topi (fun z13 hz13 => ?_)
          have hf := hf z13 hz13
          refine lv_istore_n hx hb d_Mo_clear_79 rfl hl (by decide) rfl (fun ls hl => ?_)
          have hl : lv_has ls 5 [(2, .int z13), (0, .ref (a 12)), (1, .int v1)] := hl
          exact lab80 _ _ _ _ _ _ hf hP hD hS (lv_sub hl [1, 2, 0] rfl)
        · have hf := hf.2 hc
          refine lv_iconst (v := (0 : Int32)) hx hb d_Mo_clear_16 (by decide) ?_
          refine lv_topi (fun z14 hz14 => ?_)
          have hf := hf z14 hz14
          refine lv_istore_n hx hb d_Mo_clear_17 rfl hl (by decide) rfl (fun ls hl => ?_)
          have hl : lv_has ls 5 [(3, .int z14), (0, .ref (a 12)), (1, .int v1), (2, .int v2)] := hl
          refine lv_iconst (v := (0 : Int32)) hx hb d_Mo_clear_18 (by decide) ?_
          refine lv_topi (fun z15 hz15 => ?_)
          have hf := hf z15 hz15
          refine lv_istore hx hb d_Mo_clear_19 hl (by decide) rfl (fun ls hl => ?_)
          have hl : lv_has ls 5 [(4, .int z15), (3, .int z14), (0, .ref (a 12)), (1, .int v1), (2, .int v2)] := hl
          exact lab21 _ _ _ _ _ _ _ _ hf hP hD hS (lv_sub hl [2, 3, 4, 1, 0] rfl)
    exact lp9 _ v1 v2 σ H locs ls rfl h0 hP hD hS hl
  refine lv_aload_n hx hb d_Mo_clear_0 rfl (lv_at hl 0 rfl) ?_
  refine lv_iconst (v := (0 : Int32)) hx hb d_Mo_clear_1 (by decide) ?_
  refine rp_Mo_failed S hok hwr hP hD hS (hts _ k_fl_Mo_21) d_Mo_clear_2 (fun σ16 H locs hσ16 hP hD hS => ?_)
  have hf := hf σ16 hσ16
  refine lv_iconst (v := (0 : Int32)) hx hb d_Mo_clear_5 (by decide) ?_
  refine lv_topi (fun z17 hz17 => ?_)
  have hf := hf z17 hz17
  refine lv_istore_n hx hb d_Mo_clear_6 rfl hl (by decide) rfl (fun ls hl => ?_)
  have hl : lv_has ls 5 [(1, .int z17), (0, .ref (a 12))] := hl
  refine lv_iconst (v := (0 : Int32)) hx hb d_Mo_clear_7 (by decide) ?_
  refine lv_topi (fun z18 hz18 => ?_)
  have hf := hf z18 hz18
  refine lv_istore_n hx hb d_Mo_clear_8 rfl hl (by decide) rfl (fun ls hl => ?_)
  have hl : lv_has ls 5 [(2, .int z18), (1, .int z17), (0, .ref (a 12))] := hl
  exact lab9 _ _ _ _ _ _ hf hP hD hS (lv_sub hl [2, 1, 0] rfl)
end
section
/-- a constructor: of a fresh object it makes the world w, for some addresses and some state -/
def Cn (l : Launch) (y : MethodName) (cw : Cond) (rm : Room) (D : va_G) (cI : ClassId) (w0 : va_W) (o : Nat) (w : (Nat → Nat) → St → va_W) (Pp : (Nat → Nat) → St → Prop) (mc ms : Nat) : Prop :=
  ∀ sz : Nat, Met l y (cw :: lwg) rm (va_Pc [.ref o] (PreW D cI w0 sz)) (va_Qv (fun u : (Nat → Nat) × St => Pp u.1 u.2) (fun u t => PstW D (va_A w0 sz) (w u.1 u.2) t) (va_A w0 sz)) mc ms (va_A w0 sz)
theorem Fx_nil (n : Nat) : Fx n (fun _ => []) := fun _ _ _ _ => rfl
section NEWI
variable {p : Program} {l : Launch} {e : Env} {R : Room} {s : State} {m : MethodId} {args : Array Value} {below : List Frame} {meth : Method} {c : Code} {H : Heap} {locs : List Loc} {cells slots : Nat} {Q : State → Prop} {cc : ByteArray} {pc nL : Nat} {ls : Array Slot} {rest : List Value} {D : va_G} {A : Nat → Prop} {cI : ClassId} {own : String} {ws : va_W}
theorem r_newi {n : Int32} (N : Nat) (S : CallFix p m c cc nL s args lwg own) (hok : okS D cI s) (hP : va_P D classes ws H) (hD : va_D A ws) (hS : va_S A s.heap H locs) (hA : ∀ q, s.heap.size ≤ q → A q) (hn : n = nI N) (hN : N < 2 ^ 20) (hcells : cells + 1 ≤ R.cells) (hslots : slots + N ≤ R.slots) (hdg : decode cc pc = .ok (.newarray .int, 2))
    (kk : ∀ (q : Nat) (H1 : Heap), va_P D classes (ws ++ [(q, .inl (cI, N, .inl (fun _ => 0)))]) H1 → va_D A (ws ++ [(q, .inl (cI, N, .inl (fun _ => 0)))]) → va_S A s.heap H1 locs → W p l e R s m args below meth c H1 locs (cells + 1) (slots + N) Q (F0 m (pc + 2) ls (.ref q :: rest))) : W p l e R s m args below meth c H locs cells slots Q (F0 m pc ls (.int n :: rest)) := by
  subst hn
  refine va_newa (atype := .int) (ty := .int) (a0 := (N, .inl (fun _ => 0))) S.1 S.2.1 (S.2.2.2.2 _ k_ac_int) rfl hok.1 hP hD hS hA (fun cA => rfl) (nI_pos (by omega)) (nI_clamp (by omega)) (by show N * 4 ≤ 536870912; omega) hcells hslots hdg (fun q cA H1 hK hP hD hS => ?_)
  have h1 := (hok.1.2 0 _ rfl).2
  have h2 := (hK.2 1 _ rfl).2
  have e : cA = cI := Option.some.inj (h2.symm.trans h1)
  subst e
  exact kk q H1 hP hD hS
end NEWI
theorem MS_new : MS (fun k => cond (Nat.beq k 20) (fun _ => 1) (fun _ => 0)) (fun _ => 0) 1 := ⟨by omega, by omega, rfl, rfl, fun _ _ => ⟨rfl, show 0 < 1114112 by omega⟩, fun i j hij hj => by omega⟩
theorem MV_new : MV (fun k => cond (Nat.beq k 20) (fun _ => 1) (fun _ => 0)) (fun _ => 0) 1 (fun _ _ => 0) := fun _ _ _ _ _ _ _ _ => rfl
abbrev rm_Rc_init : Room := { frames := 80, cells := 7, slots := 13368, locals := 1600 }
set_option maxRecDepth 100000 in
set_option maxHeartbeats 4000000 in
theorem c_Rc_init (l : Launch) (D : va_G) (cI : ClassId) (o : Nat) : Cn l y_Rc_init (.code y_Rc_init b_Rc_init 1 none) rm_Rc_init D cI [(o, .inr (0, [.null, .null, .null, .int 0, .null, .null, .int 0, .int 0, .int 0, .null, .null]))] o (fun a τ => wRc cI a (fun _ => []) τ) (fun a _ => a 0 = o) 7 13368 := by
  intro sz
  refine Met.ofW (cc := b_Rc_init) (maxL := 1) (ret := none) (by decide +kernel) rfl ?_
  intro p e s m args below meth c s₁ B hml hv
  obtain ⟨rfl, hsz, hP, hok, hD0⟩ := hv
  subst hsz
  have hx := B.exec
  have hb := B.bytes
  have hr := B.returns
  have hts0 := atoms_spec (ws := .code y_Rc_init b_Rc_init 1 none :: lwg) B.pre
  have hts : ∀ v ∈ lwg, v.before ([.ref o] : List Value).toArray s = true := fun v hv => hts0 v (List.mem_cons_of_mem _ hv)
  have hown : s.vm.findClass "PropertyTrie$Records" = some m.cls := findClass_of_methodNamed B.named
  have hlocks := B.notSynchronized
  have hin : meth.name = "<init>" := (name_of_methodNamed B.named B.method).1
  have S : CallFix p m c b_Rc_init 1 s ([.ref o] : List Value).toArray lwg "PropertyTrie$Records" := ⟨hx, hb, hml, hown, hts⟩
  have hD := hD0.self (sz := s.heap.size)
  generalize hAe : va_A [(o, .inr (0, [.null, .null, .null, .int 0, .null, .null, .int 0, .int 0, .int 0, .null, .null]))] s.heap.size = A at hD ⊢
  have hA : ∀ q : Nat, s.heap.size ≤ q → A q := fun q h => by rw [← hAe]; exact Or.inr h
  have hS : va_S A s.heap s.heap [] := va_S.rf
  have hP : va_P D classes [(o, .inr (0, [.null, .null, .null, .int 0, .null, .null, .int 0, .int 0, .int 0, .null, .null]))] s.heap := hP
  have hl := lv_entry ([.ref o]) (n := 1) (Nat.le_of_ble_eq_true rfl)
  rw [lg_entry_eq]
  generalize (lg_sl ([.ref o]) ++ List.replicate (1 - (lg_sl ([.ref o])).length) Slot.unset).toArray = ls at hl ⊢
  have hl : lv_has ls 1 [(0, .ref o)] := hl
  refine lv_aload_n hx hb d_Rc_init_0 rfl (lv_at hl 0 rfl) ?_
  refine W.objInit hx hb hown (hts _ k_ml_Rc_3) (hts _ k_im_Ob_init) (hts _ k_code_Ob_init) rfl (by rw [hml]; exact hl.1) rfl d_Rc_init_1 (Nat.le_of_ble_eq_true rfl) (Nat.le_of_ble_eq_true rfl) ?_
  refine W.eq (g2 := F0 m 4 ls []) rfl ?_
  refine lv_aload_n hx hb d_Rc_init_4 rfl (lv_at hl 0 rfl) ?_
  refine lv_sipush (v := (8224 : Int32)) hx hb d_Rc_init_5 (by decide) ?_
  refine r_newi 8224 S hok hP hD hS hA rfl (by decide) (by decide) (by decide) d_Rc_init_8 (fun q8 H hP hD hS => ?_)
  have hP : va_P D classes [(o, .inr (0, [.null, .null, .null, .int 0, .null, .null, .int 0, .int 0, .int 0, .null, .null])), (q8, .inl (cI, 8224, .inl (fun _ => 0)))] H := hP
  have hD : va_D A [(o, .inr (0, [.null, .null, .null, .int 0, .null, .null, .int 0, .int 0, .int 0, .null, .null])), (q8, .inl (cI, 8224, .inl (fun _ => 0)))] := hD
  refine W.eq (g2 := F0 m 10 ls [.ref q8, .ref o]) rfl ?_
  refine va_putF (D := D) (ci := 0) (v := .ref q8) (ty := .array .int) (C := R_Rc) (T := F_Rc) (N := 11) hx hb hts i_Rc t_Rc t_Rc_ok n_Rc hown hok.1 hP hD hS 0 rfl rfl 0 (by decide) (hts _ k_fl_Rc_11) (fun _ h9 => h9) rfl hin rfl (by decide +kernel) rfl rfl (Nat.le_of_ble_eq_true rfl) d_Rc_init_10 (fun H locs hP hD hS => ?_)
  have hP : va_P D classes [(o, .inr (0, [.ref q8, .null, .null, .int 0, .null, .null, .int 0, .int 0, .int 0, .null, .null])), (q8, .inl (cI, 8224, .inl (fun _ => 0)))] H := hP
  have hD : va_D A [(o, .inr (0, [.ref q8, .null, .null, .int 0, .null, .null, .int 0, .int 0, .int 0, .null, .null])), (q8, .inl (cI, 8224, .inl (fun _ => 0)))] := hD
  refine lv_aload_n hx hb d_Rc_init_13 rfl (lv_at hl 0 rfl) ?_
  refine lv_sipush (v := (1028 : Int32)) hx hb d_Rc_init_14 (by decide) ?_
  refine r_newi 1028 S hok hP hD hS hA rfl (by decide) (by decide) (by decide) d_Rc_init_17 (fun q17 H hP hD hS => ?_)
  have hP : va_P D classes [(o, .inr (0, [.ref q8, .null, .null, .int 0, .null, .null, .int 0, .int 0, .int 0, .null, .null])), (q8, .inl (cI, 8224, .inl (fun _ => 0))), (q17, .inl (cI, 1028, .inl (fun _ => 0)))] H := hP
  have hD : va_D A [(o, .inr (0, [.ref q8, .null, .null, .int 0, .null, .null, .int 0, .int 0, .int 0, .null, .null])), (q8, .inl (cI, 8224, .inl (fun _ => 0))), (q17, .inl (cI, 1028, .inl (fun _ => 0)))] := hD
  refine W.eq (g2 := F0 m 19 ls [.ref q17, .ref o]) rfl ?_
  refine va_putF (D := D) (ci := 0) (v := .ref q17) (ty := .array .int) (C := R_Rc) (T := F_Rc) (N := 11) hx hb hts i_Rc t_Rc t_Rc_ok n_Rc hown hok.1 hP hD hS 0 rfl rfl 1 (by decide) (hts _ k_fl_Rc_15) (fun _ h9 => h9) rfl hin rfl (by decide +kernel) rfl rfl (Nat.le_of_ble_eq_true rfl) d_Rc_init_19 (fun H locs hP hD hS => ?_)
  have hP : va_P D classes [(o, .inr (0, [.ref q8, .ref q17, .null, .int 0, .null, .null, .int 0, .int 0, .int 0, .null, .null])), (q8, .inl (cI, 8224, .inl (fun _ => 0))), (q17, .inl (cI, 1028, .inl (fun _ => 0)))] H := hP
  have hD : va_D A [(o, .inr (0, [.ref q8, .ref q17, .null, .int 0, .null, .null, .int 0, .int 0, .int 0, .null, .null])), (q8, .inl (cI, 8224, .inl (fun _ => 0))), (q17, .inl (cI, 1028, .inl (fun _ => 0)))] := hD
  refine lv_aload_n hx hb d_Rc_init_22 rfl (lv_at hl 0 rfl) ?_
  refine lv_sipush (v := (1028 : Int32)) hx hb d_Rc_init_23 (by decide) ?_
  refine r_newi 1028 S hok hP hD hS hA rfl (by decide) (by decide) (by decide) d_Rc_init_26 (fun q26 H hP hD hS => ?_)
  have hP : va_P D classes [(o, .inr (0, [.ref q8, .ref q17, .null, .int 0, .null, .null, .int 0, .int 0, .int 0, .null, .null])), (q8, .inl (cI, 8224, .inl (fun _ => 0))), (q17, .inl (cI, 1028, .inl (fun _ => 0))), (q26, .inl (cI, 1028, .inl (fun _ => 0)))] H := hP
  have hD : va_D A [(o, .inr (0, [.ref q8, .ref q17, .null, .int 0, .null, .null, .int 0, .int 0, .int 0, .null, .null])), (q8, .inl (cI, 8224, .inl (fun _ => 0))), (q17, .inl (cI, 1028, .inl (fun _ => 0))), (q26, .inl (cI, 1028, .inl (fun _ => 0)))] := hD
  refine W.eq (g2 := F0 m 28 ls [.ref q26, .ref o]) rfl ?_
  refine va_putF (D := D) (ci := 0) (v := .ref q26) (ty := .array .int) (C := R_Rc) (T := F_Rc) (N := 11) hx hb hts i_Rc t_Rc t_Rc_ok n_Rc hown hok.1 hP hD hS 0 rfl rfl 2 (by decide) (hts _ k_fl_Rc_18) (fun _ h9 => h9) rfl hin rfl (by decide +kernel) rfl rfl (Nat.le_of_ble_eq_true rfl) d_Rc_init_28 (fun H locs hP hD hS => ?_)
  have hP : va_P D classes [(o, .inr (0, [.ref q8, .ref q17, .ref q26, .int 0, .null, .null, .int 0, .int 0, .int 0, .null, .null])), (q8, .inl (cI, 8224, .inl (fun _ => 0))), (q17, .inl (cI, 1028, .inl (fun _ => 0))), (q26, .inl (cI, 1028, .inl (fun _ => 0)))] H := hP
  have hD : va_D A [(o, .inr (0, [.ref q8, .ref q17, .ref q26, .int 0, .null, .null, .int 0, .int 0, .int 0, .null, .null])), (q8, .inl (cI, 8224, .inl (fun _ => 0))), (q17, .inl (cI, 1028, .inl (fun _ => 0))), (q26, .inl (cI, 1028, .inl (fun _ => 0)))] := hD
  refine lv_aload_n hx hb d_Rc_init_31 rfl (lv_at hl 0 rfl) ?_
  refine lv_sipush (v := (1024 : Int32)) hx hb d_Rc_init_32 (by decide) ?_
  refine r_newi 1024 S hok hP hD hS hA rfl (by decide) (by decide) (by decide) d_Rc_init_35 (fun q35 H hP hD hS => ?_)
  have hP : va_P D classes [(o, .inr (0, [.ref q8, .ref q17, .ref q26, .int 0, .null, .null, .int 0, .int 0, .int 0, .null, .null])), (q8, .inl (cI, 8224, .inl (fun _ => 0))), (q17, .inl (cI, 1028, .inl (fun _ => 0))), (q26, .inl (cI, 1028, .inl (fun _ => 0))), (q35, .inl (cI, 1024, .inl (fun _ => 0)))] H := hP
  have hD : va_D A [(o, .inr (0, [.ref q8, .ref q17, .ref q26, .int 0, .null, .null, .int 0, .int 0, .int 0, .null, .null])), (q8, .inl (cI, 8224, .inl (fun _ => 0))), (q17, .inl (cI, 1028, .inl (fun _ => 0))), (q26, .inl (cI, 1028, .inl (fun _ => 0))), (q35, .inl (cI, 1024, .inl (fun _ => 0)))] := hD
  refine W.eq (g2 := F0 m 37 ls [.ref q35, .ref o]) rfl ?_
  refine va_putF (D := D) (ci := 0) (v := .ref q35) (ty := .array .int) (C := R_Rc) (T := F_Rc) (N := 11) hx hb hts i_Rc t_Rc t_Rc_ok n_Rc hown hok.1 hP hD hS 0 rfl rfl 4 (by decide) (hts _ k_fl_Rc_21) (fun _ h9 => h9) rfl hin rfl (by decide +kernel) rfl rfl (Nat.le_of_ble_eq_true rfl) d_Rc_init_37 (fun H locs hP hD hS => ?_)
  have hP : va_P D classes [(o, .inr (0, [.ref q8, .ref q17, .ref q26, .int 0, .ref q35, .null, .int 0, .int 0, .int 0, .null, .null])), (q8, .inl (cI, 8224, .inl (fun _ => 0))), (q17, .inl (cI, 1028, .inl (fun _ => 0))), (q26, .inl (cI, 1028, .inl (fun _ => 0))), (q35, .inl (cI, 1024, .inl (fun _ => 0)))] H := hP
  have hD : va_D A [(o, .inr (0, [.ref q8, .ref q17, .ref q26, .int 0, .ref q35, .null, .int 0, .int 0, .int 0, .null, .null])), (q8, .inl (cI, 8224, .inl (fun _ => 0))), (q17, .inl (cI, 1028, .inl (fun _ => 0))), (q26, .inl (cI, 1028, .inl (fun _ => 0))), (q35, .inl (cI, 1024, .inl (fun _ => 0)))] := hD
  refine lv_aload_n hx hb d_Rc_init_40 rfl (lv_at hl 0 rfl) ?_
  refine lv_sipush (v := (1028 : Int32)) hx hb d_Rc_init_41 (by decide) ?_
  refine r_newi 1028 S hok hP hD hS hA rfl (by decide) (by decide) (by decide) d_Rc_init_44 (fun q44 H hP hD hS => ?_)
  have hP : va_P D classes [(o, .inr (0, [.ref q8, .ref q17, .ref q26, .int 0, .ref q35, .null, .int 0, .int 0, .int 0, .null, .null])), (q8, .inl (cI, 8224, .inl (fun _ => 0))), (q17, .inl (cI, 1028, .inl (fun _ => 0))), (q26, .inl (cI, 1028, .inl (fun _ => 0))), (q35, .inl (cI, 1024, .inl (fun _ => 0))), (q44, .inl (cI, 1028, .inl (fun _ => 0)))] H := hP
  have hD : va_D A [(o, .inr (0, [.ref q8, .ref q17, .ref q26, .int 0, .ref q35, .null, .int 0, .int 0, .int 0, .null, .null])), (q8, .inl (cI, 8224, .inl (fun _ => 0))), (q17, .inl (cI, 1028, .inl (fun _ => 0))), (q26, .inl (cI, 1028, .inl (fun _ => 0))), (q35, .inl (cI, 1024, .inl (fun _ => 0))), (q44, .inl (cI, 1028, .inl (fun _ => 0)))] := hD
  refine W.eq (g2 := F0 m 46 ls [.ref q44, .ref o]) rfl ?_
  refine va_putF (D := D) (ci := 0) (v := .ref q44) (ty := .array .int) (C := R_Rc) (T := F_Rc) (N := 11) hx hb hts i_Rc t_Rc t_Rc_ok n_Rc hown hok.1 hP hD hS 0 rfl rfl 5 (by decide) (hts _ k_fl_Rc_24) (fun _ h9 => h9) rfl hin rfl (by decide +kernel) rfl rfl (Nat.le_of_ble_eq_true rfl) d_Rc_init_46 (fun H locs hP hD hS => ?_)
  have hP : va_P D classes [(o, .inr (0, [.ref q8, .ref q17, .ref q26, .int 0, .ref q35, .ref q44, .int 0, .int 0, .int 0, .null, .null])), (q8, .inl (cI, 8224, .inl (fun _ => 0))), (q17, .inl (cI, 1028, .inl (fun _ => 0))), (q26, .inl (cI, 1028, .inl (fun _ => 0))), (q35, .inl (cI, 1024, .inl (fun _ => 0))), (q44, .inl (cI, 1028, .inl (fun _ => 0)))] H := hP
  have hD : va_D A [(o, .inr (0, [.ref q8, .ref q17, .ref q26, .int 0, .ref q35, .ref q44, .int 0, .int 0, .int 0, .null, .null])), (q8, .inl (cI, 8224, .inl (fun _ => 0))), (q17, .inl (cI, 1028, .inl (fun _ => 0))), (q26, .inl (cI, 1028, .inl (fun _ => 0))), (q35, .inl (cI, 1024, .inl (fun _ => 0))), (q44, .inl (cI, 1028, .inl (fun _ => 0)))] := hD
  refine lv_aload_n hx hb d_Rc_init_49 rfl (lv_at hl 0 rfl) ?_
  refine lv_sipush (v := (1028 : Int32)) hx hb d_Rc_init_50 (by decide) ?_
  refine r_newi 1028 S hok hP hD hS hA rfl (by decide) (by decide) (by decide) d_Rc_init_53 (fun q53 H hP hD hS => ?_)
  have hP : va_P D classes [(o, .inr (0, [.ref q8, .ref q17, .ref q26, .int 0, .ref q35, .ref q44, .int 0, .int 0, .int 0, .null, .null])), (q8, .inl (cI, 8224, .inl (fun _ => 0))), (q17, .inl (cI, 1028, .inl (fun _ => 0))), (q26, .inl (cI, 1028, .inl (fun _ => 0))), (q35, .inl (cI, 1024, .inl (fun _ => 0))), (q44, .inl (cI, 1028, .inl (fun _ => 0))), (q53, .inl (cI, 1028, .inl (fun _ => 0)))] H := hP
  have hD : va_D A [(o, .inr (0, [.ref q8, .ref q17, .ref q26, .int 0, .ref q35, .ref q44, .int 0, .int 0, .int 0, .null, .null])), (q8, .inl (cI, 8224, .inl (fun _ => 0))), (q17, .inl (cI, 1028, .inl (fun _ => 0))), (q26, .inl (cI, 1028, .inl (fun _ => 0))), (q35, .inl (cI, 1024, .inl (fun _ => 0))), (q44, .inl (cI, 1028, .inl (fun _ => 0))), (q53, .inl (cI, 1028, .inl (fun _ => 0)))] := hD
  refine W.eq (g2 := F0 m 55 ls [.ref q53, .ref o]) rfl ?_
  refine va_putF (D := D) (ci := 0) (v := .ref q53) (ty := .array .int) (C := R_Rc) (T := F_Rc) (N := 11) hx hb hts i_Rc t_Rc t_Rc_ok n_Rc hown hok.1 hP hD hS 0 rfl rfl 9 (by decide) (hts _ k_fl_Rc_27) (fun _ h9 => h9) rfl hin rfl (by decide +kernel) rfl rfl (Nat.le_of_ble_eq_true rfl) d_Rc_init_55 (fun H locs hP hD hS => ?_)
  have hP : va_P D classes [(o, .inr (0, [.ref q8, .ref q17, .ref q26, .int 0, .ref q35, .ref q44, .int 0, .int 0, .int 0, .ref q53, .null])), (q8, .inl (cI, 8224, .inl (fun _ => 0))), (q17, .inl (cI, 1028, .inl (fun _ => 0))), (q26, .inl (cI, 1028, .inl (fun _ => 0))), (q35, .inl (cI, 1024, .inl (fun _ => 0))), (q44, .inl (cI, 1028, .inl (fun _ => 0))), (q53, .inl (cI, 1028, .inl (fun _ => 0)))] H := hP
  have hD : va_D A [(o, .inr (0, [.ref q8, .ref q17, .ref q26, .int 0, .ref q35, .ref q44, .int 0, .int 0, .int 0, .ref q53, .null])), (q8, .inl (cI, 8224, .inl (fun _ => 0))), (q17, .inl (cI, 1028, .inl (fun _ => 0))), (q26, .inl (cI, 1028, .inl (fun _ => 0))), (q35, .inl (cI, 1024, .inl (fun _ => 0))), (q44, .inl (cI, 1028, .inl (fun _ => 0))), (q53, .inl (cI, 1028, .inl (fun _ => 0)))] := hD
  refine lv_aload_n hx hb d_Rc_init_58 rfl (lv_at hl 0 rfl) ?_
  refine lv_bipush (v := (8 : Int32)) hx hb d_Rc_init_59 (by decide) ?_
  refine r_newi 8 S hok hP hD hS hA rfl (by decide) (by decide) (by decide) d_Rc_init_61 (fun q61 H hP hD hS => ?_)
  have hP : va_P D classes [(o, .inr (0, [.ref q8, .ref q17, .ref q26, .int 0, .ref q35, .ref q44, .int 0, .int 0, .int 0, .ref q53, .null])), (q8, .inl (cI, 8224, .inl (fun _ => 0))), (q17, .inl (cI, 1028, .inl (fun _ => 0))), (q26, .inl (cI, 1028, .inl (fun _ => 0))), (q35, .inl (cI, 1024, .inl (fun _ => 0))), (q44, .inl (cI, 1028, .inl (fun _ => 0))), (q53, .inl (cI, 1028, .inl (fun _ => 0))), (q61, .inl (cI, 8, .inl (fun _ => 0)))] H := hP
  have hD : va_D A [(o, .inr (0, [.ref q8, .ref q17, .ref q26, .int 0, .ref q35, .ref q44, .int 0, .int 0, .int 0, .ref q53, .null])), (q8, .inl (cI, 8224, .inl (fun _ => 0))), (q17, .inl (cI, 1028, .inl (fun _ => 0))), (q26, .inl (cI, 1028, .inl (fun _ => 0))), (q35, .inl (cI, 1024, .inl (fun _ => 0))), (q44, .inl (cI, 1028, .inl (fun _ => 0))), (q53, .inl (cI, 1028, .inl (fun _ => 0))), (q61, .inl (cI, 8, .inl (fun _ => 0)))] := hD
  refine W.eq (g2 := F0 m 63 ls [.ref q61, .ref o]) rfl ?_
  refine va_putF (D := D) (ci := 0) (v := .ref q61) (ty := .array .int) (C := R_Rc) (T := F_Rc) (N := 11) hx hb hts i_Rc t_Rc t_Rc_ok n_Rc hown hok.1 hP hD hS 0 rfl rfl 10 (by decide) (hts _ k_fl_Rc_30) (fun _ h9 => h9) rfl hin rfl (by decide +kernel) rfl rfl (Nat.le_of_ble_eq_true rfl) d_Rc_init_63 (fun H locs hP hD hS => ?_)
  have hP : va_P D classes [(o, .inr (0, [.ref q8, .ref q17, .ref q26, .int 0, .ref q35, .ref q44, .int 0, .int 0, .int 0, .ref q53, .ref q61])), (q8, .inl (cI, 8224, .inl (fun _ => 0))), (q17, .inl (cI, 1028, .inl (fun _ => 0))), (q26, .inl (cI, 1028, .inl (fun _ => 0))), (q35, .inl (cI, 1024, .inl (fun _ => 0))), (q44, .inl (cI, 1028, .inl (fun _ => 0))), (q53, .inl (cI, 1028, .inl (fun _ => 0))), (q61, .inl (cI, 8, .inl (fun _ => 0)))] H := hP
  have hD : va_D A [(o, .inr (0, [.ref q8, .ref q17, .ref q26, .int 0, .ref q35, .ref q44, .int 0, .int 0, .int 0, .ref q53, .ref q61])), (q8, .inl (cI, 8224, .inl (fun _ => 0))), (q17, .inl (cI, 1028, .inl (fun _ => 0))), (q26, .inl (cI, 1028, .inl (fun _ => 0))), (q35, .inl (cI, 1024, .inl (fun _ => 0))), (q44, .inl (cI, 1028, .inl (fun _ => 0))), (q53, .inl (cI, 1028, .inl (fun _ => 0))), (q61, .inl (cI, 8, .inl (fun _ => 0)))] := hD
  refine lv_aload_n hx hb d_Rc_init_66 rfl (lv_at hl 0 rfl) ?_
  have hP := hP.sub (ws' := wRc cI (fun k => cond (Nat.beq k 0) o (cond (Nat.beq k 1) q8 (cond (Nat.beq k 2) q17 (cond (Nat.beq k 3) q26 (cond (Nat.beq k 4) q35 (cond (Nat.beq k 5) q44 (cond (Nat.beq k 6) q53 (q61)))))))) (fun _ => []) (fun _ _ => 0)) [0, 1, 2, 3, 4, 5, 6, 7] rfl
  have hD := hD.sub (ws' := wRc cI (fun k => cond (Nat.beq k 0) o (cond (Nat.beq k 1) q8 (cond (Nat.beq k 2) q17 (cond (Nat.beq k 3) q26 (cond (Nat.beq k 4) q35 (cond (Nat.beq k 5) q44 (cond (Nat.beq k 6) q53 (q61)))))))) (fun _ => []) (fun _ _ => 0)) [0, 1, 2, 3, 4, 5, 6, 7] (by decide) rfl
  have hF : F_Rc_empty (fun _ _ => 0) (fun _ => True) := s_Rempty (fun _ _ _ _ _ => trivial)
  refine r_callVv (As := []) (rest := []) (n := 0) (q0 := 0) S hok (c_Rc_empty l D cI (fun k => cond (Nat.beq k 0) o (cond (Nat.beq k 1) q8 (cond (Nat.beq k 2) q17 (cond (Nat.beq k 3) q26 (cond (Nat.beq k 4) q35 (cond (Nat.beq k 5) q44 (cond (Nat.beq k 6) q53 (q61)))))))) (fun _ => []) (Fx_nil _) (fun _ _ => 0) (fun _ => True) hF) k_ml_Rc_33 k_im_Rc_empty k_sel_Rc_empty k_ini_Rc k_code_Rc_empty rfl rfl (by decide +kernel) ⟨by decide, by decide⟩ rfl rfl hP hD hS hA (by decide) (by decide) hl.1 rfl rfl (Nat.le_of_ble_eq_true rfl) d_Rc_init_67 (fun τ2 H locs hq hP hD hS => ?_)
  exact W.vret hx hb hr (fun t ht hW => ⟨⟨(fun k => cond (Nat.beq k 0) o (cond (Nat.beq k 1) q8 (cond (Nat.beq k 2) q17 (cond (Nat.beq k 3) q26 (cond (Nat.beq k 4) q35 (cond (Nat.beq k 5) q44 (cond (Nat.beq k 6) q53 (q61))))))), τ2), rfl, rfl, by rw [ht]; exact hP, hD⟩, hS.F ht⟩) hS.2.2 d_Rc_init_70 hlocks
abbrev rm_Bl_init : Room := { frames := 120, cells := 10, slots := 82051, locals := 2400 }
set_option maxRecDepth 100000 in
set_option maxHeartbeats 4000000 in
theorem c_Bl_init (l : Launch) (D : va_G) (cI : ClassId) (o : Nat) : Cn l y_Bl_init (.code y_Bl_init b_Bl_init 1 none) rm_Bl_init D cI [(o, .inr (1, [.null, .null, .null, .int 0, .int 0, .int 0, .int 0]))] o (fun a τ => wBl cI a (fun _ => []) τ) (fun a τ => a 8 = o ∧ BI τ (fun _ => 0) (fun _ => 0) (fun x => x == 0) L00 (fun _ _ => 0) 2048) 10 82051 := by
  intro sz
  refine Met.ofW (cc := b_Bl_init) (maxL := 1) (ret := none) (by decide +kernel) rfl ?_
  intro p e s m args below meth c s₁ B hml hv
  obtain ⟨rfl, hsz, hP, hok, hD0⟩ := hv
  subst hsz
  have hx := B.exec
  have hb := B.bytes
  have hr := B.returns
  have hts0 := atoms_spec (ws := .code y_Bl_init b_Bl_init 1 none :: lwg) B.pre
  have hts : ∀ v ∈ lwg, v.before ([.ref o] : List Value).toArray s = true := fun v hv => hts0 v (List.mem_cons_of_mem _ hv)
  have hown : s.vm.findClass "PropertyTrie$Blocks" = some m.cls := findClass_of_methodNamed B.named
  have hlocks := B.notSynchronized
  have hin : meth.name = "<init>" := (name_of_methodNamed B.named B.method).1
  have S : CallFix p m c b_Bl_init 1 s ([.ref o] : List Value).toArray lwg "PropertyTrie$Blocks" := ⟨hx, hb, hml, hown, hts⟩
  have hD := hD0.self (sz := s.heap.size)
  generalize hAe : va_A [(o, .inr (1, [.null, .null, .null, .int 0, .int 0, .int 0, .int 0]))] s.heap.size = A at hD ⊢
  have hA : ∀ q : Nat, s.heap.size ≤ q → A q := fun q h => by rw [← hAe]; exact Or.inr h
  have hS : va_S A s.heap s.heap [] := va_S.rf
  have hP : va_P D classes [(o, .inr (1, [.null, .null, .null, .int 0, .int 0, .int 0, .int 0]))] s.heap := hP
  have hl := lv_entry ([.ref o]) (n := 1) (Nat.le_of_ble_eq_true rfl)
  rw [lg_entry_eq]
  generalize (lg_sl ([.ref o]) ++ List.replicate (1 - (lg_sl ([.ref o])).length) Slot.unset).toArray = ls at hl ⊢
  have hl : lv_has ls 1 [(0, .ref o)] := hl
  refine lv_aload_n hx hb d_Bl_init_0 rfl (lv_at hl 0 rfl) ?_
  refine W.objInit hx hb hown (hts _ k_ml_Bl_5) (hts _ k_im_Ob_init) (hts _ k_code_Ob_init) rfl (by rw [hml]; exact hl.1) rfl d_Bl_init_1 (Nat.le_of_ble_eq_true rfl) (Nat.le_of_ble_eq_true rfl) ?_
  refine W.eq (g2 := F0 m 4 ls []) rfl ?_
  refine lv_aload_n hx hb d_Bl_init_4 rfl (lv_at hl 0 rfl) ?_
  refine va_new (ci := 0) (fs := [.null, .null, .null, .int 0, .null, .null, .int 0, .int 0, .int 0, .null, .null]) (C := R_Rc) (T := F_Rc) (N := 11) hx hb hts i_Rc t_Rc t_Rc_ok hown (hts _ k_cl_Bl_11) (hts _ k_in_Rc) (hts _ k_ini_Rc) hok.1 hP hD hS hA rfl (by decide) (by decide) (by decide) d_Bl_init_5 (fun q5 H hP hD hS => ?_)
  have hP : va_P D classes [(o, .inr (1, [.null, .null, .null, .int 0, .int 0, .int 0, .int 0])), (q5, .inr (0, [.null, .null, .null, .int 0, .null, .null, .int 0, .int 0, .int 0, .null, .null]))] H := hP
  have hD : va_D A [(o, .inr (1, [.null, .null, .null, .int 0, .int 0, .int 0, .int 0])), (q5, .inr (0, [.null, .null, .null, .int 0, .null, .null, .int 0, .int 0, .int 0, .null, .null]))] := hD
  refine lv_dup hx hb d_Bl_init_8 rfl ?_
  have hPc := hP.sub (ws' := [(q5, .inr (0, [.null, .null, .null, .int 0, .null, .null, .int 0, .int 0, .int 0, .null, .null]))]) [1] rfl
  have hDc := hD.sub (ws' := [(q5, .inr (0, [.null, .null, .null, .int 0, .null, .null, .int 0, .int 0, .int 0, .null, .null]))]) [1] (by decide) rfl
  have hFc := va_free (wc := [(q5, .inr (0, [.null, .null, .null, .int 0, .null, .null, .int 0, .int 0, .int 0, .null, .null]))]) hD hS hA [1] rfl
  refine va_callv (va_runI (As := []) (rest := [.ref q5, .ref o]) S (c_Rc_init l D cI q5 H.size) (cwI 0 hts (lwg_G k_code_Rc_init) rfl rfl rfl (hts _ k_ini_Rc) (hts _ k_ml_Bl_13) (hts _ k_im_Rc_init) rfl (by decide +kernel) ⟨by decide, by decide⟩) ⟨fun a U g mk q => by obtain ⟨q0, q1, qP, qK, qD⟩ := q; exact ⟨q0, q1, qP, qK.calling g mk a, qD⟩, fun U hU hW => ⟨rfl, by rw [hU], by rw [hU]; exact hPc, hok.warm hW, hDc.weaken (fun _ _ _ _ => trivial)⟩⟩ rfl rfl hl.1 rfl (lv_room (Nat.le_of_ble_eq_true rfl)) d_Bl_init_9 ⟨by decide, by decide⟩) hS (fun q _ h => hFc q h) hFc (fun u t H1 locs ht hvm h5 hB hz1 hk1 hS => ?_)
  obtain ⟨a, τ⟩ := u
  have ha : a 0 = q5 := h5
  subst ha
  obtain ⟨hP1, hD1⟩ := hB
  rw [ht] at hP1
  obtain ⟨hP2, hD2⟩ := va_join (wr := [(o, .inr (1, [.null, .null, .null, .int 0, .int 0, .int 0, .int 0]))]) (w1 := wRc cI a (fun _ => []) τ) hP hD [1] [0] rfl rfl (by decide) (by decide) hk1 hFc hP1 hD1
  clear hP hD
  have hP := hP2
  have hD := hD2
  clear hP2 hP1
  generalize H1 = H at hP hS ⊢
  have hP : va_P D classes [(o, .inr (1, [.null, .null, .null, .int 0, .int 0, .int 0, .int 0])), (a 0, .inr (0, [.ref (a 1), .ref (a 2), .ref (a 3), .int (τ 7 0), .ref (a 4), .ref (a 5), .int (τ 8 0), .int (τ 9 0), .int (τ 10 0), .ref (a 6), .ref (a 7)])), (a 1, .inl (cI, 8224, .inl (τ 0))), (a 2, .inl (cI, 1028, .inl (τ 1))), (a 3, .inl (cI, 1028, .inl (τ 2))), (a 4, .inl (cI, 1024, .inl (τ 3))), (a 5, .inl (cI, 1028, .inl (τ 4))), (a 6, .inl (cI, 1028, .inl (τ 5))), (a 7, .inl (cI, 8, .inl (τ 6)))] H := hP
  have hD : va_D A [(o, .inr (1, [.null, .null, .null, .int 0, .int 0, .int 0, .int 0])), (a 0, .inr (0, [.ref (a 1), .ref (a 2), .ref (a 3), .int (τ 7 0), .ref (a 4), .ref (a 5), .int (τ 8 0), .int (τ 9 0), .int (τ 10 0), .ref (a 6), .ref (a 7)])), (a 1, .inl (cI, 8224, .inl (τ 0))), (a 2, .inl (cI, 1028, .inl (τ 1))), (a 3, .inl (cI, 1028, .inl (τ 2))), (a 4, .inl (cI, 1024, .inl (τ 3))), (a 5, .inl (cI, 1028, .inl (τ 4))), (a 6, .inl (cI, 1028, .inl (τ 5))), (a 7, .inl (cI, 8, .inl (τ 6)))] := hD
  refine W.eq (g2 := F0 m 12 ls [.ref (a 0), .ref o]) rfl ?_
  refine va_putF (D := D) (ci := 1) (v := .ref (a 0)) (ty := .object "PropertyTrie$Records") (C := R_Bl) (T := F_Bl) (N := 7) hx hb hts i_Bl t_Bl t_Bl_ok n_Bl hown hok.1 hP hD hS 0 rfl rfl 0 (by decide) (hts _ k_fl_Bl_14) (fun _ h9 => h9) rfl hin rfl (by decide +kernel) rfl rfl (Nat.le_of_ble_eq_true rfl) d_Bl_init_12 (fun H locs hP hD hS => ?_)
  have hP : va_P D classes [(o, .inr (1, [.ref (a 0), .null, .null, .int 0, .int 0, .int 0, .int 0])), (a 0, .inr (0, [.ref (a 1), .ref (a 2), .ref (a 3), .int (τ 7 0), .ref (a 4), .ref (a 5), .int (τ 8 0), .int (τ 9 0), .int (τ 10 0), .ref (a 6), .ref (a 7)])), (a 1, .inl (cI, 8224, .inl (τ 0))), (a 2, .inl (cI, 1028, .inl (τ 1))), (a 3, .inl (cI, 1028, .inl (τ 2))), (a 4, .inl (cI, 1024, .inl (τ 3))), (a 5, .inl (cI, 1028, .inl (τ 4))), (a 6, .inl (cI, 1028, .inl (τ 5))), (a 7, .inl (cI, 8, .inl (τ 6)))] H := hP
  have hD : va_D A [(o, .inr (1, [.ref (a 0), .null, .null, .int 0, .int 0, .int 0, .int 0])), (a 0, .inr (0, [.ref (a 1), .ref (a 2), .ref (a 3), .int (τ 7 0), .ref (a 4), .ref (a 5), .int (τ 8 0), .int (τ 9 0), .int (τ 10 0), .ref (a 6), .ref (a 7)])), (a 1, .inl (cI, 8224, .inl (τ 0))), (a 2, .inl (cI, 1028, .inl (τ 1))), (a 3, .inl (cI, 1028, .inl (τ 2))), (a 4, .inl (cI, 1024, .inl (τ 3))), (a 5, .inl (cI, 1028, .inl (τ 4))), (a 6, .inl (cI, 1028, .inl (τ 5))), (a 7, .inl (cI, 8, .inl (τ 6)))] := hD
  refine lv_aload_n hx hb d_Bl_init_15 rfl (lv_at hl 0 rfl) ?_
  refine lv_ldc (v := (66624 : Int32)) hx hb hown (hts _ k_cst_Bl_18) d_Bl_init_16 ?_
  refine r_newi 66624 S hok hP hD hS hA rfl (by decide) (by decide) (by decide) d_Bl_init_18 (fun q18 H hP hD hS => ?_)
  have hP : va_P D classes [(o, .inr (1, [.ref (a 0), .null, .null, .int 0, .int 0, .int 0, .int 0])), (a 0, .inr (0, [.ref (a 1), .ref (a 2), .ref (a 3), .int (τ 7 0), .ref (a 4), .ref (a 5), .int (τ 8 0), .int (τ 9 0), .int (τ 10 0), .ref (a 6), .ref (a 7)])), (a 1, .inl (cI, 8224, .inl (τ 0))), (a 2, .inl (cI, 1028, .inl (τ 1))), (a 3, .inl (cI, 1028, .inl (τ 2))), (a 4, .inl (cI, 1024, .inl (τ 3))), (a 5, .inl (cI, 1028, .inl (τ 4))), (a 6, .inl (cI, 1028, .inl (τ 5))), (a 7, .inl (cI, 8, .inl (τ 6))), (q18, .inl (cI, 66624, .inl (fun _ => 0)))] H := hP
  have hD : va_D A [(o, .inr (1, [.ref (a 0), .null, .null, .int 0, .int 0, .int 0, .int 0])), (a 0, .inr (0, [.ref (a 1), .ref (a 2), .ref (a 3), .int (τ 7 0), .ref (a 4), .ref (a 5), .int (τ 8 0), .int (τ 9 0), .int (τ 10 0), .ref (a 6), .ref (a 7)])), (a 1, .inl (cI, 8224, .inl (τ 0))), (a 2, .inl (cI, 1028, .inl (τ 1))), (a 3, .inl (cI, 1028, .inl (τ 2))), (a 4, .inl (cI, 1024, .inl (τ 3))), (a 5, .inl (cI, 1028, .inl (τ 4))), (a 6, .inl (cI, 1028, .inl (τ 5))), (a 7, .inl (cI, 8, .inl (τ 6))), (q18, .inl (cI, 66624, .inl (fun _ => 0)))] := hD
  refine W.eq (g2 := F0 m 20 ls [.ref q18, .ref o]) rfl ?_
  refine va_putF (D := D) (ci := 1) (v := .ref q18) (ty := .array .int) (C := R_Bl) (T := F_Bl) (N := 7) hx hb hts i_Bl t_Bl t_Bl_ok n_Bl hown hok.1 hP hD hS 0 rfl rfl 1 (by decide) (hts _ k_fl_Bl_19) (fun _ h9 => h9) rfl hin rfl (by decide +kernel) rfl rfl (Nat.le_of_ble_eq_true rfl) d_Bl_init_20 (fun H locs hP hD hS => ?_)
  have hP : va_P D classes [(o, .inr (1, [.ref (a 0), .ref q18, .null, .int 0, .int 0, .int 0, .int 0])), (a 0, .inr (0, [.ref (a 1), .ref (a 2), .ref (a 3), .int (τ 7 0), .ref (a 4), .ref (a 5), .int (τ 8 0), .int (τ 9 0), .int (τ 10 0), .ref (a 6), .ref (a 7)])), (a 1, .inl (cI, 8224, .inl (τ 0))), (a 2, .inl (cI, 1028, .inl (τ 1))), (a 3, .inl (cI, 1028, .inl (τ 2))), (a 4, .inl (cI, 1024, .inl (τ 3))), (a 5, .inl (cI, 1028, .inl (τ 4))), (a 6, .inl (cI, 1028, .inl (τ 5))), (a 7, .inl (cI, 8, .inl (τ 6))), (q18, .inl (cI, 66624, .inl (fun _ => 0)))] H := hP
  have hD : va_D A [(o, .inr (1, [.ref (a 0), .ref q18, .null, .int 0, .int 0, .int 0, .int 0])), (a 0, .inr (0, [.ref (a 1), .ref (a 2), .ref (a 3), .int (τ 7 0), .ref (a 4), .ref (a 5), .int (τ 8 0), .int (τ 9 0), .int (τ 10 0), .ref (a 6), .ref (a 7)])), (a 1, .inl (cI, 8224, .inl (τ 0))), (a 2, .inl (cI, 1028, .inl (τ 1))), (a 3, .inl (cI, 1028, .inl (τ 2))), (a 4, .inl (cI, 1024, .inl (τ 3))), (a 5, .inl (cI, 1028, .inl (τ 4))), (a 6, .inl (cI, 1028, .inl (τ 5))), (a 7, .inl (cI, 8, .inl (τ 6))), (q18, .inl (cI, 66624, .inl (fun _ => 0)))] := hD
  refine lv_aload_n hx hb d_Bl_init_23 rfl (lv_at hl 0 rfl) ?_
  refine lv_sipush (v := (2048 : Int32)) hx hb d_Bl_init_24 (by decide) ?_
  refine r_newi 2048 S hok hP hD hS hA rfl (by decide) (by decide) (by decide) d_Bl_init_27 (fun q27 H hP hD hS => ?_)
  have hP : va_P D classes [(o, .inr (1, [.ref (a 0), .ref q18, .null, .int 0, .int 0, .int 0, .int 0])), (a 0, .inr (0, [.ref (a 1), .ref (a 2), .ref (a 3), .int (τ 7 0), .ref (a 4), .ref (a 5), .int (τ 8 0), .int (τ 9 0), .int (τ 10 0), .ref (a 6), .ref (a 7)])), (a 1, .inl (cI, 8224, .inl (τ 0))), (a 2, .inl (cI, 1028, .inl (τ 1))), (a 3, .inl (cI, 1028, .inl (τ 2))), (a 4, .inl (cI, 1024, .inl (τ 3))), (a 5, .inl (cI, 1028, .inl (τ 4))), (a 6, .inl (cI, 1028, .inl (τ 5))), (a 7, .inl (cI, 8, .inl (τ 6))), (q18, .inl (cI, 66624, .inl (fun _ => 0))), (q27, .inl (cI, 2048, .inl (fun _ => 0)))] H := hP
  have hD : va_D A [(o, .inr (1, [.ref (a 0), .ref q18, .null, .int 0, .int 0, .int 0, .int 0])), (a 0, .inr (0, [.ref (a 1), .ref (a 2), .ref (a 3), .int (τ 7 0), .ref (a 4), .ref (a 5), .int (τ 8 0), .int (τ 9 0), .int (τ 10 0), .ref (a 6), .ref (a 7)])), (a 1, .inl (cI, 8224, .inl (τ 0))), (a 2, .inl (cI, 1028, .inl (τ 1))), (a 3, .inl (cI, 1028, .inl (τ 2))), (a 4, .inl (cI, 1024, .inl (τ 3))), (a 5, .inl (cI, 1028, .inl (τ 4))), (a 6, .inl (cI, 1028, .inl (τ 5))), (a 7, .inl (cI, 8, .inl (τ 6))), (q18, .inl (cI, 66624, .inl (fun _ => 0))), (q27, .inl (cI, 2048, .inl (fun _ => 0)))] := hD
  refine W.eq (g2 := F0 m 29 ls [.ref q27, .ref o]) rfl ?_
  refine va_putF (D := D) (ci := 1) (v := .ref q27) (ty := .array .int) (C := R_Bl) (T := F_Bl) (N := 7) hx hb hts i_Bl t_Bl t_Bl_ok n_Bl hown hok.1 hP hD hS 0 rfl rfl 2 (by decide) (hts _ k_fl_Bl_23) (fun _ h9 => h9) rfl hin rfl (by decide +kernel) rfl rfl (Nat.le_of_ble_eq_true rfl) d_Bl_init_29 (fun H locs hP hD hS => ?_)
  have hP : va_P D classes [(o, .inr (1, [.ref (a 0), .ref q18, .ref q27, .int 0, .int 0, .int 0, .int 0])), (a 0, .inr (0, [.ref (a 1), .ref (a 2), .ref (a 3), .int (τ 7 0), .ref (a 4), .ref (a 5), .int (τ 8 0), .int (τ 9 0), .int (τ 10 0), .ref (a 6), .ref (a 7)])), (a 1, .inl (cI, 8224, .inl (τ 0))), (a 2, .inl (cI, 1028, .inl (τ 1))), (a 3, .inl (cI, 1028, .inl (τ 2))), (a 4, .inl (cI, 1024, .inl (τ 3))), (a 5, .inl (cI, 1028, .inl (τ 4))), (a 6, .inl (cI, 1028, .inl (τ 5))), (a 7, .inl (cI, 8, .inl (τ 6))), (q18, .inl (cI, 66624, .inl (fun _ => 0))), (q27, .inl (cI, 2048, .inl (fun _ => 0)))] H := hP
  have hD : va_D A [(o, .inr (1, [.ref (a 0), .ref q18, .ref q27, .int 0, .int 0, .int 0, .int 0])), (a 0, .inr (0, [.ref (a 1), .ref (a 2), .ref (a 3), .int (τ 7 0), .ref (a 4), .ref (a 5), .int (τ 8 0), .int (τ 9 0), .int (τ 10 0), .ref (a 6), .ref (a 7)])), (a 1, .inl (cI, 8224, .inl (τ 0))), (a 2, .inl (cI, 1028, .inl (τ 1))), (a 3, .inl (cI, 1028, .inl (τ 2))), (a 4, .inl (cI, 1024, .inl (τ 3))), (a 5, .inl (cI, 1028, .inl (τ 4))), (a 6, .inl (cI, 1028, .inl (τ 5))), (a 7, .inl (cI, 8, .inl (τ 6))), (q18, .inl (cI, 66624, .inl (fun _ => 0))), (q27, .inl (cI, 2048, .inl (fun _ => 0)))] := hD
  refine lv_aload_n hx hb d_Bl_init_32 rfl (lv_at hl 0 rfl) ?_
  have hP := hP.sub (ws' := wBl cI (fun k => cond (Nat.ble k 7) (a k) (cond (Nat.beq k 8) o (cond (Nat.beq k 9) q18 q27))) (fun _ => []) (fun k => cond (Nat.ble k 10) (τ k) (fun _ => 0))) [1, 2, 3, 4, 5, 6, 7, 8, 0, 9, 10] rfl
  have hD := hD.sub (ws' := wBl cI (fun k => cond (Nat.ble k 7) (a k) (cond (Nat.beq k 8) o (cond (Nat.beq k 9) q18 q27))) (fun _ => []) (fun k => cond (Nat.ble k 10) (τ k) (fun _ => 0))) [1, 2, 3, 4, 5, 6, 7, 8, 0, 9, 10] (by decide) rfl
  have hF : F_Bl_empty (fun k => cond (Nat.ble k 10) (τ k) (fun _ => 0)) (fun τ => BI τ (fun _ => 0) (fun _ => 0) (fun x => x == 0) L00 (fun _ _ => 0) 2048) := s_Bempty (fun _ h _ => h)
  refine r_callVv (As := []) (rest := []) (n := 0) (q0 := 8) S hok (c_Bl_empty l D cI (fun k => cond (Nat.ble k 7) (a k) (cond (Nat.beq k 8) o (cond (Nat.beq k 9) q18 q27))) (fun _ => []) (Fx_nil _) (fun k => cond (Nat.ble k 10) (τ k) (fun _ => 0)) (fun τ => BI τ (fun _ => 0) (fun _ => 0) (fun x => x == 0) L00 (fun _ _ => 0) 2048) hF) k_ml_Bl_26 k_im_Bl_empty k_sel_Bl_empty k_ini_Bl k_code_Bl_empty rfl rfl (by decide +kernel) ⟨by decide, by decide⟩ rfl rfl hP hD hS hA (by decide) (by decide) hl.1 rfl rfl (Nat.le_of_ble_eq_true rfl) d_Bl_init_33 (fun τ2 H locs hq hP hD hS => ?_)
  exact W.vret hx hb hr (fun t ht hW => ⟨⟨(fun k => cond (Nat.ble k 7) (a k) (cond (Nat.beq k 8) o (cond (Nat.beq k 9) q18 q27)), τ2), rfl, ⟨rfl, hq⟩, by rw [ht]; exact hP, hD⟩, hS.F ht⟩) hS.2.2 d_Bl_init_36 hlocks
abbrev rm_Pt_init : Room := { frames := 130, cells := 11, slots := 82058, locals := 2600 }
set_option maxRecDepth 100000 in
set_option maxHeartbeats 4000000 in
theorem c_Pt_init (l : Launch) (D : va_G) (cI : ClassId) (o : Nat) : Cn l y_Pt_init (.code y_Pt_init b_Pt_init 1 none) rm_Pt_init D cI [(o, .inr (2, [.null]))] o (fun a τ => wPt cI a (fun _ => []) τ) (fun a τ => a 11 = o ∧ BI τ (fun _ => 0) (fun _ => 0) (fun x => x == 0) L00 (fun _ _ => 0) 2048) 11 82058 := by
  intro sz
  refine Met.ofW (cc := b_Pt_init) (maxL := 1) (ret := none) (by decide +kernel) rfl ?_
  intro p e s m args below meth c s₁ B hml hv
  obtain ⟨rfl, hsz, hP, hok, hD0⟩ := hv
  subst hsz
  have hx := B.exec
  have hb := B.bytes
  have hr := B.returns
  have hts0 := atoms_spec (ws := .code y_Pt_init b_Pt_init 1 none :: lwg) B.pre
  have hts : ∀ v ∈ lwg, v.before ([.ref o] : List Value).toArray s = true := fun v hv => hts0 v (List.mem_cons_of_mem _ hv)
  have hown : s.vm.findClass "PropertyTrie" = some m.cls := findClass_of_methodNamed B.named
  have hlocks := B.notSynchronized
  have hin : meth.name = "<init>" := (name_of_methodNamed B.named B.method).1
  have S : CallFix p m c b_Pt_init 1 s ([.ref o] : List Value).toArray lwg "PropertyTrie" := ⟨hx, hb, hml, hown, hts⟩
  have hD := hD0.self (sz := s.heap.size)
  generalize hAe : va_A [(o, .inr (2, [.null]))] s.heap.size = A at hD ⊢
  have hA : ∀ q : Nat, s.heap.size ≤ q → A q := fun q h => by rw [← hAe]; exact Or.inr h
  have hS : va_S A s.heap s.heap [] := va_S.rf
  have hP : va_P D classes [(o, .inr (2, [.null]))] s.heap := hP
  have hl := lv_entry ([.ref o]) (n := 1) (Nat.le_of_ble_eq_true rfl)
  rw [lg_entry_eq]
  generalize (lg_sl ([.ref o]) ++ List.replicate (1 - (lg_sl ([.ref o])).length) Slot.unset).toArray = ls at hl ⊢
  have hl : lv_has ls 1 [(0, .ref o)] := hl
  refine lv_aload_n hx hb d_Pt_init_0 rfl (lv_at hl 0 rfl) ?_
  refine W.objInit hx hb hown (hts _ k_ml_Pt_3) (hts _ k_im_Ob_init) (hts _ k_code_Ob_init) rfl (by rw [hml]; exact hl.1) rfl d_Pt_init_1 (Nat.le_of_ble_eq_true rfl) (Nat.le_of_ble_eq_true rfl) ?_
  refine W.eq (g2 := F0 m 4 ls []) rfl ?_
  refine lv_aload_n hx hb d_Pt_init_4 rfl (lv_at hl 0 rfl) ?_
  refine va_new (ci := 1) (fs := [.null, .null, .null, .int 0, .int 0, .int 0, .int 0]) (C := R_Bl) (T := F_Bl) (N := 7) hx hb hts i_Bl t_Bl t_Bl_ok hown (hts _ k_cl_Pt_9) (hts _ k_in_Bl) (hts _ k_ini_Bl) hok.1 hP hD hS hA rfl (by decide) (by decide) (by decide) d_Pt_init_5 (fun q5 H hP hD hS => ?_)
  have hP : va_P D classes [(o, .inr (2, [.null])), (q5, .inr (1, [.null, .null, .null, .int 0, .int 0, .int 0, .int 0]))] H := hP
  have hD : va_D A [(o, .inr (2, [.null])), (q5, .inr (1, [.null, .null, .null, .int 0, .int 0, .int 0, .int 0]))] := hD
  refine lv_dup hx hb d_Pt_init_8 rfl ?_
  have hPc := hP.sub (ws' := [(q5, .inr (1, [.null, .null, .null, .int 0, .int 0, .int 0, .int 0]))]) [1] rfl
  have hDc := hD.sub (ws' := [(q5, .inr (1, [.null, .null, .null, .int 0, .int 0, .int 0, .int 0]))]) [1] (by decide) rfl
  have hFc := va_free (wc := [(q5, .inr (1, [.null, .null, .null, .int 0, .int 0, .int 0, .int 0]))]) hD hS hA [1] rfl
  refine va_callv (va_runI (As := []) (rest := [.ref q5, .ref o]) S (c_Bl_init l D cI q5 H.size) (cwI 0 hts (lwg_G k_code_Bl_init) rfl rfl rfl (hts _ k_ini_Bl) (hts _ k_ml_Pt_11) (hts _ k_im_Bl_init) rfl (by decide +kernel) ⟨by decide, by decide⟩) ⟨fun a U g mk q => by obtain ⟨q0, q1, qP, qK, qD⟩ := q; exact ⟨q0, q1, qP, qK.calling g mk a, qD⟩, fun U hU hW => ⟨rfl, by rw [hU], by rw [hU]; exact hPc, hok.warm hW, hDc.weaken (fun _ _ _ _ => trivial)⟩⟩ rfl rfl hl.1 rfl (lv_room (Nat.le_of_ble_eq_true rfl)) d_Pt_init_9 ⟨by decide, by decide⟩) hS (fun q _ h => hFc q h) hFc (fun u t H1 locs ht hvm h5 hB hz1 hk1 hS => ?_)
  obtain ⟨a, τ⟩ := u
  have ha : a 8 = q5 := h5.1
  subst ha
  obtain ⟨hP1, hD1⟩ := hB
  rw [ht] at hP1
  obtain ⟨hP2, hD2⟩ := va_join (wr := [(o, .inr (2, [.null]))]) (w1 := wBl cI a (fun _ => []) τ) hP hD [1] [0] rfl rfl (by decide) (by decide) hk1 hFc hP1 hD1
  clear hP hD
  have hP := hP2
  have hD := hD2
  clear hP2 hP1
  generalize H1 = H at hP hS ⊢
  have hP : va_P D classes [(o, .inr (2, [.null])), (a 0, .inr (0, [.ref (a 1), .ref (a 2), .ref (a 3), .int (τ 7 0), .ref (a 4), .ref (a 5), .int (τ 8 0), .int (τ 9 0), .int (τ 10 0), .ref (a 6), .ref (a 7)])), (a 1, .inl (cI, 8224, .inl (τ 0))), (a 2, .inl (cI, 1028, .inl (τ 1))), (a 3, .inl (cI, 1028, .inl (τ 2))), (a 4, .inl (cI, 1024, .inl (τ 3))), (a 5, .inl (cI, 1028, .inl (τ 4))), (a 6, .inl (cI, 1028, .inl (τ 5))), (a 7, .inl (cI, 8, .inl (τ 6))), (a 8, .inr (1, [.ref (a 0), .ref (a 9), .ref (a 10), .int (τ 13 0), .int (τ 14 0), .int (τ 15 0), .int (τ 16 0)])), (a 9, .inl (cI, 66624, .inl (τ 11))), (a 10, .inl (cI, 2048, .inl (τ 12)))] H := hP
  have hD : va_D A [(o, .inr (2, [.null])), (a 0, .inr (0, [.ref (a 1), .ref (a 2), .ref (a 3), .int (τ 7 0), .ref (a 4), .ref (a 5), .int (τ 8 0), .int (τ 9 0), .int (τ 10 0), .ref (a 6), .ref (a 7)])), (a 1, .inl (cI, 8224, .inl (τ 0))), (a 2, .inl (cI, 1028, .inl (τ 1))), (a 3, .inl (cI, 1028, .inl (τ 2))), (a 4, .inl (cI, 1024, .inl (τ 3))), (a 5, .inl (cI, 1028, .inl (τ 4))), (a 6, .inl (cI, 1028, .inl (τ 5))), (a 7, .inl (cI, 8, .inl (τ 6))), (a 8, .inr (1, [.ref (a 0), .ref (a 9), .ref (a 10), .int (τ 13 0), .int (τ 14 0), .int (τ 15 0), .int (τ 16 0)])), (a 9, .inl (cI, 66624, .inl (τ 11))), (a 10, .inl (cI, 2048, .inl (τ 12)))] := hD
  refine W.eq (g2 := F0 m 12 ls [.ref (a 8), .ref o]) rfl ?_
  refine va_putF (D := D) (ci := 2) (v := .ref (a 8)) (ty := .object "PropertyTrie$Blocks") (C := R_Pt) (T := F_Pt) (N := 1) hx hb hts i_Pt t_Pt t_Pt_ok n_Pt hown hok.1 hP hD hS 0 rfl rfl 0 (by decide) (hts _ k_fl_Pt_12) (fun _ h9 => h9) rfl hin rfl (by decide +kernel) rfl rfl (Nat.le_of_ble_eq_true rfl) d_Pt_init_12 (fun H locs hP hD hS => ?_)
  have hP : va_P D classes [(o, .inr (2, [.ref (a 8)])), (a 0, .inr (0, [.ref (a 1), .ref (a 2), .ref (a 3), .int (τ 7 0), .ref (a 4), .ref (a 5), .int (τ 8 0), .int (τ 9 0), .int (τ 10 0), .ref (a 6), .ref (a 7)])), (a 1, .inl (cI, 8224, .inl (τ 0))), (a 2, .inl (cI, 1028, .inl (τ 1))), (a 3, .inl (cI, 1028, .inl (τ 2))), (a 4, .inl (cI, 1024, .inl (τ 3))), (a 5, .inl (cI, 1028, .inl (τ 4))), (a 6, .inl (cI, 1028, .inl (τ 5))), (a 7, .inl (cI, 8, .inl (τ 6))), (a 8, .inr (1, [.ref (a 0), .ref (a 9), .ref (a 10), .int (τ 13 0), .int (τ 14 0), .int (τ 15 0), .int (τ 16 0)])), (a 9, .inl (cI, 66624, .inl (τ 11))), (a 10, .inl (cI, 2048, .inl (τ 12)))] H := hP
  have hD : va_D A [(o, .inr (2, [.ref (a 8)])), (a 0, .inr (0, [.ref (a 1), .ref (a 2), .ref (a 3), .int (τ 7 0), .ref (a 4), .ref (a 5), .int (τ 8 0), .int (τ 9 0), .int (τ 10 0), .ref (a 6), .ref (a 7)])), (a 1, .inl (cI, 8224, .inl (τ 0))), (a 2, .inl (cI, 1028, .inl (τ 1))), (a 3, .inl (cI, 1028, .inl (τ 2))), (a 4, .inl (cI, 1024, .inl (τ 3))), (a 5, .inl (cI, 1028, .inl (τ 4))), (a 6, .inl (cI, 1028, .inl (τ 5))), (a 7, .inl (cI, 8, .inl (τ 6))), (a 8, .inr (1, [.ref (a 0), .ref (a 9), .ref (a 10), .int (τ 13 0), .int (τ 14 0), .int (τ 15 0), .int (τ 16 0)])), (a 9, .inl (cI, 66624, .inl (τ 11))), (a 10, .inl (cI, 2048, .inl (τ 12)))] := hD
  have hP := hP.sub (ws' := wPt cI (fun k => cond (Nat.ble k 10) (a k) o) (fun _ => []) τ) [1, 2, 3, 4, 5, 6, 7, 8, 9, 10, 11, 0] rfl
  have hD := hD.sub (ws' := wPt cI (fun k => cond (Nat.ble k 10) (a k) o) (fun _ => []) τ) [1, 2, 3, 4, 5, 6, 7, 8, 9, 10, 11, 0] (by decide) rfl
  exact W.vret hx hb hr (fun t ht hW => ⟨⟨(fun k => cond (Nat.ble k 10) (a k) o, τ), rfl, ⟨rfl, h5.2⟩, by rw [ht]; exact hP, hD⟩, hS.F ht⟩) hS.2.2 d_Pt_init_15 hlocks
abbrev rm_Mo_init : Room := { frames := 20, cells := 2, slots := 81000, locals := 400 }
set_option maxRecDepth 100000 in
set_option maxHeartbeats 4000000 in
theorem c_Mo_init (l : Launch) (D : va_G) (cI : ClassId) (o : Nat) : Cn l y_Mo_init (.code y_Mo_init b_Mo_init 1 none) rm_Mo_init D cI [(o, .inr (3, [.int 0, .int 0, .null, .null]))] o (fun a τ => WMo cI a τ ++ []) (fun a τ => a 12 = o ∧ MS τ (fun _ => 0) 1 ∧ MV τ (fun _ => 0) 1 (fun _ _ => 0) ∧ τ 19 0 = 0) 2 81000 := by
  intro sz
  refine Met.ofW (cc := b_Mo_init) (maxL := 1) (ret := none) (by decide +kernel) rfl ?_
  intro p e s m args below meth c s₁ B hml hv
  obtain ⟨rfl, hsz, hP, hok, hD0⟩ := hv
  subst hsz
  have hx := B.exec
  have hb := B.bytes
  have hr := B.returns
  have hts0 := atoms_spec (ws := .code y_Mo_init b_Mo_init 1 none :: lwg) B.pre
  have hts : ∀ v ∈ lwg, v.before ([.ref o] : List Value).toArray s = true := fun v hv => hts0 v (List.mem_cons_of_mem _ hv)
  have hown : s.vm.findClass "PropertyTrieModel" = some m.cls := findClass_of_methodNamed B.named
  have hlocks := B.notSynchronized
  have hin : meth.name = "<init>" := (name_of_methodNamed B.named B.method).1
  have S : CallFix p m c b_Mo_init 1 s ([.ref o] : List Value).toArray lwg "PropertyTrieModel" := ⟨hx, hb, hml, hown, hts⟩
  have hD := hD0.self (sz := s.heap.size)
  generalize hAe : va_A [(o, .inr (3, [.int 0, .int 0, .null, .null]))] s.heap.size = A at hD ⊢
  have hA : ∀ q : Nat, s.heap.size ≤ q → A q := fun q h => by rw [← hAe]; exact Or.inr h
  have hS : va_S A s.heap s.heap [] := va_S.rf
  have hP : va_P D classes [(o, .inr (3, [.int 0, .int 0, .null, .null]))] s.heap := hP
  have hl := lv_entry ([.ref o]) (n := 1) (Nat.le_of_ble_eq_true rfl)
  rw [lg_entry_eq]
  generalize (lg_sl ([.ref o]) ++ List.replicate (1 - (lg_sl ([.ref o])).length) Slot.unset).toArray = ls at hl ⊢
  have hl : lv_has ls 1 [(0, .ref o)] := hl
  refine lv_aload_n hx hb d_Mo_init_0 rfl (lv_at hl 0 rfl) ?_
  refine W.objInit hx hb hown (hts _ k_ml_Mo_1) (hts _ k_im_Ob_init) (hts _ k_code_Ob_init) rfl (by rw [hml]; exact hl.1) rfl d_Mo_init_1 (Nat.le_of_ble_eq_true rfl) (Nat.le_of_ble_eq_true rfl) ?_
  refine W.eq (g2 := F0 m 4 ls []) rfl ?_
  refine lv_aload_n hx hb d_Mo_init_4 rfl (lv_at hl 0 rfl) ?_
  refine lv_iconst (v := (1 : Int32)) hx hb d_Mo_init_5 (by decide) ?_
  refine va_put (D := D) (ci := 3) (v := .int (1 : Int32)) (ty := .int) (C := R_Mo) (T := F_Mo) (N := 4) hx hb hts i_Mo t_Mo t_Mo_ok n_Mo hown hok.1 hP hD hS 0 rfl rfl 1 (by decide) (hts _ k_fl_Mo_7) (fun _ h9 => h9) rfl (by decide +kernel) rfl rfl (Nat.le_of_ble_eq_true rfl) d_Mo_init_6 (fun H locs hP hD hS => ?_)
  have hP : va_P D classes [(o, .inr (3, [.int 0, .int (1 : Int32), .null, .null]))] H := hP
  have hD : va_D A [(o, .inr (3, [.int 0, .int (1 : Int32), .null, .null]))] := hD
  refine lv_aload_n hx hb d_Mo_init_9 rfl (lv_at hl 0 rfl) ?_
  refine lv_sipush (v := (9000 : Int32)) hx hb d_Mo_init_10 (by decide) ?_
  refine r_newi 9000 S hok hP hD hS hA rfl (by decide) (by decide) (by decide) d_Mo_init_13 (fun q13 H hP hD hS => ?_)
  have hP : va_P D classes [(o, .inr (3, [.int 0, .int (1 : Int32), .null, .null])), (q13, .inl (cI, 9000, .inl (fun _ => 0)))] H := hP
  have hD : va_D A [(o, .inr (3, [.int 0, .int (1 : Int32), .null, .null])), (q13, .inl (cI, 9000, .inl (fun _ => 0)))] := hD
  refine W.eq (g2 := F0 m 15 ls [.ref q13, .ref o]) rfl ?_
  refine va_putF (D := D) (ci := 3) (v := .ref q13) (ty := .array .int) (C := R_Mo) (T := F_Mo) (N := 4) hx hb hts i_Mo t_Mo t_Mo_ok n_Mo hown hok.1 hP hD hS 0 rfl rfl 2 (by decide) (hts _ k_fl_Mo_13) (fun _ h9 => h9) rfl hin rfl (by decide +kernel) rfl rfl (Nat.le_of_ble_eq_true rfl) d_Mo_init_15 (fun H locs hP hD hS => ?_)
  have hP : va_P D classes [(o, .inr (3, [.int 0, .int (1 : Int32), .ref q13, .null])), (q13, .inl (cI, 9000, .inl (fun _ => 0)))] H := hP
  have hD : va_D A [(o, .inr (3, [.int 0, .int (1 : Int32), .ref q13, .null])), (q13, .inl (cI, 9000, .inl (fun _ => 0)))] := hD
  refine lv_aload_n hx hb d_Mo_init_18 rfl (lv_at hl 0 rfl) ?_
  refine lv_ldc (v := (72000 : Int32)) hx hb hown (hts _ k_cst_Mo_17) d_Mo_init_19 ?_
  refine r_newi 72000 S hok hP hD hS hA rfl (by decide) (by decide) (by decide) d_Mo_init_21 (fun q21 H hP hD hS => ?_)
  have hP : va_P D classes [(o, .inr (3, [.int 0, .int (1 : Int32), .ref q13, .null])), (q13, .inl (cI, 9000, .inl (fun _ => 0))), (q21, .inl (cI, 72000, .inl (fun _ => 0)))] H := hP
  have hD : va_D A [(o, .inr (3, [.int 0, .int (1 : Int32), .ref q13, .null])), (q13, .inl (cI, 9000, .inl (fun _ => 0))), (q21, .inl (cI, 72000, .inl (fun _ => 0)))] := hD
  refine W.eq (g2 := F0 m 23 ls [.ref q21, .ref o]) rfl ?_
  refine va_putF (D := D) (ci := 3) (v := .ref q21) (ty := .array .int) (C := R_Mo) (T := F_Mo) (N := 4) hx hb hts i_Mo t_Mo t_Mo_ok n_Mo hown hok.1 hP hD hS 0 rfl rfl 3 (by decide) (hts _ k_fl_Mo_18) (fun _ h9 => h9) rfl hin rfl (by decide +kernel) rfl rfl (Nat.le_of_ble_eq_true rfl) d_Mo_init_23 (fun H locs hP hD hS => ?_)
  have hP : va_P D classes [(o, .inr (3, [.int 0, .int (1 : Int32), .ref q13, .ref q21])), (q13, .inl (cI, 9000, .inl (fun _ => 0))), (q21, .inl (cI, 72000, .inl (fun _ => 0)))] H := hP
  have hD : va_D A [(o, .inr (3, [.int 0, .int (1 : Int32), .ref q13, .ref q21])), (q13, .inl (cI, 9000, .inl (fun _ => 0))), (q21, .inl (cI, 72000, .inl (fun _ => 0)))] := hD
  have hP := hP.sub (ws' := WMo cI (fun k => cond (Nat.beq k 12) o (cond (Nat.beq k 13) q13 q21)) (fun k => cond (Nat.beq k 20) (fun _ => 1) (fun _ => 0)) ++ []) [0, 1, 2] rfl
  have hD := hD.sub (ws' := WMo cI (fun k => cond (Nat.beq k 12) o (cond (Nat.beq k 13) q13 q21)) (fun k => cond (Nat.beq k 20) (fun _ => 1) (fun _ => 0)) ++ []) [0, 1, 2] (by decide) rfl
  exact W.vret hx hb hr (fun t ht hW => ⟨⟨(fun k => cond (Nat.beq k 12) o (cond (Nat.beq k 13) q13 q21), fun k => cond (Nat.beq k 20) (fun _ => 1) (fun _ => 0)), rfl, ⟨rfl, MS_new, MV_new, rfl⟩, by rw [ht]; exact hP, hD⟩, hS.F ht⟩) hS.2.2 d_Mo_init_26 hlocks
end
section
/-- what a call that throws leaves: a new object of class X thrown, nothing that was there changed -/
def TQ (X : String) (mc ms : Nat) (st : State) (o : Outcome) (t : State) : Prop :=
  ∃ b : Addr, o = .threw b ∧ (∃ ce : Cell, t.heap[b]? = some ce ∧ ce.vm = .none ∧ st.vm.findClass X = some ce.cls) ∧ st.WarmedH t.vm ∧ st.sameButNew ({ t with vm := st.vm } : State) [] mc ms
/-- the contract of a method that throws -/
def MetT (l : Launch) (y : MethodName) (ws : List Cond) (rm : Room) (Pc : Array Value → State → Prop) (X : String) (mc ms : Nat) : Prop :=
  MetFree l y (headSpec ws rm) Pc (fun _ _ _ _ _ => True) (fun _ st o t => TQ X mc ms st o t)
def TE (below : List Frame) (X : String) (s : State) (mc ms : Nat) : State → Prop := fun t => ∃ o, t.status = .running ∧ Ended t below o ∧ TQ X mc ms s o t
theorem MetT.ofW {l : Launch} {y : MethodName} {ws ws' : List Cond} {rm : Room} {Pc : Array Value → State → Prop} {X : String} {mc ms : Nat} {cc : ByteArray} {maxL : Nat} {ret : Option FieldType}
    (hy : plainName y.cls = true) (hw : ws = Cond.code y cc maxL ret :: ws')
    (body : ∀ p e s m args below meth c s₁, BodyLoose p l y (headSpec ws rm) cc maxL ret e s m args below meth c s₁ → c.maxLocals = maxL → (∀ x ∈ c.exceptionTable.toList, False) → Pc args s →
      W p l e (headSpec ws rm).room s m args below meth c s.heap [] 0 0 (TE below X s mc ms) (entryFrame m args maxL)) : MetT l y ws rm Pc X mc ms := by
  refine MetFree.of_bodyS (code := cc) (maxLocals := maxL) (ret := ret) hy ?_ ?_
  · intro args s m h hn
    obtain ⟨meth, c, h1, h2, h3, h4, h5, h6, -, -⟩ := Cond.code_spec hn (atoms_spec (ws := ws) h _ (by rw [hw]; exact List.mem_cons_self))
    exact ⟨meth, c, h1, h2, h3, h4, h5, h6⟩
  · intro p e s m args below meth c s₁ B hml hP _
    have hh0 : s₁.heap = s.heap := by rw [B.state]; rfl
    have hex : ∀ x ∈ c.exceptionTable.toList, False := by
      obtain ⟨meth', c', h1, h2, -, -, -, -, h7, -⟩ := Cond.code_spec B.named (atoms_spec (ws := ws) B.pre _ (by rw [hw]; exact List.mem_cons_self))
      cases B.method.symm.trans h1
      have hc : meth.code = some c := (Stand.of_body B).code
      cases hc.symm.trans h2
      intro x hx
      rw [Array.isEmpty_iff] at h7
      rw [h7] at hx
      simp at hx
    obtain ⟨t, a1, o, b1, b2, b3⟩ := body p e s m args below meth c s₁ B hml hex hP s₁ hh0 (Stand.of_body B)
    exact ⟨t, o, a1, b1, b2, b3⟩
theorem keep_of {U V : State} {k n : Nat} (h : U.sameButNew V [] k n) (q : Addr) (cell : Cell) (hq : U.heap[q]? = some cell) : V.heap[q]? = some cell := by
  obtain ⟨c', h1, h2, h3, h4⟩ := h.2.2.2.2.2 q cell hq
  have e : c'.slots = cell.slots := Array.ext_getElem? (fun i => h4 i List.not_mem_nil)
  have e2 : c' = cell := h2.trans (by rw [e])
  rw [h1, e2]
/-- the premise on a callee that throws -/
def BackT (l : Launch) (R : Room) (p : Program) (e : Env) (below : List Frame) (s : State) (sargs : Array Value) (y : MethodName) (len wd : Nat) (Pre : Pt → Array Value → Prop) (X : String) (mc ms : Nat) : Prop :=
  ∀ (m : MethodId) (meth : Method) (c : Code) (U : State) (locs : List Loc) (cells slots : Nat) (g : JFrame) (ig : Instr) (mk : MethodId) (a : Array Value),
    Stand p l e R s m sargs below meth c U locs cells slots → g.method = m → g.locals.size = c.maxLocals → decode c.code g.pc = .ok (ig, len) →
    2 * g.monitorRoom + (g.stack.map fun v => v.category).sum ≤ wd → U.methodNamed? y = some mk → Pre ⟨U, locs, cells, slots⟩ a →
    ∃ (b : Addr) (V : State), Stand p l e R s m sargs below meth c V locs (cells + mc) (slots + ms) ∧ (∃ ce : Cell, V.heap[b]? = some ce ∧ ce.vm = .none ∧ U.vm.findClass X = some ce.cls) ∧ (∀ (q : Addr) (cell : Cell), U.heap[q]? = some cell → V.heap[q]? = some cell) ∧ U.heap.size ≤ V.heap.size ∧
      Steps p.tables e below (doInvoke e (U.setTop g) [] mk a).1 ((V.setTop g).pushFrame (.throwing b))
section THB
variable {l : Launch} {R : Room} {p : Program} {e : Env} {below : List Frame} {s : State} {sargs : Array Value} {y : MethodName} {len wd : Nat}
theorem backT {ws : List Cond} {rm : Room} {Pc : Array Value → State → Prop} {X : String} {mc ms : Nat} {bytes : ByteArray} {maxL : Nat} {ret : Option FieldType}
    (hM : MetT l y ws rm Pc X mc ms) (hblind : FrameBlind Pc) (hrc : rm.cells = mc) (hrs : rm.slots = ms)
    (hframes : rm.frames + 1 ≤ R.frames) (hlocals : wd + (maxL + 11) + rm.locals ≤ R.locals)
    (hws : ∀ w ∈ ws, ∀ a' U, s.WarmedH U.vm → w.before a' U = true) (hcode : Cond.code y bytes maxL ret ∈ ws) (hinit : ∀ a' U, s.WarmedH U.vm → (Cond.initialized y.cls).before a' U = true) :
    BackT l R p e below s sargs y len wd (PreOf R mc ms Pc) X mc ms := by
  intro m meth c U Ls c0 s0 g ig mk a X hg hsize hdg hW hn hp
  obtain ⟨hp1, hp2, hp3⟩ := hp
  have hp1 : c0 + mc ≤ R.cells := hp1
  have hp2 : s0 + ms ≤ R.slots := hp2
  have hp3 : Pc a U := hp3
  have h1 : (headSpec ws rm).pre.before a U = true := atoms_intro fun w hw => hws w hw _ _ X.warmed
  have h2 : (Cond.code y bytes maxL ret).before a U = true := hws _ hcode _ _ X.warmed
  have h3 := hinit a U X.warmed
  have hlo : wd + (maxL + 11) + (headSpec ws rm).room.locals ≤ R.locals := hlocals
  obtain ⟨methY, cY, hmY, hcY, -, hlY, -, -, -, -⟩ := Cond.code_spec hn h2
  obtain ⟨kY, hkY, -⟩ := className_of_methodNamed hn
  have hinitY : kY.init = .initialized := Cond.initialized_spec (findClass_of_methodNamed hn) hkY h3
  have h : At U g.method c below := by rw [hg]; exact X.here
  have happ : (headSpec ws rm).appliesLoose y e.platform (U.calling g mk a) = true :=
    Spec.appliesLoose_calling (g := g) h hdg hn hkY hinitY
      (X.room_calling (g := g) (R' := (headSpec ws rm).room) hsize hmY hcY hframes (by rw [hlY]; omega) (by rw [show (headSpec ws rm).room.cells = mc from hrc]; exact hp1) (by rw [show (headSpec ws rm).room.slots = ms from hrs]; exact hp2)) h1
  obtain ⟨mid, hmid⟩ := h.above
  have hfr : (U.setTop g).frames = (.java g :: mid) ++ below := by rw [State.frames_setTop' g h.top, hmid]; rfl
  obtain ⟨o, s₂, hsteps, -, hend, hq⟩ := Steps.callFree hM p X.admits X.cas X.clock (acts := []) hfr happ (hblind _ _ _ _ hp3) trivial
  rw [State.frames_setTop' g h.top] at hend
  obtain ⟨b, rfl, ⟨ce, hce1, hce2, hce3⟩, hW₂, hsame0⟩ := hq
  obtain ⟨e2, q2, q3, q4, q5, q6⟩ := id hsame0
  have e2 : ({ s₂ with vm := (U.calling g mk a).vm } : State) = { (U.calling g mk a).setFrames s₂.frames with heap := s₂.heap, slotsUsed := s₂.slotsUsed } := e2
  have e3 : s₂ = ({ (U.calling g mk a).setFrames s₂.frames with heap := s₂.heap, slotsUsed := s₂.slotsUsed } : State).setVm s₂.vm := by
    have : s₂ = ({ s₂ with vm := (U.calling g mk a).vm } : State).setVm s₂.vm := rfl
    rw [e2] at this
    exact this
  have hf₂ : s₂.frames = .throwing b :: .java g :: U.frames.tail := hend
  have hW' : U.WarmedH s₂.vm := hW₂
  obtain ⟨g₀, hg0⟩ := Option.isSome_iff_exists.mp h.top
  obtain ⟨r, hr⟩ := State.topJava?_eq_some.mp hg0
  have hs₂ : s₂ = ((({ U with heap := s₂.heap, slotsUsed := s₂.slotsUsed } : State).setVm s₂.vm).setTop g).pushFrame (.throwing b) := by
    have hr' : (({ U with heap := s₂.heap, slotsUsed := s₂.slotsUsed } : State).setVm s₂.vm).frames = .java g₀ :: r := hr
    refine e3.trans ?_
    rw [hf₂, State.calling_eq h.top, State.setFrames_setFrames, State.pushFrame, State.frames_setTop _ hr', State.setTop_of_frames _ hr', State.setFrames_setFrames, hr]
    rfl
  have hsame : U.sameButNew ({ U with heap := s₂.heap, slotsUsed := s₂.slotsUsed } : State) [] mc ms := by
    refine ⟨?_, q2, q3, q4, q5, q6⟩
    obtain ⟨t, ht, -⟩ := State.frames_cons hr
    show ({ U with heap := s₂.heap, slotsUsed := s₂.slotsUsed } : State) = { U.setFrames U.frames with heap := s₂.heap, slotsUsed := s₂.slotsUsed }
    rw [State.setFrames_self ht]
  subst hg
  have hst := X.same.trans (hsame.setVm s.vm)
  rw [List.append_nil] at hst
  refine ⟨b, (({ U with heap := s₂.heap, slotsUsed := s₂.slotsUsed } : State).setVm s₂.vm),
    ⟨X.admits, X.cas, X.clock, X.frames, X.room, X.hears, X.method, X.code, (X.here.setHeapUsed s₂.heap s₂.slotsUsed).setVm hW'.alike, X.tail, State.WarmedH.trans X.warmed hW', X.limits, X.bytes, hst⟩,
    ⟨ce, hce1, hce2, hce3⟩, fun q cell hq => keep_of hsame q cell hq, q2, ?_⟩
  rw [← hs₂]
  exact hsteps
end THB
section THC
variable {p : Program} {l : Launch} {e : Env} {R : Room} {s : State} {m : MethodId} {args : Array Value} {below : List Frame} {meth : Method} {c : Code} {T : State} {locs : List Loc} {cells slots : Nat}
theorem thrS (X : Stand p l e R s m args below meth c T locs cells slots) (hexec : p.tables.exec = Jvm.exec) {own : String} {index : Nat} {y : MethodName} {bytes : ByteArray} {maxL : Nat} {ret : Option FieldType}
    (hown : s.vm.findClass own = some m.cls) (hlink : (Cond.methodLink own index y).before args s = true) (hstat : (Cond.static y).before args s = true) (hinit : (Cond.initialized y.cls).before args s = true)
    (hcode : (Cond.code y bytes maxL ret).before args s = true) (hy : y.cls ≠ "java/lang/invoke/MethodHandle" ∧ y.cls ≠ "java/lang/invoke/VarHandle")
    {wd : Nat} {Pre : Pt → Array Value → Prop} {Xc : String} {mc ms : Nat} (hK : BackT l R p e below s args y 3 wd Pre Xc mc ms)
    {g : JFrame} (hg : g.method = m) (hsize : g.locals.size = c.maxLocals) {argsL rest : List Value} (hlen : ∀ sig, parseMethodDescriptor y.desc = some sig → argsL.length = sig.parameters.length)
    (hstack : g.stack = argsL.reverse ++ rest) (hW : 2 * g.monitorRoom + (rest.map fun v => v.category).sum ≤ wd) (hdg : decode c.code g.pc = .ok (.invokestatic index, 3))
    (hpre : ∀ vm₁, s.WarmedH vm₁ → Pre ⟨T.setVm vm₁, locs, cells, slots⟩ argsL.toArray) :
    ∃ (b : Addr) (V : State), Stand p l e R s m args below meth c V locs (cells + mc) (slots + ms) ∧ (∃ ce : Cell, V.heap[b]? = some ce ∧ ce.vm = .none ∧ s.vm.findClass Xc = some ce.cls) ∧ (∀ (q : Addr) (cell : Cell), T.heap[q]? = some cell → V.heap[q]? = some cell) ∧ T.heap.size ≤ V.heap.size ∧
      ∀ target, Steps p.tables e below ((V.setTop { g with stack := rest }).pushFrame (.throwing b)) target → Steps p.tables e below (T.setTop g) target := by
  obtain ⟨mk, hnamed⟩ := Cond.code_named hcode
  obtain ⟨methM, cM, hmethM, -, -, -, -, -, -, hsigM⟩ := Cond.code_spec hnamed hcode
  have hstatic : methM.isStatic = true := Cond.static_spec hnamed hmethM hstat
  obtain ⟨kP, hkP, -⟩ := className_of_methodNamed hnamed
  have hinitP : kP.init = .initialized := Cond.initialized_spec (findClass_of_methodNamed hnamed) hkP hinit
  obtain ⟨vm₁, X₁, hstep₁⟩ := X.invokestatic hexec hown hlink hnamed hmethM hstatic hkP hinitP hy (g := g) hg (argsL := argsL) (rest := rest) (hlen _ hsigM) hstack hdg
  obtain ⟨b, V, X', ⟨ce, h1, h2, h3⟩, h4, h5, hsteps⟩ := hK m meth c (T.setVm vm₁) locs cells slots { g with stack := rest } (.invokestatic index) mk argsL.toArray X₁ hg hsize hdg hW (X₁.named hnamed) (hpre vm₁ X₁.warmed)
  exact ⟨b, V, X', ⟨ce, h1, h2, (X₁.warmed.alike.findClass Xc none).symm.trans h3⟩, h4, h5, fun target h => hstep₁ _ fun acts => by rw [doInvoke_state]; exact hsteps.trans h⟩
theorem thrV (X : Stand p l e R s m args below meth c T locs cells slots) (hexec : p.tables.exec = Jvm.exec) {own C : String} {index : Nat} {y : MethodName} {bytes : ByteArray} {maxL : Nat} {ret : Option FieldType}
    (hown : s.vm.findClass own = some m.cls) (hlink : (Cond.methodLink own index y).before args s = true) (hinst : (Cond.instanceMethod y).before args s = true) (hsel : (Cond.selects C y y).before args s = true)
    (hcode : (Cond.code y bytes maxL ret).before args s = true) (hy : y.cls ≠ "java/lang/invoke/MethodHandle" ∧ y.cls ≠ "java/lang/invoke/VarHandle")
    {wd : Nat} {Pre : Pt → Array Value → Prop} {Xc : String} {mc ms : Nat} (hK : BackT l R p e below s args y 3 wd Pre Xc mc ms)
    {b0 : Addr} {cellB : Cell} (hcell : T.heap[b0]? = some cellB) (hobj : cellB.vm.isStatics = false) (hcls : s.vm.findClass C = some cellB.cls)
    {g : JFrame} (hg : g.method = m) (hsize : g.locals.size = c.maxLocals) {argsL rest : List Value} (hlen : ∀ sig, parseMethodDescriptor y.desc = some sig → argsL.length = sig.parameters.length)
    (hstack : g.stack = argsL.reverse ++ .ref b0 :: rest) (hW : 2 * g.monitorRoom + (rest.map fun v => v.category).sum ≤ wd) (hdg : decode c.code g.pc = .ok (.invokevirtual index, 3))
    (hpre : ∀ vm₁, s.WarmedH vm₁ → Pre ⟨T.setVm vm₁, locs, cells, slots⟩ (Value.ref b0 :: argsL).toArray) :
    ∃ (b : Addr) (V : State), Stand p l e R s m args below meth c V locs (cells + mc) (slots + ms) ∧ (∃ ce : Cell, V.heap[b]? = some ce ∧ ce.vm = .none ∧ s.vm.findClass Xc = some ce.cls) ∧ (∀ (q : Addr) (cell : Cell), T.heap[q]? = some cell → V.heap[q]? = some cell) ∧ T.heap.size ≤ V.heap.size ∧
      ∀ target, Steps p.tables e below ((V.setTop { g with stack := rest }).pushFrame (.throwing b)) target → Steps p.tables e below (T.setTop g) target := by
  obtain ⟨mk, methM, hnamed, hmethM, hstM, habM⟩ := Cond.instanceMethod_spec hinst
  obtain ⟨methM', cM, hmethM', -, -, -, -, -, -, hsigM⟩ := Cond.code_spec hnamed hcode
  cases hmethM.symm.trans hmethM'
  obtain ⟨c2, r2, m2, q1, q2, q3, q4, kP, hkP, hkPi⟩ := Cond.selects_spec hsel
  cases hcls.symm.trans q1
  cases (State.methodFound?_of_named hnamed hy).symm.trans q2
  cases hnamed.symm.trans q3
  have hselP : selectMethod e.platform s.vm cellB.cls mk = .method mk := by rw [Launch.admits_selectMethod X.admits]; exact q4
  obtain ⟨vm₁, X₁, hstep₁⟩ := X.invokevirtual hexec hown hlink hnamed hmethM hstM hkP hkPi hy (a := b0) (cell := cellB) hcell
    (fun z h => by rw [h] at hobj; cases hobj) hselP hmethM habM hkP hkPi (g := g) hg (argsL := argsL) (rest := rest) (hlen _ hsigM) hstack hdg
  obtain ⟨b, V, X', ⟨ce, h1, h2, h3⟩, h4, h5, hsteps⟩ := hK m meth c (T.setVm vm₁) locs cells slots { g with stack := rest } (.invokevirtual index) mk (Value.ref b0 :: argsL).toArray X₁ hg hsize hdg hW (X₁.named hnamed) (hpre vm₁ X₁.warmed)
  exact ⟨b, V, X', ⟨ce, h1, h2, (X₁.warmed.alike.findClass Xc none).symm.trans h3⟩, h4, h5, fun target h => hstep₁ _ fun acts => by rw [doInvoke_state]; exact hsteps.trans h⟩
/-- nothing has been done yet, and the call throws: so does the method -/
theorem tqOut {V : State} {g : JFrame} {b : Addr} {Xc : String} {mc ms : Nat} (X : Stand p l e R s m args below meth c V [] mc ms) (hlocks : meth.locks = false) (hce : ∃ ce : Cell, V.heap[b]? = some ce ∧ ce.vm = .none ∧ s.vm.findClass Xc = some ce.cls)
    (hg : g.method = m) (hlocked : g.locked = none) (hentered : g.entered = []) (hex : ∀ x ∈ c.exceptionTable.toList, False) :
    ∃ t, Steps p.tables e below ((V.setTop g).pushFrame (.throwing b)) t ∧ TE below Xc s mc ms t := by
  obtain ⟨h1, h2, h3, h4, h5⟩ := X.leaveThrown b hg hlocked hentered (fun x hx => (hex x hx).elim) hlocks
  exact ⟨_, h1, .threw b, h2, h3, b, rfl, hce, h4, h5⟩
end THC
abbrev xIA : String := "java/lang/IllegalArgumentException"
abbrev xUp : List String := ["java/lang/RuntimeException", "java/lang/Exception"]
section THW
variable {p : Program} {l : Launch} {e : Env} {R : Room} {s : State} {m : MethodId} {args : Array Value} {below : List Frame} {meth : Method} {c : Code} {H : Heap} {cc : ByteArray} {pc nL : Nat} {ls : Array Slot} {rest : List Value} {own : String} {index : Nat}
theorem r_thrS {n maxL mc ms : Nat} {y : MethodName} {bytes : ByteArray} {ret : Option FieldType} {rm : Room} {K : State → Prop} {As st : List Value} {Xc : String}
    (S : CallFix p m c cc nL s args lwg own) (hM : MetT l y (.code y bytes maxL ret :: lwg) rm (va_Pc As K) Xc mc ms) (hKb : ∀ (U : State) (g : JFrame) (mk : MethodId) (av : Array Value), K U → K (U.calling g mk av)) (hK : ∀ U : State, U.heap = H → s.WarmedH U.vm → K U)
    (h1 : Cond.methodLink own index y ∈ lwg) (h2 : Cond.static y ∈ lwg) (h4 : Cond.initialized y.cls ∈ lwg) (h5 : Cond.code y bytes maxL ret ∈ lwg) (hrc : rm.cells = mc) (hrs : rm.slots = ms)
    (hd : y.cls ≠ "java/lang/invoke/MethodHandle" ∧ y.cls ≠ "java/lang/invoke/VarHandle" ∧ (parseMethodDescriptor y.desc).map (fun d => d.parameters.length) = some n) (hR : rm.frames + 1 ≤ R.frames ∧ 8 + (maxL + 11) + rm.locals ≤ R.locals) (hRc : mc ≤ R.cells) (hRs : ms ≤ R.slots)
    (hex : ∀ x ∈ c.exceptionTable.toList, False) (hlocks : meth.locks = false) (hsize : ls.size = nL) (hn : As.length = n) (hst : st = As.reverse ++ rest) (hW : (rest.map fun v => v.category).sum ≤ 8) (hdg : decode cc pc = .ok (.invokestatic index, 3)) :
    W p l e R s m args below meth c H [] 0 0 (TE below Xc s mc ms) (F0 m pc ls st) := by
  subst hst
  intro T hT X
  obtain ⟨-, -, hfr, hlo, hws, hcw, hcode, hini, hy, hlen, hl⟩ := callB_of n S.2.2.2.2 (lwg_G h5) rfl hrc hrs (S.2.2.2.2 _ h4) (S.2.2.2.2 _ h1) hd hR
  have hB : BackT l R p e below s args y 3 8 (PreOf R mc ms (va_Pc As K)) Xc mc ms := backT (bytes := bytes) (maxL := maxL) (ret := ret) hM (fun a U g mk q => ⟨q.1, hKb U g mk a q.2⟩) hrc hrs hfr hlo hws hcw (fun a' U hW => word_at hW (Or.inl (by first | rfl | simp [Cond.onTables, Cond.keeps, Cond.steady])) hini)
  obtain ⟨b, V, X', hce, -, -, st⟩ := thrS X S.1 (bytes := bytes) (maxL := maxL) (ret := ret) S.2.2.2.1 hl (S.2.2.2.2 _ h2) hini hcode hy hB (g := F0 m pc ls (As.reverse ++ rest)) rfl (hsize.trans S.2.2.1.symm) (argsL := As) (rest := rest) (fun sig h => hn.trans (hlen sig h)) rfl (lv_room hW) (by rw [S.2.1]; exact hdg)
    (fun vm₁ hW₁ => ⟨by show 0 + mc ≤ R.cells; omega, by show 0 + ms ≤ R.slots; omega, rfl, hK (T.setVm vm₁) hT hW₁⟩)
  rw [Nat.zero_add, Nat.zero_add] at X'
  obtain ⟨t, h6, h7⟩ := tqOut (g := { F0 m pc ls (As.reverse ++ rest) with stack := rest }) X' hlocks hce rfl rfl rfl hex
  exact ⟨t, st t h6, h7⟩
theorem r_thrV {n maxL mc ms : Nat} {C : String} {y : MethodName} {bytes : ByteArray} {ret : Option FieldType} {rm : Room} {K : State → Prop} {b0 : Nat} {As st : List Value} {Xc : String}
    (S : CallFix p m c cc nL s args lwg own) (hM : MetT l y (.code y bytes maxL ret :: lwg) rm (va_Pc (.ref b0 :: As) K) Xc mc ms) (hKb : ∀ (U : State) (g : JFrame) (mk : MethodId) (av : Array Value), K U → K (U.calling g mk av)) (hK : ∀ U : State, U.heap = H → s.WarmedH U.vm → K U)
    (hrv : ∃ cell : Cell, H[b0]? = some cell ∧ cell.vm.isStatics = false ∧ s.vm.findClass C = some cell.cls)
    (h1 : Cond.methodLink own index y ∈ lwg) (h2 : Cond.instanceMethod y ∈ lwg) (h3 : Cond.selects C y y ∈ lwg) (h4 : Cond.initialized y.cls ∈ lwg) (h5 : Cond.code y bytes maxL ret ∈ lwg) (hrc : rm.cells = mc) (hrs : rm.slots = ms)
    (hd : y.cls ≠ "java/lang/invoke/MethodHandle" ∧ y.cls ≠ "java/lang/invoke/VarHandle" ∧ (parseMethodDescriptor y.desc).map (fun d => d.parameters.length) = some n) (hR : rm.frames + 1 ≤ R.frames ∧ 8 + (maxL + 11) + rm.locals ≤ R.locals) (hRc : mc ≤ R.cells) (hRs : ms ≤ R.slots)
    (hex : ∀ x ∈ c.exceptionTable.toList, False) (hlocks : meth.locks = false) (hsize : ls.size = nL) (hn : As.length = n) (hst : st = As.reverse ++ .ref b0 :: rest) (hW : (rest.map fun v => v.category).sum ≤ 8) (hdg : decode cc pc = .ok (.invokevirtual index, 3)) :
    W p l e R s m args below meth c H [] 0 0 (TE below Xc s mc ms) (F0 m pc ls st) := by
  subst hst
  intro T hT X
  obtain ⟨-, -, hfr, hlo, hws, hcw, hcode, hini, hy, hlen, hl⟩ := callB_of n S.2.2.2.2 (lwg_G h5) rfl hrc hrs (S.2.2.2.2 _ h4) (S.2.2.2.2 _ h1) hd hR
  obtain ⟨cellB, hr1, hr2, hr3⟩ := hrv
  have hB : BackT l R p e below s args y 3 8 (PreOf R mc ms (va_Pc (.ref b0 :: As) K)) Xc mc ms := backT (bytes := bytes) (maxL := maxL) (ret := ret) hM (fun a U g mk q => ⟨q.1, hKb U g mk a q.2⟩) hrc hrs hfr hlo hws hcw (fun a' U hW => word_at hW (Or.inl (by first | rfl | simp [Cond.onTables, Cond.keeps, Cond.steady])) hini)
  obtain ⟨b, V, X', hce, -, -, st⟩ := thrV X S.1 (C := C) (bytes := bytes) (maxL := maxL) (ret := ret) S.2.2.2.1 hl (S.2.2.2.2 _ h2) (S.2.2.2.2 _ h3) hcode hy hB (b0 := b0) (cellB := cellB) (by rw [hT]; exact hr1) hr2 hr3 (g := F0 m pc ls (As.reverse ++ .ref b0 :: rest)) rfl (hsize.trans S.2.2.1.symm) (argsL := As) (rest := rest) (fun sig h => hn.trans (hlen sig h)) rfl (lv_room hW) (by rw [S.2.1]; exact hdg)
    (fun vm₁ hW₁ => ⟨by show 0 + mc ≤ R.cells; omega, by show 0 + ms ≤ R.slots; omega, rfl, hK (T.setVm vm₁) hT hW₁⟩)
  rw [Nat.zero_add, Nat.zero_add] at X'
  obtain ⟨t, h6, h7⟩ := tqOut (g := { F0 m pc ls (As.reverse ++ .ref b0 :: rest) with stack := rest }) X' hlocks hce rfl rfl rfl hex
  exact ⟨t, st t h6, h7⟩
/-- new, dup, ldc, <init>, athrow -/
theorem r_newThrow {ix it ic q : Nat} {tx : String} (S : CallFix p m c cc nL s args lwg own) (htr : e.platform.stackTraces = false) (hat : ∀ w ∈ Bundle.ownAtoms own ic xIA xUp, w.before args s = true) (hZ : vk_R own it tx q s)
    (hcl : (Cond.classLink own ix xIA).before args s = true) (hini : (Cond.initialized xIA).before args s = true) (d0 : decode cc pc = .ok (.new ix, 3)) (d3 : decode cc (pc + 3) = .ok (.dup, 1)) (d4 : decode cc (pc + 3 + 1) = .ok (.ldc it, 2)) (d6 : decode cc (pc + 3 + 1 + 2) = .ok (.invokespecial ic, 3)) (d9 : decode cc (pc + 3 + 1 + 2 + 3) = .ok (.athrow, 1))
    (hsize : ls.size = nL) (hex : ∀ x ∈ c.exceptionTable.toList, False) (hlocks : meth.locks = false) (hRf : 5 < R.frames) (hRl : 90 ≤ R.locals) (hRc : 1 ≤ R.cells) (hRs : 6 ≤ R.slots) :
    W p l e R s m args below meth c s.heap [] 0 0 (TE below xIA s 1 6) (F0 m pc ls []) := by
  refine W.newc (n := 6) S.1 S.2.1 S.2.2.2.1 hcl (hat (.instantiable xIA 6) (by simp [Bundle.ownAtoms])) hini rfl d0 (by omega) (by omega) (fun cC kC h1 h2 h3 h4 => ?_)
  refine lv_dup S.1 S.2.1 d3 rfl ?_
  refine va_ldcS S.1 S.2.1 S.2.2.2.1 hZ d4 ?_
  intro T hT X
  have hc : T.heap[s.heap.size]? = some (freshCell cC kC) := by
    rw [hT]
    exact Array.getElem?_push_size
  obtain ⟨U, h5, h6, h7, h8, h9, ce, h10, h11⟩ := X.ctorThrowS S.1 htr (own := own) (cls := xIA) (names := xUp) (ic := ic) S.2.2.2.1 (by decide) (by decide) hat (fun x hx => by cases hx) h1 h2 hc (Nat.le_refl _) (msg := .ref q) rfl
    (g := F0 m (pc + 3 + 1 + 2) ls [.ref q, .ref s.heap.size, .ref s.heap.size]) rfl (hsize.trans S.2.2.1.symm) rfl rfl (rest := []) rfl (by rw [S.2.1]; exact d6) (by rw [S.2.1]; exact d9) (fun x hx => (hex x hx).elim) (by show 2 + 3 < R.frames; omega) (by show 0 + 1 + (13 * (2 + 1) + 42) ≤ R.locals; omega) hlocks
  exact ⟨U, h5, .threw _, h6, h7, _, rfl, ⟨ce, h10, h11.vm, h11.cls⟩, h8, h9⟩
end THW
section CAT
variable {p : Program} {l : Launch} {e : Env} {R : Room} {s : State} {m : MethodId} {args : Array Value} {below : List Frame} {meth : Method} {c : Code} {T : State} {locs : List Loc} {cells slots : Nat}
/-- caught by the one row of the table, whose class may not be resolved yet -/
theorem catchCold (X : Stand p l e R s m args below meth c T locs cells slots) {own name : String} {b : Addr} {cell : Cell} {x : ExceptionTableEntry} (hown : s.vm.findClass own = some m.cls) (hlink : (Cond.classLink own x.catchType name).before args s = true)
    (hcell : T.heap[b]? = some cell) (hobj : cell.vm = .none) (hcls : s.vm.findClass name = some cell.cls) (htab : c.exceptionTable.toList = [x]) (h0 : x.catchType ≠ 0) {g : JFrame} (hg : g.method = m) (hx : covers x g.pc = true) :
    ∃ vm', Stand p l e R s m args below meth c (T.setVm vm') locs cells slots ∧ ∀ target, Steps p.tables e below ((T.setVm vm').setTop { g with pc := x.handlerPc, stack := [.ref b] }) target → Steps p.tables e below ((T.setTop g).pushFrame (.throwing b)) target := by
  have hpl : e.platform.magicAccessors = ({} : Platform).magicAccessors := by rw [X.admits.platform]
  obtain ⟨c', hc', hcl⟩ := Cond.classLink_spec hown hlink e.platform hpl
  cases hcls.symm.trans hc'
  obtain ⟨dk, _, _, kt, hd, _, _, _, _, hkt, _, hopen⟩ := hcl.here
  have hcl₀ := X.warmed.classLinks hcl
  have hW' : s.WarmedH (T.vm.noted m.cls x.catchType (.cls cell.cls)) := X.warmed.noted hd hopen (State.rightAt_cls hcl)
  obtain ⟨kt', hkt', -⟩ := hW'.alike.2.2 _ _ hkt
  refine ⟨_, X.noted hW', fun target hrest => ?_⟩
  subst hg
  have h : At T g.method c below := X.here
  obtain ⟨ha, ht⟩ := (resolveClass_links e.toSetting hcl₀).op (op := VmOp.resolveClass g.method.cls x.catchType) rfl
  have hasg : (T.vm.noted g.method.cls x.catchType (.cls cell.cls)).assignable cell.cls cell.cls = true := va_asg _ _
  have hsz : (T.vm.noted g.method.cls x.catchType (.cls cell.cls)).classes.size ≤ T.vm.classes.size := by no_record
  have hm : ((T.setTop g).pushFrame (.throwing b)).vm.method? g.method = some meth := by rw [Stand.throwing_vm]; exact X.method'
  have hfind : ∀ (Q : Handler → Pre) (E : CtlPost) (d : Bool) (acts : List Action), wp (findHandler g b) Q E e d acts ((T.setTop g).pushFrame (.throwing b)) ↔ Q (.found x.handlerPc) d acts (((T.setTop g).pushFrame (.throwing b)).setVm (T.vm.noted g.method.cls x.catchType (.cls cell.cls))) := by
    intro Q E d acts
    rw [W.findHandler_eq hm X.code, htab]
    simp only [covers] at hx
    simp [findHandler.go, hx, h0, ha, ht, hsz, hcell, hobj, hkt', hasg, Stand.throwing_vm, Stand.throwing_heap, VmOp.dirties, VmOp.acts]
  have hst : (stepThrowing e ((T.setTop g).pushFrame (.throwing b)) b (.java g :: T.frames.tail)).1 = ((((T.setTop g).pushFrame (.throwing b)).setVm (T.vm.noted g.method.cls x.catchType (.cls cell.cls))).setFrames (.java { g with pc := x.handlerPc, stack := [.ref b] } :: T.frames.tail)) := by
    simp only [stepThrowing, searchFrame, vmDo]
    generalize hr : Sem.go _ e false [] ((T.setTop g).pushFrame (.throwing b)) = res
    obtain ⟨as, rfl, ha⟩ := Sem.eq_ok_of hr (a := Handler.found x.handlerPc) (s' := ((T.setTop g).pushFrame (.throwing b)).setVm (T.vm.noted g.method.cls x.catchType (.cls cell.cls))) (acts' := []) (by simp [hfind _ _ _ _])
    rfl
  obtain ⟨hgo, hw⟩ := h.throwing b
  refine Steps.head hgo hw ?_
  rw [stepThread_throwing (frames_entered h.top _), hst]
  obtain ⟨g₀, hg⟩ := Option.isSome_iff_exists.mp h.top
  obtain ⟨r, hr⟩ := State.topJava?_eq_some.mp hg
  have hr' : (T.setVm (T.vm.noted g.method.cls x.catchType (.cls cell.cls))).frames = .java g₀ :: r := hr
  rw [State.setTop_of_frames _ hr'] at hrest
  rw [State.pushFrame, State.setTop_of_frames _ hr, hr]
  change Steps p.tables e below ((((T.setVm (T.vm.noted g.method.cls x.catchType (.cls cell.cls))).setFrames _).setFrames _).setFrames _) target
  rw [State.setFrames_setFrames, State.setFrames_setFrames]
  exact hrest
end CAT
end
section
abbrev rmT0 : Room := { frames := 1, cells := 0, slots := 0, locals := 30 }
abbrev rmT1 : Room := { frames := 8, cells := 1, slots := 6, locals := 150 }
abbrev rmT2 : Room := { frames := 12, cells := 1, slots := 6, locals := 250 }
abbrev rmT3 : Room := { frames := 16, cells := 1, slots := 6, locals := 350 }
abbrev lwA : List Cond := Bundle.ownAtoms "PropertyTrie" 75 xIA xUp
abbrev lwS : List (Nat × String) := [(73, "a point is 0 .. 1114111"), (78, "a range is 0 .. first .. last .. 1114111"), (80, "a field is 0 .. 7"), (82, "a hash is over at most 4000 points")]
/-- what a throw rests on: the words of Throwable and its heirs, the texts -/
def okT (U : State) : Prop := (∀ w ∈ lwA, ∀ av : Array Value, w.before av U = true) ∧ ∀ x ∈ lwS, ∃ q, vk_R "PropertyTrie" x.1 x.2 q U
/-- and the object -/
def okU (b0 : Nat) (U : State) : Prop := okT U ∧ ∃ cell : Cell, U.heap[b0]? = some cell ∧ cell.vm.isStatics = false ∧ U.vm.findClass "PropertyTrie" = some cell.cls
theorem okT_call (U : State) (g : JFrame) (mk : MethodId) (av : Array Value) (h : okT U) : okT (U.calling g mk av) :=
  ⟨fun w hw av' => (Cond.holds_threads av' U (U.calling g mk av).threads U.cur none U (U.calling g mk av).threads U.cur w []).trans (h.1 w hw av'), fun x hx => by obtain ⟨q, hq⟩ := h.2 x hx; exact ⟨q, vk_R.same rfl hq⟩⟩
/-- a static field's reference: the statics' cell is there, and unchanged -/
theorem isRef_at {C f d : String} {s U : State} (hW : s.WarmedH U.vm) (hH : ∀ (q : Addr) (cell : Cell), s.heap[q]? = some cell → U.heap[q]? = some cell) {av av' : Array Value} (h : (Cond.isRef (.static C f d)).before av s = true) : (Cond.isRef (.static C f d)).before av' U = true := by
  simp only [Cond.before, Cond.holds, Cond.value, Term.eval, State.fieldNamed?] at h ⊢
  cases hf : s.fieldFound? C f d with
  | none => rw [hf] at h; simp at h
  | some x =>
    obtain ⟨c, k, i, fd⟩ := x
    obtain ⟨k', hf', hk'⟩ := State.fieldFound?_setVm hW.alike hf
    have hf2 : U.fieldFound? C f d = some (c, k', i, fd) := hf'
    rw [hf] at h
    rw [hf2]
    cases hst : fd.isStatic with
    | false => simp [hst] at h
    | true =>
      cases hs : k.statics with
      | none => simp [hst, hs] at h
      | some a =>
        have hs' : k'.statics = some a := by rw [hk']; exact hs
        cases hc : s.heap[a]? with
        | none => simp [hst, hs, hc] at h
        | some cell =>
          have hc' := hH a cell hc
          simp [hst, hs, hc] at h
          simp [hst, hs', hc']
          exact h
theorem laysS_at {C f d : String} {s U : State} (hW : s.WarmedH U.vm) (hH : ∀ (q : Addr) (cell : Cell), s.heap[q]? = some cell → U.heap[q]? = some cell) {av av' : Array Value} (h : (Cond.laysStatic C f d).before av s = true) : (Cond.laysStatic C f d).before av' U = true := by
  obtain ⟨c, k, i, fd, a, cell, h1, h2, h3, h4, h5, h6, h7, h8, h9⟩ := Cond.laysStatic_spec h
  obtain ⟨k', hf', hk'⟩ := State.fieldFound?_setVm hW.alike h2
  have hf2 : U.fieldFound? C f d = some (c, k', i, fd) := hf'
  have hs' : k'.statics = some a := by rw [hk']; exact h4
  have ht' : k'.staticTypes[fd.slot]? = some fd.type := by rw [hk']; exact h9
  have hc' : U.vm.findClass C = some c := (hW.alike.findClass C none).trans h1
  simp [Cond.before, Cond.holds, Cond.value, hc', hf2, hs', hH a cell h5, h3, h6, h7, h8, ht']
def kd : Cond → Bool
  | .declares _ => true
  | .castable .. => true
  | .laysStatic .. => true
  | .isRef (.static ..) => true
  | w => w.onTables && w.keeps
theorem kd_keep {w : Cond} {s U : State} (hk : kd w = true) (hW : s.WarmedH U.vm) (hH : ∀ (q : Addr) (cell : Cell), s.heap[q]? = some cell → U.heap[q]? = some cell) (h : ∀ av : Array Value, w.before av s = true) (av : Array Value) : w.before av U = true := by
  unfold kd at hk
  split at hk
  · exact va_Nw.use rfl (va_Nw.warmD hW (h #[]))
  · exact va_Nw.use rfl (va_Nw.warmC hW (h #[]))
  · exact laysS_at hW hH (h #[])
  · exact isRef_at hW hH (h #[])
  · exact word_at hW (Or.inl hk) (h #[])
theorem lwA_kd : ∀ w ∈ lwA, kd w = true := by decide +kernel
theorem okT_keep {s U : State} (hT : okT s) (hH : ∀ (q : Addr) (cell : Cell), s.heap[q]? = some cell → U.heap[q]? = some cell) (hW : s.WarmedH U.vm) : okT U := by
  refine ⟨fun w hw av => kd_keep (lwA_kd w hw) hW hH (hT.1 w hw) av, fun x hx => ?_⟩
  obtain ⟨q, hq⟩ := hT.2 x hx
  exact ⟨q, vk_R.warm hW hq⟩
theorem okT_at {s U : State} (hT : okT s) (hU : U.heap = s.heap) (hW : s.WarmedH U.vm) : okT U := okT_keep hT (fun q cell h => by rw [hU]; exact h) hW
theorem okU_call {b0 : Nat} (U : State) (g : JFrame) (mk : MethodId) (av : Array Value) (h : okU b0 U) : okU b0 (U.calling g mk av) := ⟨okT_call U g mk av h.1, h.2⟩
theorem okU_at {b0 : Nat} {s U : State} (h : okU b0 s) (hU : U.heap = s.heap) (hW : s.WarmedH U.vm) : okU b0 U := by
  obtain ⟨hT, cell, h1, h2, h3⟩ := h
  exact ⟨okT_at hT hU hW, cell, by rw [hU]; exact h1, h2, (hW.alike.findClass _ none).trans h3⟩
def FG_checkPoint (x0 : Int32) : Prop := ((x0 < 0 → False) ∧ (¬ x0 < 0 → ((x0 ≤ (1114111 : Int32) → True) ∧ (¬ x0 ≤ (1114111 : Int32) → False))))
theorem g_checkPoint (l : Launch) (x0 : Int32) (hf : FG_checkPoint x0) : Met l y_Pt_checkPoint (.code y_Pt_checkPoint b_Pt_checkPoint 1 none :: lwg) rmT0 (va_Pc [.int x0] (fun _ => True)) (fun _ st o t => o = .returned none ∧ t.heap = st.heap) 0 0 (fun _ => False) := by
  refine Met.ofW (cc := b_Pt_checkPoint) (maxL := 1) (ret := none) (by decide +kernel) rfl ?_
  intro p e s m args below meth c s₁ B hml hv
  obtain ⟨rfl, -⟩ := hv
  have hx := B.exec
  have hb := B.bytes
  have hr := B.returns
  have hts0 := atoms_spec (ws := .code y_Pt_checkPoint b_Pt_checkPoint 1 none :: lwg) B.pre
  have hts : ∀ v ∈ lwg, v.before ([.int x0] : List Value).toArray s = true := fun v hv => hts0 v (List.mem_cons_of_mem _ hv)
  have hown : s.vm.findClass "PropertyTrie" = some m.cls := findClass_of_methodNamed B.named
  have hlocks := B.notSynchronized
  have S : CallFix p m c b_Pt_checkPoint 1 s ([.int x0] : List Value).toArray lwg "PropertyTrie" := ⟨hx, hb, hml, hown, hts⟩
  have hl := lv_entry ([.int x0]) (n := 1) (Nat.le_of_ble_eq_true rfl)
  rw [lg_entry_eq]
  generalize (lg_sl ([.int x0]) ++ List.replicate (1 - (lg_sl ([.int x0])).length) Slot.unset).toArray = ls at hl ⊢
  have hl : lv_has ls 1 [(0, .int x0)] := hl
  unfold FG_checkPoint at hf
  refine lv_iload_n hx hb d_Pt_checkPoint_0 rfl (lv_at hl 0 rfl) ?_
  refine lv_if_lt hx hb d_Pt_checkPoint_1 rfl (fun hc => ?_) (fun hc => ?_)
  · have hf := hf.1 hc
    exact hf.elim
  · have hf := hf.2 hc
    refine lv_iload_n hx hb d_Pt_checkPoint_4 rfl (lv_at hl 0 rfl) ?_
    refine lv_ldc (v := (1114111 : Int32)) hx hb hown (hts _ k_cst_Pt_48) d_Pt_checkPoint_5 ?_
    refine lv_icmp_le hx hb d_Pt_checkPoint_7 rfl (fun hc => ?_) (fun hc => ?_)
    · have hf := hf.1 hc
      exact W.vret hx hb hr (fun t ht hW => ⟨rfl, ht⟩) (fun q hq => by cases hq) d_Pt_checkPoint_20 hlocks
    · have hf := hf.2 hc
      exact hf.elim
def FT_checkPoint (x0 : Int32) : Prop := ((x0 < 0 → True) ∧ (¬ x0 < 0 → ((x0 ≤ (1114111 : Int32) → False) ∧ (¬ x0 ≤ (1114111 : Int32) → True))))
theorem tw_checkPoint (l : Launch) (hst : l.stackTraces = false) (x0 : Int32) (hf : FT_checkPoint x0) : MetT l y_Pt_checkPoint (.code y_Pt_checkPoint b_Pt_checkPoint 1 none :: lwg) rmT1 (va_Pc [.int x0] okT) xIA 1 6 := by
  refine MetT.ofW (cc := b_Pt_checkPoint) (maxL := 1) (ret := none) (by decide +kernel) rfl ?_
  intro p e s m args below meth c s₁ B hml hex hv
  obtain ⟨rfl, hT⟩ := hv
  have htr : e.platform.stackTraces = false := by rw [B.admits.platform]; exact hst
  have hx := B.exec
  have hb := B.bytes
  have hr := B.returns
  have hts0 := atoms_spec (ws := .code y_Pt_checkPoint b_Pt_checkPoint 1 none :: lwg) B.pre
  have hts : ∀ v ∈ lwg, v.before ([.int x0] : List Value).toArray s = true := fun v hv => hts0 v (List.mem_cons_of_mem _ hv)
  have hown : s.vm.findClass "PropertyTrie" = some m.cls := findClass_of_methodNamed B.named
  have hlocks := B.notSynchronized
  have S : CallFix p m c b_Pt_checkPoint 1 s ([.int x0] : List Value).toArray lwg "PropertyTrie" := ⟨hx, hb, hml, hown, hts⟩
  have hl := lv_entry ([.int x0]) (n := 1) (Nat.le_of_ble_eq_true rfl)
  rw [lg_entry_eq]
  generalize (lg_sl ([.int x0]) ++ List.replicate (1 - (lg_sl ([.int x0])).length) Slot.unset).toArray = ls at hl ⊢
  have hl : lv_has ls 1 [(0, .int x0)] := hl
  unfold FT_checkPoint at hf
  refine lv_iload_n hx hb d_Pt_checkPoint_0 rfl (lv_at hl 0 rfl) ?_
  refine lv_if_lt hx hb d_Pt_checkPoint_1 rfl (fun hc => ?_) (fun hc => ?_)
  · have hf := hf.1 hc
    obtain ⟨q, hq⟩ := hT.2 (73, "a point is 0 .. 1114111") (by decide)
    exact r_newThrow S htr (fun w hw => hT.1 w hw _) hq (hts _ k_cl_Pt_71) (hts _ k_ini_Ia) d_Pt_checkPoint_10 d_Pt_checkPoint_13 d_Pt_checkPoint_14 d_Pt_checkPoint_16 d_Pt_checkPoint_19 hl.1 hex hlocks (by decide) (by decide) (by decide) (by decide)
  · have hf := hf.2 hc
    refine lv_iload_n hx hb d_Pt_checkPoint_4 rfl (lv_at hl 0 rfl) ?_
    refine lv_ldc (v := (1114111 : Int32)) hx hb hown (hts _ k_cst_Pt_48) d_Pt_checkPoint_5 ?_
    refine lv_icmp_le hx hb d_Pt_checkPoint_7 rfl (fun hc => ?_) (fun hc => ?_)
    · have hf := hf.1 hc
      exact hf.elim
    · have hf := hf.2 hc
      obtain ⟨q, hq⟩ := hT.2 (73, "a point is 0 .. 1114111") (by decide)
      exact r_newThrow S htr (fun w hw => hT.1 w hw _) hq (hts _ k_cl_Pt_71) (hts _ k_ini_Ia) d_Pt_checkPoint_10 d_Pt_checkPoint_13 d_Pt_checkPoint_14 d_Pt_checkPoint_16 d_Pt_checkPoint_19 hl.1 hex hlocks (by decide) (by decide) (by decide) (by decide)
def FG_checkRange (x0 : Int32) (x1 : Int32) : Prop := ((x0 < 0 → False) ∧ (¬ x0 < 0 → ((x1 < x0 → False) ∧ (¬ x1 < x0 → ((x1 ≤ (1114111 : Int32) → True) ∧ (¬ x1 ≤ (1114111 : Int32) → False))))))
theorem g_checkRange (l : Launch) (x0 : Int32) (x1 : Int32) (hf : FG_checkRange x0 x1) : Met l y_Pt_checkRange (.code y_Pt_checkRange b_Pt_checkRange 2 none :: lwg) rmT0 (va_Pc [.int x0, .int x1] (fun _ => True)) (fun _ st o t => o = .returned none ∧ t.heap = st.heap) 0 0 (fun _ => False) := by
  refine Met.ofW (cc := b_Pt_checkRange) (maxL := 2) (ret := none) (by decide +kernel) rfl ?_
  intro p e s m args below meth c s₁ B hml hv
  obtain ⟨rfl, -⟩ := hv
  have hx := B.exec
  have hb := B.bytes
  have hr := B.returns
  have hts0 := atoms_spec (ws := .code y_Pt_checkRange b_Pt_checkRange 2 none :: lwg) B.pre
  have hts : ∀ v ∈ lwg, v.before ([.int x0, .int x1] : List Value).toArray s = true := fun v hv => hts0 v (List.mem_cons_of_mem _ hv)
  have hown : s.vm.findClass "PropertyTrie" = some m.cls := findClass_of_methodNamed B.named
  have hlocks := B.notSynchronized
  have S : CallFix p m c b_Pt_checkRange 2 s ([.int x0, .int x1] : List Value).toArray lwg "PropertyTrie" := ⟨hx, hb, hml, hown, hts⟩
  have hl := lv_entry ([.int x0, .int x1]) (n := 2) (Nat.le_of_ble_eq_true rfl)
  rw [lg_entry_eq]
  generalize (lg_sl ([.int x0, .int x1]) ++ List.replicate (2 - (lg_sl ([.int x0, .int x1])).length) Slot.unset).toArray = ls at hl ⊢
  have hl : lv_has ls 2 [(0, .int x0), (1, .int x1)] := hl
  unfold FG_checkRange at hf
  refine lv_iload_n hx hb d_Pt_checkRange_0 rfl (lv_at hl 0 rfl) ?_
  refine lv_if_lt hx hb d_Pt_checkRange_1 rfl (fun hc => ?_) (fun hc => ?_)
  · have hf := hf.1 hc
    exact hf.elim
  · have hf := hf.2 hc
    refine lv_iload_n hx hb d_Pt_checkRange_4 rfl (lv_at hl 0 rfl) ?_
    refine lv_iload_n hx hb d_Pt_checkRange_5 rfl (lv_at hl 1 rfl) ?_
    refine lv_icmp_gt hx hb d_Pt_checkRange_6 rfl (fun hc => ?_) (fun hc => ?_)
    · have hf := hf.1 hc
      exact hf.elim
    · have hf := hf.2 hc
      refine lv_iload_n hx hb d_Pt_checkRange_9 rfl (lv_at hl 1 rfl) ?_
      refine lv_ldc (v := (1114111 : Int32)) hx hb hown (hts _ k_cst_Pt_48) d_Pt_checkRange_10 ?_
      refine lv_icmp_le hx hb d_Pt_checkRange_12 rfl (fun hc => ?_) (fun hc => ?_)
      · have hf := hf.1 hc
        exact W.vret hx hb hr (fun t ht hW => ⟨rfl, ht⟩) (fun q hq => by cases hq) d_Pt_checkRange_25 hlocks
      · have hf := hf.2 hc
        exact hf.elim
def FT_checkRange (x0 : Int32) (x1 : Int32) : Prop := ((x0 < 0 → True) ∧ (¬ x0 < 0 → ((x1 < x0 → True) ∧ (¬ x1 < x0 → ((x1 ≤ (1114111 : Int32) → False) ∧ (¬ x1 ≤ (1114111 : Int32) → True))))))
theorem tw_checkRange (l : Launch) (hst : l.stackTraces = false) (x0 : Int32) (x1 : Int32) (hf : FT_checkRange x0 x1) : MetT l y_Pt_checkRange (.code y_Pt_checkRange b_Pt_checkRange 2 none :: lwg) rmT1 (va_Pc [.int x0, .int x1] okT) xIA 1 6 := by
  refine MetT.ofW (cc := b_Pt_checkRange) (maxL := 2) (ret := none) (by decide +kernel) rfl ?_
  intro p e s m args below meth c s₁ B hml hex hv
  obtain ⟨rfl, hT⟩ := hv
  have htr : e.platform.stackTraces = false := by rw [B.admits.platform]; exact hst
  have hx := B.exec
  have hb := B.bytes
  have hr := B.returns
  have hts0 := atoms_spec (ws := .code y_Pt_checkRange b_Pt_checkRange 2 none :: lwg) B.pre
  have hts : ∀ v ∈ lwg, v.before ([.int x0, .int x1] : List Value).toArray s = true := fun v hv => hts0 v (List.mem_cons_of_mem _ hv)
  have hown : s.vm.findClass "PropertyTrie" = some m.cls := findClass_of_methodNamed B.named
  have hlocks := B.notSynchronized
  have S : CallFix p m c b_Pt_checkRange 2 s ([.int x0, .int x1] : List Value).toArray lwg "PropertyTrie" := ⟨hx, hb, hml, hown, hts⟩
  have hl := lv_entry ([.int x0, .int x1]) (n := 2) (Nat.le_of_ble_eq_true rfl)
  rw [lg_entry_eq]
  generalize (lg_sl ([.int x0, .int x1]) ++ List.replicate (2 - (lg_sl ([.int x0, .int x1])).length) Slot.unset).toArray = ls at hl ⊢
  have hl : lv_has ls 2 [(0, .int x0), (1, .int x1)] := hl
  unfold FT_checkRange at hf
  refine lv_iload_n hx hb d_Pt_checkRange_0 rfl (lv_at hl 0 rfl) ?_
  refine lv_if_lt hx hb d_Pt_checkRange_1 rfl (fun hc => ?_) (fun hc => ?_)
  · have hf := hf.1 hc
    obtain ⟨q, hq⟩ := hT.2 (78, "a range is 0 .. first .. last .. 1114111") (by decide)
    exact r_newThrow S htr (fun w hw => hT.1 w hw _) hq (hts _ k_cl_Pt_71) (hts _ k_ini_Ia) d_Pt_checkRange_15 d_Pt_checkRange_18 d_Pt_checkRange_19 d_Pt_checkRange_21 d_Pt_checkRange_24 hl.1 hex hlocks (by decide) (by decide) (by decide) (by decide)
  · have hf := hf.2 hc
    refine lv_iload_n hx hb d_Pt_checkRange_4 rfl (lv_at hl 0 rfl) ?_
    refine lv_iload_n hx hb d_Pt_checkRange_5 rfl (lv_at hl 1 rfl) ?_
    refine lv_icmp_gt hx hb d_Pt_checkRange_6 rfl (fun hc => ?_) (fun hc => ?_)
    · have hf := hf.1 hc
      obtain ⟨q, hq⟩ := hT.2 (78, "a range is 0 .. first .. last .. 1114111") (by decide)
      exact r_newThrow S htr (fun w hw => hT.1 w hw _) hq (hts _ k_cl_Pt_71) (hts _ k_ini_Ia) d_Pt_checkRange_15 d_Pt_checkRange_18 d_Pt_checkRange_19 d_Pt_checkRange_21 d_Pt_checkRange_24 hl.1 hex hlocks (by decide) (by decide) (by decide) (by decide)
    · have hf := hf.2 hc
      refine lv_iload_n hx hb d_Pt_checkRange_9 rfl (lv_at hl 1 rfl) ?_
      refine lv_ldc (v := (1114111 : Int32)) hx hb hown (hts _ k_cst_Pt_48) d_Pt_checkRange_10 ?_
      refine lv_icmp_le hx hb d_Pt_checkRange_12 rfl (fun hc => ?_) (fun hc => ?_)
      · have hf := hf.1 hc
        exact hf.elim
      · have hf := hf.2 hc
        obtain ⟨q, hq⟩ := hT.2 (78, "a range is 0 .. first .. last .. 1114111") (by decide)
        exact r_newThrow S htr (fun w hw => hT.1 w hw _) hq (hts _ k_cl_Pt_71) (hts _ k_ini_Ia) d_Pt_checkRange_15 d_Pt_checkRange_18 d_Pt_checkRange_19 d_Pt_checkRange_21 d_Pt_checkRange_24 hl.1 hex hlocks (by decide) (by decide) (by decide) (by decide)
def FG_checkField (x0 : Int32) : Prop := ((x0 < 0 → False) ∧ (¬ x0 < 0 → ((x0 < (8 : Int32) → True) ∧ (¬ x0 < (8 : Int32) → False))))
theorem g_checkField (l : Launch) (x0 : Int32) (hf : FG_checkField x0) : Met l y_Pt_checkField (.code y_Pt_checkField b_Pt_checkField 1 none :: lwg) rmT0 (va_Pc [.int x0] (fun _ => True)) (fun _ st o t => o = .returned none ∧ t.heap = st.heap) 0 0 (fun _ => False) := by
  refine Met.ofW (cc := b_Pt_checkField) (maxL := 1) (ret := none) (by decide +kernel) rfl ?_
  intro p e s m args below meth c s₁ B hml hv
  obtain ⟨rfl, -⟩ := hv
  have hx := B.exec
  have hb := B.bytes
  have hr := B.returns
  have hts0 := atoms_spec (ws := .code y_Pt_checkField b_Pt_checkField 1 none :: lwg) B.pre
  have hts : ∀ v ∈ lwg, v.before ([.int x0] : List Value).toArray s = true := fun v hv => hts0 v (List.mem_cons_of_mem _ hv)
  have hown : s.vm.findClass "PropertyTrie" = some m.cls := findClass_of_methodNamed B.named
  have hlocks := B.notSynchronized
  have S : CallFix p m c b_Pt_checkField 1 s ([.int x0] : List Value).toArray lwg "PropertyTrie" := ⟨hx, hb, hml, hown, hts⟩
  have hl := lv_entry ([.int x0]) (n := 1) (Nat.le_of_ble_eq_true rfl)
  rw [lg_entry_eq]
  generalize (lg_sl ([.int x0]) ++ List.replicate (1 - (lg_sl ([.int x0])).length) Slot.unset).toArray = ls at hl ⊢
  have hl : lv_has ls 1 [(0, .int x0)] := hl
  unfold FG_checkField at hf
  refine lv_iload_n hx hb d_Pt_checkField_0 rfl (lv_at hl 0 rfl) ?_
  refine lv_if_lt hx hb d_Pt_checkField_1 rfl (fun hc => ?_) (fun hc => ?_)
  · have hf := hf.1 hc
    exact hf.elim
  · have hf := hf.2 hc
    refine lv_iload_n hx hb d_Pt_checkField_4 rfl (lv_at hl 0 rfl) ?_
    refine lv_bipush (v := (8 : Int32)) hx hb d_Pt_checkField_5 (by decide) ?_
    refine lv_icmp_lt hx hb d_Pt_checkField_7 rfl (fun hc => ?_) (fun hc => ?_)
    · have hf := hf.1 hc
      exact W.vret hx hb hr (fun t ht hW => ⟨rfl, ht⟩) (fun q hq => by cases hq) d_Pt_checkField_20 hlocks
    · have hf := hf.2 hc
      exact hf.elim
def FT_checkField (x0 : Int32) : Prop := ((x0 < 0 → True) ∧ (¬ x0 < 0 → ((x0 < (8 : Int32) → False) ∧ (¬ x0 < (8 : Int32) → True))))
theorem tw_checkField (l : Launch) (hst : l.stackTraces = false) (x0 : Int32) (hf : FT_checkField x0) : MetT l y_Pt_checkField (.code y_Pt_checkField b_Pt_checkField 1 none :: lwg) rmT1 (va_Pc [.int x0] okT) xIA 1 6 := by
  refine MetT.ofW (cc := b_Pt_checkField) (maxL := 1) (ret := none) (by decide +kernel) rfl ?_
  intro p e s m args below meth c s₁ B hml hex hv
  obtain ⟨rfl, hT⟩ := hv
  have htr : e.platform.stackTraces = false := by rw [B.admits.platform]; exact hst
  have hx := B.exec
  have hb := B.bytes
  have hr := B.returns
  have hts0 := atoms_spec (ws := .code y_Pt_checkField b_Pt_checkField 1 none :: lwg) B.pre
  have hts : ∀ v ∈ lwg, v.before ([.int x0] : List Value).toArray s = true := fun v hv => hts0 v (List.mem_cons_of_mem _ hv)
  have hown : s.vm.findClass "PropertyTrie" = some m.cls := findClass_of_methodNamed B.named
  have hlocks := B.notSynchronized
  have S : CallFix p m c b_Pt_checkField 1 s ([.int x0] : List Value).toArray lwg "PropertyTrie" := ⟨hx, hb, hml, hown, hts⟩
  have hl := lv_entry ([.int x0]) (n := 1) (Nat.le_of_ble_eq_true rfl)
  rw [lg_entry_eq]
  generalize (lg_sl ([.int x0]) ++ List.replicate (1 - (lg_sl ([.int x0])).length) Slot.unset).toArray = ls at hl ⊢
  have hl : lv_has ls 1 [(0, .int x0)] := hl
  unfold FT_checkField at hf
  refine lv_iload_n hx hb d_Pt_checkField_0 rfl (lv_at hl 0 rfl) ?_
  refine lv_if_lt hx hb d_Pt_checkField_1 rfl (fun hc => ?_) (fun hc => ?_)
  · have hf := hf.1 hc
    obtain ⟨q, hq⟩ := hT.2 (80, "a field is 0 .. 7") (by decide)
    exact r_newThrow S htr (fun w hw => hT.1 w hw _) hq (hts _ k_cl_Pt_71) (hts _ k_ini_Ia) d_Pt_checkField_10 d_Pt_checkField_13 d_Pt_checkField_14 d_Pt_checkField_16 d_Pt_checkField_19 hl.1 hex hlocks (by decide) (by decide) (by decide) (by decide)
  · have hf := hf.2 hc
    refine lv_iload_n hx hb d_Pt_checkField_4 rfl (lv_at hl 0 rfl) ?_
    refine lv_bipush (v := (8 : Int32)) hx hb d_Pt_checkField_5 (by decide) ?_
    refine lv_icmp_lt hx hb d_Pt_checkField_7 rfl (fun hc => ?_) (fun hc => ?_)
    · have hf := hf.1 hc
      exact hf.elim
    · have hf := hf.2 hc
      obtain ⟨q, hq⟩ := hT.2 (80, "a field is 0 .. 7") (by decide)
      exact r_newThrow S htr (fun w hw => hT.1 w hw _) hq (hts _ k_cl_Pt_71) (hts _ k_ini_Ia) d_Pt_checkField_10 d_Pt_checkField_13 d_Pt_checkField_14 d_Pt_checkField_16 d_Pt_checkField_19 hl.1 hex hlocks (by decide) (by decide) (by decide) (by decide)
def FG_checkLength (x0 : Int32) : Prop := ((x0 ≤ (4000 : Int32) → True) ∧ (¬ x0 ≤ (4000 : Int32) → False))
theorem g_checkLength (l : Launch) (x0 : Int32) (hf : FG_checkLength x0) : Met l y_Pt_checkLength (.code y_Pt_checkLength b_Pt_checkLength 1 none :: lwg) rmT0 (va_Pc [.int x0] (fun _ => True)) (fun _ st o t => o = .returned none ∧ t.heap = st.heap) 0 0 (fun _ => False) := by
  refine Met.ofW (cc := b_Pt_checkLength) (maxL := 1) (ret := none) (by decide +kernel) rfl ?_
  intro p e s m args below meth c s₁ B hml hv
  obtain ⟨rfl, -⟩ := hv
  have hx := B.exec
  have hb := B.bytes
  have hr := B.returns
  have hts0 := atoms_spec (ws := .code y_Pt_checkLength b_Pt_checkLength 1 none :: lwg) B.pre
  have hts : ∀ v ∈ lwg, v.before ([.int x0] : List Value).toArray s = true := fun v hv => hts0 v (List.mem_cons_of_mem _ hv)
  have hown : s.vm.findClass "PropertyTrie" = some m.cls := findClass_of_methodNamed B.named
  have hlocks := B.notSynchronized
  have S : CallFix p m c b_Pt_checkLength 1 s ([.int x0] : List Value).toArray lwg "PropertyTrie" := ⟨hx, hb, hml, hown, hts⟩
  have hl := lv_entry ([.int x0]) (n := 1) (Nat.le_of_ble_eq_true rfl)
  rw [lg_entry_eq]
  generalize (lg_sl ([.int x0]) ++ List.replicate (1 - (lg_sl ([.int x0])).length) Slot.unset).toArray = ls at hl ⊢
  have hl : lv_has ls 1 [(0, .int x0)] := hl
  unfold FG_checkLength at hf
  refine lv_iload_n hx hb d_Pt_checkLength_0 rfl (lv_at hl 0 rfl) ?_
  refine lv_sipush (v := (4000 : Int32)) hx hb d_Pt_checkLength_1 (by decide) ?_
  refine lv_icmp_le hx hb d_Pt_checkLength_4 rfl (fun hc => ?_) (fun hc => ?_)
  · have hf := hf.1 hc
    exact W.vret hx hb hr (fun t ht hW => ⟨rfl, ht⟩) (fun q hq => by cases hq) d_Pt_checkLength_17 hlocks
  · have hf := hf.2 hc
    exact hf.elim
def FT_checkLength (x0 : Int32) : Prop := ((x0 ≤ (4000 : Int32) → False) ∧ (¬ x0 ≤ (4000 : Int32) → True))
theorem tw_checkLength (l : Launch) (hst : l.stackTraces = false) (x0 : Int32) (hf : FT_checkLength x0) : MetT l y_Pt_checkLength (.code y_Pt_checkLength b_Pt_checkLength 1 none :: lwg) rmT1 (va_Pc [.int x0] okT) xIA 1 6 := by
  refine MetT.ofW (cc := b_Pt_checkLength) (maxL := 1) (ret := none) (by decide +kernel) rfl ?_
  intro p e s m args below meth c s₁ B hml hex hv
  obtain ⟨rfl, hT⟩ := hv
  have htr : e.platform.stackTraces = false := by rw [B.admits.platform]; exact hst
  have hx := B.exec
  have hb := B.bytes
  have hr := B.returns
  have hts0 := atoms_spec (ws := .code y_Pt_checkLength b_Pt_checkLength 1 none :: lwg) B.pre
  have hts : ∀ v ∈ lwg, v.before ([.int x0] : List Value).toArray s = true := fun v hv => hts0 v (List.mem_cons_of_mem _ hv)
  have hown : s.vm.findClass "PropertyTrie" = some m.cls := findClass_of_methodNamed B.named
  have hlocks := B.notSynchronized
  have S : CallFix p m c b_Pt_checkLength 1 s ([.int x0] : List Value).toArray lwg "PropertyTrie" := ⟨hx, hb, hml, hown, hts⟩
  have hl := lv_entry ([.int x0]) (n := 1) (Nat.le_of_ble_eq_true rfl)
  rw [lg_entry_eq]
  generalize (lg_sl ([.int x0]) ++ List.replicate (1 - (lg_sl ([.int x0])).length) Slot.unset).toArray = ls at hl ⊢
  have hl : lv_has ls 1 [(0, .int x0)] := hl
  unfold FT_checkLength at hf
  refine lv_iload_n hx hb d_Pt_checkLength_0 rfl (lv_at hl 0 rfl) ?_
  refine lv_sipush (v := (4000 : Int32)) hx hb d_Pt_checkLength_1 (by decide) ?_
  refine lv_icmp_le hx hb d_Pt_checkLength_4 rfl (fun hc => ?_) (fun hc => ?_)
  · have hf := hf.1 hc
    exact hf.elim
  · have hf := hf.2 hc
    obtain ⟨q, hq⟩ := hT.2 (82, "a hash is over at most 4000 points") (by decide)
    exact r_newThrow S htr (fun w hw => hT.1 w hw _) hq (hts _ k_cl_Pt_71) (hts _ k_ini_Ia) d_Pt_checkLength_7 d_Pt_checkLength_10 d_Pt_checkLength_11 d_Pt_checkLength_13 d_Pt_checkLength_16 hl.1 hex hlocks (by decide) (by decide) (by decide) (by decide)
theorem tw_get (l : Launch) (hst : l.stackTraces = false) (b0 : Nat) (x1 : Int32) (x2 : Int32) (hf : FT_checkPoint x1 ∨ (FG_checkPoint x1 ∧ (FT_checkField x2))) : MetT l y_Pt_get (.code y_Pt_get b_Pt_get 3 (some .int) :: lwg) rmT2 (va_Pc [.ref b0, .int x1, .int x2] (okU b0)) xIA 1 6 := by
  refine MetT.ofW (cc := b_Pt_get) (maxL := 3) (ret := some .int) (by decide +kernel) rfl ?_
  intro p e s m args below meth c s₁ B hml hex hv
  obtain ⟨rfl, hU⟩ := hv
  have hx := B.exec
  have hb := B.bytes
  have hts0 := atoms_spec (ws := .code y_Pt_get b_Pt_get 3 (some .int) :: lwg) B.pre
  have hts : ∀ v ∈ lwg, v.before ([.ref b0, .int x1, .int x2] : List Value).toArray s = true := fun v hv => hts0 v (List.mem_cons_of_mem _ hv)
  have hown : s.vm.findClass "PropertyTrie" = some m.cls := findClass_of_methodNamed B.named
  have hlocks := B.notSynchronized
  have S : CallFix p m c b_Pt_get 3 s ([.ref b0, .int x1, .int x2] : List Value).toArray lwg "PropertyTrie" := ⟨hx, hb, hml, hown, hts⟩
  have hl := lv_entry ([.ref b0, .int x1, .int x2]) (n := 3) (Nat.le_of_ble_eq_true rfl)
  rw [lg_entry_eq]
  generalize (lg_sl ([.ref b0, .int x1, .int x2]) ++ List.replicate (3 - (lg_sl ([.ref b0, .int x1, .int x2])).length) Slot.unset).toArray = ls at hl ⊢
  have hl : lv_has ls 3 [(0, .ref b0), (1, .int x1), (2, .int x2)] := hl
  refine lv_iload_n hx hb d_Pt_get_0 rfl (lv_at hl 1 rfl) ?_
  rcases hf with hf | ⟨hg, hf⟩
  · exact r_thrS (As := [.int x1]) (rest := []) (n := 1) S (tw_checkPoint l hst x1 hf) okT_call (fun U hU2 hW => okT_at hU.1 hU2 hW) k_ml_Pt_41 k_st_Pt_checkPoint k_ini_Pt k_code_Pt_checkPoint rfl rfl (by decide +kernel) ⟨by decide, by decide⟩ (by decide) (by decide) hex hlocks hl.1 rfl rfl (Nat.le_of_ble_eq_true rfl) d_Pt_get_1
  refine W.callX (W.runS (As := [.int x1]) (rest := []) S (g_checkPoint l x1 hg) ⟨callB_of 1 hts (lwg_G k_code_Pt_checkPoint) rfl rfl rfl (hts _ k_ini_Pt) (hts _ k_ml_Pt_41) (by decide +kernel) ⟨by decide, by decide⟩, hts _ k_st_Pt_checkPoint⟩ ⟨fun _ _ _ _ q => q, fun _ _ _ => ⟨rfl, trivial⟩⟩ rfl rfl hl.1 rfl (lv_room (Nat.le_of_ble_eq_true rfl)) d_Pt_get_1 ⟨Nat.zero_le _, Nat.zero_le _⟩) (fun _ h => h.elim) (fun v st₀ t h0 hq => ?_)
  obtain ⟨hv, hh⟩ := hq
  cases hv
  rw [hh, h0]
  refine W.eq (g2 := F0 m 4 ls []) rfl ?_
  refine lv_iload_n hx hb d_Pt_get_4 rfl (lv_at hl 2 rfl) ?_
  exact r_thrS (As := [.int x2]) (rest := []) (n := 1) S (tw_checkField l hst x2 hf) okT_call (fun U hU2 hW => okT_at hU.1 hU2 hW) k_ml_Pt_24 k_st_Pt_checkField k_ini_Pt k_code_Pt_checkField rfl rfl (by decide +kernel) ⟨by decide, by decide⟩ (by decide) (by decide) hex hlocks hl.1 rfl rfl (Nat.le_of_ble_eq_true rfl) d_Pt_get_5
theorem tw_change (l : Launch) (hst : l.stackTraces = false) (b0 : Nat) (x1 : Int32) (x2 : Int32) (hf : FT_checkPoint x1 ∨ (FG_checkPoint x1 ∧ (FT_checkField x2))) : MetT l y_Pt_change (.code y_Pt_change b_Pt_change 5 (some .int) :: lwg) rmT2 (va_Pc [.ref b0, .int x1, .int x2] (okU b0)) xIA 1 6 := by
  refine MetT.ofW (cc := b_Pt_change) (maxL := 5) (ret := some .int) (by decide +kernel) rfl ?_
  intro p e s m args below meth c s₁ B hml hex hv
  obtain ⟨rfl, hU⟩ := hv
  have hx := B.exec
  have hb := B.bytes
  have hts0 := atoms_spec (ws := .code y_Pt_change b_Pt_change 5 (some .int) :: lwg) B.pre
  have hts : ∀ v ∈ lwg, v.before ([.ref b0, .int x1, .int x2] : List Value).toArray s = true := fun v hv => hts0 v (List.mem_cons_of_mem _ hv)
  have hown : s.vm.findClass "PropertyTrie" = some m.cls := findClass_of_methodNamed B.named
  have hlocks := B.notSynchronized
  have S : CallFix p m c b_Pt_change 5 s ([.ref b0, .int x1, .int x2] : List Value).toArray lwg "PropertyTrie" := ⟨hx, hb, hml, hown, hts⟩
  have hl := lv_entry ([.ref b0, .int x1, .int x2]) (n := 5) (Nat.le_of_ble_eq_true rfl)
  rw [lg_entry_eq]
  generalize (lg_sl ([.ref b0, .int x1, .int x2]) ++ List.replicate (5 - (lg_sl ([.ref b0, .int x1, .int x2])).length) Slot.unset).toArray = ls at hl ⊢
  have hl : lv_has ls 5 [(0, .ref b0), (1, .int x1), (2, .int x2)] := hl
  refine lv_iload_n hx hb d_Pt_change_0 rfl (lv_at hl 1 rfl) ?_
  rcases hf with hf | ⟨hg, hf⟩
  · exact r_thrS (As := [.int x1]) (rest := []) (n := 1) S (tw_checkPoint l hst x1 hf) okT_call (fun U hU2 hW => okT_at hU.1 hU2 hW) k_ml_Pt_41 k_st_Pt_checkPoint k_ini_Pt k_code_Pt_checkPoint rfl rfl (by decide +kernel) ⟨by decide, by decide⟩ (by decide) (by decide) hex hlocks hl.1 rfl rfl (Nat.le_of_ble_eq_true rfl) d_Pt_change_1
  refine W.callX (W.runS (As := [.int x1]) (rest := []) S (g_checkPoint l x1 hg) ⟨callB_of 1 hts (lwg_G k_code_Pt_checkPoint) rfl rfl rfl (hts _ k_ini_Pt) (hts _ k_ml_Pt_41) (by decide +kernel) ⟨by decide, by decide⟩, hts _ k_st_Pt_checkPoint⟩ ⟨fun _ _ _ _ q => q, fun _ _ _ => ⟨rfl, trivial⟩⟩ rfl rfl hl.1 rfl (lv_room (Nat.le_of_ble_eq_true rfl)) d_Pt_change_1 ⟨Nat.zero_le _, Nat.zero_le _⟩) (fun _ h => h.elim) (fun v st₀ t h0 hq => ?_)
  obtain ⟨hv, hh⟩ := hq
  cases hv
  rw [hh, h0]
  refine W.eq (g2 := F0 m 4 ls []) rfl ?_
  refine lv_iload_n hx hb d_Pt_change_4 rfl (lv_at hl 2 rfl) ?_
  exact r_thrS (As := [.int x2]) (rest := []) (n := 1) S (tw_checkField l hst x2 hf) okT_call (fun U hU2 hW => okT_at hU.1 hU2 hW) k_ml_Pt_24 k_st_Pt_checkField k_ini_Pt k_code_Pt_checkField rfl rfl (by decide +kernel) ⟨by decide, by decide⟩ (by decide) (by decide) hex hlocks hl.1 rfl rfl (Nat.le_of_ble_eq_true rfl) d_Pt_change_5
theorem tw_alike (l : Launch) (hst : l.stackTraces = false) (b0 : Nat) (x1 : Int32) (x2 : Int32) (hf : FT_checkPoint x1 ∨ (FG_checkPoint x1 ∧ (FT_checkPoint x2))) : MetT l y_Pt_alike (.code y_Pt_alike b_Pt_alike 3 (some .boolean) :: lwg) rmT2 (va_Pc [.ref b0, .int x1, .int x2] (okU b0)) xIA 1 6 := by
  refine MetT.ofW (cc := b_Pt_alike) (maxL := 3) (ret := some .boolean) (by decide +kernel) rfl ?_
  intro p e s m args below meth c s₁ B hml hex hv
  obtain ⟨rfl, hU⟩ := hv
  have hx := B.exec
  have hb := B.bytes
  have hts0 := atoms_spec (ws := .code y_Pt_alike b_Pt_alike 3 (some .boolean) :: lwg) B.pre
  have hts : ∀ v ∈ lwg, v.before ([.ref b0, .int x1, .int x2] : List Value).toArray s = true := fun v hv => hts0 v (List.mem_cons_of_mem _ hv)
  have hown : s.vm.findClass "PropertyTrie" = some m.cls := findClass_of_methodNamed B.named
  have hlocks := B.notSynchronized
  have S : CallFix p m c b_Pt_alike 3 s ([.ref b0, .int x1, .int x2] : List Value).toArray lwg "PropertyTrie" := ⟨hx, hb, hml, hown, hts⟩
  have hl := lv_entry ([.ref b0, .int x1, .int x2]) (n := 3) (Nat.le_of_ble_eq_true rfl)
  rw [lg_entry_eq]
  generalize (lg_sl ([.ref b0, .int x1, .int x2]) ++ List.replicate (3 - (lg_sl ([.ref b0, .int x1, .int x2])).length) Slot.unset).toArray = ls at hl ⊢
  have hl : lv_has ls 3 [(0, .ref b0), (1, .int x1), (2, .int x2)] := hl
  refine lv_iload_n hx hb d_Pt_alike_0 rfl (lv_at hl 1 rfl) ?_
  rcases hf with hf | ⟨hg, hf⟩
  · exact r_thrS (As := [.int x1]) (rest := []) (n := 1) S (tw_checkPoint l hst x1 hf) okT_call (fun U hU2 hW => okT_at hU.1 hU2 hW) k_ml_Pt_41 k_st_Pt_checkPoint k_ini_Pt k_code_Pt_checkPoint rfl rfl (by decide +kernel) ⟨by decide, by decide⟩ (by decide) (by decide) hex hlocks hl.1 rfl rfl (Nat.le_of_ble_eq_true rfl) d_Pt_alike_1
  refine W.callX (W.runS (As := [.int x1]) (rest := []) S (g_checkPoint l x1 hg) ⟨callB_of 1 hts (lwg_G k_code_Pt_checkPoint) rfl rfl rfl (hts _ k_ini_Pt) (hts _ k_ml_Pt_41) (by decide +kernel) ⟨by decide, by decide⟩, hts _ k_st_Pt_checkPoint⟩ ⟨fun _ _ _ _ q => q, fun _ _ _ => ⟨rfl, trivial⟩⟩ rfl rfl hl.1 rfl (lv_room (Nat.le_of_ble_eq_true rfl)) d_Pt_alike_1 ⟨Nat.zero_le _, Nat.zero_le _⟩) (fun _ h => h.elim) (fun v st₀ t h0 hq => ?_)
  obtain ⟨hv, hh⟩ := hq
  cases hv
  rw [hh, h0]
  refine W.eq (g2 := F0 m 4 ls []) rfl ?_
  refine lv_iload_n hx hb d_Pt_alike_4 rfl (lv_at hl 2 rfl) ?_
  exact r_thrS (As := [.int x2]) (rest := []) (n := 1) S (tw_checkPoint l hst x2 hf) okT_call (fun U hU2 hW => okT_at hU.1 hU2 hW) k_ml_Pt_41 k_st_Pt_checkPoint k_ini_Pt k_code_Pt_checkPoint rfl rfl (by decide +kernel) ⟨by decide, by decide⟩ (by decide) (by decide) hex hlocks hl.1 rfl rfl (Nat.le_of_ble_eq_true rfl) d_Pt_alike_5
theorem tw_hash (l : Launch) (hst : l.stackTraces = false) (b0 : Nat) (x1 : Int32) (x2 : Int32) (x3 : Int32) (hf : FT_checkRange x1 x2 ∨ (FG_checkRange x1 x2 ∧ (FT_checkLength (x2 - x1 + 1) ∨ (FG_checkLength (x2 - x1 + 1) ∧ (FT_checkField x3))))) : MetT l y_Pt_hash (.code y_Pt_hash b_Pt_hash 8 (some .int) :: lwg) rmT2 (va_Pc [.ref b0, .int x1, .int x2, .int x3] (okU b0)) xIA 1 6 := by
  refine MetT.ofW (cc := b_Pt_hash) (maxL := 8) (ret := some .int) (by decide +kernel) rfl ?_
  intro p e s m args below meth c s₁ B hml hex hv
  obtain ⟨rfl, hU⟩ := hv
  have hx := B.exec
  have hb := B.bytes
  have hts0 := atoms_spec (ws := .code y_Pt_hash b_Pt_hash 8 (some .int) :: lwg) B.pre
  have hts : ∀ v ∈ lwg, v.before ([.ref b0, .int x1, .int x2, .int x3] : List Value).toArray s = true := fun v hv => hts0 v (List.mem_cons_of_mem _ hv)
  have hown : s.vm.findClass "PropertyTrie" = some m.cls := findClass_of_methodNamed B.named
  have hlocks := B.notSynchronized
  have S : CallFix p m c b_Pt_hash 8 s ([.ref b0, .int x1, .int x2, .int x3] : List Value).toArray lwg "PropertyTrie" := ⟨hx, hb, hml, hown, hts⟩
  have hl := lv_entry ([.ref b0, .int x1, .int x2, .int x3]) (n := 8) (Nat.le_of_ble_eq_true rfl)
  rw [lg_entry_eq]
  generalize (lg_sl ([.ref b0, .int x1, .int x2, .int x3]) ++ List.replicate (8 - (lg_sl ([.ref b0, .int x1, .int x2, .int x3])).length) Slot.unset).toArray = ls at hl ⊢
  have hl : lv_has ls 8 [(0, .ref b0), (1, .int x1), (2, .int x2), (3, .int x3)] := hl
  refine lv_iload_n hx hb d_Pt_hash_0 rfl (lv_at hl 1 rfl) ?_
  refine lv_iload_n hx hb d_Pt_hash_1 rfl (lv_at hl 2 rfl) ?_
  rcases hf with hf | ⟨hg, hf⟩
  · exact r_thrS (As := [.int x1, .int x2]) (rest := []) (n := 2) S (tw_checkRange l hst x1 x2 hf) okT_call (fun U hU2 hW => okT_at hU.1 hU2 hW) k_ml_Pt_20 k_st_Pt_checkRange k_ini_Pt k_code_Pt_checkRange rfl rfl (by decide +kernel) ⟨by decide, by decide⟩ (by decide) (by decide) hex hlocks hl.1 rfl rfl (Nat.le_of_ble_eq_true rfl) d_Pt_hash_2
  refine W.callX (W.runS (As := [.int x1, .int x2]) (rest := []) S (g_checkRange l x1 x2 hg) ⟨callB_of 2 hts (lwg_G k_code_Pt_checkRange) rfl rfl rfl (hts _ k_ini_Pt) (hts _ k_ml_Pt_20) (by decide +kernel) ⟨by decide, by decide⟩, hts _ k_st_Pt_checkRange⟩ ⟨fun _ _ _ _ q => q, fun _ _ _ => ⟨rfl, trivial⟩⟩ rfl rfl hl.1 rfl (lv_room (Nat.le_of_ble_eq_true rfl)) d_Pt_hash_2 ⟨Nat.zero_le _, Nat.zero_le _⟩) (fun _ h => h.elim) (fun v st₀ t h0 hq => ?_)
  obtain ⟨hv, hh⟩ := hq
  cases hv
  rw [hh, h0]
  refine W.eq (g2 := F0 m 5 ls []) rfl ?_
  refine lv_iload_n hx hb d_Pt_hash_5 rfl (lv_at hl 2 rfl) ?_
  refine lv_iload_n hx hb d_Pt_hash_6 rfl (lv_at hl 1 rfl) ?_
  refine lv_isub hx hb d_Pt_hash_7 ?_
  refine lv_iconst (v := 1) hx hb d_Pt_hash_8 (by decide) ?_
  refine lv_iadd hx hb d_Pt_hash_9 ?_
  rcases hf with hf | ⟨hg, hf⟩
  · exact r_thrS (As := [.int (x2 - x1 + 1)]) (rest := []) (n := 1) S (tw_checkLength l hst (x2 - x1 + 1) hf) okT_call (fun U hU2 hW => okT_at hU.1 hU2 hW) k_ml_Pt_62 k_st_Pt_checkLength k_ini_Pt k_code_Pt_checkLength rfl rfl (by decide +kernel) ⟨by decide, by decide⟩ (by decide) (by decide) hex hlocks hl.1 rfl rfl (Nat.le_of_ble_eq_true rfl) d_Pt_hash_10
  refine W.callX (W.runS (As := [.int (x2 - x1 + 1)]) (rest := []) S (g_checkLength l (x2 - x1 + 1) hg) ⟨callB_of 1 hts (lwg_G k_code_Pt_checkLength) rfl rfl rfl (hts _ k_ini_Pt) (hts _ k_ml_Pt_62) (by decide +kernel) ⟨by decide, by decide⟩, hts _ k_st_Pt_checkLength⟩ ⟨fun _ _ _ _ q => q, fun _ _ _ => ⟨rfl, trivial⟩⟩ rfl rfl hl.1 rfl (lv_room (Nat.le_of_ble_eq_true rfl)) d_Pt_hash_10 ⟨Nat.zero_le _, Nat.zero_le _⟩) (fun _ h => h.elim) (fun v st₀ t h0 hq => ?_)
  obtain ⟨hv, hh⟩ := hq
  cases hv
  rw [hh, h0]
  refine W.eq (g2 := F0 m 13 ls []) rfl ?_
  refine lv_iload_n hx hb d_Pt_hash_13 rfl (lv_at hl 3 rfl) ?_
  exact r_thrS (As := [.int x3]) (rest := []) (n := 1) S (tw_checkField l hst x3 hf) okT_call (fun U hU2 hW => okT_at hU.1 hU2 hW) k_ml_Pt_24 k_st_Pt_checkField k_ini_Pt k_code_Pt_checkField rfl rfl (by decide +kernel) ⟨by decide, by decide⟩ (by decide) (by decide) hex hlocks hl.1 rfl rfl (Nat.le_of_ble_eq_true rfl) d_Pt_hash_14
theorem tw_mark (l : Launch) (hst : l.stackTraces = false) (b0 : Nat) (x1 : Int32) (x2 : Int32) (x3 : Int32) (x4 : Int32) (x5 : Int32) (hf : FT_checkRange x1 x2 ∨ (FG_checkRange x1 x2 ∧ (FT_checkField x3))) : MetT l y_Pt_mark (.code y_Pt_mark b_Pt_mark 6 (some .int) :: lwg) rmT2 (va_Pc [.ref b0, .int x1, .int x2, .int x3, .int x4, .int x5] (okU b0)) xIA 1 6 := by
  refine MetT.ofW (cc := b_Pt_mark) (maxL := 6) (ret := some .int) (by decide +kernel) rfl ?_
  intro p e s m args below meth c s₁ B hml hex hv
  obtain ⟨rfl, hU⟩ := hv
  have hx := B.exec
  have hb := B.bytes
  have hts0 := atoms_spec (ws := .code y_Pt_mark b_Pt_mark 6 (some .int) :: lwg) B.pre
  have hts : ∀ v ∈ lwg, v.before ([.ref b0, .int x1, .int x2, .int x3, .int x4, .int x5] : List Value).toArray s = true := fun v hv => hts0 v (List.mem_cons_of_mem _ hv)
  have hown : s.vm.findClass "PropertyTrie" = some m.cls := findClass_of_methodNamed B.named
  have hlocks := B.notSynchronized
  have S : CallFix p m c b_Pt_mark 6 s ([.ref b0, .int x1, .int x2, .int x3, .int x4, .int x5] : List Value).toArray lwg "PropertyTrie" := ⟨hx, hb, hml, hown, hts⟩
  have hl := lv_entry ([.ref b0, .int x1, .int x2, .int x3, .int x4, .int x5]) (n := 6) (Nat.le_of_ble_eq_true rfl)
  rw [lg_entry_eq]
  generalize (lg_sl ([.ref b0, .int x1, .int x2, .int x3, .int x4, .int x5]) ++ List.replicate (6 - (lg_sl ([.ref b0, .int x1, .int x2, .int x3, .int x4, .int x5])).length) Slot.unset).toArray = ls at hl ⊢
  have hl : lv_has ls 6 [(0, .ref b0), (1, .int x1), (2, .int x2), (3, .int x3), (4, .int x4), (5, .int x5)] := hl
  refine lv_iload_n hx hb d_Pt_mark_0 rfl (lv_at hl 1 rfl) ?_
  refine lv_iload_n hx hb d_Pt_mark_1 rfl (lv_at hl 2 rfl) ?_
  rcases hf with hf | ⟨hg, hf⟩
  · exact r_thrS (As := [.int x1, .int x2]) (rest := []) (n := 2) S (tw_checkRange l hst x1 x2 hf) okT_call (fun U hU2 hW => okT_at hU.1 hU2 hW) k_ml_Pt_20 k_st_Pt_checkRange k_ini_Pt k_code_Pt_checkRange rfl rfl (by decide +kernel) ⟨by decide, by decide⟩ (by decide) (by decide) hex hlocks hl.1 rfl rfl (Nat.le_of_ble_eq_true rfl) d_Pt_mark_2
  refine W.callX (W.runS (As := [.int x1, .int x2]) (rest := []) S (g_checkRange l x1 x2 hg) ⟨callB_of 2 hts (lwg_G k_code_Pt_checkRange) rfl rfl rfl (hts _ k_ini_Pt) (hts _ k_ml_Pt_20) (by decide +kernel) ⟨by decide, by decide⟩, hts _ k_st_Pt_checkRange⟩ ⟨fun _ _ _ _ q => q, fun _ _ _ => ⟨rfl, trivial⟩⟩ rfl rfl hl.1 rfl (lv_room (Nat.le_of_ble_eq_true rfl)) d_Pt_mark_2 ⟨Nat.zero_le _, Nat.zero_le _⟩) (fun _ h => h.elim) (fun v st₀ t h0 hq => ?_)
  obtain ⟨hv, hh⟩ := hq
  cases hv
  rw [hh, h0]
  refine W.eq (g2 := F0 m 5 ls []) rfl ?_
  refine lv_iload_n hx hb d_Pt_mark_5 rfl (lv_at hl 3 rfl) ?_
  exact r_thrS (As := [.int x3]) (rest := []) (n := 1) S (tw_checkField l hst x3 hf) okT_call (fun U hU2 hW => okT_at hU.1 hU2 hW) k_ml_Pt_24 k_st_Pt_checkField k_ini_Pt k_code_Pt_checkField rfl rfl (by decide +kernel) ⟨by decide, by decide⟩ (by decide) (by decide) hex hlocks hl.1 rfl rfl (Nat.le_of_ble_eq_true rfl) d_Pt_mark_6
theorem tw_set (l : Launch) (hst : l.stackTraces = false) (b0 : Nat) (x1 x2 x3 x4 : Int32) (hf : FT_checkRange x1 x2 ∨ (FG_checkRange x1 x2 ∧ (FT_checkField x3))) : MetT l y_Pt_set (.code y_Pt_set b_Pt_set 5 (some .int) :: lwg) rmT3 (va_Pc [.ref b0, .int x1, .int x2, .int x3, .int x4] (okU b0)) xIA 1 6 := by
  refine MetT.ofW (cc := b_Pt_set) (maxL := 5) (ret := some .int) (by decide +kernel) rfl ?_
  intro p e s m args below meth c s₁ B hml hex hv
  obtain ⟨rfl, hU⟩ := hv
  have hx := B.exec
  have hb := B.bytes
  have hts0 := atoms_spec (ws := .code y_Pt_set b_Pt_set 5 (some .int) :: lwg) B.pre
  have hts : ∀ v ∈ lwg, v.before ([.ref b0, .int x1, .int x2, .int x3, .int x4] : List Value).toArray s = true := fun v hv => hts0 v (List.mem_cons_of_mem _ hv)
  have hown : s.vm.findClass "PropertyTrie" = some m.cls := findClass_of_methodNamed B.named
  have hlocks := B.notSynchronized
  have S : CallFix p m c b_Pt_set 5 s ([.ref b0, .int x1, .int x2, .int x3, .int x4] : List Value).toArray lwg "PropertyTrie" := ⟨hx, hb, hml, hown, hts⟩
  have hl := lv_entry ([.ref b0, .int x1, .int x2, .int x3, .int x4]) (n := 5) (Nat.le_of_ble_eq_true rfl)
  rw [lg_entry_eq]
  generalize (lg_sl ([.ref b0, .int x1, .int x2, .int x3, .int x4]) ++ List.replicate (5 - (lg_sl ([.ref b0, .int x1, .int x2, .int x3, .int x4])).length) Slot.unset).toArray = ls at hl ⊢
  have hl : lv_has ls 5 [(0, .ref b0), (1, .int x1), (2, .int x2), (3, .int x3), (4, .int x4)] := hl
  refine lv_aload_n hx hb d_Pt_set_0 rfl (lv_at hl 0 rfl) ?_
  refine lv_iload_n hx hb d_Pt_set_1 rfl (lv_at hl 1 rfl) ?_
  refine lv_iload_n hx hb d_Pt_set_2 rfl (lv_at hl 2 rfl) ?_
  refine lv_iload_n hx hb d_Pt_set_3 rfl (lv_at hl 3 rfl) ?_
  refine lv_iload hx hb d_Pt_set_4 (lv_at hl 4 rfl) ?_
  refine lv_iconst (v := 0) hx hb d_Pt_set_6 (by decide) ?_
  exact r_thrV (C := "PropertyTrie") (As := [.int x1, .int x2, .int x3, .int x4, .int 0]) (rest := []) (n := 5) S (tw_mark l hst b0 x1 x2 x3 x4 0 hf) okU_call (fun U hU2 hW => okU_at hU hU2 hW) hU.2 k_ml_Pt_16 k_im_Pt_mark k_sel_Pt_mark k_ini_Pt k_code_Pt_mark rfl rfl (by decide +kernel) ⟨by decide, by decide⟩ (by decide) (by decide) hex hlocks hl.1 rfl rfl (Nat.le_of_ble_eq_true rfl) d_Pt_set_7
end
section
/-- the law's side of the tables -/
def okL (D : va_G) (cI cJ : ClassId) (U : State) : Prop := okS D cI U ∧ va_K D classes [(cJ, .long)] U
theorem okL.warm {D : va_G} {cI cJ : ClassId} {s U : State} (hW : s.WarmedH U.vm) (h : okL D cI cJ s) : okL D cI cJ U := ⟨okS.warm hW h.1, va_K.moved hW.alike h.2⟩
theorem okL.calling {D : va_G} {cI cJ : ClassId} {U : State} (h : okL D cI cJ U) (g : JFrame) (mk : MethodId) (av : Array Value) : okL D cI cJ (U.calling g mk av) := ⟨h.1.calling g mk av, va_K.moved (u := U) (U := U.calling g mk av) (Vm.Alike.refl U.vm) h.2⟩
abbrev wO (cJ : ClassId) (aO : Nat) (g : Nat → Int64) : St → va_W := fun _ => [(aO, .inl (cJ, 1, .inr (.inl g)))]
theorem Fx_O (n : Nat) (cJ : ClassId) (aO : Nat) (g : Nat → Int64) : Fx n (wO cJ aO g) := fun _ _ _ _ => rfl
abbrev wLa (cI cJ : ClassId) (a : Nat → Nat) (g : Nat → Int64) (σ : St) : va_W := wMo cI a (wO cJ (a 15) g) σ
def PreL (D : va_G) (cI cJ : ClassId) (w : va_W) (sz : Nat) (U : State) : Prop := U.heap.size = sz ∧ va_P D classes w U.heap ∧ okL D cI cJ U ∧ va_D (fun _ => True) w ∧ okT U
/-- the law's own helpers: they answer 0 and write the answer down, or 1 where the class has thrown -/
def Cw (l : Launch) (y : MethodName) (cw : Cond) (rm : Room) (D : va_G) (cI cJ : ClassId) (avs : List Value) (a : Nat → Nat) (g : Nat → Int64) (σ : St) (Qp : Int32 → St × (Nat → Int64) → Prop) : Prop :=
  ∀ sz : Nat, Met l y (cw :: lwg) rm (va_Pc avs (PreL D cI cJ (wLa cI cJ a g σ) sz)) (va_Qi Qp (fun u t => PstW D (va_A (wLa cI cJ a g σ) sz) (wLa cI cJ a u.2 u.1) t) (va_A (wLa cI cJ a g σ) sz)) 1 6 (va_A (wLa cI cJ a g σ) sz)
theorem MetW.ofW {l : Launch} {y : MethodName} {ws ws' : List Cond} {rm : Room} {Pc : Array Value → State → Prop} {Qc : Array Value → State → Outcome → State → Prop} {mc ms : Nat} {free : Addr → Prop} {cc : ByteArray} {maxL : Nat} {ret : Option FieldType} {hh : List (Nat × Nat × Nat × Nat)}
    (hy : plainName y.cls = true) (hw : ws = Cond.codeWith y cc maxL ret hh :: ws')
    (body : ∀ p e s m args below meth c s₁, BodyLoose p l y (headSpec ws rm) cc maxL ret e s m args below meth c s₁ → c.maxLocals = maxL → c.exceptionTable.toList.map (fun h => (h.startPc, h.endPc, h.handlerPc, h.catchType)) = hh → Pc args s →
      W p l e (headSpec ws rm).room s m args below meth c s.heap [] 0 0 (MQ below Qc args s mc ms free) (entryFrame m args maxL)) : Met l y ws rm Pc Qc mc ms free := by
  refine MetFree.of_bodyS (code := cc) (maxLocals := maxL) (ret := ret) hy ?_ ?_
  · intro args s m h hn
    obtain ⟨m9, meth, c, hn9, h1, h2, h3, h4, -, h5, h6, -⟩ := Cond.codeWith_spec (atoms_spec (ws := ws) h _ (by rw [hw]; exact List.mem_cons_self))
    cases hn.symm.trans hn9
    exact ⟨meth, c, h1, h2, h3, h4, h5, h6⟩
  · intro p e s m args below meth c s₁ B hml hP _
    have hh0 : s₁.heap = s.heap := by rw [B.state]; rfl
    have htab : c.exceptionTable.toList.map (fun h => (h.startPc, h.endPc, h.handlerPc, h.catchType)) = hh := by
      obtain ⟨m9, meth', c', hn9, h1, h2, -, -, h7, -⟩ := Cond.codeWith_spec (atoms_spec (ws := ws) B.pre _ (by rw [hw]; exact List.mem_cons_self))
      cases B.named.symm.trans hn9
      cases B.method.symm.trans h1
      have hc : meth.code = some c := (Stand.of_body B).code
      cases hc.symm.trans h2
      exact h7
    obtain ⟨t, a1, o, b1, b2, b3⟩ := body p e s m args below meth c s₁ B hml htab hP s₁ hh0 (Stand.of_body B)
    exact ⟨t, o, a1, b1, b2, ⟨b3.1, b3.2⟩⟩
theorem keep_eq {H H1 : Heap} (hk : ∀ (q : Addr) (cell : Cell), H[q]? = some cell → H1[q]? = some cell) {q : Nat} (h : q < H.size) : H1[q]? = H[q]? := by
  rw [hk q H[q] (Array.getElem?_eq_getElem h), Array.getElem?_eq_getElem h]
section CATW
variable {p : Program} {l : Launch} {e : Env} {R : Room} {s : State} {m : MethodId} {args : Array Value} {below : List Frame} {meth : Method} {c : Code} {H : Heap} {locs : List Loc} {cells slots : Nat} {Q : State → Prop} {cc : ByteArray} {pc nL : Nat} {ls : Array Slot} {rest : List Value} {own : String} {index : Nat}
theorem r_catV {n maxL mc ms x0 x1 x2 ct : Nat} {C : String} {y : MethodName} {bytes : ByteArray} {ret : Option FieldType} {rm : Room} {K : State → Prop} {b0 : Nat} {As st : List Value} {Xc : String}
    (S : CallFix p m c cc nL s args lwg own) (hM : MetT l y (.code y bytes maxL ret :: lwg) rm (va_Pc (.ref b0 :: As) K) Xc mc ms) (hKb : ∀ (U : State) (g : JFrame) (mk : MethodId) (av : Array Value), K U → K (U.calling g mk av)) (hK : ∀ U : State, U.heap = H → s.WarmedH U.vm → K U)
    (hrv : ∃ cell : Cell, H[b0]? = some cell ∧ cell.vm.isStatics = false ∧ s.vm.findClass C = some cell.cls)
    (h1 : Cond.methodLink own index y ∈ lwg) (h2 : Cond.instanceMethod y ∈ lwg) (h3 : Cond.selects C y y ∈ lwg) (h4 : Cond.initialized y.cls ∈ lwg) (h5 : Cond.code y bytes maxL ret ∈ lwg) (hrc : rm.cells = mc) (hrs : rm.slots = ms)
    (hd : y.cls ≠ "java/lang/invoke/MethodHandle" ∧ y.cls ≠ "java/lang/invoke/VarHandle" ∧ (parseMethodDescriptor y.desc).map (fun d => d.parameters.length) = some n) (hR : rm.frames + 1 ≤ R.frames ∧ 8 + (maxL + 11) + rm.locals ≤ R.locals) (hRc : cells + mc ≤ R.cells) (hRs : slots + ms ≤ R.slots)
    (htab : c.exceptionTable.toList.map (fun h => (h.startPc, h.endPc, h.handlerPc, h.catchType)) = [(x0, x1, x2, ct)]) (hcov : x0 ≤ pc ∧ pc < x1) (hct : ct ≠ 0) (hcl : Cond.classLink own ct Xc ∈ lwg)
    (hsize : ls.size = nL) (hn : As.length = n) (hst : st = As.reverse ++ .ref b0 :: rest) (hW : (rest.map fun v => v.category).sum ≤ 8) (hdg : decode cc pc = .ok (.invokevirtual index, 3))
    (kk : ∀ (b : Nat) (H1 : Heap), (∀ (q : Addr) (cell : Cell), H[q]? = some cell → H1[q]? = some cell) → H.size ≤ H1.size → W p l e R s m args below meth c H1 locs (cells + mc) (slots + ms) Q (F0 m x2 ls [.ref b])) :
    W p l e R s m args below meth c H locs cells slots Q (F0 m pc ls st) := by
  subst hst
  intro T hT X
  obtain ⟨-, -, hfr, hlo, hws, hcw, hcode, hini, hy, hlen, hl⟩ := callB_of n S.2.2.2.2 (lwg_G h5) rfl hrc hrs (S.2.2.2.2 _ h4) (S.2.2.2.2 _ h1) hd hR
  obtain ⟨cellB, hr1, hr2, hr3⟩ := hrv
  have hB : BackT l R p e below s args y 3 8 (PreOf R mc ms (va_Pc (.ref b0 :: As) K)) Xc mc ms := backT (bytes := bytes) (maxL := maxL) (ret := ret) hM (fun a U g mk q => ⟨q.1, hKb U g mk a q.2⟩) hrc hrs hfr hlo hws hcw (fun a' U hW => word_at hW (Or.inl (by first | rfl | simp [Cond.onTables, Cond.keeps, Cond.steady])) hini)
  obtain ⟨b, V, X', ⟨ce, hc1, hc2, hc3⟩, hk, hsz, st⟩ := thrV X S.1 (C := C) (bytes := bytes) (maxL := maxL) (ret := ret) S.2.2.2.1 hl (S.2.2.2.2 _ h2) (S.2.2.2.2 _ h3) hcode hy hB (b0 := b0) (cellB := cellB) (by rw [hT]; exact hr1) hr2 hr3 (g := F0 m pc ls (As.reverse ++ .ref b0 :: rest)) rfl (hsize.trans S.2.2.1.symm) (argsL := As) (rest := rest) (fun sig h => hn.trans (hlen sig h)) rfl (lv_room hW) (by rw [S.2.1]; exact hdg)
    (fun vm₁ hW₁ => ⟨hRc, hRs, rfl, hK (T.setVm vm₁) hT hW₁⟩)
  rw [hT] at hk hsz
  cases hL : c.exceptionTable.toList with
  | nil => rw [hL] at htab; cases htab
  | cons x t =>
    rw [hL] at htab
    simp only [List.map_cons, List.cons.injEq, List.map_eq_nil_iff, Prod.mk.injEq] at htab
    obtain ⟨⟨rfl, rfl, rfl, rfl⟩, rfl⟩ := htab
    obtain ⟨vm', X2, st2⟩ := catchCold (g := { F0 m pc ls (As.reverse ++ .ref b0 :: rest) with stack := rest }) X' S.2.2.2.1 (S.2.2.2.2 _ hcl) hc1 hc2 hc3 hL hct rfl (by simp only [covers, Bool.and_eq_true, decide_eq_true_eq]; exact hcov)
    obtain ⟨t2, h6, h7⟩ := kk b V.heap hk hsz (V.setVm vm') rfl X2
    exact ⟨t2, st t2 (st2 t2 h6), h7⟩
/-- a static method with an exception table is called -/
theorem callSW {T : State} (X : Stand p l e R s m args below meth c T locs cells slots) (hexec : p.tables.exec = Jvm.exec) {y : MethodName} {bytes : ByteArray} {maxL : Nat} {ret : Option FieldType} {hh : List (Nat × Nat × Nat × Nat)}
    (hown : s.vm.findClass own = some m.cls) (hlink : (Cond.methodLink own index y).before args s = true) (hstat : (Cond.static y).before args s = true) (hinit : (Cond.initialized y.cls).before args s = true)
    (hcode : (Cond.codeWith y bytes maxL ret hh).before args s = true) (hy : y.cls ≠ "java/lang/invoke/MethodHandle" ∧ y.cls ≠ "java/lang/invoke/VarHandle")
    {wd : Nat} {Pre : Pt → Array Value → Prop} {Post : Pt → Array Value → Option Value → Pt → Prop} (hK : Back l R p e below s args y 3 wd Pre Post)
    {g : JFrame} (hg : g.method = m) (hsize : g.locals.size = c.maxLocals) {argsL rest : List Value} (hlen : ∀ sig, parseMethodDescriptor y.desc = some sig → argsL.length = sig.parameters.length)
    (hstack : g.stack = argsL.reverse ++ rest) (hW : 2 * g.monitorRoom + (rest.map fun v => v.category).sum ≤ wd) (hdg : decode c.code g.pc = .ok (.invokestatic index, 3))
    (hpre : ∀ vm₁, s.WarmedH vm₁ → Pre ⟨T.setVm vm₁, locs, cells, slots⟩ argsL.toArray) :
    ∃ (v : Option Value) (vm₁ : Vm) (B : Pt), s.WarmedH vm₁ ∧ Stand p l e R s m args below meth c B.U B.locs B.cells B.slots ∧ Post ⟨T.setVm vm₁, locs, cells, slots⟩ argsL.toArray v B ∧
      ∀ target, Steps p.tables e below (B.U.setTop { g with pc := g.pc + 3, stack := v.toList ++ rest }) target → Steps p.tables e below (T.setTop g) target := by
  obtain ⟨mk, methM, cM, hnamed, hmethM, -, -, -, -, -, -, hsigM⟩ := Cond.codeWith_spec hcode
  have hstatic : methM.isStatic = true := Cond.static_spec hnamed hmethM hstat
  obtain ⟨kP, hkP, -⟩ := className_of_methodNamed hnamed
  have hinitP : kP.init = .initialized := Cond.initialized_spec (findClass_of_methodNamed hnamed) hkP hinit
  obtain ⟨vm₁, X₁, hstep₁⟩ := X.invokestatic hexec hown hlink hnamed hmethM hstatic hkP hinitP hy (g := g) hg (argsL := argsL) (rest := rest) (hlen _ hsigM) hstack hdg
  obtain ⟨v, B, X', hpost, hsteps⟩ := hK m meth c ⟨T.setVm vm₁, locs, cells, slots⟩ { g with stack := rest } (.invokestatic index) mk argsL.toArray X₁ hg hsize hdg hW (X₁.named hnamed) (hpre vm₁ X₁.warmed)
  exact ⟨v, vm₁, B, X₁.warmed, X', hpost, fun target h => hstep₁ _ fun acts => by rw [doInvoke_state]; exact hsteps.trans h⟩
theorem r_callW {n maxL : Nat} {D : va_G} {cI cJ : ClassId} {A : Nat → Prop} {a : Nat → Nat} {g0 : Nat → Int64} {σ : St} {y : MethodName} {bytes : ByteArray} {hh : List (Nat × Nat × Nat × Nat)} {rm : Room} {As st : List Value} {Qp : Int32 → St × (Nat → Int64) → Prop}
    (S : CallFix p m c cc nL s args lwg own) (hok : okL D cI cJ s) (hTk : ∀ U : State, U.heap = H → s.WarmedH U.vm → okT U) (hM : Cw l y (.codeWith y bytes maxL (some .int) hh) rm D cI cJ As a g0 σ Qp)
    (h1 : Cond.methodLink own index y ∈ lwg) (h2 : Cond.static y ∈ lwg) (h4 : Cond.initialized y.cls ∈ lwg) (h5 : Cond.codeWith y bytes maxL (some .int) hh ∈ lwg) (hrc : rm.cells = 1) (hrs : rm.slots = 6)
    (hd : y.cls ≠ "java/lang/invoke/MethodHandle" ∧ y.cls ≠ "java/lang/invoke/VarHandle" ∧ (parseMethodDescriptor y.desc).map (fun d => d.parameters.length) = some n) (hR : rm.frames + 1 ≤ R.frames ∧ 8 + (maxL + 11) + rm.locals ≤ R.locals)
    (hP : va_P D classes (wLa cI cJ a g0 σ) H) (hD : va_D A (wLa cI cJ a g0 σ)) (hS : va_S A s.heap H locs) (hA : ∀ q, s.heap.size ≤ q → A q) (hfc : cells + 1 ≤ R.cells) (hfs : slots + 6 ≤ R.slots)
    (hsize : ls.size = nL) (hn : As.length = n) (hst : st = As.reverse ++ rest) (hW : (rest.map fun v => v.category).sum ≤ 8) (hdg : decode cc pc = .ok (.invokestatic index, 3))
    (kk : ∀ (r : Int32) (u : St × (Nat → Int64)) (H1 : Heap) (locs1 : List Loc), Qp r u → va_P D classes (wLa cI cJ a u.2 u.1) H1 → va_D A (wLa cI cJ a u.2 u.1) → va_S A s.heap H1 locs1 → W p l e R s m args below meth c H1 locs1 (cells + 1) (slots + 6) Q (F0 m (pc + 3) ls (.int r :: rest))) :
    W p l e R s m args below meth c H locs cells slots Q (F0 m pc ls st) := by
  subst hst
  have hFc : ∀ q, va_A (wLa cI cJ a g0 σ) H.size q → A q := fun q h => by
    rcases h with ⟨k, e, h⟩ | h
    · exact hD.2 k _ h
    · exact hA q (Nat.le_trans hS.1 h)
  have hws : ∀ w ∈ (Cond.codeWith y bytes maxL (some .int) hh :: lwg), ∀ (a' : Array Value) (U : State), s.WarmedH U.vm → w.before a' U = true := pay_in S.2.2.2.2 (lwg_G h5)
  have hK := va_backW (R := R) (p := p) (e := e) (below := below) (s := s) (sargs := args) (len := 3) (W := 8) (hM H.size) (fun av U g mk q => ⟨q.1, q.2.1, q.2.2.1, q.2.2.2.1.calling g mk av, q.2.2.2.2.1, okT_call U g mk av q.2.2.2.2.2⟩) hrc hrs hR.1 hR.2 hws List.mem_cons_self (fun a' U hW => word_at hW (Or.inl (by first | rfl | simp [Cond.onTables, Cond.keeps, Cond.steady])) (S.2.2.2.2 _ h4))
  have hrun : va_Run p l e R s m args below meth c H locs cells slots 1 6 (F0 m pc ls (As.reverse ++ rest)) rest (va_Qi Qp (fun u t => PstW D (va_A (wLa cI cJ a g0 σ) H.size) (wLa cI cJ a u.2 u.1) t) (va_A (wLa cI cJ a g0 σ) H.size) As.toArray) (va_A (wLa cI cJ a g0 σ) H.size) := by
    intro T hT X
    obtain ⟨v, vm₁, ⟨U', l2, c2, s2⟩, hW₁, X', ⟨g', mk, t, L, e1, e2, hq, h1, hL, h2, h3⟩, st⟩ := callSW X S.1 S.2.2.2.1 (S.2.2.2.2 _ h1) (S.2.2.2.2 _ h2) (S.2.2.2.2 _ h4) (S.2.2.2.2 _ h5) ⟨hd.1, hd.2.1⟩ hK (g := F0 m pc ls (As.reverse ++ rest)) rfl (hsize.trans S.2.2.1.symm) (argsL := As) (rest := rest) (fun sig h => by
        have h2 := hd.2.2
        rw [h] at h2
        exact hn.trans (Option.some.inj h2).symm) rfl (lv_room hW) (by rw [S.2.1]; exact hdg)
      (fun vm₁ hW₁ => ⟨hfc, hfs, rfl, by show T.heap.size = _; rw [hT], by show va_P D classes _ T.heap; rw [hT]; exact hP, hok.warm hW₁, hD.weaken (fun _ _ _ _ => trivial), hTk (T.setVm vm₁) hT hW₁⟩)
    dsimp only [Pt.U, Pt.locs, Pt.cells, Pt.slots] at X' e1 e2 h1 h2 h3 st
    subst h1; subst h2; subst h3
    exact ⟨v, (T.setVm vm₁).calling g' mk As.toArray, t, U', L, hT, X', hL, e1, e2, hq, st⟩
  exact va_calli hrun hS (fun q _ h => hFc q h) hFc (fun r u t H1 locs1 ht hvm hq hB hz1 hk1 hS1 => kk r u H1 locs1 hq (by rw [← ht]; exact hB.1) (hB.2.weaken (fun _ _ _ h => hFc _ h)) hS1)
end CATW
end
