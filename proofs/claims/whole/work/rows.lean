section
abbrev St : Type := Nat → Nat → Int32
/-- a component gets new contents -/
def sA (σ : St) (k : Nat) (f : Nat → Int32) : St := fun j => cond (Nat.beq j k) f (σ j)
theorem sA_s (σ : St) (k : Nat) (f : Nat → Int32) : sA σ k f k = f := by
  unfold sA
  rw [show Nat.beq k k = true from Nat.beq_refl k]
  rfl
theorem sA_n {σ : St} {k : Nat} {f : Nat → Int32} {j : Nat} (h : j ≠ k) : sA σ k f j = σ j := by
  unfold sA
  cases e : Nat.beq j k with
  | true => exact absurd (Nat.eq_of_beq_eq_true e) h
  | false => rfl
theorem sA_e (σ : St) (k : Nat) (f : Nat → Int32) (j : Nat) : sA σ k f j = if j = k then f else σ j := by
  by_cases h : j = k
  · rw [if_pos h, h, sA_s]
  · rw [if_neg h, sA_n h]
def F_Ar_fill2_heads_L5 (v1 : Int32) (v2 : Int32) (v3 : Int32) (σ : St) (Q : St → Prop) : Prop :=
  ∃ (I5 : Int32 → St → Prop) (m5 : Int32 → St → Nat), I5 v2 σ ∧ ∀ (v2 : Int32) (σ : St) (n5 : Nat), I5 v2 σ → m5 v2 σ = n5 →
  ((v3 ≤ v2 →
  Q σ) ∧ (¬ v3 ≤ v2 →
  vp_in v2 1024 ∧ ∀ σ1 : St, σ1 = sA σ 3 (upd (σ 3) v2.toNatClampNeg v1) →
  ∀ z2 : Int32, z2 = v2 + (1 : Int32) →
  I5 z2 σ1 ∧ m5 z2 σ1 < n5))
def F_Ar_fill2_heads (x1 : Int32) (σ : St) (Q : St → Prop) : Prop :=
  ∀ z3 : Int32, z3 = (0 : Int32) →
  ∀ z4 : Int32, z4 = (1024 : Int32) →
  F_Ar_fill2_heads_L5 x1 z3 z4 σ Q
def F_Ar_fill2_holders_L5 (v1 : Int32) (v2 : Int32) (v3 : Int32) (σ : St) (Q : St → Prop) : Prop :=
  ∃ (I5 : Int32 → St → Prop) (m5 : Int32 → St → Nat), I5 v2 σ ∧ ∀ (v2 : Int32) (σ : St) (n5 : Nat), I5 v2 σ → m5 v2 σ = n5 →
  ((v3 ≤ v2 →
  Q σ) ∧ (¬ v3 ≤ v2 →
  vp_in v2 1028 ∧ ∀ σ1 : St, σ1 = sA σ 1 (upd (σ 1) v2.toNatClampNeg v1) →
  ∀ z2 : Int32, z2 = v2 + (1 : Int32) →
  I5 z2 σ1 ∧ m5 z2 σ1 < n5))
def F_Ar_fill2_holders (x1 : Int32) (σ : St) (Q : St → Prop) : Prop :=
  ∀ z3 : Int32, z3 = (0 : Int32) →
  ∀ z4 : Int32, z4 = (1028 : Int32) →
  F_Ar_fill2_holders_L5 x1 z3 z4 σ Q
def F_Ar_fill2_wanted_L5 (v1 : Int32) (v2 : Int32) (v3 : Int32) (σ : St) (Q : St → Prop) : Prop :=
  ∃ (I5 : Int32 → St → Prop) (m5 : Int32 → St → Nat), I5 v2 σ ∧ ∀ (v2 : Int32) (σ : St) (n5 : Nat), I5 v2 σ → m5 v2 σ = n5 →
  ((v3 ≤ v2 →
  Q σ) ∧ (¬ v3 ≤ v2 →
  vp_in v2 8 ∧ ∀ σ1 : St, σ1 = sA σ 6 (upd (σ 6) v2.toNatClampNeg v1) →
  ∀ z2 : Int32, z2 = v2 + (1 : Int32) →
  I5 z2 σ1 ∧ m5 z2 σ1 < n5))
def F_Ar_fill2_wanted (x1 : Int32) (σ : St) (Q : St → Prop) : Prop :=
  ∀ z3 : Int32, z3 = (0 : Int32) →
  ∀ z4 : Int32, z4 = (8 : Int32) →
  F_Ar_fill2_wanted_L5 x1 z3 z4 σ Q
def F_Ar_fill2_outcome_L5 (v1 : Int32) (v2 : Int32) (v3 : Int32) (σ : St) (Q : St → Prop) : Prop :=
  ∃ (I5 : Int32 → St → Prop) (m5 : Int32 → St → Nat), I5 v2 σ ∧ ∀ (v2 : Int32) (σ : St) (n5 : Nat), I5 v2 σ → m5 v2 σ = n5 →
  ((v3 ≤ v2 →
  Q σ) ∧ (¬ v3 ≤ v2 →
  vp_in v2 1028 ∧ ∀ σ1 : St, σ1 = sA σ 5 (upd (σ 5) v2.toNatClampNeg v1) →
  ∀ z2 : Int32, z2 = v2 + (1 : Int32) →
  I5 z2 σ1 ∧ m5 z2 σ1 < n5))
def F_Ar_fill2_outcome (x1 : Int32) (σ : St) (Q : St → Prop) : Prop :=
  ∀ z3 : Int32, z3 = (0 : Int32) →
  ∀ z4 : Int32, z4 = (1028 : Int32) →
  F_Ar_fill2_outcome_L5 x1 z3 z4 σ Q
def F_Ar_rangeCheck (x0 : Int32) (x1 : Int32) (x2 : Int32) (σ : St) (Q : St → Prop) : Prop :=
  ((x1 ≤ x2 →
  ((0 ≤ x1 →
  ((x2 ≤ x0 →
  Q σ) ∧ (¬ x2 ≤ x0 →
  False))) ∧ (¬ 0 ≤ x1 →
  False))) ∧ (¬ x1 ≤ x2 →
  False))
def F_Ar_fill4_cells_L10 (v2 : Int32) (v3 : Int32) (v4 : Int32) (σ : St) (Q : St → Prop) : Prop :=
  ∃ (I10 : Int32 → St → Prop) (m10 : Int32 → St → Nat), I10 v4 σ ∧ ∀ (v4 : Int32) (σ : St) (n10 : Nat), I10 v4 σ → m10 v4 σ = n10 →
  ((v2 ≤ v4 →
  Q σ) ∧ (¬ v2 ≤ v4 →
  vp_in v4 66624 ∧ ∀ σ1 : St, σ1 = sA σ 11 (upd (σ 11) v4.toNatClampNeg v3) →
  ∀ z2 : Int32, z2 = v4 + (1 : Int32) →
  I10 z2 σ1 ∧ m10 z2 σ1 < n10))
def F_Ar_fill4_cells (x1 : Int32) (x2 : Int32) (x3 : Int32) (σ : St) (Q : St → Prop) : Prop :=
  F_Ar_rangeCheck (66624 : Int32) x1 x2 σ (fun σ3 =>
  F_Ar_fill4_cells_L10 x2 x3 x1 σ3 Q)
def F_Rc_chainOf_values_L4 (v1 : Int32) (v2 : Int32) (v3 : Int32) (σ : St) (Q : Int32 → St → Prop) : Prop :=
  ∃ (I4 : Int32 → Int32 → St → Prop) (m4 : Int32 → Int32 → St → Nat), I4 v2 v3 σ ∧ ∀ (v2 v3 : Int32) (σ : St) (n4 : Nat), I4 v2 v3 σ → m4 v2 v3 σ = n4 →
  (((v1 + (8 : Int32)) ≤ v3 →
  ∀ z1 : Int32, z1 = (v2 ^^^ ((v2.toUInt32 >>> ((20 : Int32).toUInt32 &&& Int32.toUInt32 31)).toInt32 ^^^ (v2.toUInt32 >>> ((10 : Int32).toUInt32 &&& Int32.toUInt32 31)).toInt32)) →
  Q (z1 &&& (1023 : Int32)) σ) ∧ (¬ (v1 + (8 : Int32)) ≤ v3 →
  vp_in v3 8224 ∧
  ∀ z2 : Int32, z2 = (((31 : Int32) * v2) + (σ 0 v3.toNatClampNeg)) →
  ∀ z3 : Int32, z3 = v3 + (1 : Int32) →
  I4 z2 z3 σ ∧ m4 z2 z3 σ < n4))
def F_Rc_chainOf_values (x1 : Int32) (σ : St) (Q : Int32 → St → Prop) : Prop :=
  ∀ z4 : Int32, z4 = (0 : Int32) →
  F_Rc_chainOf_values_L4 x1 z4 x1 σ Q
def F_Rc_chainOf_wanted_L4 (v1 : Int32) (v2 : Int32) (v3 : Int32) (σ : St) (Q : Int32 → St → Prop) : Prop :=
  ∃ (I4 : Int32 → Int32 → St → Prop) (m4 : Int32 → Int32 → St → Nat), I4 v2 v3 σ ∧ ∀ (v2 v3 : Int32) (σ : St) (n4 : Nat), I4 v2 v3 σ → m4 v2 v3 σ = n4 →
  (((v1 + (8 : Int32)) ≤ v3 →
  ∀ z1 : Int32, z1 = (v2 ^^^ ((v2.toUInt32 >>> ((20 : Int32).toUInt32 &&& Int32.toUInt32 31)).toInt32 ^^^ (v2.toUInt32 >>> ((10 : Int32).toUInt32 &&& Int32.toUInt32 31)).toInt32)) →
  Q (z1 &&& (1023 : Int32)) σ) ∧ (¬ (v1 + (8 : Int32)) ≤ v3 →
  vp_in v3 8 ∧
  ∀ z2 : Int32, z2 = (((31 : Int32) * v2) + (σ 6 v3.toNatClampNeg)) →
  ∀ z3 : Int32, z3 = v3 + (1 : Int32) →
  I4 z2 z3 σ ∧ m4 z2 z3 σ < n4))
def F_Rc_chainOf_wanted (x1 : Int32) (σ : St) (Q : Int32 → St → Prop) : Prop :=
  ∀ z4 : Int32, z4 = (0 : Int32) →
  F_Rc_chainOf_wanted_L4 x1 z4 x1 σ Q
def F_Rc_value (x1 : Int32) (x2 : Int32) (σ : St) (Q : Int32 → St → Prop) : Prop :=
  vp_in ((x1 * (8 : Int32)) + x2) 8224 ∧
  Q (σ 0 ((x1 * (8 : Int32)) + x2).toNatClampNeg) σ
def F_Rc_hold (x1 : Int32) (x2 : Int32) (σ : St) (Q : St → Prop) : Prop :=
  vp_in x1 1028 ∧
  vp_in x1 1028 ∧ ∀ σ1 : St, σ1 = sA σ 1 (upd (σ 1) x1.toNatClampNeg ((σ 1 x1.toNatClampNeg) + x2)) →
  Q σ1
def F_Rc_isWanted_L2 (v1 : Int32) (v2 : Int32) (σ : St) (Q : Int32 → St → Prop) : Prop :=
  ∃ (I2 : Int32 → St → Prop) (m2 : Int32 → St → Nat), I2 v2 σ ∧ ∀ (v2 : Int32) (σ : St) (n2 : Nat), I2 v2 σ → m2 v2 σ = n2 →
  (((8 : Int32) ≤ v2 →
  Q (1 : Int32) σ) ∧ (¬ (8 : Int32) ≤ v2 →
  vp_in ((v1 * (8 : Int32)) + v2) 8224 ∧
  vp_in v2 8 ∧
  (((σ 0 ((v1 * (8 : Int32)) + v2).toNatClampNeg) = (σ 6 v2.toNatClampNeg) →
  ∀ z1 : Int32, z1 = v2 + (1 : Int32) →
  I2 z1 σ ∧ m2 z1 σ < n2) ∧ (¬ (σ 0 ((v1 * (8 : Int32)) + v2).toNatClampNeg) = (σ 6 v2.toNatClampNeg) →
  Q (0 : Int32) σ))))
def F_Rc_isWanted (x1 : Int32) (σ : St) (Q : Int32 → St → Prop) : Prop :=
  ∀ z2 : Int32, z2 = (0 : Int32) →
  F_Rc_isWanted_L2 x1 z2 σ Q
def F_Rc_findWanted_L9 (v2 : Int32) (v3 : Int32) (σ : St) (Q : Int32 → St → Prop) : Prop :=
  ∃ (I9 : Int32 → Int32 → St → Prop) (m9 : Int32 → Int32 → St → Nat), I9 v2 v3 σ ∧ ∀ (v2 v3 : Int32) (σ : St) (n9 : Nat), I9 v2 v3 σ → m9 v2 v3 σ = n9 →
  (((1028 : Int32) ≤ v3 →
  Q (-1 : Int32) σ) ∧ (¬ (1028 : Int32) ≤ v3 →
  ((v2 = (-1 : Int32) →
  Q (-1 : Int32) σ) ∧ (¬ v2 = (-1 : Int32) →
  F_Rc_isWanted v2 σ (fun r2 σ1 =>
  ((r2 = 0 →
  vp_in v2 1028 ∧
  ∀ z3 : Int32, z3 = (σ1 4 v2.toNatClampNeg) →
  ∀ z4 : Int32, z4 = v3 + (1 : Int32) →
  I9 z3 z4 σ1 ∧ m9 z3 z4 σ1 < n9) ∧ (¬ r2 = 0 →
  Q v2 σ1)))))))
def F_Rc_findWanted (x1 : Int32) (σ : St) (Q : Int32 → St → Prop) : Prop :=
  vp_in x1 1024 ∧
  ∀ z5 : Int32, z5 = (σ 3 x1.toNatClampNeg) →
  ∀ z6 : Int32, z6 = (0 : Int32) →
  F_Rc_findWanted_L9 z5 z6 σ Q
def F_Rc_keepWanted (x1 : Int32) (σ : St) (Q : Int32 → St → Prop) : Prop :=
  ∀ σ1 : St, σ1 = sA σ 7 (fun _ => ((σ 7 0) - (1 : Int32))) →
  vp_in (σ1 7 0) 1028 ∧
  ∀ z2 : Int32, z2 = (σ1 2 (σ1 7 0).toNatClampNeg) →
  ¬ (0 : Int32) < 0 ∧ ¬ (z2 * (8 : Int32)) < 0 ∧ ¬ (8 : Int32) < 0 ∧ (0 : Int32).toNatClampNeg + (8 : Int32).toNatClampNeg ≤ 8 ∧ (z2 * (8 : Int32)).toNatClampNeg + (8 : Int32).toNatClampNeg ≤ 8224 ∧ ∀ σ3 : St, σ3 = sA σ1 0 (va_cpy (σ1 6) (σ1 0) (0 : Int32).toNatClampNeg (z2 * (8 : Int32)).toNatClampNeg (8 : Int32).toNatClampNeg) →
  vp_in x1 1024 ∧
  vp_in z2 1028 ∧ ∀ σ4 : St, σ4 = sA σ3 4 (upd (σ3 4) z2.toNatClampNeg (σ3 3 x1.toNatClampNeg)) →
  vp_in x1 1024 ∧ ∀ σ5 : St, σ5 = sA σ4 3 (upd (σ4 3) x1.toNatClampNeg z2) →
  Q z2 σ5
def F_Rc_drop_J95 (v1 : Int32) (σ : St) (Q : St → Prop) : Prop :=
  vp_in (σ 7 0) 1028 ∧ ∀ σ1 : St, σ1 = sA σ 2 (upd (σ 2) (σ 7 0).toNatClampNeg v1) →
  ∀ σ2 : St, σ2 = sA σ1 7 (fun _ => ((σ1 7 0) + (1 : Int32))) →
  Q σ2
def F_Rc_drop_J63 (v1 : Int32) (v2 : Int32) (v3 : Int32) (σ : St) (Q : St → Prop) : Prop :=
  ((v3 = (-1 : Int32) →
  vp_in v1 1028 ∧
  vp_in v2 1024 ∧ ∀ σ4 : St, σ4 = sA σ 3 (upd (σ 3) v2.toNatClampNeg (σ 4 v1.toNatClampNeg)) →
  F_Rc_drop_J95 v1 σ4 Q) ∧ (¬ v3 = (-1 : Int32) →
  vp_in v1 1028 ∧
  vp_in v3 1028 ∧ ∀ σ3 : St, σ3 = sA σ 4 (upd (σ 4) v3.toNatClampNeg (σ 4 v1.toNatClampNeg)) →
  F_Rc_drop_J95 v1 σ3 Q))
def F_Rc_drop_L25 (v1 : Int32) (v2 : Int32) (v3 : Int32) (v4 : Int32) (v5 : Int32) (σ : St) (Q : St → Prop) : Prop :=
  ∃ (I25 : Int32 → Int32 → Int32 → St → Prop) (m25 : Int32 → Int32 → Int32 → St → Nat), I25 v3 v4 v5 σ ∧ ∀ (v3 v4 v5 : Int32) (σ : St) (n25 : Nat), I25 v3 v4 v5 σ → m25 v3 v4 v5 σ = n25 →
  (((1028 : Int32) ≤ v5 →
  F_Rc_drop_J63 v1 v2 v3 σ Q) ∧ (¬ (1028 : Int32) ≤ v5 →
  ((v4 = (-1 : Int32) →
  F_Rc_drop_J63 v1 v2 v3 σ Q) ∧ (¬ v4 = (-1 : Int32) →
  ((v4 = v1 →
  F_Rc_drop_J63 v1 v2 v3 σ Q) ∧ (¬ v4 = v1 →
  vp_in v4 1028 ∧
  ∀ z5 : Int32, z5 = (σ 4 v4.toNatClampNeg) →
  ∀ z6 : Int32, z6 = v5 + (1 : Int32) →
  I25 v4 z5 z6 σ ∧ m25 v4 z5 z6 σ < n25))))))
def F_Rc_drop (x1 : Int32) (σ : St) (Q : St → Prop) : Prop :=
  F_Rc_chainOf_values (x1 * (8 : Int32)) σ (fun r8 σ7 =>
  ∀ z9 : Int32, z9 = (-1 : Int32) →
  vp_in r8 1024 ∧
  ∀ z10 : Int32, z10 = (σ7 3 r8.toNatClampNeg) →
  ∀ z11 : Int32, z11 = (0 : Int32) →
  F_Rc_drop_L25 x1 r8 z9 z10 z11 σ7 Q)
def F_Rc_release (x1 : Int32) (x2 : Int32) (σ : St) (Q : St → Prop) : Prop :=
  vp_in x1 1028 ∧
  vp_in x1 1028 ∧ ∀ σ1 : St, σ1 = sA σ 1 (upd (σ 1) x1.toNatClampNeg ((σ 1 x1.toNatClampNeg) - x2)) →
  vp_in x1 1028 ∧
  (((σ1 1 x1.toNatClampNeg) = 0 →
  F_Rc_drop x1 σ1 (fun σ2 =>
  Q σ2)) ∧ (¬ (σ1 1 x1.toNatClampNeg) = 0 →
  Q σ1))
def F_Rc_begin (x1 : Int32) (x2 : Int32) (x3 : Int32) (σ : St) (Q : St → Prop) : Prop :=
  ∀ σ1 : St, σ1 = sA σ 8 (fun _ => x1) →
  ∀ σ2 : St, σ2 = sA σ1 9 (fun _ => x2) →
  ∀ σ3 : St, σ3 = sA σ2 10 (fun _ => x3) →
  F_Ar_fill2_outcome (-1 : Int32) σ3 (fun σ4 =>
  Q σ4)
def F_Rc_altered_J93 (v1 : Int32) (v3 : Int32) (σ : St) (Q : Int32 → St → Prop) : Prop :=
  vp_in v1 1028 ∧ ∀ σ1 : St, σ1 = sA σ 5 (upd (σ 5) v1.toNatClampNeg v3) →
  vp_in v1 1028 ∧
  Q (σ1 5 v1.toNatClampNeg) σ1
def F_Rc_altered (x1 : Int32) (σ : St) (Q : Int32 → St → Prop) : Prop :=
  vp_in x1 1028 ∧
  (((σ 5 x1.toNatClampNeg) = (-1 : Int32) →
  ¬ (x1 * (8 : Int32)) < 0 ∧ ¬ (0 : Int32) < 0 ∧ ¬ (8 : Int32) < 0 ∧ (x1 * (8 : Int32)).toNatClampNeg + (8 : Int32).toNatClampNeg ≤ 8224 ∧ (0 : Int32).toNatClampNeg + (8 : Int32).toNatClampNeg ≤ 8 ∧ ∀ σ2 : St, σ2 = sA σ 6 (va_cpy (σ 0) (σ 6) (x1 * (8 : Int32)).toNatClampNeg (0 : Int32).toNatClampNeg (8 : Int32).toNatClampNeg) →
  vp_in (σ2 8 0) 8 ∧
  vp_in (σ2 8 0) 8 ∧ ∀ σ3 : St, σ3 = sA σ2 6 (upd (σ2 6) (σ2 8 0).toNatClampNeg (((σ2 6 (σ2 8 0).toNatClampNeg) &&& (σ2 10 0)) ||| (σ2 9 0))) →
  F_Rc_chainOf_wanted (0 : Int32) σ3 (fun r5 σ4 =>
  F_Rc_findWanted r5 σ4 (fun r7 σ6 =>
  ((r7 = (-1 : Int32) →
  (((σ6 7 0) ≤ 0 →
  F_Rc_altered_J93 x1 x1 σ6 Q) ∧ (¬ (σ6 7 0) ≤ 0 →
  F_Rc_keepWanted r5 σ6 (fun r9 σ8 =>
  F_Rc_altered_J93 x1 r9 σ8 Q)))) ∧ (¬ r7 = (-1 : Int32) →
  F_Rc_altered_J93 x1 r7 σ6 Q))))) ∧ (¬ (σ 5 x1.toNatClampNeg) = (-1 : Int32) →
  vp_in x1 1028 ∧
  Q (σ 5 x1.toNatClampNeg) σ))
def F_Rc_empty_L18 (v1 : Int32) (σ : St) (Q : St → Prop) : Prop :=
  ∃ (I18 : Int32 → St → Prop) (m18 : Int32 → St → Nat), I18 v1 σ ∧ ∀ (v1 : Int32) (σ : St) (n18 : Nat), I18 v1 σ → m18 v1 σ = n18 →
  (((1028 : Int32) ≤ v1 →
  ∀ σ1 : St, σ1 = sA σ 7 (fun _ => (1028 : Int32)) →
  F_Ar_fill2_wanted (0 : Int32) σ1 (fun σ2 =>
  F_Rc_chainOf_wanted (0 : Int32) σ2 (fun r4 σ3 =>
  F_Rc_keepWanted r4 σ3 (fun r6 σ5 =>
  F_Rc_hold r6 (1 : Int32) σ5 (fun σ7 =>
  Q σ7))))) ∧ (¬ (1028 : Int32) ≤ v1 →
  vp_in v1 1028 ∧ ∀ σ8 : St, σ8 = sA σ 2 (upd (σ 2) v1.toNatClampNeg ((1027 : Int32) - v1)) →
  ∀ z9 : Int32, z9 = v1 + (1 : Int32) →
  I18 z9 σ8 ∧ m18 z9 σ8 < n18))
def F_Rc_empty (σ : St) (Q : St → Prop) : Prop :=
  F_Ar_fill2_heads (-1 : Int32) σ (fun σ10 =>
  F_Ar_fill2_holders (0 : Int32) σ10 (fun σ11 =>
  ∀ z12 : Int32, z12 = (0 : Int32) →
  F_Rc_empty_L18 z12 σ11 Q))
def F_Bl_find_J53 (v1 : Int32) (v2 : Int32) (σ : St) (Q : St → Prop) : Prop :=
  ∀ z1 : Int32, z1 = (((1 : Int32) <<< (v2 &&& 31)) - (1 : Int32)) →
  ∀ σ2 : St, σ2 = sA σ 15 (fun _ => (v1 &&& (z1 ^^^ (-1 : Int32)))) →
  ∀ σ3 : St, σ3 = sA σ2 16 (fun _ => (v1 ||| z1)) →
  Q σ3
def F_Bl_find_L10 (v1 : Int32) (v2 : Int32) (σ : St) (Q : St → Prop) : Prop :=
  ∃ (I10 : Int32 → St → Prop) (m10 : Int32 → St → Nat), I10 v2 σ ∧ ∀ (v2 : Int32) (σ : St) (n10 : Nat), I10 v2 σ → m10 v2 σ = n10 →
  ((v2 ≤ 0 →
  F_Bl_find_J53 v1 v2 σ Q) ∧ (¬ v2 ≤ 0 →
  vp_in (σ 14 0) 66624 ∧
  ((0 ≤ (σ 11 (σ 14 0).toNatClampNeg) →
  F_Bl_find_J53 v1 v2 σ Q) ∧ (¬ 0 ≤ (σ 11 (σ 14 0).toNatClampNeg) →
  ∀ z4 : Int32, z4 = v2 + (-5 : Int32) →
  vp_in (σ 14 0) 66624 ∧
  ∀ σ5 : St, σ5 = sA σ 14 (fun _ => ((-(σ 11 (σ 14 0).toNatClampNeg)) + ((v1 >>> (z4 &&& 31)) &&& (31 : Int32)))) →
  I10 z4 σ5 ∧ m10 z4 σ5 < n10))))
def F_Bl_find (x1 : Int32) (σ : St) (Q : St → Prop) : Prop :=
  ∀ z6 : Int32, z6 = (10 : Int32) →
  ∀ σ7 : St, σ7 = sA σ 14 (fun _ => (x1 >>> (z6 &&& 31))) →
  F_Bl_find_L10 x1 z6 σ7 Q
def F_Bl_recordOf (x1 : Int32) (σ : St) (Q : Int32 → St → Prop) : Prop :=
  F_Bl_find x1 σ (fun σ1 =>
  vp_in (σ1 14 0) 66624 ∧
  Q (σ1 11 (σ1 14 0).toNatClampNeg) σ1)
def F_Bl_split (x1 : Int32) (σ : St) (Q : St → Prop) : Prop :=
  (((σ 13 0) ≤ 0 →
  Q σ) ∧ (¬ (σ 13 0) ≤ 0 →
  ∀ σ1 : St, σ1 = sA σ 13 (fun _ => ((σ 13 0) - (1 : Int32))) →
  vp_in (σ1 13 0) 2048 ∧
  ∀ z2 : Int32, z2 = (σ1 12 (σ1 13 0).toNatClampNeg) →
  vp_in x1 66624 ∧
  ∀ z3 : Int32, z3 = (σ1 11 x1.toNatClampNeg) →
  F_Ar_fill4_cells z2 (z2 + (32 : Int32)) z3 σ1 (fun σ4 =>
  F_Rc_hold z3 (31 : Int32) σ4 (fun σ5 =>
  vp_in x1 66624 ∧ ∀ σ6 : St, σ6 = sA σ5 11 (upd (σ5 11) x1.toNatClampNeg (-z2)) →
  Q σ6))))
def F_Bl_splitBefore_L8 (v1 : Int32) (v2 : Int32) (σ : St) (Q : St → Prop) : Prop :=
  ∃ (I8 : Int32 → St → Prop) (m8 : Int32 → St → Nat), I8 v2 σ ∧ ∀ (v2 : Int32) (σ : St) (n8 : Nat), I8 v2 σ → m8 v2 σ = n8 →
  ((v2 ≤ 0 →
  Q σ) ∧ (¬ v2 ≤ 0 →
  ((v1 ≤ (σ 15 0) →
  Q σ) ∧ (¬ v1 ≤ (σ 15 0) →
  F_Bl_split (σ 14 0) σ (fun σ1 =>
  F_Bl_find v1 σ1 (fun σ2 =>
  ∀ z3 : Int32, z3 = v2 + (-5 : Int32) →
  I8 z3 σ2 ∧ m8 z3 σ2 < n8))))))
def F_Bl_splitBefore (x1 : Int32) (σ : St) (Q : St → Prop) : Prop :=
  F_Bl_find x1 σ (fun σ4 =>
  ∀ z5 : Int32, z5 = (10 : Int32) →
  F_Bl_splitBefore_L8 x1 z5 σ4 Q)
def F_Bl_replace (x1 : Int32) (σ : St) (Q : St → Prop) : Prop :=
  vp_in x1 66624 ∧
  ∀ z1 : Int32, z1 = (σ 11 x1.toNatClampNeg) →
  F_Rc_altered z1 σ (fun r3 σ2 =>
  ((r3 = z1 →
  Q σ2) ∧ (¬ r3 = z1 →
  vp_in x1 66624 ∧ ∀ σ4 : St, σ4 = sA σ2 11 (upd (σ2 11) x1.toNatClampNeg r3) →
  F_Rc_hold r3 (1 : Int32) σ4 (fun σ5 =>
  F_Rc_release z1 (1 : Int32) σ5 (fun σ6 =>
  Q σ6)))))
def F_Bl_isAllAlike_L15 (v1 : Int32) (v2 : Int32) (v3 : Int32) (σ : St) (Q : Int32 → St → Prop) : Prop :=
  ∃ (I15 : Int32 → St → Prop) (m15 : Int32 → St → Nat), I15 v3 σ ∧ ∀ (v3 : Int32) (σ : St) (n15 : Nat), I15 v3 σ → m15 v3 σ = n15 →
  (((32 : Int32) ≤ v3 →
  Q (1 : Int32) σ) ∧ (¬ (32 : Int32) ≤ v3 →
  vp_in (v1 + v3) 66624 ∧
  (((σ 11 (v1 + v3).toNatClampNeg) = v2 →
  ∀ z1 : Int32, z1 = v3 + (1 : Int32) →
  I15 z1 σ ∧ m15 z1 σ < n15) ∧ (¬ (σ 11 (v1 + v3).toNatClampNeg) = v2 →
  Q (0 : Int32) σ))))
def F_Bl_isAllAlike (x1 : Int32) (σ : St) (Q : Int32 → St → Prop) : Prop :=
  vp_in x1 66624 ∧
  ∀ z2 : Int32, z2 = (σ 11 x1.toNatClampNeg) →
  ((0 ≤ z2 →
  ∀ z3 : Int32, z3 = (1 : Int32) →
  F_Bl_isAllAlike_L15 x1 z2 z3 σ Q) ∧ (¬ 0 ≤ z2 →
  Q (0 : Int32) σ))
def F_Bl_join (x1 : Int32) (σ : St) (Q : St → Prop) : Prop :=
  vp_in x1 66624 ∧
  ∀ z1 : Int32, z1 = (-(σ 11 x1.toNatClampNeg)) →
  ((z1 ≤ 0 →
  Q σ) ∧ (¬ z1 ≤ 0 →
  F_Bl_isAllAlike z1 σ (fun r3 σ2 =>
  ((r3 = 0 →
  Q σ2) ∧ (¬ r3 = 0 →
  vp_in z1 66624 ∧
  ∀ z4 : Int32, z4 = (σ2 11 z1.toNatClampNeg) →
  vp_in x1 66624 ∧ ∀ σ5 : St, σ5 = sA σ2 11 (upd (σ2 11) x1.toNatClampNeg z4) →
  F_Rc_release z4 (31 : Int32) σ5 (fun σ6 =>
  vp_in (σ6 13 0) 2048 ∧ ∀ σ7 : St, σ7 = sA σ6 12 (upd (σ6 12) (σ6 13 0).toNatClampNeg z1) →
  ∀ σ8 : St, σ8 = sA σ7 13 (fun _ => ((σ7 13 0) + (1 : Int32))) →
  Q σ8))))))
def F_Bl_joinBelow_L14 (v1 : Int32) (v2 : Int32) (v3 : Int32) (σ : St) (Q : St → Prop) : Prop :=
  ∃ (I14 : Int32 → St → Prop) (m14 : Int32 → St → Nat), I14 v3 σ ∧ ∀ (v3 : Int32) (σ : St) (n14 : Nat), I14 v3 σ → m14 v3 σ = n14 →
  (((32 : Int32) ≤ v3 →
  F_Bl_join v1 σ (fun σ1 =>
  Q σ1)) ∧ (¬ (32 : Int32) ≤ v3 →
  F_Bl_join (v2 + v3) σ (fun σ2 =>
  ∀ z3 : Int32, z3 = v3 + (1 : Int32) →
  I14 z3 σ2 ∧ m14 z3 σ2 < n14)))
def F_Bl_joinBelow (x1 : Int32) (σ : St) (Q : St → Prop) : Prop :=
  vp_in x1 66624 ∧
  ∀ z4 : Int32, z4 = (-(σ 11 x1.toNatClampNeg)) →
  ((z4 ≤ 0 →
  Q σ) ∧ (¬ z4 ≤ 0 →
  ∀ z5 : Int32, z5 = (0 : Int32) →
  F_Bl_joinBelow_L14 x1 z4 z5 σ Q))
def F_Bl_alter_L67 (v2 : Int32) (v4 : Int32) (σ : St) (Q : St → Prop) : Prop :=
  ∃ (I67 : Int32 → St → Prop) (m67 : Int32 → St → Nat), I67 v4 σ ∧ ∀ (v4 : Int32) (σ : St) (n67 : Nat), I67 v4 σ → m67 v4 σ = n67 →
  (((v2 >>> ((10 : Int32) &&& 31)) < v4 →
  Q σ) ∧ (¬ (v2 >>> ((10 : Int32) &&& 31)) < v4 →
  F_Bl_joinBelow v4 σ (fun σ1 =>
  ∀ z2 : Int32, z2 = v4 + (1 : Int32) →
  I67 z2 σ1 ∧ m67 z2 σ1 < n67)))
def F_Bl_alter_L29 (v1 : Int32) (v2 : Int32) (v3 : Int32) (σ : St) (Q : St → Prop) : Prop :=
  ∃ (I29 : Int32 → St → Prop) (m29 : Int32 → St → Nat), I29 v3 σ ∧ ∀ (v3 : Int32) (σ : St) (n29 : Nat), I29 v3 σ → m29 v3 σ = n29 →
  ((v2 < v3 →
  ∀ z3 : Int32, z3 = (v1 >>> ((10 : Int32) &&& 31)) →
  F_Bl_alter_L67 v2 z3 σ Q) ∧ (¬ v2 < v3 →
  F_Bl_find v3 σ (fun σ4 =>
  F_Bl_replace (σ4 14 0) σ4 (fun σ5 =>
  ∀ z6 : Int32, z6 = ((if v3 < (σ5 16 0) then (σ5 16 0) else v3) + (1 : Int32)) →
  I29 z6 σ5 ∧ m29 z6 σ5 < n29))))
def F_Bl_alter (x1 : Int32) (x2 : Int32) (σ : St) (Q : St → Prop) : Prop :=
  (((4 : Int32) ≤ (σ 13 0) →
  F_Bl_splitBefore x1 σ (fun σ7 =>
  (((1114111 : Int32) ≤ x2 →
  F_Bl_alter_L29 x1 x2 x1 σ7 Q) ∧ (¬ (1114111 : Int32) ≤ x2 →
  F_Bl_splitBefore (x2 + (1 : Int32)) σ7 (fun σ8 =>
  F_Bl_alter_L29 x1 x2 x1 σ8 Q))))) ∧ (¬ (4 : Int32) ≤ (σ 13 0) →
  Q σ))
def F_Bl_empty_L32 (v1 : Int32) (σ : St) (Q : St → Prop) : Prop :=
  ∃ (I32 : Int32 → St → Prop) (m32 : Int32 → St → Nat), I32 v1 σ ∧ ∀ (v1 : Int32) (σ : St) (n32 : Nat), I32 v1 σ → m32 v1 σ = n32 →
  (((2048 : Int32) ≤ v1 →
  ∀ σ1 : St, σ1 = sA σ 13 (fun _ => (2048 : Int32)) →
  Q σ1) ∧ (¬ (2048 : Int32) ≤ v1 →
  vp_in v1 2048 ∧ ∀ σ2 : St, σ2 = sA σ 12 (upd (σ 12) v1.toNatClampNeg ((1088 : Int32) + (v1 * (32 : Int32)))) →
  ∀ z3 : Int32, z3 = v1 + (1 : Int32) →
  I32 z3 σ2 ∧ m32 z3 σ2 < n32))
def F_Bl_empty (σ : St) (Q : St → Prop) : Prop :=
  F_Rc_empty  σ (fun σ4 =>
  F_Ar_fill4_cells (0 : Int32) (1088 : Int32) (0 : Int32) σ4 (fun σ5 =>
  F_Rc_hold (0 : Int32) (1088 : Int32) σ5 (fun σ6 =>
  ∀ z7 : Int32, z7 = (0 : Int32) →
  F_Bl_empty_L32 z7 σ6 Q)))
def F_Pt_valueAt (x1 : Int32) (x2 : Int32) (σ : St) (Q : Int32 → St → Prop) : Prop :=
  F_Bl_recordOf x1 σ (fun r2 σ1 =>
  F_Rc_value r2 x2 σ1 (fun r4 σ3 =>
  Q r4 σ3))
def F_Pt_clear_L4 (v1 : Int32) (v2 : Int32) (σ : St) (Q : Int32 → St → Prop) : Prop :=
  ∃ (I4 : Int32 → Int32 → St → Prop) (m4 : Int32 → Int32 → St → Nat), I4 v1 v2 σ ∧ ∀ (v1 v2 : Int32) (σ : St) (n4 : Nat), I4 v1 v2 σ → m4 v1 v2 σ = n4 →
  (((1024 : Int32) ≤ v2 →
  F_Bl_empty  σ (fun σ1 =>
  Q v1 σ1)) ∧ (¬ (1024 : Int32) ≤ v2 →
  F_Bl_recordOf v2 σ (fun r3 σ2 =>
  ((r3 = 0 →
  ∀ z7 : Int32, z7 = (1 : Int32) →
  ∀ z8 : Int32, z8 = ((if v2 < (σ2 16 0) then (σ2 16 0) else v2) + (1 : Int32)) →
  ((z7 = 0 →
  ∀ z9 : Int32, z9 = (v1 + (z8 - v2)) →
  I4 z9 z8 σ2 ∧ m4 z9 z8 σ2 < n4) ∧ (¬ z7 = 0 →
  I4 v1 z8 σ2 ∧ m4 v1 z8 σ2 < n4))) ∧ (¬ r3 = 0 →
  ∀ z4 : Int32, z4 = (0 : Int32) →
  ∀ z5 : Int32, z5 = ((if v2 < (σ2 16 0) then (σ2 16 0) else v2) + (1 : Int32)) →
  ((z4 = 0 →
  ∀ z6 : Int32, z6 = (v1 + (z5 - v2)) →
  I4 z6 z5 σ2 ∧ m4 z6 z5 σ2 < n4) ∧ (¬ z4 = 0 →
  I4 v1 z5 σ2 ∧ m4 v1 z5 σ2 < n4)))))))
def F_Pt_clear (σ : St) (Q : Int32 → St → Prop) : Prop :=
  ∀ z10 : Int32, z10 = (0 : Int32) →
  ∀ z11 : Int32, z11 = (0 : Int32) →
  F_Pt_clear_L4 z10 z11 σ Q
def F_Pt_checkPoint (x0 : Int32) (σ : St) (Q : St → Prop) : Prop :=
  ((x0 < 0 →
  False) ∧ (¬ x0 < 0 →
  ((x0 ≤ (1114111 : Int32) →
  Q σ) ∧ (¬ x0 ≤ (1114111 : Int32) →
  False))))
def F_Pt_checkRange (x0 : Int32) (x1 : Int32) (σ : St) (Q : St → Prop) : Prop :=
  ((x0 < 0 →
  False) ∧ (¬ x0 < 0 →
  ((x1 < x0 →
  False) ∧ (¬ x1 < x0 →
  ((x1 ≤ (1114111 : Int32) →
  Q σ) ∧ (¬ x1 ≤ (1114111 : Int32) →
  False))))))
def F_Pt_checkField (x0 : Int32) (σ : St) (Q : St → Prop) : Prop :=
  ((x0 < 0 →
  False) ∧ (¬ x0 < 0 →
  ((x0 < (8 : Int32) →
  Q σ) ∧ (¬ x0 < (8 : Int32) →
  False))))
def F_Pt_checkLength (x0 : Int32) (σ : St) (Q : St → Prop) : Prop :=
  ((x0 ≤ (4000 : Int32) →
  Q σ) ∧ (¬ x0 ≤ (4000 : Int32) →
  False))
def F_Pt_get (x1 : Int32) (x2 : Int32) (σ : St) (Q : Int32 → St → Prop) : Prop :=
  F_Pt_checkPoint x1 σ (fun σ1 =>
  F_Pt_checkField x2 σ1 (fun σ2 =>
  F_Pt_valueAt x1 x2 σ2 (fun r4 σ3 =>
  Q r4 σ3)))
def F_Pt_change_L18 (v2 : Int32) (v3 : Int32) (v4 : Int32) (σ : St) (Q : Int32 → St → Prop) : Prop :=
  ∃ (I18 : Int32 → St → Prop) (m18 : Int32 → St → Nat), I18 v4 σ ∧ ∀ (v4 : Int32) (σ : St) (n18 : Nat), I18 v4 σ → m18 v4 σ = n18 →
  (((1114111 : Int32) < v4 →
  Q (-1 : Int32) σ) ∧ (¬ (1114111 : Int32) < v4 →
  F_Pt_valueAt v4 v2 σ (fun r2 σ1 =>
  ((r2 = v3 →
  ∀ z3 : Int32, z3 = ((if v4 < (σ1 16 0) then (σ1 16 0) else v4) + (1 : Int32)) →
  I18 z3 σ1 ∧ m18 z3 σ1 < n18) ∧ (¬ r2 = v3 →
  Q v4 σ1)))))
def F_Pt_change (x1 : Int32) (x2 : Int32) (σ : St) (Q : Int32 → St → Prop) : Prop :=
  F_Pt_checkPoint x1 σ (fun σ4 =>
  F_Pt_checkField x2 σ4 (fun σ5 =>
  F_Pt_valueAt x1 x2 σ5 (fun r7 σ6 =>
  F_Pt_change_L18 x2 r7 x1 σ6 Q)))
def F_Pt_alike (x1 : Int32) (x2 : Int32) (σ : St) (Q : Int32 → St → Prop) : Prop :=
  F_Pt_checkPoint x1 σ (fun σ1 =>
  F_Pt_checkPoint x2 σ1 (fun σ2 =>
  F_Bl_recordOf x1 σ2 (fun r4 σ3 =>
  F_Bl_recordOf x2 σ3 (fun r6 σ5 =>
  ((r4 = r6 →
  Q (1 : Int32) σ5) ∧ (¬ r4 = r6 →
  Q (0 : Int32) σ5))))))
def F_Pt_hash_J60 (v2 : Int32) (v3 : Int32) (v4 : Int32) (v5 : Int32) (v6 : Int32) (v7 : Int32) (σ : St) (K29 : Int32 → Int32 → Int32 → Int32 → St → Prop) (Q : Int32 → St → Prop) : Prop :=
  ∀ z1 : Int32, z1 = (((31 : Int32) * v4) + v5) →
  ∀ z2 : Int32, z2 = v7 + (1 : Int32) →
  K29 z1 v5 v6 z2 σ
def F_Pt_hash_L29 (v2 : Int32) (v3 : Int32) (v4 : Int32) (v5 : Int32) (v6 : Int32) (v7 : Int32) (σ : St) (Q : Int32 → St → Prop) : Prop :=
  ∃ (I29 : Int32 → Int32 → Int32 → Int32 → St → Prop) (m29 : Int32 → Int32 → Int32 → Int32 → St → Nat), I29 v4 v5 v6 v7 σ ∧ ∀ (v4 v5 v6 v7 : Int32) (σ : St) (n29 : Nat), I29 v4 v5 v6 v7 σ → m29 v4 v5 v6 v7 σ = n29 →
  ((v2 < v7 →
  Q v4 σ) ∧ (¬ v2 < v7 →
  ((v7 ≤ v6 →
  F_Pt_hash_J60 v2 v3 v4 v5 v6 v7 σ (fun b4 b5 b6 b7 τ => I29 b4 b5 b6 b7 τ ∧ m29 b4 b5 b6 b7 τ < n29) Q) ∧ (¬ v7 ≤ v6 →
  F_Pt_valueAt v7 v3 σ (fun r4 σ3 =>
  ∀ z5 : Int32, z5 = (σ3 16 0) →
  F_Pt_hash_J60 v2 v3 v4 r4 z5 v7 σ3 (fun b4 b5 b6 b7 τ => I29 b4 b5 b6 b7 τ ∧ m29 b4 b5 b6 b7 τ < n29) Q)))))
def F_Pt_hash (x1 : Int32) (x2 : Int32) (x3 : Int32) (σ : St) (Q : Int32 → St → Prop) : Prop :=
  F_Pt_checkRange x1 x2 σ (fun σ6 =>
  F_Pt_checkLength ((x2 - x1) + (1 : Int32)) σ6 (fun σ7 =>
  F_Pt_checkField x3 σ7 (fun σ8 =>
  ∀ z9 : Int32, z9 = (1 : Int32) →
  ∀ z10 : Int32, z10 = (0 : Int32) →
  ∀ z11 : Int32, z11 = (-1 : Int32) →
  F_Pt_hash_L29 x2 x3 z9 z10 z11 x1 σ8 Q)))
def F_Pt_mark (x1 : Int32) (x2 : Int32) (x3 : Int32) (x4 : Int32) (x5 : Int32) (σ : St) (Q : Int32 → St → Prop) : Prop :=
  F_Pt_checkRange x1 x2 σ (fun σ1 =>
  F_Pt_checkField x3 σ1 (fun σ2 =>
  F_Rc_begin x3 x4 x5 σ2 (fun σ3 =>
  F_Bl_alter x1 x2 σ3 (fun σ4 =>
  Q ((x2 - x1) + (1 : Int32)) σ4))))
def F_Pt_set (x1 : Int32) (x2 : Int32) (x3 : Int32) (x4 : Int32) (σ : St) (Q : Int32 → St → Prop) : Prop :=
  F_Pt_mark x1 x2 x3 x4 (0 : Int32) σ (fun r2 σ1 =>
  Q r2 σ1)
def F_Mo_thrown (σ : St) (Q : Int32 → St → Prop) : Prop :=
  Q (σ 19 0) σ
def F_Mo_fail (x1 : Int32) (σ : St) (Q : Int32 → St → Prop) : Prop :=
  ∀ σ1 : St, σ1 = sA σ 19 (fun _ => x1) →
  Q (0 : Int32) σ1
def F_Mo_at_L9 (v1 : Int32) (v2 : Int32) (v3 : Int32) (σ : St) (Q : Int32 → St → Prop) : Prop :=
  ∃ (I9 : Int32 → Int32 → St → Prop) (m9 : Int32 → Int32 → St → Nat), I9 v2 v3 σ ∧ ∀ (v2 v3 : Int32) (σ : St) (n9 : Nat), I9 v2 v3 σ → m9 v2 v3 σ = n9 →
  ((v3 ≤ v2 →
  Q v2 σ) ∧ (¬ v3 ≤ v2 →
  ∀ z1 : Int32, z1 = (((v2 + v3) + (1 : Int32)) / (2 : Int32)) →
  vp_in z1 9000 ∧
  ((v1 < (σ 17 z1.toNatClampNeg) →
  ∀ z2 : Int32, z2 = (z1 - (1 : Int32)) →
  I9 v2 z2 σ ∧ m9 v2 z2 σ < n9) ∧ (¬ v1 < (σ 17 z1.toNatClampNeg) →
  I9 z1 v3 σ ∧ m9 z1 v3 σ < n9))))
def F_Mo_at (x1 : Int32) (σ : St) (Q : Int32 → St → Prop) : Prop :=
  ∀ z3 : Int32, z3 = (0 : Int32) →
  ∀ z4 : Int32, z4 = ((σ 20 0) - (1 : Int32)) →
  F_Mo_at_L9 x1 z3 z4 σ Q
def F_Mo_out (x1 : Int32) (σ : St) (Q : Int32 → St → Prop) : Prop :=
  ((x1 < 0 →
  Q (1 : Int32) σ) ∧ (¬ x1 < 0 →
  ((x1 ≤ (1114111 : Int32) →
  Q (0 : Int32) σ) ∧ (¬ x1 ≤ (1114111 : Int32) →
  Q (1 : Int32) σ))))
def F_Mo_cut_L110 (v2 : Int32) (v3 : Int32) (σ : St) (Q : St → Prop) : Prop :=
  ∃ (I110 : Int32 → St → Prop) (m110 : Int32 → St → Nat), I110 v3 σ ∧ ∀ (v3 : Int32) (σ : St) (n110 : Nat), I110 v3 σ → m110 v3 σ = n110 →
  (((8 : Int32) ≤ v3 →
  ∀ σ1 : St, σ1 = sA σ 20 (fun _ => ((σ 20 0) + (1 : Int32))) →
  Q σ1) ∧ (¬ (8 : Int32) ≤ v3 →
  vp_in (((8 : Int32) * v2) + v3) 72000 ∧
  vp_in ((((8 : Int32) * v2) + (8 : Int32)) + v3) 72000 ∧ ∀ σ2 : St, σ2 = sA σ 18 (upd (σ 18) ((((8 : Int32) * v2) + (8 : Int32)) + v3).toNatClampNeg (σ 18 (((8 : Int32) * v2) + v3).toNatClampNeg)) →
  ∀ z3 : Int32, z3 = v3 + (1 : Int32) →
  I110 z3 σ2 ∧ m110 z3 σ2 < n110))
def F_Mo_cut_L53 (v1 : Int32) (v2 : Int32) (v3 : Int32) (v4 : Int32) (σ : St) (K29 : Int32 → St → Prop) (Q : St → Prop) : Prop :=
  ∃ (I53 : Int32 → St → Prop) (m53 : Int32 → St → Nat), I53 v4 σ ∧ ∀ (v4 : Int32) (σ : St) (n53 : Nat), I53 v4 σ → m53 v4 σ = n53 →
  (((8 : Int32) ≤ v4 →
  ∀ z4 : Int32, z4 = v3 + (-1 : Int32) →
  K29 z4 σ) ∧ (¬ (8 : Int32) ≤ v4 →
  vp_in ((((8 : Int32) * v3) - (8 : Int32)) + v4) 72000 ∧
  vp_in (((8 : Int32) * v3) + v4) 72000 ∧ ∀ σ5 : St, σ5 = sA σ 18 (upd (σ 18) (((8 : Int32) * v3) + v4).toNatClampNeg (σ 18 ((((8 : Int32) * v3) - (8 : Int32)) + v4).toNatClampNeg)) →
  ∀ z6 : Int32, z6 = v4 + (1 : Int32) →
  I53 z6 σ5 ∧ m53 z6 σ5 < n53))
def F_Mo_cut_L29 (v1 : Int32) (v2 : Int32) (v3 : Int32) (σ : St) (Q : St → Prop) : Prop :=
  ∃ (I29 : Int32 → St → Prop) (m29 : Int32 → St → Nat), I29 v3 σ ∧ ∀ (v3 : Int32) (σ : St) (n29 : Nat), I29 v3 σ → m29 v3 σ = n29 →
  ((v3 ≤ (v2 + (1 : Int32)) →
  vp_in (v2 + (1 : Int32)) 9000 ∧ ∀ σ7 : St, σ7 = sA σ 17 (upd (σ 17) (v2 + (1 : Int32)).toNatClampNeg v1) →
  ∀ z8 : Int32, z8 = (0 : Int32) →
  F_Mo_cut_L110 v2 z8 σ7 Q) ∧ (¬ v3 ≤ (v2 + (1 : Int32)) →
  vp_in (v3 - (1 : Int32)) 9000 ∧
  vp_in v3 9000 ∧ ∀ σ9 : St, σ9 = sA σ 17 (upd (σ 17) v3.toNatClampNeg (σ 17 (v3 - (1 : Int32)).toNatClampNeg)) →
  ∀ z10 : Int32, z10 = (0 : Int32) →
  F_Mo_cut_L53 v1 v2 v3 z10 σ9 (fun b3 τ => I29 b3 τ ∧ m29 b3 τ < n29) Q))
def F_Mo_cut (x1 : Int32) (σ : St) (Q : St → Prop) : Prop :=
  ((x1 ≤ (1114111 : Int32) →
  F_Mo_at x1 σ (fun r12 σ11 =>
  vp_in r12 9000 ∧
  (((σ11 17 r12.toNatClampNeg) = x1 →
  Q σ11) ∧ (¬ (σ11 17 r12.toNatClampNeg) = x1 →
  ∀ z13 : Int32, z13 = (σ11 20 0) →
  F_Mo_cut_L29 x1 r12 z13 σ11 Q)))) ∧ (¬ x1 ≤ (1114111 : Int32) →
  Q σ))
def F_Mo_mark_J117 (v1 : Int32) (v2 : Int32) (σ : St) (Q : Int32 → St → Prop) : Prop :=
  Q ((v2 - v1) + (1 : Int32)) σ
def F_Mo_mark_L61 (v1 : Int32) (v2 : Int32) (v3 : Int32) (v4 : Int32) (v5 : Int32) (v6 : Int32) (σ : St) (Q : Int32 → St → Prop) : Prop :=
  ∃ (I61 : Int32 → St → Prop) (m61 : Int32 → St → Nat), I61 v6 σ ∧ ∀ (v6 : Int32) (σ : St) (n61 : Nat), I61 v6 σ → m61 v6 σ = n61 →
  (((σ 20 0) ≤ v6 →
  F_Mo_mark_J117 v1 v2 σ Q) ∧ (¬ (σ 20 0) ≤ v6 →
  vp_in v6 9000 ∧
  ((v2 < (σ 17 v6.toNatClampNeg) →
  F_Mo_mark_J117 v1 v2 σ Q) ∧ (¬ v2 < (σ 17 v6.toNatClampNeg) →
  vp_in (((8 : Int32) * v6) + v3) 72000 ∧
  vp_in (((8 : Int32) * v6) + v3) 72000 ∧ ∀ σ1 : St, σ1 = sA σ 18 (upd (σ 18) (((8 : Int32) * v6) + v3).toNatClampNeg (((σ 18 (((8 : Int32) * v6) + v3).toNatClampNeg) &&& v5) ||| v4)) →
  ∀ z2 : Int32, z2 = v6 + (1 : Int32) →
  I61 z2 σ1 ∧ m61 z2 σ1 < n61))))
def F_Mo_mark (x1 : Int32) (x2 : Int32) (x3 : Int32) (x4 : Int32) (x5 : Int32) (σ : St) (Q : Int32 → St → Prop) : Prop :=
  ∀ σ3 : St, σ3 = sA σ 19 (fun _ => (0 : Int32)) →
  F_Mo_out x1 σ3 (fun r5 σ4 =>
  ((r5 = 0 →
  F_Mo_out x2 σ4 (fun r9 σ8 =>
  ((r9 = 0 →
  ((x2 < x1 →
  F_Mo_fail (1 : Int32) σ8 (fun r13 σ12 =>
  Q r13 σ12)) ∧ (¬ x2 < x1 →
  ((x3 < 0 →
  F_Mo_fail (1 : Int32) σ8 (fun r15 σ14 =>
  Q r15 σ14)) ∧ (¬ x3 < 0 →
  ((x3 ≤ (7 : Int32) →
  F_Mo_cut x1 σ8 (fun σ16 =>
  F_Mo_cut (x2 + (1 : Int32)) σ16 (fun σ17 =>
  F_Mo_at x1 σ17 (fun r19 σ18 =>
  F_Mo_mark_L61 x1 x2 x3 x4 x5 r19 σ18 Q)))) ∧ (¬ x3 ≤ (7 : Int32) →
  F_Mo_fail (1 : Int32) σ8 (fun r21 σ20 =>
  Q r21 σ20)))))))) ∧ (¬ r9 = 0 →
  F_Mo_fail (1 : Int32) σ8 (fun r11 σ10 =>
  Q r11 σ10))))) ∧ (¬ r5 = 0 →
  F_Mo_fail (1 : Int32) σ4 (fun r7 σ6 =>
  Q r7 σ6))))
def F_Mo_set (x1 : Int32) (x2 : Int32) (x3 : Int32) (x4 : Int32) (σ : St) (Q : Int32 → St → Prop) : Prop :=
  F_Mo_mark x1 x2 x3 x4 (0 : Int32) σ (fun r2 σ1 =>
  Q r2 σ1)
def F_Mo_get (x1 : Int32) (x2 : Int32) (σ : St) (Q : Int32 → St → Prop) : Prop :=
  ∀ σ1 : St, σ1 = sA σ 19 (fun _ => (0 : Int32)) →
  F_Mo_out x1 σ1 (fun r3 σ2 =>
  ((r3 = 0 →
  ((x2 < 0 →
  F_Mo_fail (1 : Int32) σ2 (fun r7 σ6 =>
  Q r7 σ6)) ∧ (¬ x2 < 0 →
  ((x2 ≤ (7 : Int32) →
  F_Mo_at x1 σ2 (fun r9 σ8 =>
  vp_in (((8 : Int32) * r9) + x2) 72000 ∧
  Q (σ8 18 (((8 : Int32) * r9) + x2).toNatClampNeg) σ8)) ∧ (¬ x2 ≤ (7 : Int32) →
  F_Mo_fail (1 : Int32) σ2 (fun r11 σ10 =>
  Q r11 σ10)))))) ∧ (¬ r3 = 0 →
  F_Mo_fail (1 : Int32) σ2 (fun r5 σ4 =>
  Q r5 σ4))))
def F_Mo_change_J78 (v3 : Int32) (σ : St) (Q : Int32 → St → Prop) : Prop :=
  ((v3 = (σ 20 0) →
  Q (-1 : Int32) σ) ∧ (¬ v3 = (σ 20 0) →
  vp_in v3 9000 ∧
  Q (σ 17 v3.toNatClampNeg) σ))
def F_Mo_change_L48 (v2 : Int32) (v3 : Int32) (v4 : Int32) (σ : St) (Q : Int32 → St → Prop) : Prop :=
  ∃ (I48 : Int32 → St → Prop) (m48 : Int32 → St → Nat), I48 v3 σ ∧ ∀ (v3 : Int32) (σ : St) (n48 : Nat), I48 v3 σ → m48 v3 σ = n48 →
  (((σ 20 0) ≤ v3 →
  F_Mo_change_J78 v3 σ Q) ∧ (¬ (σ 20 0) ≤ v3 →
  vp_in (((8 : Int32) * v3) + v2) 72000 ∧
  (((σ 18 (((8 : Int32) * v3) + v2).toNatClampNeg) = v4 →
  ∀ z1 : Int32, z1 = v3 + (1 : Int32) →
  I48 z1 σ ∧ m48 z1 σ < n48) ∧ (¬ (σ 18 (((8 : Int32) * v3) + v2).toNatClampNeg) = v4 →
  F_Mo_change_J78 v3 σ Q))))
def F_Mo_change (x1 : Int32) (x2 : Int32) (σ : St) (Q : Int32 → St → Prop) : Prop :=
  ∀ σ2 : St, σ2 = sA σ 19 (fun _ => (0 : Int32)) →
  F_Mo_out x1 σ2 (fun r4 σ3 =>
  ((r4 = 0 →
  ((x2 < 0 →
  F_Mo_fail (1 : Int32) σ3 (fun r8 σ7 =>
  Q r8 σ7)) ∧ (¬ x2 < 0 →
  ((x2 ≤ (7 : Int32) →
  F_Mo_at x1 σ3 (fun r10 σ9 =>
  vp_in (((8 : Int32) * r10) + x2) 72000 ∧
  ∀ z11 : Int32, z11 = (σ9 18 (((8 : Int32) * r10) + x2).toNatClampNeg) →
  F_Mo_change_L48 x2 r10 z11 σ9 Q)) ∧ (¬ x2 ≤ (7 : Int32) →
  F_Mo_fail (1 : Int32) σ3 (fun r13 σ12 =>
  Q r13 σ12)))))) ∧ (¬ r4 = 0 →
  F_Mo_fail (1 : Int32) σ3 (fun r6 σ5 =>
  Q r6 σ5))))
def F_Mo_alike_L37 (v1 : Int32) (v2 : Int32) (v3 : Int32) (σ : St) (Q : Int32 → St → Prop) : Prop :=
  ∃ (I37 : Int32 → St → Prop) (m37 : Int32 → St → Nat), I37 v3 σ ∧ ∀ (v3 : Int32) (σ : St) (n37 : Nat), I37 v3 σ → m37 v3 σ = n37 →
  (((8 : Int32) ≤ v3 →
  Q (1 : Int32) σ) ∧ (¬ (8 : Int32) ≤ v3 →
  F_Mo_at v1 σ (fun r2 σ1 =>
  vp_in (((8 : Int32) * r2) + v3) 72000 ∧
  F_Mo_at v2 σ1 (fun r4 σ3 =>
  vp_in (((8 : Int32) * r4) + v3) 72000 ∧
  (((σ1 18 (((8 : Int32) * r2) + v3).toNatClampNeg) = (σ3 18 (((8 : Int32) * r4) + v3).toNatClampNeg) →
  ∀ z5 : Int32, z5 = v3 + (1 : Int32) →
  I37 z5 σ3 ∧ m37 z5 σ3 < n37) ∧ (¬ (σ1 18 (((8 : Int32) * r2) + v3).toNatClampNeg) = (σ3 18 (((8 : Int32) * r4) + v3).toNatClampNeg) →
  Q (0 : Int32) σ3))))))
def F_Mo_alike_J21 (σ : St) (Q : Int32 → St → Prop) : Prop :=
  F_Mo_fail (1 : Int32) σ (fun r7 σ6 =>
  ((r7 ≤ 0 →
  Q (0 : Int32) σ6) ∧ (¬ r7 ≤ 0 →
  Q (1 : Int32) σ6)))
def F_Mo_alike (x1 : Int32) (x2 : Int32) (σ : St) (Q : Int32 → St → Prop) : Prop :=
  ∀ σ8 : St, σ8 = sA σ 19 (fun _ => (0 : Int32)) →
  F_Mo_out x1 σ8 (fun r10 σ9 =>
  ((r10 = 0 →
  F_Mo_out x2 σ9 (fun r12 σ11 =>
  ((r12 = 0 →
  ∀ z13 : Int32, z13 = (0 : Int32) →
  F_Mo_alike_L37 x1 x2 z13 σ11 Q) ∧ (¬ r12 = 0 →
  F_Mo_alike_J21  σ11 Q)))) ∧ (¬ r10 = 0 →
  F_Mo_alike_J21  σ9 Q)))
def F_Mo_hash_L57 (v2 : Int32) (v3 : Int32) (v4 : Int32) (v5 : Int32) (σ : St) (Q : Int32 → St → Prop) : Prop :=
  ∃ (I57 : Int32 → Int32 → St → Prop) (m57 : Int32 → Int32 → St → Nat), I57 v4 v5 σ ∧ ∀ (v4 v5 : Int32) (σ : St) (n57 : Nat), I57 v4 v5 σ → m57 v4 v5 σ = n57 →
  ((v2 < v5 →
  Q v4 σ) ∧ (¬ v2 < v5 →
  F_Mo_at v5 σ (fun r2 σ1 =>
  vp_in (((8 : Int32) * r2) + v3) 72000 ∧
  ∀ z3 : Int32, z3 = (((31 : Int32) * v4) + (σ1 18 (((8 : Int32) * r2) + v3).toNatClampNeg)) →
  ∀ z4 : Int32, z4 = v5 + (1 : Int32) →
  I57 z3 z4 σ1 ∧ m57 z3 z4 σ1 < n57)))
def F_Mo_hash (x1 : Int32) (x2 : Int32) (x3 : Int32) (σ : St) (Q : Int32 → St → Prop) : Prop :=
  ∀ σ5 : St, σ5 = sA σ 19 (fun _ => (0 : Int32)) →
  F_Mo_out x1 σ5 (fun r7 σ6 =>
  ((r7 = 0 →
  F_Mo_out x2 σ6 (fun r11 σ10 =>
  ((r11 = 0 →
  ((x2 < x1 →
  F_Mo_fail (1 : Int32) σ10 (fun r15 σ14 =>
  Q r15 σ14)) ∧ (¬ x2 < x1 →
  (((3999 : Int32) < (x2 - x1) →
  F_Mo_fail (1 : Int32) σ10 (fun r17 σ16 =>
  Q r17 σ16)) ∧ (¬ (3999 : Int32) < (x2 - x1) →
  ((x3 < 0 →
  F_Mo_fail (1 : Int32) σ10 (fun r19 σ18 =>
  Q r19 σ18)) ∧ (¬ x3 < 0 →
  ((x3 ≤ (7 : Int32) →
  ∀ z20 : Int32, z20 = (1 : Int32) →
  F_Mo_hash_L57 x2 x3 z20 x1 σ10 Q) ∧ (¬ x3 ≤ (7 : Int32) →
  F_Mo_fail (1 : Int32) σ10 (fun r22 σ21 =>
  Q r22 σ21)))))))))) ∧ (¬ r11 = 0 →
  F_Mo_fail (1 : Int32) σ10 (fun r13 σ12 =>
  Q r13 σ12))))) ∧ (¬ r7 = 0 →
  F_Mo_fail (1 : Int32) σ6 (fun r9 σ8 =>
  Q r9 σ8))))
def F_Mo_clear_L80 (v1 : Int32) (v2 : Int32) (σ : St) (Q : Int32 → St → Prop) : Prop :=
  ∃ (I80 : Int32 → St → Prop) (m80 : Int32 → St → Nat), I80 v2 σ ∧ ∀ (v2 : Int32) (σ : St) (n80 : Nat), I80 v2 σ → m80 v2 σ = n80 →
  (((8 : Int32) ≤ v2 →
  Q v1 σ) ∧ (¬ (8 : Int32) ≤ v2 →
  vp_in v2 72000 ∧ ∀ σ1 : St, σ1 = sA σ 18 (upd (σ 18) v2.toNatClampNeg (0 : Int32)) →
  ∀ z2 : Int32, z2 = v2 + (1 : Int32) →
  I80 z2 σ1 ∧ m80 z2 σ1 < n80))
def F_Mo_clear_L21 (v1 : Int32) (v2 : Int32) (v3 : Int32) (v4 : Int32) (σ : St) (K9 : Int32 → Int32 → St → Prop) (Q : Int32 → St → Prop) : Prop :=
  ∃ (I21 : Int32 → Int32 → St → Prop) (m21 : Int32 → Int32 → St → Nat), I21 v3 v4 σ ∧ ∀ (v3 v4 : Int32) (σ : St) (n21 : Nat), I21 v3 v4 σ → m21 v3 v4 σ = n21 →
  (((8 : Int32) ≤ v4 →
  ((v3 = 0 →
  ∀ z3 : Int32, z3 = (v1 + (0 : Int32)) →
  ∀ z4 : Int32, z4 = v2 + (1 : Int32) →
  K9 z3 z4 σ) ∧ (¬ v3 = 0 →
  ∀ z5 : Int32, z5 = (v1 + (1 : Int32)) →
  ∀ z6 : Int32, z6 = v2 + (1 : Int32) →
  K9 z5 z6 σ))) ∧ (¬ (8 : Int32) ≤ v4 →
  F_Mo_at v2 σ (fun r8 σ7 =>
  vp_in (((8 : Int32) * r8) + v4) 72000 ∧
  (((σ7 18 (((8 : Int32) * r8) + v4).toNatClampNeg) = 0 →
  ∀ z9 : Int32, z9 = v4 + (1 : Int32) →
  I21 v3 z9 σ7 ∧ m21 v3 z9 σ7 < n21) ∧ (¬ (σ7 18 (((8 : Int32) * r8) + v4).toNatClampNeg) = 0 →
  ∀ z10 : Int32, z10 = (1 : Int32) →
  ∀ z11 : Int32, z11 = v4 + (1 : Int32) →
  I21 z10 z11 σ7 ∧ m21 z10 z11 σ7 < n21)))))
def F_Mo_clear_L9 (v1 : Int32) (v2 : Int32) (σ : St) (Q : Int32 → St → Prop) : Prop :=
  ∃ (I9 : Int32 → Int32 → St → Prop) (m9 : Int32 → Int32 → St → Nat), I9 v1 v2 σ ∧ ∀ (v1 v2 : Int32) (σ : St) (n9 : Nat), I9 v1 v2 σ → m9 v1 v2 σ = n9 →
  (((1024 : Int32) ≤ v2 →
  ∀ σ12 : St, σ12 = sA σ 20 (fun _ => (1 : Int32)) →
  ∀ z13 : Int32, z13 = (0 : Int32) →
  F_Mo_clear_L80 v1 z13 σ12 Q) ∧ (¬ (1024 : Int32) ≤ v2 →
  ∀ z14 : Int32, z14 = (0 : Int32) →
  ∀ z15 : Int32, z15 = (0 : Int32) →
  F_Mo_clear_L21 v1 v2 z14 z15 σ (fun b1 b2 τ => I9 b1 b2 τ ∧ m9 b1 b2 τ < n9) Q))
def F_Mo_clear (σ : St) (Q : Int32 → St → Prop) : Prop :=
  ∀ σ16 : St, σ16 = sA σ 19 (fun _ => (0 : Int32)) →
  ∀ z17 : Int32, z17 = (0 : Int32) →
  ∀ z18 : Int32, z18 = (0 : Int32) →
  F_Mo_clear_L9 z17 z18 σ16 Q
end
section
/-- sums -/
def sm (f : Nat → Nat) : Nat → Nat
  | 0 => 0
  | n + 1 => sm f n + f n
theorem sm_s (f : Nat → Nat) (n : Nat) : sm f (n + 1) = sm f n + f n := rfl
theorem sm_congr {f g : Nat → Nat} : ∀ {n : Nat}, (∀ i, i < n → f i = g i) → sm f n = sm g n
  | 0, _ => rfl
  | n + 1, h => by
    rw [sm_s, sm_s, sm_congr (n := n) (fun i hi => h i (by omega)), h n (by omega)]
theorem sm_le {f g : Nat → Nat} : ∀ {n : Nat}, (∀ i, i < n → f i ≤ g i) → sm f n ≤ sm g n
  | 0, _ => Nat.le_refl _
  | n + 1, h => by
    have h1 := sm_le (n := n) (fun i hi => h i (by omega))
    have h2 := h n (by omega)
    rw [sm_s, sm_s]
    omega
theorem sm_zero {f : Nat → Nat} : ∀ {n : Nat}, (∀ i, i < n → f i = 0) → sm f n = 0
  | 0, _ => rfl
  | n + 1, h => by rw [sm_s, sm_zero (n := n) (fun i hi => h i (by omega)), h n (by omega)]
theorem sm_const {f : Nat → Nat} {c : Nat} : ∀ {n : Nat}, (∀ i, i < n → f i = c) → sm f n = n * c
  | 0, _ => by rw [Nat.zero_mul]; rfl
  | n + 1, h => by rw [sm_s, sm_const (n := n) (fun i hi => h i (by omega)), h n (by omega), Nat.succ_mul]
theorem sm_one {f g : Nat → Nat} {k : Nat} : ∀ {n : Nat}, k < n → (∀ i, i < n → i ≠ k → f i = g i) → sm f n + g k = sm g n + f k
  | 0, hk, _ => absurd hk (Nat.not_lt_zero _)
  | n + 1, hk, h => by
    rw [sm_s, sm_s]
    by_cases e : k = n
    · subst e
      have h1 : sm f k = sm g k := sm_congr (fun i hi => h i (by omega) (by omega))
      omega
    · have h1 := sm_one (n := n) (by omega) (fun i hi hne => h i (by omega) hne)
      have h2 := h n (by omega) (fun q => e q.symm)
      omega
theorem sm_pos {f : Nat → Nat} : ∀ {n : Nat}, 0 < sm f n → ∃ i, i < n ∧ 0 < f i
  | 0, h => absurd h (Nat.lt_irrefl _)
  | n + 1, h => by
    rw [sm_s] at h
    by_cases e : 0 < f n
    · exact ⟨n, by omega, e⟩
    · obtain ⟨i, h1, h2⟩ := sm_pos (f := f) (n := n) (by omega)
      exact ⟨i, by omega, h2⟩
theorem sm_ge {f : Nat → Nat} {k : Nat} : ∀ {n : Nat}, k < n → f k ≤ sm f n
  | 0, h => absurd h (Nat.not_lt_zero _)
  | n + 1, h => by
    rw [sm_s]
    by_cases e : k = n
    · subst e; omega
    · have := sm_ge (n := n) (f := f) (k := k) (by omega)
      omega
theorem sm_two {f : Nat → Nat} {j k : Nat} (hjk : j ≠ k) : ∀ {n : Nat}, j < n → k < n → f j + f k ≤ sm f n
  | 0, h, _ => absurd h (Nat.not_lt_zero _)
  | n + 1, h, h' => by
    rw [sm_s]
    by_cases e : k = n
    · subst e
      have := sm_ge (n := k) (f := f) (k := j) (by omega)
      omega
    · by_cases e2 : j = n
      · subst e2
        have := sm_ge (n := j) (f := f) (k := k) (by omega)
        omega
      · have := sm_two (f := f) hjk (n := n) (by omega) (by omega)
        omega
/-- a stretch of m places, each c more -/
theorem sm_blk {g : Nat → Nat} {n b c : Nat} : ∀ (m : Nat) (f : Nat → Nat), b + m ≤ n → (∀ i, b ≤ i → i < b + m → f i = g i + c) → (∀ i, i < n → (i < b ∨ b + m ≤ i) → f i = g i) → sm f n = sm g n + m * c
  | 0, f, _, _, h2 => by rw [Nat.zero_mul, Nat.add_zero]; exact sm_congr (fun i hi => h2 i hi (by omega))
  | m + 1, f, hb, h1, h2 => by
    have e : sm (fun i => if i = b + m then g i else f i) n = sm g n + m * c := by
      refine sm_blk (g := g) (n := n) (b := b) (c := c) m _ (by omega) (fun i a1 a2 => ?_) (fun i a1 a2 => ?_)
      · rw [if_neg (by omega)]; exact h1 i a1 (by omega)
      · by_cases q : i = b + m
        · rw [if_pos q]
        · rw [if_neg q]; exact h2 i a1 (by omega)
    have h3 := sm_one (f := f) (g := fun i => if i = b + m then g i else f i) (k := b + m) (n := n) (by omega) (fun i _ hne => by rw [if_neg hne])
    rw [if_pos rfl, e] at h3
    have h4 := h1 (b + m) (by omega) (by omega)
    rw [Nat.succ_mul]
    omega
/-- as many different values as there are breaks, and one -/
theorem sm_dist (f : Nat → Nat) (R : Nat) : ∀ (N : Nat) (q : Nat → Bool), (∀ r, r < R → q r = true → ∃ p, p ≤ N ∧ f p = r) → sm (fun r => (q r).toNat) R ≤ 1 + sm (fun p => (f p != f (p + 1)).toNat) N
  | 0, q, h => by
    by_cases hR : f 0 < R
    · have h1 := sm_one (f := fun r => (q r).toNat) (g := fun _ => 0) (k := f 0) (n := R) hR (fun i hi hne => by
        cases e : q i with
        | false => rfl
        | true =>
          obtain ⟨p, hp, hf⟩ := h i hi e
          have : p = 0 := by omega
          subst this
          exact absurd hf.symm hne)
      have h2 : sm (fun _ => 0) R = 0 := sm_zero (fun _ _ => rfl)
      have h3 : (q (f 0)).toNat ≤ 1 := by cases q (f 0) <;> decide
      try dsimp only at h1
      omega
    · have h1 : sm (fun r => (q r).toNat) R = 0 := sm_zero (fun i hi => by
        cases e : q i with
        | false => rfl
        | true =>
          obtain ⟨p, hp, hf⟩ := h i hi e
          have : p = 0 := by omega
          subst this
          omega)
      omega
  | N + 1, q, h => by
    rw [sm_s]
    by_cases e : f N = f (N + 1)
    · have h1 := sm_dist f R N q (fun r hr hq => by
        obtain ⟨p, hp, hf⟩ := h r hr hq
        by_cases ep : p = N + 1
        · exact ⟨N, Nat.le_refl _, by rw [e, ← ep]; exact hf⟩
        · exact ⟨p, by omega, hf⟩)
      omega
    · have h1 := sm_dist f R N (fun r => q r && (r != f (N + 1))) (fun r hr hq => by
        simp only [Bool.and_eq_true, bne_iff_ne, ne_eq] at hq
        obtain ⟨p, hp, hf⟩ := h r hr hq.1
        by_cases ep : p = N + 1
        · subst ep; exact absurd hf.symm hq.2
        · exact ⟨p, by omega, hf⟩)
      have h2 : (f N != f (N + 1)).toNat = 1 := by rw [bne_iff_ne.mpr e]; rfl
      have h3 : sm (fun r => (q r).toNat) R ≤ sm (fun r => (q r && (r != f (N + 1))).toNat) R + 1 := by
        by_cases hR : f (N + 1) < R
        · have h4 := sm_one (f := fun r => (q r).toNat) (g := fun r => (q r && (r != f (N + 1))).toNat) (k := f (N + 1)) (n := R) hR (fun i _ hne => by
            show (q i).toNat = (q i && (i != f (N + 1))).toNat
            rw [bne_iff_ne.mpr hne, Bool.and_true])
          have h5 : (q (f (N + 1))).toNat ≤ 1 := by cases q (f (N + 1)) <;> decide
          try dsimp only at h4
          omega
        · have h4 : sm (fun r => (q r).toNat) R = sm (fun r => (q r && (r != f (N + 1))).toNat) R := sm_congr (fun i hi => by
            show (q i).toNat = (q i && (i != f (N + 1))).toNat
            rw [bne_iff_ne.mpr (show i ≠ f (N + 1) by omega), Bool.and_true])
          omega
      omega
/-- numbers -/
theorem nI_inj {a b : Nat} (ha : a < 2 ^ 31) (hb : b < 2 ^ 31) (h : nI a = nI b) : a = b := (nI_eq ha hb).mp h
theorem ng_toInt {n : Nat} (h : n < 2 ^ 31) : (-nI n).toInt = -(n : Int) := sb_negT h
theorem ng_lt {n : Nat} (h0 : 0 < n) (h : n < 2 ^ 31) : -nI n < 0 := by
  rw [Int32.lt_iff_toInt_lt, ng_toInt h, Int32.toInt_zero]
  omega
theorem ng_ng (x : Int32) : -(-x) = x := Int32.neg_neg
theorem ng_inj {a b : Nat} (ha : a < 2 ^ 31) (hb : b < 2 ^ 31) (h : -nI a = -nI b) : a = b := by
  have h1 : (-nI a).toInt = (-nI b).toInt := by rw [h]
  rw [ng_toInt ha, ng_toInt hb] at h1
  omega
theorem ng_ne {a b : Nat} (h0 : 0 < b) (ha : a < 2 ^ 31) (hb : b < 2 ^ 31) : nI a ≠ -nI b := by
  intro h
  have h1 : (nI a).toInt = (-nI b).toInt := by rw [h]
  rw [nI_toInt ha, ng_toInt hb] at h1
  omega
theorem ar_8 (r f : Nat) : nI r * (8 : Int32) + nI f = nI (8 * r + f) := by
  rw [show (8 : Int32) = nI 8 from rfl, pk_mul, nI_add, Nat.mul_comm]
theorem ar_80 (r : Nat) : nI r * (8 : Int32) = nI (8 * r) := by
  rw [show (8 : Int32) = nI 8 from rfl, pk_mul, Nat.mul_comm]
theorem ar_1 (n : Nat) : nI n + (1 : Int32) = nI (n + 1) := nI_1 n
theorem ar_m1 {n : Nat} (h : 0 < n) : nI n - (1 : Int32) = nI (n - 1) := by
  obtain ⟨k, rfl⟩ : ∃ k, n = k + 1 := ⟨n - 1, by omega⟩
  rw [nI_pred, Nat.add_sub_cancel]
theorem ne_m1 {n : Nat} (h : n < 2 ^ 31) : nI n ≠ (-1 : Int32) := by
  intro q
  have h1 := nI_toInt h
  rw [q] at h1
  have h2 : ((-1 : Int32)).toInt = -1 := by decide
  rw [h2] at h1
  omega
theorem cl {n : Nat} (h : n < 2 ^ 31) : (nI n).toNatClampNeg = n := nI_clamp h
/-- the number that a row of eight hashes to, before and behind the folding -/
def hc (v : Nat → Int32) (b : Nat) : Nat → Int32
  | 0 => 0
  | k + 1 => (31 : Int32) * hc v b k + v (b + k)
def mixed (h : Int32) : Int32 := (h ^^^ ((h.toUInt32 >>> ((20 : Int32).toUInt32 &&& Int32.toUInt32 31)).toInt32 ^^^ (h.toUInt32 >>> ((10 : Int32).toUInt32 &&& Int32.toUInt32 31)).toInt32)) &&& (1023 : Int32)
def chN (v : Nat → Int32) (b : Nat) : Nat := (mixed (hc v b 8)).toNatClampNeg
theorem chN_e (v : Nat → Int32) (b : Nat) : mixed (hc v b 8) = nI (chN v b) ∧ chN v b < 1024 := by
  obtain ⟨j, hj, e⟩ := pk_andE (hc v b 8 ^^^ (((hc v b 8).toUInt32 >>> ((20 : Int32).toUInt32 &&& Int32.toUInt32 31)).toInt32 ^^^ ((hc v b 8).toUInt32 >>> ((10 : Int32).toUInt32 &&& Int32.toUInt32 31)).toInt32)) (m := (1023 : Int32)) 10 (by decide)
  have e2 : mixed (hc v b 8) = nI j := e
  have e3 : chN v b = j := by
    unfold chN
    rw [e2, cl (by omega)]
  rw [e3]
  exact ⟨e2, hj⟩
theorem hc_congr {v v' : Nat → Int32} {b b' : Nat} : ∀ {k : Nat}, (∀ f, f < k → v (b + f) = v' (b' + f)) → hc v b k = hc v' b' k
  | 0, _ => rfl
  | k + 1, h => by
    show (31 : Int32) * hc v b k + v (b + k) = (31 : Int32) * hc v' b' k + v' (b' + k)
    rw [hc_congr (k := k) (fun f hf => h f (by omega)), h k (by omega)]
theorem chN_congr {v v' : Nat → Int32} {b b' : Nat} (h : ∀ f, f < 8 → v (b + f) = v' (b' + f)) : chN v b = chN v' b' := by
  unfold chN
  rw [hc_congr h]
theorem nd_len : ∀ (N : Nat) (l : List Nat), l.Nodup → (∀ x ∈ l, x < N) → l.length ≤ N
  | 0, l, _, h => by
    cases l with
    | nil => exact Nat.le_refl _
    | cons a t => exact absurd (h a List.mem_cons_self) (Nat.not_lt_zero _)
  | N + 1, l, hn, h => by
    by_cases e : N ∈ l
    · have h1 := nd_len N (l.erase N) (hn.erase N) (fun x hx => by
        have h2 := (hn.mem_erase_iff).mp hx
        have h3 := h x h2.2
        omega)
      rw [List.length_erase_of_mem e] at h1
      omega
    · have h1 := nd_len N l hn (fun x hx => by
        have h3 := h x hx
        have h4 : x ≠ N := fun q => e (q ▸ hx)
        omega)
      omega
/-- the chain that begins at x, by the numbers behind -/
def Lk (x : Int32) (b : Nat → Int32) : List Nat → Prop
  | [] => x = -1
  | r :: l => x = nI r ∧ Lk (b r) b l
theorem Lk_congr {b b' : Nat → Int32} : ∀ {l : List Nat} {x : Int32}, (∀ r ∈ l, b r = b' r) → Lk x b l → Lk x b' l
  | [], _, _, h => h
  | r :: l, x, he, h => by
    refine ⟨h.1, ?_⟩
    rw [← he r List.mem_cons_self]
    exact Lk_congr (fun q hq => he q (List.mem_cons_of_mem _ hq)) h.2
theorem Lk_upd {b : Nat → Int32} {l : List Nat} {x y : Int32} {p : Nat} (hp : p ∉ l) (h : Lk x b l) : Lk x (upd b p y) l :=
  Lk_congr (fun r hr => by
    unfold upd
    rw [if_neg (fun q : r = p => hp (by rw [← q]; exact hr))]) h
theorem Lk_cut {b : Nat → Int32} {p r : Nat} {l2 : List Nat} : ∀ {l1 : List Nat} {x : Int32}, (l1 ++ p :: r :: l2).Nodup → Lk x b (l1 ++ p :: r :: l2) → Lk x (upd b p (b r)) (l1 ++ p :: l2)
  | [], x, hn, h => by
    obtain ⟨h1, h2, h3⟩ := h
    refine ⟨h1, ?_⟩
    have e : upd b p (b r) p = b r := by unfold upd; rw [if_pos rfl]
    rw [e]
    have hp : p ∉ l2 := fun q => (List.nodup_cons.mp hn).1 (List.mem_cons_of_mem _ q)
    exact Lk_upd hp h3
  | a :: l1, x, hn, h => by
    have hn' := List.nodup_cons.mp hn
    refine ⟨h.1, ?_⟩
    have ha : a ≠ p := fun q => hn'.1 (by rw [q]; exact List.mem_append_right _ List.mem_cons_self)
    have e : upd b p (b r) a = b a := by unfold upd; rw [if_neg ha]
    rw [e]
    exact Lk_cut hn'.2 h.2
/-- the records: spare ones, chains, no two alike -/
def RI (σ : St) (lv : Nat → Bool) (L : Nat → List Nat) : Prop :=
  (∃ n, n ≤ 1028 ∧ σ 7 0 = nI n ∧ n + sm (fun r => (lv r).toNat) 1028 = 1028 ∧ (∀ i, i < n → ∃ r, r < 1028 ∧ σ 2 i = nI r ∧ lv r = false) ∧ ∀ i j, i < n → j < n → σ 2 i = σ 2 j → i = j) ∧
  (∀ c, c < 1024 → (L c).Nodup ∧ Lk (σ 3 c) (σ 4) (L c) ∧ ∀ r, r ∈ L c ↔ r < 1028 ∧ lv r = true ∧ chN (σ 0) (8 * r) = c) ∧
  ∀ r r', r < 1028 → r' < 1028 → lv r = true → lv r' = true → (∀ f, f < 8 → σ 0 (8 * r + f) = σ 0 (8 * r' + f)) → r = r'
theorem RI_congr {σ τ : St} {lv : Nat → Bool} {L : Nat → List Nat} (h0 : τ 0 = σ 0) (h2 : τ 2 = σ 2) (h3 : τ 3 = σ 3) (h4 : τ 4 = σ 4) (h7 : τ 7 = σ 7) (h : RI σ lv L) : RI τ lv L := by
  unfold RI
  rw [h0, h2, h3, h4, h7]
  exact h
theorem s_chainOf_values {σ : St} {Q : Int32 → St → Prop} {b : Nat} (hb : b + 8 ≤ 8224) (hQ : Q (nI (chN (σ 0) b)) σ) : F_Rc_chainOf_values (nI b) σ Q := by
  unfold F_Rc_chainOf_values
  intro z4 hz4
  unfold F_Rc_chainOf_values_L4
  refine ⟨fun v2 v3 τ => τ = σ ∧ ∃ k, k ≤ 8 ∧ v3 = nI (b + k) ∧ v2 = hc (σ 0) b k, fun _ v3 _ => b + 8 - v3.toNatClampNeg, ⟨rfl, 0, by omega, rfl, hz4⟩, ?_⟩
  intro v2 v3 τ n hI hm
  dsimp only at hm ⊢
  obtain ⟨rfl, k, hk, rfl, rfl⟩ := hI
  have e8 : nI b + (8 : Int32) = nI (b + 8) := nI_add b 8
  rw [cl (by omega)] at hm
  refine ⟨fun hc1 => ?_, fun hc1 => ?_⟩
  · rw [e8, nI_leI (by omega) (by omega)] at hc1
    have hk8 : k = 8 := by omega
    subst hk8
    intro z1 hz1
    rw [hz1]
    have h1 := (chN_e (τ 0) b).1
    unfold mixed at h1
    rw [h1]
    exact hQ
  · rw [e8, nI_leI (by omega) (by omega)] at hc1
    refine ⟨vp_in_nI (by omega) (by decide), ?_⟩
    intro z2 hz2 z3 hz3
    rw [cl (by omega)] at hz2
    rw [ar_1] at hz3
    refine ⟨⟨rfl, k + 1, by omega, hz3, hz2⟩, ?_⟩
    rw [hz3, cl (by omega)]
    omega
theorem s_chainOf_wanted {σ : St} {Q : Int32 → St → Prop} (hQ : Q (nI (chN (σ 6) 0)) σ) : F_Rc_chainOf_wanted (0 : Int32) σ Q := by
  unfold F_Rc_chainOf_wanted
  intro z4 hz4
  unfold F_Rc_chainOf_wanted_L4
  refine ⟨fun v2 v3 τ => τ = σ ∧ ∃ k, k ≤ 8 ∧ v3 = nI k ∧ v2 = hc (σ 6) 0 k, fun _ v3 _ => 8 - v3.toNatClampNeg, ⟨rfl, 0, by omega, rfl, hz4⟩, ?_⟩
  intro v2 v3 τ n hI hm
  dsimp only at hm ⊢
  obtain ⟨rfl, k, hk, rfl, rfl⟩ := hI
  have e8 : (0 : Int32) + (8 : Int32) = nI 8 := by decide
  rw [cl (by omega)] at hm
  refine ⟨fun hc1 => ?_, fun hc1 => ?_⟩
  · rw [e8, nI_leI (by omega) (by omega)] at hc1
    have hk8 : k = 8 := by omega
    subst hk8
    intro z1 hz1
    rw [hz1]
    have h1 := (chN_e (τ 6) 0).1
    unfold mixed at h1
    rw [h1]
    exact hQ
  · rw [e8, nI_leI (by omega) (by omega)] at hc1
    refine ⟨vp_in_nI (by omega) (by decide), ?_⟩
    intro z2 hz2 z3 hz3
    rw [cl (by omega)] at hz2
    rw [ar_1] at hz3
    refine ⟨⟨rfl, k + 1, by omega, hz3, ?_⟩, ?_⟩
    · show z2 = (31 : Int32) * hc (τ 6) 0 k + τ 6 (0 + k)
      rw [Nat.zero_add]
      exact hz2
    · rw [hz3, cl (by omega)]
      omega
theorem s_value {σ : St} {Q : Int32 → St → Prop} {r f : Nat} (hr : r < 1028) (hf : f < 8) (hQ : Q (σ 0 (8 * r + f)) σ) : F_Rc_value (nI r) (nI f) σ Q := by
  unfold F_Rc_value
  rw [ar_8, cl (by omega)]
  exact ⟨vp_in_nI (by omega) (by decide), hQ⟩
theorem s_hold {σ : St} {Q : St → Prop} {r : Nat} {t : Int32} (hr : r < 1028) (hQ : Q (sA σ 1 (upd (σ 1) r (σ 1 r + t)))) : F_Rc_hold (nI r) t σ Q := by
  unfold F_Rc_hold
  rw [cl (by omega)]
  refine ⟨vp_in_nI hr (by decide), vp_in_nI hr (by decide), ?_⟩
  intro σ1 h1
  rw [h1]
  exact hQ
/-- the record r holds what is wanted -/
def eqw (σ : St) (r : Nat) : Prop := ∀ f, f < 8 → σ 0 (8 * r + f) = σ 6 f
theorem s_isWanted {σ : St} {Q : Int32 → St → Prop} {r : Nat} (hr : r < 1028) (h1 : eqw σ r → Q 1 σ) (h0 : ¬ eqw σ r → Q 0 σ) : F_Rc_isWanted (nI r) σ Q := by
  unfold F_Rc_isWanted
  intro z2 hz2
  unfold F_Rc_isWanted_L2
  refine ⟨fun v2 τ => τ = σ ∧ ∃ k, k ≤ 8 ∧ v2 = nI k ∧ ∀ f, f < k → σ 0 (8 * r + f) = σ 6 f, fun v2 _ => 8 - v2.toNatClampNeg, ⟨rfl, 0, by omega, hz2, fun f hf => absurd hf (Nat.not_lt_zero _)⟩, ?_⟩
  intro v2 τ n hI hm
  dsimp only at hm ⊢
  obtain ⟨rfl, k, hk, rfl, hall⟩ := hI
  have e8 : (8 : Int32) = nI 8 := rfl
  rw [cl (by omega)] at hm
  refine ⟨fun hc1 => ?_, fun hc1 => ?_⟩
  · rw [e8, nI_leI (by omega) (by omega)] at hc1
    have hk8 : k = 8 := by omega
    subst hk8
    exact h1 hall
  · rw [e8, nI_leI (by omega) (by omega)] at hc1
    rw [ar_8, cl (by omega), cl (by omega)]
    refine ⟨vp_in_nI (by omega) (by decide), vp_in_nI (by omega) (by decide), fun hc2 => ?_, fun hc2 => h0 (fun q => hc2 (q k (by omega)))⟩
    intro z1 hz1
    rw [ar_1] at hz1
    refine ⟨⟨rfl, k + 1, by omega, hz1, fun f hf => ?_⟩, ?_⟩
    · by_cases e : f = k
      · subst e; exact hc2
      · exact hall f (by omega)
    · rw [hz1, cl (by omega)]
      omega
theorem s_findWanted {σ : St} {lv : Nat → Bool} {L : Nat → List Nat} {Q : Int32 → St → Prop} {c : Nat} (hR : RI σ lv L) (hc0 : c < 1024) (h1 : ∀ r, r ∈ L c → eqw σ r → Q (nI r) σ) (h0 : (∀ r, r ∈ L c → ¬ eqw σ r) → Q (-1) σ) : F_Rc_findWanted (nI c) σ Q := by
  obtain ⟨hnd, hlk, hmem⟩ := hR.2.1 c hc0
  have hlen : (L c).length ≤ 1028 := nd_len 1028 (L c) hnd (fun x hx => ((hmem x).mp hx).1)
  unfold F_Rc_findWanted
  refine ⟨vp_in_nI hc0 (by decide), ?_⟩
  rw [cl (by omega)]
  intro z5 hz5 z6 hz6
  unfold F_Rc_findWanted_L9
  refine ⟨fun v2 v3 τ => τ = σ ∧ ∃ l1 l2, L c = l1 ++ l2 ∧ v3 = nI l1.length ∧ Lk v2 (σ 4) l2 ∧ ∀ r ∈ l1, ¬ eqw σ r, fun _ v3 _ => 1029 - v3.toNatClampNeg, ⟨rfl, [], L c, rfl, hz6, by rw [hz5]; exact hlk, fun r hr => absurd hr List.not_mem_nil⟩, ?_⟩
  intro v2 v3 τ n hI hm
  dsimp only at hm ⊢
  obtain ⟨rfl, l1, l2, hl, rfl, hk2, hno⟩ := hI
  have hll : l1.length + l2.length ≤ 1028 := by rw [hl, List.length_append] at hlen; exact hlen
  have e8 : (1028 : Int32) = nI 1028 := rfl
  rw [cl (by omega)] at hm
  have hend : l2 = [] → Q (-1) τ := fun e => h0 (fun r hr => by
    rw [hl, e, List.append_nil] at hr
    exact hno r hr)
  refine ⟨fun hc1 => ?_, fun hc1 => ?_⟩
  · rw [e8, nI_leI (by omega) (by omega)] at hc1
    exact hend (List.eq_nil_of_length_eq_zero (by omega))
  · rw [e8, nI_leI (by omega) (by omega)] at hc1
    cases l2 with
    | nil => exact ⟨fun _ => hend rfl, fun hc2 => absurd hk2 hc2⟩
    | cons r l2 =>
      obtain ⟨e2, hk3⟩ := hk2
      have hr : r ∈ L c := by rw [hl]; exact List.mem_append_right _ List.mem_cons_self
      have hr8 : r < 1028 := ((hmem r).mp hr).1
      subst e2
      refine ⟨fun hc2 => absurd hc2 (ne_m1 (by omega)), fun _ => ?_⟩
      refine s_isWanted hr8 (fun hq => ⟨fun h => absurd h (by decide), fun _ => h1 r hr hq⟩) (fun hq => ⟨fun _ => ⟨vp_in_nI hr8 (by decide), ?_⟩, fun h => absurd rfl h⟩)
      intro z3 hz3 z4 hz4
      rw [cl (by omega)] at hz3
      rw [ar_1] at hz4
      refine ⟨⟨rfl, l1 ++ [r], l2, by rw [hl, List.append_assoc]; rfl, by rw [hz4, List.length_append]; rfl, by rw [hz3]; exact hk3, fun x hx => ?_⟩, ?_⟩
      · rcases List.mem_append.mp hx with h | h
        · exact hno x h
        · rw [List.mem_singleton.mp h]; exact hq
      · rw [hz4, cl (by omega)]
        omega
theorem s_fill_heads {σ : St} {Q : St → Prop} {x : Int32} (hQ : ∀ τ : St, (∀ j, j ≠ 3 → τ j = σ j) → (∀ i, i < 1024 → τ 3 i = x) → Q τ) : F_Ar_fill2_heads x σ Q := by
  unfold F_Ar_fill2_heads
  intro z3 hz3 z4 hz4
  unfold F_Ar_fill2_heads_L5
  refine ⟨fun v2 τ => (∀ j, j ≠ 3 → τ j = σ j) ∧ ∃ i, i ≤ 1024 ∧ v2 = nI i ∧ ∀ q, q < i → τ 3 q = x, fun v2 _ => 1024 - v2.toNatClampNeg, ⟨fun _ _ => rfl, 0, by omega, hz3, fun q hq => absurd hq (Nat.not_lt_zero _)⟩, ?_⟩
  intro v2 τ n5 hI hm
  dsimp only at hm ⊢
  obtain ⟨hfr, i, hi, rfl, hall⟩ := hI
  rw [cl (by omega)] at hm
  have e8 : z4 = nI 1024 := hz4
  refine ⟨fun hc1 => ?_, fun hc1 => ?_⟩
  · rw [e8, nI_leI (by omega) (by omega)] at hc1
    exact hQ τ hfr (fun q hq => hall q (by omega))
  · rw [e8, nI_leI (by omega) (by omega)] at hc1
    refine ⟨vp_in_nI (by omega) (by decide), ?_⟩
    intro σ1 h1 z2 hz2
    rw [cl (by omega)] at h1
    rw [ar_1] at hz2
    refine ⟨⟨fun j hj => by rw [h1, sA_n hj]; exact hfr j hj, i + 1, by omega, hz2, fun q hq => ?_⟩, ?_⟩
    · rw [h1, sA_s]
      unfold upd
      by_cases e : q = i
      · rw [if_pos e]
      · rw [if_neg e]
        exact hall q (by omega)
    · rw [hz2, cl (by omega)]
      omega
theorem s_fill_holders {σ : St} {Q : St → Prop} {x : Int32} (hQ : ∀ τ : St, (∀ j, j ≠ 1 → τ j = σ j) → (∀ i, i < 1028 → τ 1 i = x) → Q τ) : F_Ar_fill2_holders x σ Q := by
  unfold F_Ar_fill2_holders
  intro z3 hz3 z4 hz4
  unfold F_Ar_fill2_holders_L5
  refine ⟨fun v2 τ => (∀ j, j ≠ 1 → τ j = σ j) ∧ ∃ i, i ≤ 1028 ∧ v2 = nI i ∧ ∀ q, q < i → τ 1 q = x, fun v2 _ => 1028 - v2.toNatClampNeg, ⟨fun _ _ => rfl, 0, by omega, hz3, fun q hq => absurd hq (Nat.not_lt_zero _)⟩, ?_⟩
  intro v2 τ n5 hI hm
  dsimp only at hm ⊢
  obtain ⟨hfr, i, hi, rfl, hall⟩ := hI
  rw [cl (by omega)] at hm
  have e8 : z4 = nI 1028 := hz4
  refine ⟨fun hc1 => ?_, fun hc1 => ?_⟩
  · rw [e8, nI_leI (by omega) (by omega)] at hc1
    exact hQ τ hfr (fun q hq => hall q (by omega))
  · rw [e8, nI_leI (by omega) (by omega)] at hc1
    refine ⟨vp_in_nI (by omega) (by decide), ?_⟩
    intro σ1 h1 z2 hz2
    rw [cl (by omega)] at h1
    rw [ar_1] at hz2
    refine ⟨⟨fun j hj => by rw [h1, sA_n hj]; exact hfr j hj, i + 1, by omega, hz2, fun q hq => ?_⟩, ?_⟩
    · rw [h1, sA_s]
      unfold upd
      by_cases e : q = i
      · rw [if_pos e]
      · rw [if_neg e]
        exact hall q (by omega)
    · rw [hz2, cl (by omega)]
      omega
theorem s_fill_wanted {σ : St} {Q : St → Prop} {x : Int32} (hQ : ∀ τ : St, (∀ j, j ≠ 6 → τ j = σ j) → (∀ i, i < 8 → τ 6 i = x) → Q τ) : F_Ar_fill2_wanted x σ Q := by
  unfold F_Ar_fill2_wanted
  intro z3 hz3 z4 hz4
  unfold F_Ar_fill2_wanted_L5
  refine ⟨fun v2 τ => (∀ j, j ≠ 6 → τ j = σ j) ∧ ∃ i, i ≤ 8 ∧ v2 = nI i ∧ ∀ q, q < i → τ 6 q = x, fun v2 _ => 8 - v2.toNatClampNeg, ⟨fun _ _ => rfl, 0, by omega, hz3, fun q hq => absurd hq (Nat.not_lt_zero _)⟩, ?_⟩
  intro v2 τ n5 hI hm
  dsimp only at hm ⊢
  obtain ⟨hfr, i, hi, rfl, hall⟩ := hI
  rw [cl (by omega)] at hm
  have e8 : z4 = nI 8 := hz4
  refine ⟨fun hc1 => ?_, fun hc1 => ?_⟩
  · rw [e8, nI_leI (by omega) (by omega)] at hc1
    exact hQ τ hfr (fun q hq => hall q (by omega))
  · rw [e8, nI_leI (by omega) (by omega)] at hc1
    refine ⟨vp_in_nI (by omega) (by decide), ?_⟩
    intro σ1 h1 z2 hz2
    rw [cl (by omega)] at h1
    rw [ar_1] at hz2
    refine ⟨⟨fun j hj => by rw [h1, sA_n hj]; exact hfr j hj, i + 1, by omega, hz2, fun q hq => ?_⟩, ?_⟩
    · rw [h1, sA_s]
      unfold upd
      by_cases e : q = i
      · rw [if_pos e]
      · rw [if_neg e]
        exact hall q (by omega)
    · rw [hz2, cl (by omega)]
      omega
theorem s_fill_outcome {σ : St} {Q : St → Prop} {x : Int32} (hQ : ∀ τ : St, (∀ j, j ≠ 5 → τ j = σ j) → (∀ i, i < 1028 → τ 5 i = x) → Q τ) : F_Ar_fill2_outcome x σ Q := by
  unfold F_Ar_fill2_outcome
  intro z3 hz3 z4 hz4
  unfold F_Ar_fill2_outcome_L5
  refine ⟨fun v2 τ => (∀ j, j ≠ 5 → τ j = σ j) ∧ ∃ i, i ≤ 1028 ∧ v2 = nI i ∧ ∀ q, q < i → τ 5 q = x, fun v2 _ => 1028 - v2.toNatClampNeg, ⟨fun _ _ => rfl, 0, by omega, hz3, fun q hq => absurd hq (Nat.not_lt_zero _)⟩, ?_⟩
  intro v2 τ n5 hI hm
  dsimp only at hm ⊢
  obtain ⟨hfr, i, hi, rfl, hall⟩ := hI
  rw [cl (by omega)] at hm
  have e8 : z4 = nI 1028 := hz4
  refine ⟨fun hc1 => ?_, fun hc1 => ?_⟩
  · rw [e8, nI_leI (by omega) (by omega)] at hc1
    exact hQ τ hfr (fun q hq => hall q (by omega))
  · rw [e8, nI_leI (by omega) (by omega)] at hc1
    refine ⟨vp_in_nI (by omega) (by decide), ?_⟩
    intro σ1 h1 z2 hz2
    rw [cl (by omega)] at h1
    rw [ar_1] at hz2
    refine ⟨⟨fun j hj => by rw [h1, sA_n hj]; exact hfr j hj, i + 1, by omega, hz2, fun q hq => ?_⟩, ?_⟩
    · rw [h1, sA_s]
      unfold upd
      by_cases e : q = i
      · rw [if_pos e]
      · rw [if_neg e]
        exact hall q (by omega)
    · rw [hz2, cl (by omega)]
      omega
theorem s_fill4 {σ : St} {Q : St → Prop} {x : Int32} {b e : Nat} (hbe : b ≤ e) (he : e ≤ 66624) (hQ : ∀ τ : St, (∀ j, j ≠ 11 → τ j = σ j) → (∀ i, τ 11 i = if b ≤ i ∧ i < e then x else σ 11 i) → Q τ) : F_Ar_fill4_cells (nI b) (nI e) x σ Q := by
  unfold F_Ar_fill4_cells F_Ar_rangeCheck
  refine ⟨fun _ => ⟨fun _ => ⟨fun _ => ?_, fun h => h ((nI_leI (b := 66624) (by omega) (by omega)).mpr he)⟩, fun h => h (nI_pos' (by omega))⟩, fun h => h ((nI_leI (by omega) (by omega)).mpr hbe)⟩
  unfold F_Ar_fill4_cells_L10
  refine ⟨fun v4 τ => (∀ j, j ≠ 11 → τ j = σ j) ∧ ∃ i, b ≤ i ∧ i ≤ e ∧ v4 = nI i ∧ ∀ q, τ 11 q = if b ≤ q ∧ q < i then x else σ 11 q, fun v4 _ => e - v4.toNatClampNeg, ⟨fun _ _ => rfl, b, by omega, by omega, rfl, fun q => by rw [if_neg (by omega)]⟩, ?_⟩
  intro v4 τ n10 hI hm
  dsimp only at hm ⊢
  obtain ⟨hfr, i, hb, hi, rfl, hall⟩ := hI
  rw [cl (by omega)] at hm
  refine ⟨fun hc1 => ?_, fun hc1 => ?_⟩
  · rw [nI_leI (by omega) (by omega)] at hc1
    have hie : i = e := by omega
    subst hie
    exact hQ τ hfr hall
  · rw [nI_leI (by omega) (by omega)] at hc1
    refine ⟨vp_in_nI (by omega) (by decide), ?_⟩
    intro σ1 h1 z2 hz2
    rw [cl (by omega)] at h1
    rw [ar_1] at hz2
    refine ⟨⟨fun j hj => by rw [h1, sA_n hj]; exact hfr j hj, i + 1, by omega, by omega, hz2, fun q => ?_⟩, ?_⟩
    · rw [h1, sA_s]
      unfold upd
      by_cases e1 : q = i
      · rw [if_pos e1, if_pos (by omega)]
      · rw [if_neg e1, hall q]
        by_cases e2 : b ≤ q ∧ q < i
        · rw [if_pos e2, if_pos (by omega)]
        · rw [if_neg e2, if_neg (by omega)]
    · rw [hz2, cl (by omega)]
      omega
theorem bt_nat (b : Bool) : b.toNat = 0 ∨ b.toNat = 1 := by cases b <;> simp
theorem s_keepWanted {σ : St} {lv : Nat → Bool} {L : Nat → List Nat} {Q : Int32 → St → Prop} {c : Nat} (hR : RI σ lv L) (hc0 : c < 1024) (hc : c = chN (σ 6) 0) (hroom : sm (fun r => (lv r).toNat) 1028 < 1028)
    (hnew : ∀ r, r < 1028 → lv r = true → ¬ eqw σ r)
    (hQ : ∀ (r : Nat) (τ : St), r < 1028 → lv r = false → (∀ n, σ 7 0 = nI (n + 1) → n < 1028 → σ 2 n = nI r) → RI τ (fun x => lv x || x == r) (fun d => if d = c then r :: L c else L d) → (∀ j, j ≠ 0 → j ≠ 3 → j ≠ 4 → j ≠ 7 → τ j = σ j) →
      (∀ r' f, r' ≠ r → f < 8 → τ 0 (8 * r' + f) = σ 0 (8 * r' + f)) → eqw τ r → Q (nI r) τ) : F_Rc_keepWanted (nI c) σ Q := by
  obtain ⟨⟨n, hn, e7, hcount, hsp, hinj⟩, hch, hdf⟩ := hR
  have hn0 : 0 < n := by omega
  obtain ⟨r, hr, e2, hlr⟩ := hsp (n - 1) (by omega)
  unfold F_Rc_keepWanted
  intro σ1 h1
  have e17 : σ1 7 0 = nI (n - 1) := by rw [h1, sA_s, e7, ar_m1 hn0]
  have e12 : σ1 2 = σ 2 := by rw [h1, sA_n (by decide)]
  have e13 : σ1 3 = σ 3 := by rw [h1, sA_n (by decide)]
  have e14 : σ1 4 = σ 4 := by rw [h1, sA_n (by decide)]
  have e10 : σ1 0 = σ 0 := by rw [h1, sA_n (by decide)]
  have e16 : σ1 6 = σ 6 := by rw [h1, sA_n (by decide)]
  rw [e17, cl (by omega), e12, e2]
  refine ⟨vp_in_nI (by omega) (by decide), ?_⟩
  intro z2 hz2
  subst hz2
  rw [ar_80, cl (by omega)]
  refine ⟨by decide, nI_pos (by omega), by decide, by decide, ?_, ?_⟩
  · show 8 * r + 8 ≤ 8224
    omega
  intro σ3 h3
  have h3 : σ3 = sA σ1 0 (va_cpy (σ 6) (σ 0) 0 (8 * r) 8) := by rw [h3, e16, e10]; rfl
  have e30 : ∀ i, σ3 0 i = if 8 * r ≤ i ∧ i < 8 * r + 8 then σ 6 (0 + (i - 8 * r)) else σ 0 i := fun i => by rw [h3, sA_s]; rfl
  have e33 : σ3 3 = σ 3 := by rw [h3, sA_n (by decide), e13]
  have e34 : σ3 4 = σ 4 := by rw [h3, sA_n (by decide), e14]
  refine ⟨vp_in_nI hc0 (by decide), vp_in_nI hr (by decide), ?_⟩
  intro σ4 h4
  rw [cl (by omega), cl (by omega), e33, e34] at h4
  refine ⟨vp_in_nI hc0 (by decide), ?_⟩
  intro σ5 h5
  have e43 : σ4 3 = σ 3 := by rw [h4, sA_n (by decide), e33]
  rw [cl (by omega), e43] at h5
  have f0 : σ5 0 = σ3 0 := by rw [h5, sA_n (by decide), h4, sA_n (by decide)]
  have f3 : σ5 3 = upd (σ 3) c (nI r) := by rw [h5, sA_s]
  have f4 : σ5 4 = upd (σ 4) r (σ 3 c) := by rw [h5, sA_n (by decide), h4, sA_s]
  have fo : ∀ j, j ≠ 0 → j ≠ 3 → j ≠ 4 → j ≠ 7 → σ5 j = σ j := fun j a0 a3 a4 a7 => by
    rw [h5, sA_n a3, h4, sA_n a4, h3, sA_n a0, h1, sA_n a7]
  have f7 : σ5 7 0 = nI (n - 1) := by rw [h5, sA_n (by decide), h4, sA_n (by decide), h3, sA_n (by decide), e17]
  have gold : ∀ r' f, r' ≠ r → f < 8 → σ5 0 (8 * r' + f) = σ 0 (8 * r' + f) := fun r' f hne hf => by
    rw [f0, e30, if_neg (by omega)]
  have gnew : ∀ f, f < 8 → σ5 0 (8 * r + f) = σ 6 f := fun f hf => by
    rw [f0, e30, if_pos (by omega)]
    congr 1
    omega
  have chold : ∀ r', r' ≠ r → chN (σ5 0) (8 * r') = chN (σ 0) (8 * r') := fun r' hne => chN_congr (fun f hf => gold r' f hne hf)
  have chnew : chN (σ5 0) (8 * r) = c := by
    rw [hc]
    exact chN_congr (fun f hf => by rw [gnew f hf, Nat.zero_add])
  have hrL : ∀ d, d < 1024 → r ∉ L d := fun d hd hm => by
    have := ((hch d hd).2.2 r).mp hm
    rw [hlr] at this
    exact absurd this.2.1 (by decide)
  refine hQ r σ5 hr hlr (fun k hk hk2 => ?_) ⟨⟨n - 1, by omega, f7, ?_, ?_, ?_⟩, ?_, ?_⟩ fo gold (fun f hf => by rw [gnew f hf, fo 6 (by decide) (by decide) (by decide) (by decide)])
  · rw [e7] at hk
    have : n = k + 1 := nI_inj (by omega) (by omega) hk
    rw [show k = n - 1 by omega]
    exact e2
  · show n - 1 + sm (fun x => (lv x || x == r).toNat) 1028 = 1028
    have h6 := sm_one (f := fun x => (lv x || x == r).toNat) (g := fun x => (lv x).toNat) (k := r) (n := 1028) hr (fun i _ hne => by
      show (lv i || i == r).toNat = (lv i).toNat
      rw [beq_eq_false_iff_ne.mpr hne, Bool.or_false])
    simp only [hlr, Bool.false_or, beq_self_eq_true, Bool.toNat_true, Bool.toNat_false] at h6
    omega
  · intro i hi
    obtain ⟨x, hx, ex, hlx⟩ := hsp i (by omega)
    refine ⟨x, hx, by rw [fo 2 (by decide) (by decide) (by decide) (by decide)]; exact ex, ?_⟩
    have hne : x ≠ r := fun q => by
      have := hinj i (n - 1) (by omega) (by omega) (by rw [ex, e2, q])
      omega
    show (lv x || x == r) = false
    rw [hlx, beq_eq_false_iff_ne.mpr hne]
    rfl
  · intro i j hi hj hij
    rw [fo 2 (by decide) (by decide) (by decide) (by decide)] at hij
    exact hinj i j (by omega) (by omega) hij
  · intro d hd
    obtain ⟨n1, n2, n3⟩ := hch d hd
    dsimp only
    by_cases ed : d = c
    · subst ed
      rw [if_pos rfl, f3, f4]
      refine ⟨List.nodup_cons.mpr ⟨hrL d hd, n1⟩, ⟨?_, ?_⟩, fun x => ?_⟩
      · unfold upd; rw [if_pos rfl]
      · rw [show upd (σ 4) r (σ 3 d) r = σ 3 d by unfold upd; rw [if_pos rfl]]
        exact Lk_upd (hrL d hd) n2
      · rw [List.mem_cons]
        by_cases ex : x = r
        · subst ex
          refine ⟨fun _ => ⟨hr, by simp, chnew⟩, fun _ => Or.inl rfl⟩
        · rw [chold x ex, n3 x]
          simp [ex]
    · rw [if_neg ed, f3, f4]
      refine ⟨n1, ?_, fun x => ?_⟩
      · rw [show upd (σ 3) c (nI r) d = σ 3 d by unfold upd; rw [if_neg ed]]
        exact Lk_upd (hrL d hd) n2
      · by_cases ex : x = r
        · subst ex
          refine ⟨fun h => absurd h (hrL d hd), fun h => absurd (h.2.2.symm.trans chnew) ed⟩
        · rw [chold x ex, n3 x]
          simp [ex]
  · intro x y hx hy lx ly he
    by_cases ex : x = r
    · by_cases ey : y = r
      · rw [ex, ey]
      · exfalso
        have hly : lv y = true := by simpa [ey] using ly
        exact hnew y hy hly (fun f hf => by rw [← gold y f ey hf, ← he f hf, ex, gnew f hf])
    · have hlx : lv x = true := by simpa [ex] using lx
      by_cases ey : y = r
      · exfalso
        exact hnew x hx hlx (fun f hf => by rw [← gold x f ex hf, he f hf, ey, gnew f hf])
      · have hly : lv y = true := by simpa [ey] using ly
        exact hdf x y hx hy hlx hly (fun f hf => by rw [← gold x f ex hf, ← gold y f ey hf]; exact he f hf)
theorem s_dropJ95 {σ τ : St} {lv : Nat → Bool} {L : Nat → List Nat} {Q : St → Prop} {r : Nat} (hR : RI σ lv L) (hr : r < 1028) (hlr : lv r = true) (hfr : ∀ j, j ≠ 3 → j ≠ 4 → τ j = σ j) (hlk : ∀ d, d < 1024 → Lk (τ 3 d) (τ 4) ((L d).erase r))
    (hQ : ∀ ρ : St, RI ρ (fun x => lv x && x != r) (fun d => (L d).erase r) → (∀ j, j ≠ 2 → j ≠ 3 → j ≠ 4 → j ≠ 7 → ρ j = σ j) → Q ρ) : F_Rc_drop_J95 (nI r) τ Q := by
  obtain ⟨⟨n, hn, e7, hcount, hsp, hinj⟩, hch, hdf⟩ := hR
  have h6 := sm_one (f := fun x => (lv x && x != r).toNat) (g := fun x => (lv x).toNat) (k := r) (n := 1028) hr (fun i _ hne => by
    show (lv i && i != r).toNat = (lv i).toNat
    rw [bne_iff_ne.mpr hne, Bool.and_true])
  simp only [hlr, bne_self_eq_false, Bool.and_false, Bool.toNat_true, Bool.toNat_false] at h6
  have hn1 : n < 1028 := by omega
  have t7 : τ 7 0 = nI n := by rw [hfr 7 (by decide) (by decide)]; exact e7
  have t2 : τ 2 = σ 2 := hfr 2 (by decide) (by decide)
  unfold F_Rc_drop_J95
  rw [t7, cl (by omega), t2]
  refine ⟨vp_in_nI hn1 (by decide), ?_⟩
  intro σ1 h1 σ2 h2
  have e17 : σ1 7 0 = nI n := by rw [h1, sA_n (by decide)]; exact t7
  rw [e17, ar_1] at h2
  have g2 : σ2 2 = upd (σ 2) n (nI r) := by rw [h2, sA_n (by decide), h1, sA_s]
  have g7 : σ2 7 0 = nI (n + 1) := by rw [h2, sA_s]
  have go : ∀ j, j ≠ 2 → j ≠ 7 → σ2 j = τ j := fun j a2 a7 => by rw [h2, sA_n a7, h1, sA_n a2]
  have g0 : σ2 0 = σ 0 := by rw [go 0 (by decide) (by decide), hfr 0 (by decide) (by decide)]
  refine hQ σ2 ⟨⟨n + 1, by omega, g7, (by show n + 1 + sm (fun x => (lv x && x != r).toNat) 1028 = 1028; omega), ?_, ?_⟩, ?_, ?_⟩ (fun j a2 a3 a4 a7 => by rw [go j a2 a7, hfr j a3 a4])
  · intro i hi
    rw [g2]
    unfold upd
    by_cases ei : i = n
    · rw [if_pos ei]
      exact ⟨r, hr, rfl, by simp⟩
    · rw [if_neg ei]
      obtain ⟨x, hx, ex, hlx⟩ := hsp i (by omega)
      exact ⟨x, hx, ex, by show (lv x && x != r) = false; rw [hlx]; rfl⟩
  · have hno : ∀ i, i < n → σ 2 i ≠ nI r := fun i hi q => by
      obtain ⟨x, hx, ex, hlx⟩ := hsp i hi
      have := nI_inj (by omega) (by omega) (ex.symm.trans q)
      rw [this, hlr] at hlx
      exact absurd hlx (by decide)
    intro i j hi hj hij
    rw [g2] at hij
    unfold upd at hij
    by_cases ei : i = n
    · by_cases ej : j = n
      · rw [ei, ej]
      · rw [if_pos ei, if_neg ej] at hij
        exact absurd hij.symm (hno j (by omega))
    · by_cases ej : j = n
      · rw [if_neg ei, if_pos ej] at hij
        exact absurd hij (hno i (by omega))
      · rw [if_neg ei, if_neg ej] at hij
        exact hinj i j (by omega) (by omega) hij
  · intro d hd
    obtain ⟨n1, n2, n3⟩ := hch d hd
    refine ⟨n1.erase r, ?_, fun x => ?_⟩
    · rw [go 3 (by decide) (by decide), go 4 (by decide) (by decide)]
      exact hlk d hd
    · rw [n1.mem_erase_iff, n3 x, g0]
      by_cases ex : x = r
      · subst ex; simp
      · simp [ex]
  · intro x y hx hy lx ly he
    rw [g0] at he
    simp only [Bool.and_eq_true] at lx ly
    exact hdf x y hx hy lx.1 ly.1 he
theorem s_drop {σ : St} {lv : Nat → Bool} {L : Nat → List Nat} {Q : St → Prop} {r : Nat} (hR : RI σ lv L) (hr : r < 1028) (hlr : lv r = true)
    (hQ : ∀ ρ : St, RI ρ (fun x => lv x && x != r) (fun d => (L d).erase r) → (∀ j, j ≠ 2 → j ≠ 3 → j ≠ 4 → j ≠ 7 → ρ j = σ j) → Q ρ) : F_Rc_drop (nI r) σ Q := by
  have hR0 := hR
  obtain ⟨-, hch, -⟩ := hR
  obtain ⟨c, hcd⟩ : ∃ c, c = chN (σ 0) (8 * r) := ⟨_, rfl⟩
  have hc0 : c < 1024 := by rw [hcd]; exact (chN_e (σ 0) (8 * r)).2
  obtain ⟨hnd, hlk, hmem⟩ := hch c hc0
  have hrc : r ∈ L c := (hmem r).mpr ⟨hr, hlr, hcd.symm⟩
  have hlen : (L c).length ≤ 1028 := nd_len 1028 (L c) hnd (fun x hx => ((hmem x).mp hx).1)
  have hoth : ∀ d, d < 1024 → d ≠ c → ∀ x, x ∈ L c → x ∉ L d := fun d hd hne x hx hx2 => by
    have h1 := ((hmem x).mp hx).2.2
    have h2 := ((hch d hd).2.2 x).mp hx2
    exact hne (h2.2.2.symm.trans h1)
  unfold F_Rc_drop
  rw [ar_80]
  refine s_chainOf_values (by omega) ?_
  rw [← hcd]
  intro z9 hz9
  refine ⟨vp_in_nI hc0 (by decide), ?_⟩
  rw [cl (by omega)]
  intro z10 hz10 z11 hz11
  -- the chain's end: the record is found
  have hJ : ∀ (l1 l2 : List Nat) (v3 : Int32), L c = l1 ++ r :: l2 → (l1 = [] ∧ v3 = -1 ∨ ∃ l0 p, l1 = l0 ++ [p] ∧ v3 = nI p) → F_Rc_drop_J63 (nI r) (nI c) v3 σ Q := by
    intro l1 l2 v3 hl h3
    have hnl : (l1 ++ r :: l2).Nodup := by rw [← hl]; exact hnd
    have hr1 : r ∉ l1 := fun h => by
      have := List.nodup_append.mp hnl
      exact this.2.2 r h r List.mem_cons_self rfl
    have her : (L c).erase r = l1 ++ l2 := by
      rw [hl, List.erase_append_right _ hr1, List.erase_cons_head]
    have hk : Lk (σ 3 c) (σ 4) (l1 ++ r :: l2) := by rw [← hl]; exact hlk
    unfold F_Rc_drop_J63
    rw [cl (by omega), cl (by omega)]
    rcases h3 with ⟨e1, e3⟩ | ⟨l0, p, e1, e3⟩
    · refine ⟨fun _ => ?_, fun h => absurd e3 h⟩
      subst e1
      refine ⟨vp_in_nI hr (by decide), vp_in_nI hc0 (by decide), ?_⟩
      intro σ4 h4
      refine s_dropJ95 hR0 hr hlr (fun j a3 _ => by rw [h4, sA_n a3]) (fun d hd => ?_) hQ
      have g3 : σ4 3 = upd (σ 3) c (σ 4 r) := by rw [h4, sA_s]
      have g4 : σ4 4 = σ 4 := by rw [h4, sA_n (by decide)]
      rw [g3, g4]
      unfold upd
      by_cases ed : d = c
      · subst ed
        rw [if_pos rfl, her]
        exact hk.2
      · rw [if_neg ed, List.erase_of_not_mem (hoth d hd ed r hrc)]
        exact (hch d hd).2.1
    · subst e1
      have hp : p ∈ L c := by rw [hl]; exact List.mem_append_left _ (List.mem_append_right _ List.mem_cons_self)
      have hp8 : p < 1028 := ((hmem p).mp hp).1
      refine ⟨fun h => absurd (e3.symm.trans h) (ne_m1 (by omega)), fun _ => ?_⟩
      subst e3
      rw [cl (by omega)]
      refine ⟨vp_in_nI hr (by decide), vp_in_nI hp8 (by decide), ?_⟩
      intro σ3 h3
      refine s_dropJ95 hR0 hr hlr (fun j _ a4 => by rw [h3, sA_n a4]) (fun d hd => ?_) hQ
      have g3 : σ3 3 = σ 3 := by rw [h3, sA_n (by decide)]
      have g4 : σ3 4 = upd (σ 4) p (σ 4 r) := by rw [h3, sA_s]
      rw [g3, g4]
      by_cases ed : d = c
      · subst ed
        rw [her]
        rw [List.append_assoc] at hnl hk ⊢
        exact Lk_cut hnl hk
      · rw [List.erase_of_not_mem (hoth d hd ed r hrc)]
        exact Lk_upd (hoth d hd ed p hp) (hch d hd).2.1
  unfold F_Rc_drop_L25
  refine ⟨fun v3 v4 v5 τ => τ = σ ∧ ∃ l1 l2, L c = l1 ++ l2 ∧ v5 = nI l1.length ∧ Lk v4 (σ 4) l2 ∧ r ∈ l2 ∧ (l1 = [] ∧ v3 = -1 ∨ ∃ l0 p, l1 = l0 ++ [p] ∧ v3 = nI p), fun _ _ v5 _ => 1029 - v5.toNatClampNeg, ⟨rfl, [], L c, rfl, hz11, by rw [hz10]; exact hlk, hrc, Or.inl ⟨rfl, hz9⟩⟩, ?_⟩
  intro v3 v4 v5 τ n25 hI hm
  dsimp only at hm ⊢
  obtain ⟨rfl, l1, l2, hl, rfl, hk2, hr2, h3⟩ := hI
  have hll : l1.length + l2.length ≤ 1028 := by rw [hl, List.length_append] at hlen; exact hlen
  have e8 : (1028 : Int32) = nI 1028 := rfl
  cases l2 with
  | nil => exact absurd hr2 List.not_mem_nil
  | cons x l2 =>
    rw [List.length_cons] at hll
    rw [cl (by omega)] at hm
    obtain ⟨e4, hk3⟩ := hk2
    have hx : x ∈ L c := by rw [hl]; exact List.mem_append_right _ List.mem_cons_self
    have hx8 : x < 1028 := ((hmem x).mp hx).1
    subst e4
    refine ⟨fun hc1 => ?_, fun _ => ⟨fun hc2 => absurd hc2 (ne_m1 (by omega)), fun _ => ⟨fun hc3 => ?_, fun hc3 => ?_⟩⟩⟩
    · rw [e8, nI_leI (by omega) (by omega)] at hc1
      omega
    · have : x = r := nI_inj (by omega) (by omega) hc3
      subst this
      exact hJ l1 l2 v3 hl h3
    · have hne : x ≠ r := fun q => hc3 (by rw [q])
      refine ⟨vp_in_nI hx8 (by decide), ?_⟩
      rw [cl (by omega)]
      intro z5 hz5 z6 hz6
      rw [ar_1] at hz6
      refine ⟨⟨rfl, l1 ++ [x], l2, by rw [hl, List.append_assoc]; rfl, by rw [hz6, List.length_append]; rfl, by rw [hz5]; exact hk3, ?_, Or.inr ⟨l1, x, rfl, rfl⟩⟩, ?_⟩
      · rcases List.mem_cons.mp hr2 with h | h
        · exact absurd h.symm hne
        · exact h
      · rw [hz6, cl (by omega)]
        omega
theorem s_release {σ : St} {Q : St → Prop} {r h : Nat} {lv : Nat → Bool} {L : Nat → List Nat} (t : Nat) (hR : RI σ lv L) (hr : r < 1028) (hlr : lv r = true) (eh : σ 1 r = nI h) (hh : h < 2 ^ 30) (ht : t ≤ h)
    (hQ0 : h = t → ∀ ρ : St, RI ρ (fun x => lv x && x != r) (fun d => (L d).erase r) → (∀ j, j ≠ 1 → j ≠ 2 → j ≠ 3 → j ≠ 4 → j ≠ 7 → ρ j = σ j) → ρ 1 = upd (σ 1) r (nI 0) → Q ρ)
    (hQ1 : h ≠ t → Q (sA σ 1 (upd (σ 1) r (nI (h - t))))) : F_Rc_release (nI r) (nI t) σ Q := by
  unfold F_Rc_release
  rw [cl (by omega)]
  refine ⟨vp_in_nI hr (by decide), vp_in_nI hr (by decide), ?_⟩
  intro σ1 h1
  rw [eh, pk_sub ht] at h1
  refine ⟨vp_in_nI hr (by decide), ?_⟩
  have e1 : σ1 1 r = nI (h - t) := by
    rw [h1, sA_s]
    unfold upd
    rw [if_pos rfl]
  rw [e1]
  refine ⟨fun hz => ?_, fun hz => ?_⟩
  · have hht : h = t := by
      have : h - t = 0 := nI_inj (b := 0) (by omega) (by omega) hz
      omega
    have hR1 : RI σ1 lv L := RI_congr (by rw [h1, sA_n (by decide)]) (by rw [h1, sA_n (by decide)]) (by rw [h1, sA_n (by decide)]) (by rw [h1, sA_n (by decide)]) (by rw [h1, sA_n (by decide)]) hR
    refine s_drop hR1 hr hlr (fun ρ hρ hfr => hQ0 hht ρ hρ (fun j a1 a2 a3 a4 a7 => by rw [hfr j a2 a3 a4 a7, h1, sA_n a1]) ?_)
    rw [hfr 1 (by decide) (by decide) (by decide) (by decide), h1, sA_s, hht, Nat.sub_self]
  · rw [h1]
    refine hQ1 (fun q => hz ?_)
    rw [q, Nat.sub_self]
    rfl
theorem s_begin {σ : St} {Q : St → Prop} {f v k : Int32} (hQ : ∀ τ : St, τ 8 0 = f → τ 9 0 = v → τ 10 0 = k → (∀ i, i < 1028 → τ 5 i = -1) → (∀ j, j ≠ 5 → j ≠ 8 → j ≠ 9 → j ≠ 10 → τ j = σ j) → Q τ) : F_Rc_begin f v k σ Q := by
  unfold F_Rc_begin
  intro σ1 h1 σ2 h2 σ3 h3
  refine s_fill_outcome (fun τ hfr hall => hQ τ ?_ ?_ ?_ hall ?_)
  · rw [hfr 8 (by decide), h3, sA_n (by decide), h2, sA_n (by decide), h1, sA_s]
  · rw [hfr 9 (by decide), h3, sA_n (by decide), h2, sA_s]
  · rw [hfr 10 (by decide), h3, sA_s]
  · intro j a5 a8 a9 a10
    rw [hfr j a5, h3, sA_n a10, h2, sA_n a9, h1, sA_n a8]
/-- what the change under way makes of the record r's field f -/
def nv (σ : St) (fl r f : Nat) : Int32 := if f = fl then (σ 0 (8 * r + f) &&& σ 10 0) ||| σ 9 0 else σ 0 (8 * r + f)
theorem s_altered {σ : St} {lv : Nat → Bool} {L : Nat → List Nat} {Q : Int32 → St → Prop} {r fl : Nat} (hR : RI σ lv L) (hr : r < 1028) (hfl : fl < 8) (efl : σ 8 0 = nI fl) (hroom : sm (fun x => (lv x).toNat) 1028 < 1028)
    (hmemo : σ 5 r = -1 ∨ ∃ o, o < 1028 ∧ lv o = true ∧ σ 5 r = nI o ∧ ∀ f, f < 8 → σ 0 (8 * o + f) = nv σ fl r f)
    (hQ : ∀ (o : Nat) (τ : St) (lv' : Nat → Bool) (L' : Nat → List Nat), o < 1028 → RI τ lv' L' → (lv o = true ∧ lv' = lv ∨ lv o = false ∧ lv' = fun x => lv x || x == o) → (∀ x f, (lv o = false → x ≠ o) → f < 8 → τ 0 (8 * x + f) = σ 0 (8 * x + f)) →
      (∀ f, f < 8 → τ 0 (8 * o + f) = nv σ fl r f) → (∀ i, τ 5 i = if i = r then nI o else σ 5 i) → (∀ j, j ≠ 0 → j ≠ 3 → j ≠ 4 → j ≠ 5 → j ≠ 6 → j ≠ 7 → τ j = σ j) → Q (nI o) τ) : F_Rc_altered (nI r) σ Q := by
  unfold F_Rc_altered
  rw [cl (by omega)]
  refine ⟨vp_in_nI hr (by decide), fun hm => ?_, fun hm => ?_⟩
  · rw [ar_80, cl (by omega)]
    refine ⟨nI_pos (by omega), by decide, by decide, ?_, by decide, ?_⟩
    · show 8 * r + 8 ≤ 8224
      omega
    intro σ2 h2
    have e26 : ∀ i, i < 8 → σ2 6 i = σ 0 (8 * r + i) := fun i hi => by
      rw [h2, sA_s]
      show (if 0 ≤ i ∧ i < 0 + 8 then σ 0 (8 * r + (i - 0)) else σ 6 i) = _
      rw [if_pos (by omega), Nat.sub_zero]
    have e28 : σ2 8 0 = nI fl := by rw [h2, sA_n (by decide)]; exact efl
    have e2k : σ2 10 0 = σ 10 0 := by rw [h2, sA_n (by decide)]
    have e2v : σ2 9 0 = σ 9 0 := by rw [h2, sA_n (by decide)]
    rw [e28, cl (by omega), e2k, e2v]
    refine ⟨vp_in_nI hfl (by decide), vp_in_nI hfl (by decide), ?_⟩
    intro σ3 h3
    have e36 : ∀ i, i < 8 → σ3 6 i = nv σ fl r i := fun i hi => by
      rw [h3, sA_s]
      unfold upd nv
      by_cases e : i = fl
      · rw [if_pos e, if_pos e, e26 fl hfl, e]
      · rw [if_neg e, if_neg e, e26 i hi]
    have e3o : ∀ j, j ≠ 6 → σ3 j = σ j := fun j a6 => by rw [h3, sA_n a6, h2, sA_n a6]
    have hR3 : RI σ3 lv L := RI_congr (e3o 0 (by decide)) (e3o 2 (by decide)) (e3o 3 (by decide)) (e3o 4 (by decide)) (e3o 7 (by decide)) hR
    refine s_chainOf_wanted ?_
    have hc0 : chN (σ3 6) 0 < 1024 := (chN_e (σ3 6) 0).2
    -- the end: the outcome is written down
    have hJ : ∀ (o : Nat) (τ : St) (lv' : Nat → Bool) (L' : Nat → List Nat), o < 1028 → RI τ lv' L' → (lv o = true ∧ lv' = lv ∨ lv o = false ∧ lv' = fun x => lv x || x == o) → (∀ x f, (lv o = false → x ≠ o) → f < 8 → τ 0 (8 * x + f) = σ 0 (8 * x + f)) →
        (∀ f, f < 8 → τ 0 (8 * o + f) = nv σ fl r f) → (∀ j, j ≠ 0 → j ≠ 3 → j ≠ 4 → j ≠ 6 → j ≠ 7 → τ j = σ j) → F_Rc_altered_J93 (nI r) (nI o) τ Q := by
      intro o τ lv' L' ho hRo hlo hold hnew hfr
      unfold F_Rc_altered_J93
      rw [cl (by omega)]
      refine ⟨vp_in_nI hr (by decide), ?_⟩
      intro σ1 h1
      refine ⟨vp_in_nI hr (by decide), ?_⟩
      have g5 : ∀ i, σ1 5 i = if i = r then nI o else σ 5 i := fun i => by
        rw [h1, sA_s]
        unfold upd
        rw [hfr 5 (by decide) (by decide) (by decide) (by decide) (by decide)]
      have go : ∀ j, j ≠ 5 → σ1 j = τ j := fun j a5 => by rw [h1, sA_n a5]
      rw [g5 r, if_pos rfl]
      refine hQ o σ1 lv' L' ho (RI_congr (go 0 (by decide)) (go 2 (by decide)) (go 3 (by decide)) (go 4 (by decide)) (go 7 (by decide)) hRo) hlo ?_ ?_ g5 ?_
      · intro x f hx hf
        rw [go 0 (by decide)]
        exact hold x f hx hf
      · intro f hf
        rw [go 0 (by decide)]
        exact hnew f hf
      · intro j a0 a3 a4 a5 a6 a7
        rw [go j a5, hfr j a0 a3 a4 a6 a7]
    refine s_findWanted hR3 hc0 (fun o ho hq => ?_) (fun hno => ?_)
    · obtain ⟨ho8, hlo, -⟩ := ((hR3.2.1 _ hc0).2.2 o).mp ho
      refine ⟨fun h => absurd h (ne_m1 (by omega)), fun _ => ?_⟩
      refine hJ o σ3 lv L ho8 hR3 (Or.inl ⟨hlo, rfl⟩) (fun x f _ _ => by rw [e3o 0 (by decide)]) (fun f hf => ?_) (fun j _ _ _ a6 _ => e3o j a6)
      rw [hq f hf, e36 f hf]
    · have hroom3 : ∃ n, 0 < n ∧ n ≤ 1028 ∧ σ3 7 0 = nI n := by
        obtain ⟨⟨n, hn, e7, hcount, -, -⟩, -, -⟩ := hR3
        exact ⟨n, by omega, hn, e7⟩
      obtain ⟨n, hn0, hn8, e7⟩ := hroom3
      refine ⟨fun _ => ⟨fun h => ?_, fun _ => ?_⟩, fun h => absurd rfl h⟩
      · rw [e7] at h
        exact absurd h (nI_nle hn0 (by omega))
      · have hnone : ∀ x, x < 1028 → lv x = true → ¬ eqw σ3 x := fun x hx hlx hq => by
          have hch : chN (σ3 0) (8 * x) = chN (σ3 6) 0 := chN_congr (fun f hf => by rw [hq f hf, Nat.zero_add])
          exact hno x (((hR3.2.1 _ hc0).2.2 x).mpr ⟨hx, hlx, hch⟩) hq
        refine s_keepWanted hR3 hc0 rfl hroom hnone (fun o τ ho hlo _ hRo hfr hold hnew => ?_)
        refine hJ o τ _ _ ho hRo (Or.inr ⟨hlo, rfl⟩) (fun x f hx hf => ?_) (fun f hf => ?_) (fun j a0 a3 a4 a6 a7 => ?_)
        · rw [hold x f (hx hlo) hf, e3o 0 (by decide)]
        · rw [hnew f hf, hfr 6 (by decide) (by decide) (by decide) (by decide), e36 f hf]
        · rw [hfr j a0 a3 a4 a7, e3o j a6]
  · rcases hmemo with h | ⟨o, ho, hlo, e5, hnew⟩
    · exact absurd h hm
    · refine ⟨vp_in_nI hr (by decide), ?_⟩
      rw [e5]
      refine hQ o σ lv L ho hR (Or.inl ⟨hlo, rfl⟩) (fun _ _ _ _ => rfl) hnew (fun i => ?_) (fun _ _ _ _ _ _ _ => rfl)
      by_cases e : i = r
      · rw [if_pos e, e, e5]
      · rw [if_neg e]
/-- all records spare but the first, which is of zeros and held once -/
theorem s_Rempty {σ : St} {Q : St → Prop} (hQ : ∀ τ : St, RI τ (fun x => x == 0) (fun d => if d = chN (fun _ => 0) 0 then [0] else []) → (∀ r, r < 1028 → τ 1 r = if r = 0 then 1 else 0) → (∀ f, f < 8 → τ 0 f = 0) → (∀ j, j ≠ 0 → j ≠ 1 → j ≠ 2 → j ≠ 3 → j ≠ 4 → j ≠ 6 → j ≠ 7 → τ j = σ j) → Q τ) : F_Rc_empty σ Q := by
  unfold F_Rc_empty
  refine s_fill_heads (fun σ10 f10 a10 => ?_)
  refine s_fill_holders (fun σ11 f11 a11 => ?_)
  intro z12 hz12
  unfold F_Rc_empty_L18
  refine ⟨fun v1 τ => (∀ j, j ≠ 2 → τ j = σ11 j) ∧ ∃ i, i ≤ 1028 ∧ v1 = nI i ∧ ∀ q, q < i → τ 2 q = nI (1027 - q), fun v1 _ => 1028 - v1.toNatClampNeg, ⟨fun _ _ => rfl, 0, by omega, hz12, fun q hq => absurd hq (Nat.not_lt_zero _)⟩, ?_⟩
  intro v1 τ n18 hI hm
  dsimp only at hm ⊢
  obtain ⟨hfr, i, hi, rfl, hall⟩ := hI
  rw [cl (by omega)] at hm
  have e8 : (1028 : Int32) = nI 1028 := rfl
  refine ⟨fun hc1 => ?_, fun hc1 => ?_⟩
  · rw [e8, nI_leI (by omega) (by omega)] at hc1
    have hi8 : i = 1028 := by omega
    subst hi8
    intro σ1 h1
    refine s_fill_wanted (fun σ2 f2 a2 => ?_)
    refine s_chainOf_wanted ?_
    have o2 : ∀ j, j ≠ 6 → j ≠ 7 → j ≠ 2 → σ2 j = σ11 j := fun j b6 b7 b2 => by rw [f2 j b6, h1, sA_n b7, hfr j b2]
    have g3 : ∀ d, d < 1024 → σ2 3 d = -1 := fun d hd => by rw [o2 3 (by decide) (by decide) (by decide), f11 3 (by decide)]; exact a10 d hd
    have g7 : σ2 7 0 = nI 1028 := by rw [f2 7 (by decide), h1, sA_s]; rfl
    have g2 : ∀ q, q < 1028 → σ2 2 q = nI (1027 - q) := fun q hq => by rw [f2 2 (by decide), h1, sA_n (by decide)]; exact hall q hq
    have hz : sm (fun _ => (false : Bool).toNat) 1028 = 0 := sm_zero (fun _ _ => rfl)
    have hR2 : RI σ2 (fun _ => false) (fun _ => []) := by
      refine ⟨⟨1028, by omega, g7, by rw [hz], fun q hq => ⟨1027 - q, by omega, g2 q hq, rfl⟩, fun q j hq hj hqj => ?_⟩, fun d hd => ⟨List.nodup_nil, g3 d hd, fun r => ?_⟩, fun r r' _ _ h => by simp at h⟩
      · rw [g2 q hq, g2 j hj] at hqj
        have := nI_inj (by omega) (by omega) hqj
        omega
      · simp
    have hcz : chN (σ2 6) 0 = chN (fun _ => 0) 0 := chN_congr (fun f hf => by rw [Nat.zero_add]; exact a2 f hf)
    refine s_keepWanted hR2 (chN_e _ _).2 rfl (by rw [hz]; decide) (fun r _ h => by simp at h) (fun r ρ hr _ hidx hRo hfo _ hnew => ?_)
    have hr0 : r = 0 := by
      have h1 := hidx 1027 g7 (by omega)
      rw [g2 1027 (by omega)] at h1
      exact (nI_inj (by omega) (by omega) h1).symm
    subst hr0
    refine s_hold hr ?_
    have p1 : ∀ x, x < 1028 → ρ 1 x = 0 := fun x hx => by
      rw [hfo 1 (by decide) (by decide) (by decide) (by decide), o2 1 (by decide) (by decide) (by decide)]
      exact a11 x hx
    refine hQ _ ?_ ?_ ?_ ?_
    · have hR3 : RI ρ (fun x => x == 0) (fun d => if d = chN (fun _ => 0) 0 then [0] else []) := by
        rw [hcz] at hRo
        exact hRo
      exact RI_congr (sA_n (by decide)) (sA_n (by decide)) (sA_n (by decide)) (sA_n (by decide)) (sA_n (by decide)) hR3
    · intro x hx
      rw [sA_s]
      unfold upd
      by_cases e : x = 0
      · rw [if_pos e, if_pos e, p1 0 (by omega)]
        rfl
      · rw [if_neg e, if_neg e, p1 x hx]
    · intro f hf
      rw [sA_n (by decide)]
      have h1 := hnew f hf
      rw [Nat.mul_zero, Nat.zero_add] at h1
      rw [h1, hfo 6 (by decide) (by decide) (by decide) (by decide)]
      exact a2 f hf
    · intro j b0 b1 b2 b3 b4 b6 b7
      rw [sA_n b1, hfo j b0 b3 b4 b7, o2 j b6 b7 b2, f11 j b1, f10 j b3]
  · rw [e8, nI_leI (by omega) (by omega)] at hc1
    refine ⟨vp_in_nI (by omega) (by decide), ?_⟩
    intro σ8 h8 z9 hz9
    rw [cl (by omega), show (1027 : Int32) = nI 1027 from rfl, pk_sub (by omega)] at h8
    rw [ar_1] at hz9
    refine ⟨⟨fun j b2 => by rw [h8, sA_n b2]; exact hfr j b2, i + 1, by omega, hz9, fun q hq => ?_⟩, ?_⟩
    · rw [h8, sA_s]
      unfold upd
      by_cases e : q = i
      · rw [if_pos e, e]
      · rw [if_neg e]
        exact hall q (by omega)
    · rw [hz9, cl (by omega)]
      omega
end
section
/-- a row's first cell -/
def Rw (j : Nat) : Nat := 1088 + 32 * j
/-- i is a cell in use; its block is the 2^b points from p on -/
def Cl (lev st : Nat → Nat) (i b p : Nat) : Prop :=
  (b = 10 ∧ i < 1088 ∧ p = 1024 * i) ∨ (b = 5 ∧ ∃ j k, j < 2048 ∧ k < 32 ∧ lev j = 1 ∧ i = Rw j + k ∧ p = st j + 32 * k) ∨ (b = 0 ∧ ∃ j k, j < 2048 ∧ k < 32 ∧ lev j = 2 ∧ i = Rw j + k ∧ p = st j + k)
/-- the level of the rows under a cell -/
def lb (b : Nat) : Nat := if b = 10 then 1 else 2
/-- the cell points to the row j of its own block -/
def Pn (c : Nat → Int32) (lev st : Nat → Nat) (i b p j : Nat) : Prop := 0 < b ∧ j < 2048 ∧ lev j = lb b ∧ st j = p ∧ c i = -nI (Rw j)
/-- the tree -/
def TI (c : Nat → Int32) (lev st : Nat → Nat) (lv : Nat → Bool) : Prop :=
  (∀ i b p, Cl lev st i b p → (∃ r, r < 1028 ∧ lv r = true ∧ c i = nI r) ∨ ∃ j, Pn c lev st i b p j) ∧
  ∀ j, j < 2048 → lev j ≠ 0 → ∃ i b p, Cl lev st i b p ∧ Pn c lev st i b p j
theorem Cl_b {lev st : Nat → Nat} {i b p : Nat} (h : Cl lev st i b p) : b = 10 ∨ b = 5 ∨ b = 0 := by
  rcases h with h | h | h
  · exact Or.inl h.1
  · exact Or.inr (Or.inl h.1)
  · exact Or.inr (Or.inr h.1)
theorem Cl_i {lev st : Nat → Nat} {i b p : Nat} (h : Cl lev st i b p) : i < 66624 := by
  rcases h with ⟨-, h, -⟩ | ⟨-, j, k, hj, hk, -, rfl, -⟩ | ⟨-, j, k, hj, hk, -, rfl, -⟩
  · omega
  · unfold Rw; omega
  · unfold Rw; omega
/-- a row's first point -/
theorem TI_st {c : Nat → Int32} {lev st : Nat → Nat} {lv : Nat → Bool} (hT : TI c lev st lv) {j : Nat} (hj : j < 2048) : (lev j = 1 → ∃ t, t < 1088 ∧ st j = 1024 * t ∧ c t = -nI (Rw j)) ∧
    (lev j = 2 → ∃ i k, i < 2048 ∧ k < 32 ∧ lev i = 1 ∧ st j = st i + 32 * k ∧ c (Rw i + k) = -nI (Rw j)) := by
  refine ⟨fun hl => ?_, fun hl => ?_⟩
  · obtain ⟨i, b, p, h1, h2, h3, h4, h5, h6⟩ := hT.2 j hj (by omega)
    rcases h1 with ⟨rfl, h, rfl⟩ | ⟨rfl, h⟩ | ⟨rfl, h⟩
    · exact ⟨i, h, h5, h6⟩
    · exfalso
      rw [hl] at h4
      exact absurd h4 (by decide)
    · omega
  · obtain ⟨i, b, p, h1, h2, h3, h4, h5, h6⟩ := hT.2 j hj (by omega)
    rcases h1 with ⟨rfl, h, rfl⟩ | ⟨rfl, i', k, a1, a2, a3, a4, a5⟩ | ⟨rfl, h⟩
    · exfalso
      rw [hl] at h4
      exact absurd h4 (by decide)
    · exact ⟨i', k, a1, a2, a3, by rw [h5, a5], by rw [← a4]; exact h6⟩
    · omega
theorem Cl_al {c : Nat → Int32} {lev st : Nat → Nat} {lv : Nat → Bool} (hT : TI c lev st lv) {i b p : Nat} (h : Cl lev st i b p) : p % 2 ^ b = 0 ∧ p + 2 ^ b ≤ 1114112 := by
  rcases h with ⟨rfl, h, rfl⟩ | ⟨rfl, j, k, hj, hk, hl, rfl, rfl⟩ | ⟨rfl, j, k, hj, hk, hl, rfl, rfl⟩
  · omega
  · obtain ⟨t, h1, h2, -⟩ := (TI_st hT hj).1 hl
    omega
  · obtain ⟨i', k', a1, a2, a3, a4, -⟩ := (TI_st hT hj).2 hl
    obtain ⟨t, h1, h2, -⟩ := (TI_st hT a1).1 a3
    omega
/-- two cells in use with records, and a point in both: one cell -/
theorem Cl_one {c : Nat → Int32} {lev st : Nat → Nat} {lv : Nat → Bool} (hT : TI c lev st lv) {i b q i' b' q' r r' p : Nat} (h : Cl lev st i b q) (h' : Cl lev st i' b' q') (hr : r < 2 ^ 31) (hr' : r' < 2 ^ 31) (e : c i = nI r) (e' : c i' = nI r')
    (p1 : q ≤ p) (p2 : p < q + 2 ^ b) (p1' : q' ≤ p) (p2' : p < q' + 2 ^ b') : i = i' ∧ b = b' ∧ q = q' := by
  have hno : ∀ {x j r : Nat}, r < 2 ^ 31 → j < 2048 → c x = nI r → c x = -nI (Rw j) → False := fun {x j r} hr hj a1 a2 => by
    refine ng_ne (b := Rw j) ?_ hr ?_ (a1.symm.trans a2) <;> unfold Rw <;> omega
  -- the row that a middle or low cell stands in, and the top cell above it
  have mid : ∀ {j : Nat}, j < 2048 → lev j = 1 → ∀ x, st j ≤ x → x < st j + 1024 → c (x / 1024) = -nI (Rw j) := fun {j} hj hl x x1 x2 => by
    obtain ⟨t, h1, h2, h3⟩ := (TI_st hT hj).1 hl
    rw [show x / 1024 = t by omega]
    exact h3
  have same : ∀ {j j' : Nat}, j < 2048 → j' < 2048 → -nI (Rw j) = -nI (Rw j') → j = j' := fun {j j'} hj hj' he => by
    have := ng_inj (a := Rw j) (b := Rw j') (by unfold Rw; omega) (by unfold Rw; omega) he
    unfold Rw at this
    omega
  have low : ∀ {j : Nat}, j < 2048 → lev j = 2 → ∃ a, a < 2048 ∧ lev a = 1 ∧ st a ≤ st j ∧ st j + 32 ≤ st a + 1024 ∧ (st j - st a) % 32 = 0 ∧ c (Rw a + (st j - st a) / 32) = -nI (Rw j) := fun {j} hj hl => by
    obtain ⟨a, k, a1, a2, a3, a4, a5⟩ := (TI_st hT hj).2 hl
    refine ⟨a, a1, a3, by omega, by omega, by omega, ?_⟩
    rw [show (st j - st a) / 32 = k by omega]
    exact a5
  rcases h with ⟨rfl, h1, rfl⟩ | ⟨rfl, j, k, hj, hk, hl, rfl, rfl⟩ | ⟨rfl, j, k, hj, hk, hl, rfl, rfl⟩ <;>
    rcases h' with ⟨rfl, h1', rfl⟩ | ⟨rfl, j', k', hj', hk', hl', rfl, rfl⟩ | ⟨rfl, j', k', hj', hk', hl', rfl, rfl⟩
  · have : i = i' := by omega
    subst this
    exact ⟨rfl, rfl, rfl⟩
  · exfalso
    have := mid hj' hl' p (by omega) (by omega)
    rw [show p / 1024 = i by omega] at this
    exact hno hr hj' e this
  · exfalso
    obtain ⟨a, a1, a2, a3, a4, a5, a6⟩ := low hj' hl'
    have := mid a1 a2 p (by omega) (by omega)
    rw [show p / 1024 = i by omega] at this
    exact hno hr a1 e this
  · exfalso
    have := mid hj hl p (by omega) (by omega)
    rw [show p / 1024 = i' by omega] at this
    exact hno hr' hj e' this
  · have e1 := mid hj hl p (by omega) (by omega)
    have e2 := mid hj' hl' p (by omega) (by omega)
    have : j = j' := same hj hj' (e1.symm.trans e2)
    subst this
    have : k = k' := by omega
    subst this
    exact ⟨rfl, rfl, rfl⟩
  · exfalso
    obtain ⟨a, a1, a2, a3, a4, a5, a6⟩ := low hj' hl'
    have e1 := mid hj hl p (by omega) (by omega)
    have e2 := mid a1 a2 p (by omega) (by omega)
    have : j = a := same hj a1 (e1.symm.trans e2)
    subst this
    rw [show (st j' - st j) / 32 = k by omega] at a6
    exact hno hr hj' e a6
  · exfalso
    obtain ⟨a, a1, a2, a3, a4, a5, a6⟩ := low hj hl
    have := mid a1 a2 p (by omega) (by omega)
    rw [show p / 1024 = i' by omega] at this
    exact hno hr' a1 e' this
  · exfalso
    obtain ⟨a, a1, a2, a3, a4, a5, a6⟩ := low hj hl
    have e1 := mid hj' hl' p (by omega) (by omega)
    have e2 := mid a1 a2 p (by omega) (by omega)
    have : j' = a := same hj' a1 (e1.symm.trans e2)
    subst this
    rw [show (st j - st j') / 32 = k' by omega] at a6
    exact hno hr' hj e' a6
  · obtain ⟨a, a1, a2, a3, a4, a5, a6⟩ := low hj hl
    obtain ⟨a', a1', a2', a3', a4', a5', a6'⟩ := low hj' hl'
    have e1 := mid a1 a2 p (by omega) (by omega)
    have e2 := mid a1' a2' p (by omega) (by omega)
    have : a = a' := same a1 a1' (e1.symm.trans e2)
    subst this
    have e3 : (st j - st a) / 32 = (st j' - st a) / 32 := by omega
    rw [e3] at a6
    have : j = j' := same hj hj' (a6.symm.trans a6')
    subst this
    have : k = k' := by omega
    subst this
    exact ⟨rfl, rfl, rfl⟩
/-- a pointing cell's block has no record cell of the same or a larger size over it: the row under it -/
theorem row_cl {lev st : Nat → Nat} {i b p j k : Nat} (h : Cl lev st i b p) (h0 : 0 < b) (hj : j < 2048) (hl : lev j = lb b) (hs : st j = p) (hk : k < 32) : Cl lev st (Rw j + k) (b - 5) (p + 2 ^ (b - 5) * k) := by
  rcases Cl_b h with rfl | rfl | rfl
  · exact Or.inr (Or.inl ⟨rfl, j, k, hj, hk, hl, rfl, by rw [hs]⟩)
  · exact Or.inr (Or.inr ⟨rfl, j, k, hj, hk, hl, rfl, by rw [hs]; omega⟩)
  · omega
/-- bits -/
theorem i_ext {x y : Int32} (h : x.toBitVec.toNat = y.toBitVec.toNat) : x = y := Int32.toBitVec_inj.mp (BitVec.eq_of_toNat_eq h)
theorem or_lo {p m : Nat} (b : Nat) (hm : m = 2 ^ b - 1) (hb : b ≤ 10) (hp : p < 2 ^ 31) : nI p ||| nI m = nI (p / 2 ^ b * 2 ^ b + m) := by
  have hmb : m < 2 ^ 10 := by
    rw [hm]
    have : 2 ^ b ≤ 2 ^ 10 := Nat.pow_le_pow_right (by decide) hb
    have : 0 < 2 ^ b := Nat.pow_pos (by decide)
    omega
  have hle : p / 2 ^ b * 2 ^ b ≤ p := Nat.div_mul_le_self p (2 ^ b)
  refine i_ext ?_
  rw [Int32.toBitVec_or, BitVec.toNat_or, pk_tn (by omega), pk_tn (by omega), pk_tn (by omega)]
  have e : p / 2 ^ b * 2 ^ b + m = (p / 2 ^ b * 2 ^ b) ||| m := by
    rw [Nat.mul_comm, hm]
    exact Nat.two_pow_add_eq_or_of_lt (by have : 0 < 2 ^ b := Nat.pow_pos (by decide); omega) _
  rw [e]
  refine Nat.eq_of_testBit_eq fun i => ?_
  rw [Nat.testBit_or, Nat.testBit_or, hm, Nat.testBit_two_pow_sub_one, ← Nat.shiftRight_eq_div_pow, ← Nat.shiftLeft_eq, Nat.testBit_shiftLeft, Nat.testBit_shiftRight]
  by_cases h : i < b
  · simp [h]
  · simp only [h, decide_false, Bool.or_false]
    rw [decide_eq_true (by omega), Bool.true_and, show b + (i - b) = i by omega]
theorem and_hi {p m : Nat} (b : Nat) (hm : m = 2 ^ b - 1) (hb : b ≤ 10) (hp : p < 2 ^ 31) : nI p &&& (nI m ^^^ (-1 : Int32)) = nI (p / 2 ^ b * 2 ^ b) := by
  have hmb : m < 2 ^ 10 := by
    rw [hm]
    have : 2 ^ b ≤ 2 ^ 10 := Nat.pow_le_pow_right (by decide) hb
    have : 0 < 2 ^ b := Nat.pow_pos (by decide)
    omega
  have hle : p / 2 ^ b * 2 ^ b ≤ p := Nat.div_mul_le_self p (2 ^ b)
  refine i_ext ?_
  rw [Int32.toBitVec_and, BitVec.toNat_and, Int32.toBitVec_xor, BitVec.toNat_xor, pk_tn (by omega), pk_tn (by omega), pk_tn (by omega), show ((-1 : Int32)).toBitVec.toNat = 2 ^ 32 - 1 by decide]
  refine Nat.eq_of_testBit_eq fun i => ?_
  rw [Nat.testBit_and, Nat.testBit_xor, hm, Nat.testBit_two_pow_sub_one, Nat.testBit_two_pow_sub_one, ← Nat.shiftRight_eq_div_pow, ← Nat.shiftLeft_eq, Nat.testBit_shiftLeft, Nat.testBit_shiftRight]
  by_cases h : i < b
  · have h32 : i < 32 := by omega
    simp [h, h32, show ¬ b ≤ i by omega]
  · by_cases h32 : i < 32
    · rw [decide_eq_true h32, decide_eq_false h, decide_eq_true (show i ≥ b by omega), show b + (i - b) = i by omega]
      simp
    · have : p.testBit i = false := Nat.testBit_lt_two_pow (Nat.lt_of_lt_of_le hp (Nat.pow_le_pow_right (by decide) (by omega)))
      rw [show b + (i - b) = i by omega, this]
      simp
theorem p2_pos (b : Nat) : 0 < 2 ^ b := Nat.pow_pos (by decide)
theorem al_div {p q b : Nat} (h : q % 2 ^ b = 0) (h1 : q ≤ p) (h2 : p < q + 2 ^ b) : p / 2 ^ b * 2 ^ b = q := by
  obtain ⟨d, hd⟩ := Nat.dvd_of_mod_eq_zero h
  have hpos := p2_pos b
  have e : p / 2 ^ b = d := by
    rw [Nat.div_eq_iff hpos]
    rw [Nat.mul_comm] at hd
    constructor
    · omega
    · have : d * 2 ^ b + 2 ^ b = (d + 1) * 2 ^ b := by rw [Nat.succ_mul]
      omega
  rw [e, hd, Nat.mul_comm]
theorem s_find {σ : St} {lev st : Nat → Nat} {lv : Nat → Bool} {Q : St → Prop} {p : Nat} (hT : TI (σ 11) lev st lv) (hp : p < 1114112)
    (hQ : ∀ (τ : St) (i b q r : Nat), Cl lev st i b q → q ≤ p → p < q + 2 ^ b → r < 1028 → lv r = true → σ 11 i = nI r → (∀ j, j ≠ 14 → j ≠ 15 → j ≠ 16 → τ j = σ j) → τ 14 0 = nI i → τ 15 0 = nI q → τ 16 0 = nI (q + 2 ^ b - 1) → Q τ) : F_Bl_find (nI p) σ Q := by
  have hJ : ∀ (i b q r : Nat) (τ : St), Cl lev st i b q → q ≤ p → p < q + 2 ^ b → r < 1028 → lv r = true → σ 11 i = nI r → (∀ j, j ≠ 14 → τ j = σ j) → τ 14 0 = nI i → F_Bl_find_J53 (nI p) (nI b) τ Q := by
    intro i b q r τ hC q1 q2 hr hlr er hfr ei
    have hal := (Cl_al hT hC).1
    have hbb : b ≤ 10 := by rcases Cl_b hC with h | h | h <;> omega
    have hpos := p2_pos b
    unfold F_Bl_find_J53
    intro z1 hz1
    have e1 : z1 = nI (2 ^ b - 1) := by
      rw [hz1]
      rcases Cl_b hC with rfl | rfl | rfl <;> decide
    intro σ2 h2 σ3 h3
    rw [e1, and_hi b rfl hbb (by omega), al_div hal q1 q2] at h2
    rw [e1, or_lo b rfl hbb (by omega), al_div hal q1 q2] at h3
    refine hQ σ3 i b q r hC q1 q2 hr hlr er (fun j a1 a2 a3 => by rw [h3, sA_n a3, h2, sA_n a2]; exact hfr j a1) ?_ ?_ ?_
    · rw [h3, sA_n (by decide), h2, sA_n (by decide)]; exact ei
    · rw [h3, sA_n (by decide), h2, sA_s]
    · rw [h3, sA_s]
      congr 1
      omega
  unfold F_Bl_find
  intro z6 hz6 σ7 h7
  have hsh : nI p >>> ((10 : Int32) &&& 31) = nI (p / 1024) := pk_shrN (by omega) _ 10 (by decide)
  rw [hz6, hsh] at h7
  unfold F_Bl_find_L10
  refine ⟨fun v2 τ => (∀ j, j ≠ 14 → τ j = σ j) ∧ ∃ i b q, Cl lev st i b q ∧ q ≤ p ∧ p < q + 2 ^ b ∧ v2 = nI b ∧ τ 14 0 = nI i, fun v2 _ => v2.toNatClampNeg, ⟨fun j a => by rw [h7, sA_n a], p / 1024, 10, 1024 * (p / 1024), Or.inl ⟨rfl, by omega, rfl⟩, by omega, by omega, hz6, by rw [h7, sA_s]⟩, ?_⟩
  intro v2 τ n hI hm
  dsimp only at hm ⊢
  obtain ⟨hfr, i, b, q, hC, q1, q2, rfl, ei⟩ := hI
  have hi := Cl_i hC
  have hbb : b ≤ 10 := by rcases Cl_b hC with h | h | h <;> omega
  have e11 : τ 11 = σ 11 := hfr 11 (by decide)
  rw [cl (by omega)] at hm
  rw [ei, cl (by omega), e11]
  have hb0 : nI b ≤ 0 ↔ b = 0 := by
    rw [show (0 : Int32) = nI 0 from rfl, nI_leI (by omega) (by omega)]
    omega
  refine ⟨fun hc => ?_, fun hc => ⟨vp_in_nI hi (by decide), fun hc2 => ?_, fun hc2 => ?_⟩⟩
  · rcases hT.1 i b q hC with ⟨r, h1, h2, h3⟩ | ⟨j, h1, -⟩
    · exact hJ i b q r τ hC q1 q2 h1 h2 h3 hfr ei
    · exact absurd (hb0.mp hc) (by omega)
  · rcases hT.1 i b q hC with ⟨r, h1, h2, h3⟩ | ⟨j, h1, h2, h3, h4, h5⟩
    · exact hJ i b q r τ hC q1 q2 h1 h2 h3 hfr ei
    · exfalso
      rw [h5] at hc2
      have := ng_lt (n := Rw j) (by unfold Rw; omega) (by unfold Rw; omega)
      exact Int32.not_lt.mpr hc2 this
  · rcases hT.1 i b q hC with ⟨r, h1, h2, h3⟩ | ⟨j, h1, h2, h3, h4, h5⟩
    · exfalso
      rw [h3] at hc2
      exact hc2 (nI_pos' (by omega))
    · intro z4 hz4
      have hb5 : b = 10 ∨ b = 5 := by rcases Cl_b hC with h | h | h <;> omega
      have e4 : z4 = nI (b - 5) := by
        rw [hz4]
        rcases hb5 with rfl | rfl <;> decide
      refine ⟨vp_in_nI hi (by decide), ?_⟩
      intro σ5 hσ5
      have hal := (Cl_al hT hC).1
      have ek : (nI p >>> (nI (b - 5) &&& 31)) &&& (31 : Int32) = nI (p / 2 ^ (b - 5) % 32) := by
        have e : nI p >>> (nI (b - 5) &&& 31) = nI (p / 2 ^ (b - 5)) := by
          refine pk_shrN (by omega) _ (b - 5) ?_
          rcases hb5 with rfl | rfl <;> decide
        rw [e]
        exact pk_andN (Nat.lt_of_le_of_lt (Nat.div_le_self _ _) (by omega)) 5 (by decide)
      rw [h5, ng_ng, e4, ek, nI_add] at hσ5
      rw [e4]
      have hk : p / 2 ^ (b - 5) % 32 < 32 := Nat.mod_lt _ (by decide)
      refine ⟨⟨fun x a => by rw [hσ5, sA_n a]; exact hfr x a, Rw j + p / 2 ^ (b - 5) % 32, b - 5, q + 2 ^ (b - 5) * (p / 2 ^ (b - 5) % 32), row_cl hC h1 h2 h3 h4 hk, ?_, ?_, rfl, by rw [hσ5, sA_s]⟩, ?_⟩
      · rcases hb5 with rfl | rfl <;> omega
      · rcases hb5 with rfl | rfl <;> omega
      · rw [cl (by omega)]
        omega
theorem s_recordOf {σ : St} {lev st : Nat → Nat} {lv : Nat → Bool} {Q : Int32 → St → Prop} {p : Nat} (hT : TI (σ 11) lev st lv) (hp : p < 1114112)
    (hQ : ∀ (τ : St) (i b q r : Nat), Cl lev st i b q → q ≤ p → p < q + 2 ^ b → r < 1028 → lv r = true → σ 11 i = nI r → (∀ j, j ≠ 14 → j ≠ 15 → j ≠ 16 → τ j = σ j) → τ 14 0 = nI i → τ 15 0 = nI q → τ 16 0 = nI (q + 2 ^ b - 1) → Q (nI r) τ) : F_Bl_recordOf (nI p) σ Q := by
  unfold F_Bl_recordOf
  refine s_find hT hp (fun τ i b q r hC q1 q2 hr hlr er hfr e14 e15 e16 => ?_)
  have hi := Cl_i hC
  rw [e14, cl (by omega), hfr 11 (by decide) (by decide) (by decide), er]
  exact ⟨vp_in_nI hi (by decide), hQ τ i b q r hC q1 q2 hr hlr er hfr e14 e15 e16⟩
/-- a cell is in use -/
def us (lev : Nat → Nat) (i : Nat) : Bool := decide (i < 1088) || lev ((i - 1088) / 32) != 0
/-- how often a record is held -/
def hN (c : Nat → Int32) (lev : Nat → Nat) (r : Nat) : Nat := sm (fun i => (us lev i && c i == nI r).toNat) 66624 + (r == 0).toNat
/-- the records of the cells in use say what V says of their points -/
def VI (σ : St) (lev st : Nat → Nat) (V : Nat → Nat → Int32) : Prop := ∀ i b q r, Cl lev st i b q → r < 1028 → σ 11 i = nI r → ∀ p, q ≤ p → p < q + 2 ^ b → ∀ f, f < 8 → σ 0 (8 * r + f) = V p f
/-- the spare rows -/
def SI (σ : St) (lev : Nat → Nat) (n : Nat) : Prop := n ≤ 2048 ∧ σ 13 0 = nI n ∧ n + sm (fun j => (lev j != 0).toNat) 2048 = 2048 ∧ (∀ q, q < n → ∃ j, j < 2048 ∧ σ 12 q = nI (Rw j) ∧ lev j = 0) ∧ ∀ i j, i < n → j < n → σ 12 i = σ 12 j → i = j
def HI (σ : St) (lev : Nat → Nat) (lv : Nat → Bool) : Prop := ∀ r, r < 1028 → σ 1 r = nI (hN (σ 11) lev r) ∧ (lv r = true ↔ 0 < hN (σ 11) lev r)
/-- the class's state -/
def BI (σ : St) (lev st : Nat → Nat) (lv : Nat → Bool) (L : Nat → List Nat) (V : Nat → Nat → Int32) (n : Nat) : Prop :=
  RI σ lv L ∧ TI (σ 11) lev st lv ∧ VI σ lev st V ∧ SI σ lev n ∧ HI σ lev lv ∧ ∀ f, f < 8 → σ 0 f = 0
theorem BI_congr {σ τ : St} {lev st : Nat → Nat} {lv : Nat → Bool} {L : Nat → List Nat} {V : Nat → Nat → Int32} {n : Nat} (h : ∀ j, j ≠ 5 → j ≠ 6 → j ≠ 8 → j ≠ 9 → j ≠ 10 → j < 14 → τ j = σ j) (hB : BI σ lev st lv L V n) : BI τ lev st lv L V n := by
  have e0 := h 0 (by decide) (by decide) (by decide) (by decide) (by decide) (by decide)
  have e1 := h 1 (by decide) (by decide) (by decide) (by decide) (by decide) (by decide)
  have e2 := h 2 (by decide) (by decide) (by decide) (by decide) (by decide) (by decide)
  have e3 := h 3 (by decide) (by decide) (by decide) (by decide) (by decide) (by decide)
  have e4 := h 4 (by decide) (by decide) (by decide) (by decide) (by decide) (by decide)
  have e7 := h 7 (by decide) (by decide) (by decide) (by decide) (by decide) (by decide)
  have e11 := h 11 (by decide) (by decide) (by decide) (by decide) (by decide) (by decide)
  have e12 := h 12 (by decide) (by decide) (by decide) (by decide) (by decide) (by decide)
  have e13 := h 13 (by decide) (by decide) (by decide) (by decide) (by decide) (by decide)
  unfold BI RI VI SI HI at *
  rw [e0, e1, e2, e3, e4, e7, e11, e12, e13]
  exact hB
theorem us_cl {lev st : Nat → Nat} {i b q : Nat} (h : Cl lev st i b q) : us lev i = true := by
  unfold us
  rcases h with ⟨-, h, -⟩ | ⟨-, j, k, hj, hk, hl, rfl, -⟩ | ⟨-, j, k, hj, hk, hl, rfl, -⟩
  · rw [decide_eq_true h]; rfl
  · rw [show (Rw j + k - 1088) / 32 = j by unfold Rw; omega, hl]
    simp
  · rw [show (Rw j + k - 1088) / 32 = j by unfold Rw; omega, hl]
    simp
theorem TI_lev {c : Nat → Int32} {lev st : Nat → Nat} {lv : Nat → Bool} (hT : TI c lev st lv) {j : Nat} (hj : j < 2048) : lev j = 0 ∨ lev j = 1 ∨ lev j = 2 := by
  by_cases h : lev j = 0
  · exact Or.inl h
  · obtain ⟨i, b, p, -, -, -, h4, -⟩ := hT.2 j hj h
    unfold lb at h4
    by_cases e : b = 10
    · rw [if_pos e] at h4; exact Or.inr (Or.inl h4)
    · rw [if_neg e] at h4; exact Or.inr (Or.inr h4)
/-- a cell in use has a block -/
theorem cl_us {c : Nat → Int32} {lev st : Nat → Nat} {lv : Nat → Bool} (hT : TI c lev st lv) {i : Nat} (hi : i < 66624) (h : us lev i = true) : ∃ b q, Cl lev st i b q := by
  unfold us at h
  by_cases e : i < 1088
  · exact ⟨10, 1024 * i, Or.inl ⟨rfl, e, rfl⟩⟩
  · rw [decide_eq_false e, Bool.false_or, bne_iff_ne] at h
    have hj : (i - 1088) / 32 < 2048 := by omega
    have hk : (i - 1088) % 32 < 32 := by omega
    have ei : i = Rw ((i - 1088) / 32) + (i - 1088) % 32 := by unfold Rw; omega
    rcases TI_lev hT hj with h0 | h1 | h2
    · exact absurd h0 h
    · exact ⟨5, _, Or.inr (Or.inl ⟨rfl, _, _, hj, hk, h1, ei, rfl⟩)⟩
    · exact ⟨0, _, Or.inr (Or.inr ⟨rfl, _, _, hj, hk, h2, ei, rfl⟩)⟩
theorem hN_pos {c : Nat → Int32} {lev : Nat → Nat} {r i : Nat} (hi : i < 66624) (hu : us lev i = true) (e : c i = nI r) : 0 < hN c lev r := by
  unfold hN
  have h1 := sm_ge (f := fun i => (us lev i && c i == nI r).toNat) (k := i) (n := 66624) hi
  have h2 : (us lev i && c i == nI r).toNat = 1 := by rw [hu, e]; simp
  try dsimp only at h1
  omega
theorem hN_at {c : Nat → Int32} {lev : Nat → Nat} {r : Nat} (h0 : r ≠ 0) (h : 0 < hN c lev r) : ∃ i, i < 66624 ∧ us lev i = true ∧ c i = nI r := by
  unfold hN at h
  rw [beq_eq_false_iff_ne.mpr h0] at h
  obtain ⟨i, hi, h1⟩ := sm_pos (f := fun i => (us lev i && c i == nI r).toNat) (n := 66624) (by simpa using h)
  have h2 : (us lev i && c i == nI r) = true := by
    cases e : (us lev i && c i == nI r) with
    | true => rfl
    | false => rw [e] at h1; exact absurd h1 (by decide)
  rw [Bool.and_eq_true, beq_iff_eq] at h2
  exact ⟨i, hi, h2.1, h2.2⟩
theorem hN_le (c : Nat → Int32) (lev : Nat → Nat) (r : Nat) : hN c lev r ≤ 66625 := by
  unfold hN
  have h1 : sm (fun i => (us lev i && c i == nI r).toNat) 66624 ≤ sm (fun _ => 1) 66624 := sm_le (fun i _ => by
    show (us lev i && c i == nI r).toNat ≤ 1
    rcases bt_nat (us lev i && c i == nI r) with h | h <;> omega)
  have h2 : sm (fun _ => 1) 66624 = 66624 * 1 := sm_const (fun _ _ => rfl)
  rcases bt_nat (r == 0) with h | h <;> omega
/-- one cell in use gets another content -/
theorem hN_set {c : Nat → Int32} {lev : Nat → Nat} {i r : Nat} {x : Int32} (hi : i < 66624) (hu : us lev i = true) : hN (upd c i x) lev r + (c i == nI r).toNat = hN c lev r + (x == nI r).toNat := by
  unfold hN
  have h1 := sm_one (f := fun k => (us lev k && upd c i x k == nI r).toNat) (g := fun k => (us lev k && c k == nI r).toNat) (k := i) (n := 66624) hi (fun k _ hne => by
    show (us lev k && upd c i x k == nI r).toNat = (us lev k && c k == nI r).toNat
    rw [show upd c i x k = c k by unfold upd; rw [if_neg hne]])
  have h2 : upd c i x i = x := by unfold upd; rw [if_pos rfl]
  simp only [hu, h2, Bool.true_and] at h1
  omega
/-- a row comes into use, all of one record -/
theorem hN_row {c c' : Nat → Int32} {lev : Nat → Nat} {j l r s : Nat} (hj : j < 2048) (h0 : lev j = 0) (hl : l ≠ 0) (hc : ∀ i, i < 66624 → (i < Rw j ∨ Rw j + 32 ≤ i) → c' i = c i) (hr : ∀ k, k < 32 → c' (Rw j + k) = nI s) :
    hN c' (fun x => if x = j then l else lev x) r = hN c lev r + 32 * (nI s == nI r).toNat := by
  unfold hN
  have h1 := sm_blk (g := fun i => (us lev i && c i == nI r).toNat) (n := 66624) (b := Rw j) (c := (nI s == nI r).toNat) 32 (fun i => (us (fun x => if x = j then l else lev x) i && c' i == nI r).toNat) (by unfold Rw; omega) (fun i a1 a2 => ?_) (fun i a1 a2 => ?_)
  · omega
  · have e1 : (i - 1088) / 32 = j := by unfold Rw at a1 a2; omega
    have e2 : ¬ i < 1088 := by unfold Rw at a1; omega
    have e3 : us (fun x => if x = j then l else lev x) i = true := by
      unfold us
      rw [e1]
      dsimp only
      rw [if_pos rfl, bne_iff_ne.mpr hl]
      simp
    have e4 : us lev i = false := by
      unfold us
      rw [e1, h0, decide_eq_false e2]
      rfl
    have e5 : c' i = nI s := by
      have := hr (i - Rw j) (by omega)
      rw [show Rw j + (i - Rw j) = i by omega] at this
      exact this
    show (us (fun x => if x = j then l else lev x) i && c' i == nI r).toNat = (us lev i && c i == nI r).toNat + _
    rw [e3, e4, e5, Bool.true_and, Bool.false_and]
    simp
  · have e1 : i < 1088 ∨ (i - 1088) / 32 ≠ j := by unfold Rw at a2; omega
    have e3 : us (fun x => if x = j then l else lev x) i = us lev i := by
      unfold us
      rcases e1 with e | e
      · rw [decide_eq_true e]; rfl
      · dsimp only
        rw [if_neg e]
    show (us (fun x => if x = j then l else lev x) i && c' i == nI r).toNat = (us lev i && c i == nI r).toNat
    rw [e3, hc i a1 a2]
/-- a row of one record goes out of use -/
theorem hN_unrow {c : Nat → Int32} {lev : Nat → Nat} {j r s : Nat} (hj : j < 2048) (h0 : lev j ≠ 0) (hr : ∀ k, k < 32 → c (Rw j + k) = nI s) : hN c lev r = hN c (fun x => if x = j then 0 else lev x) r + 32 * (nI s == nI r).toNat := by
  have h1 := hN_row (c := c) (c' := c) (lev := fun x => if x = j then 0 else lev x) (j := j) (l := lev j) (r := r) (s := s) hj (by rw [if_pos rfl]) h0 (fun _ _ _ => rfl) hr
  have e : (fun x => if x = j then lev j else (fun x => if x = j then 0 else lev x) x) = lev := by
    funext x
    by_cases q : x = j
    · simp [q]
    · simp [q]
  rw [e] at h1
  exact h1
theorem nI_beq {a b : Nat} (ha : a < 2 ^ 31) (hb : b < 2 ^ 31) : (nI a == nI b) = (a == b) := by
  by_cases h : a = b
  · subst h; simp
  · rw [beq_eq_false_iff_ne.mpr h, beq_eq_false_iff_ne.mpr (fun q => h (nI_inj ha hb q))]
abbrev fu (f : Nat → Nat) (j x : Nat) : Nat → Nat := fun i => if i = j then x else f i
theorem fu_s (f : Nat → Nat) (j x : Nat) : fu f j x j = x := if_pos rfl
theorem fu_n {f : Nat → Nat} {j x i : Nat} (h : i ≠ j) : fu f j x i = f i := if_neg h
theorem Cl_fun {lev st : Nat → Nat} {i b q b' q' : Nat} (h : Cl lev st i b q) (h' : Cl lev st i b' q') : b = b' ∧ q = q' := by
  rcases h with ⟨rfl, h1, rfl⟩ | ⟨rfl, j, k, hj, hk, hl, rfl, rfl⟩ | ⟨rfl, j, k, hj, hk, hl, rfl, rfl⟩ <;>
    rcases h' with ⟨rfl, h1', rfl⟩ | ⟨rfl, j', k', hj', hk', hl', e, rfl⟩ | ⟨rfl, j', k', hj', hk', hl', e, rfl⟩
  · exact ⟨rfl, rfl⟩
  · exfalso; unfold Rw at e; omega
  · exfalso; unfold Rw at e; omega
  · exfalso; unfold Rw at h1'; omega
  · have : j = j' := by unfold Rw at e; omega
    subst this
    have : k = k' := by omega
    subst this
    exact ⟨rfl, rfl⟩
  · exfalso
    have : j = j' := by unfold Rw at e; omega
    subst this
    omega
  · exfalso; unfold Rw at h1'; omega
  · exfalso
    have : j = j' := by unfold Rw at e; omega
    subst this
    omega
  · have : j = j' := by unfold Rw at e; omega
    subst this
    have : k = k' := by omega
    subst this
    exact ⟨rfl, rfl⟩
/-- cells in use lie in rows in use -/
theorem Cl_row {lev st : Nat → Nat} {i b q j : Nat} (h : Cl lev st i b q) (hj : lev j = 0) : i < Rw j ∨ Rw j + 32 ≤ i := by
  rcases h with ⟨rfl, h1, rfl⟩ | ⟨rfl, j', k, hj', hk, hl, rfl, rfl⟩ | ⟨rfl, j', k, hj', hk, hl, rfl, rfl⟩
  · unfold Rw; omega
  · have : j ≠ j' := fun e => by rw [e] at hj; omega
    unfold Rw; omega
  · have : j ≠ j' := fun e => by rw [e] at hj; omega
    unfold Rw; omega
theorem Cl_up {lev st : Nat → Nat} {i b q j l p : Nat} (h : Cl lev st i b q) (hj : lev j = 0) : Cl (fu lev j l) (fu st j p) i b q := by
  rcases h with ⟨rfl, h1, rfl⟩ | ⟨rfl, j', k, hj', hk, hl, rfl, rfl⟩ | ⟨rfl, j', k, hj', hk, hl, rfl, rfl⟩
  · exact Or.inl ⟨rfl, h1, rfl⟩
  · have : j' ≠ j := fun e => by rw [e] at hl; omega
    exact Or.inr (Or.inl ⟨rfl, j', k, hj', hk, by rw [fu_n this]; exact hl, rfl, by rw [fu_n this]⟩)
  · have : j' ≠ j := fun e => by rw [e] at hl; omega
    exact Or.inr (Or.inr ⟨rfl, j', k, hj', hk, by rw [fu_n this]; exact hl, rfl, by rw [fu_n this]⟩)
theorem Cl_down {lev st : Nat → Nat} {i b q j l p : Nat} (h : Cl (fu lev j l) (fu st j p) i b q) (hj : lev j = 0) (hl : l = 1 ∨ l = 2) : Cl lev st i b q ∨ ∃ k, k < 32 ∧ i = Rw j + k ∧ b = (if l = 1 then 5 else 0) ∧ q = p + 2 ^ b * k := by
  rcases h with ⟨rfl, h1, rfl⟩ | ⟨rfl, j', k, hj', hk, h2, rfl, rfl⟩ | ⟨rfl, j', k, hj', hk, h2, rfl, rfl⟩
  · exact Or.inl (Or.inl ⟨rfl, h1, rfl⟩)
  · by_cases e : j' = j
    · subst e
      rw [fu_s] at h2
      refine Or.inr ⟨k, hk, rfl, by rw [if_pos h2], ?_⟩
      rw [fu_s]
    · rw [fu_n e] at h2
      refine Or.inl (Or.inr (Or.inl ⟨rfl, j', k, hj', hk, h2, rfl, ?_⟩))
      rw [fu_n e]
  · by_cases e : j' = j
    · subst e
      rw [fu_s] at h2
      refine Or.inr ⟨k, hk, rfl, by rw [if_neg (by omega)], ?_⟩
      rw [fu_s]
      omega
    · rw [fu_n e] at h2
      refine Or.inl (Or.inr (Or.inr ⟨rfl, j', k, hj', hk, h2, rfl, ?_⟩))
      rw [fu_n e]
theorem lb_12 (b : Nat) : lb b = 1 ∨ lb b = 2 := by
  unfold lb
  by_cases h : b = 10
  · rw [if_pos h]; exact Or.inl rfl
  · rw [if_neg h]; exact Or.inr rfl
theorem rec_no {c : Nat → Int32} {i r j : Nat} (hr : r < 2 ^ 31) (hj : j < 2048) (h1 : c i = nI r) (h2 : c i = -nI (Rw j)) : False :=
  ng_ne (b := Rw j) (by unfold Rw; omega) hr (by unfold Rw; omega) (h1.symm.trans h2)
section SPLIT
variable {c c' : Nat → Int32} {lev st : Nat → Nat} {lv : Nat → Bool} {i b q r j : Nat}
theorem Cl_dn2 (hC : Cl lev st i b q) (hb : 0 < b) (h0 : lev j = 0) {i' b' q' : Nat} (h : Cl (fu lev j (lb b)) (fu st j q) i' b' q') : Cl lev st i' b' q' ∨ ∃ k, k < 32 ∧ i' = Rw j + k ∧ b' = b - 5 ∧ q' = q + 2 ^ b' * k := by
  rcases Cl_down h h0 (lb_12 b) with h1 | ⟨k, h1, h2, h3, h4⟩
  · exact Or.inl h1
  · refine Or.inr ⟨k, h1, h2, ?_, h4⟩
    rw [h3]
    rcases Cl_b hC with rfl | rfl | rfl
    · rfl
    · rfl
    · omega
theorem TI_split (hT : TI c lev st lv) (hC : Cl lev st i b q) (hb : 0 < b) (hj : j < 2048) (h0 : lev j = 0) (hr : r < 1028) (hlr : lv r = true) (er : c i = nI r)
    (e1 : c' i = -nI (Rw j)) (e2 : ∀ k, k < 32 → c' (Rw j + k) = nI r) (e3 : ∀ x, x ≠ i → (x < Rw j ∨ Rw j + 32 ≤ x) → c' x = c x) : TI c' (fu lev j (lb b)) (fu st j q) lv := by
  refine ⟨fun i' b' q' h => ?_, fun j' hj' hl' => ?_⟩
  · rcases Cl_dn2 hC hb h0 h with h1 | ⟨k, hk, rfl, -, -⟩
    · by_cases ei : i' = i
      · subst ei
        obtain ⟨rfl, rfl⟩ := Cl_fun hC h1
        exact Or.inr ⟨j, hb, hj, fu_s _ _ _, fu_s _ _ _, e1⟩
      · rw [show c' i' = c i' from e3 i' ei (Cl_row h1 h0)]
        rcases hT.1 i' b' q' h1 with h2 | ⟨j2, a1, a2, a3, a4, a5⟩
        · exact Or.inl h2
        · have hne : j2 ≠ j := fun e => by
            rw [e, h0] at a3
            rcases lb_12 b' with h | h <;> omega
          exact Or.inr ⟨j2, a1, a2, by rw [fu_n hne]; exact a3, by rw [fu_n hne]; exact a4, by rw [e3 i' ei (Cl_row h1 h0)]; exact a5⟩
    · exact Or.inl ⟨r, hr, hlr, e2 k hk⟩
  · by_cases ej : j' = j
    · subst ej
      exact ⟨i, b, q, Cl_up hC h0, hb, hj, fu_s _ _ _, fu_s _ _ _, e1⟩
    · rw [fu_n ej] at hl'
      obtain ⟨i', b', q', h1, a1, a2, a3, a4, a5⟩ := hT.2 j' hj' hl'
      have ei : i' ≠ i := fun e => by
        rw [e] at a5
        exact rec_no (by omega) hj' er a5
      exact ⟨i', b', q', Cl_up h1 h0, a1, a2, by rw [fu_n ej]; exact a3, by rw [fu_n ej]; exact a4, by rw [e3 i' ei (Cl_row h1 h0)]; exact a5⟩
theorem VI_split {σ τ : St} {V : Nat → Nat → Int32} (hV : VI σ lev st V) (hC : Cl lev st i b q) (hb : 0 < b) (hj : j < 2048) (h0 : lev j = 0) (hr : r < 1028) (er : σ 11 i = nI r) (ev : τ 0 = σ 0)
    (e1 : τ 11 i = -nI (Rw j)) (e2 : ∀ k, k < 32 → τ 11 (Rw j + k) = nI r) (e3 : ∀ x, x ≠ i → (x < Rw j ∨ Rw j + 32 ≤ x) → τ 11 x = σ 11 x) : VI τ (fu lev j (lb b)) (fu st j q) V := by
  intro i' b' q' r' h hr' er' p p1 p2 f hf
  rw [ev]
  rcases Cl_dn2 hC hb h0 h with h1 | ⟨k, hk, rfl, hb', hq'⟩
  · have ei : i' ≠ i := fun e => by
      rw [e] at er'
      exact rec_no (by omega) hj er' e1
    rw [e3 i' ei (Cl_row h1 h0)] at er'
    exact hV i' b' q' r' h1 hr' er' p p1 p2 f hf
  · have : r' = r := nI_inj (by omega) (by omega) (er'.symm.trans (e2 k hk))
    subst this
    refine hV i b q r' hC hr er p ?_ ?_ f hf
    · have : q ≤ q' := by rw [hq']; exact Nat.le_add_right _ _
      omega
    · rcases Cl_b hC with rfl | rfl | rfl
      · rw [hb'] at p2 hq'; omega
      · rw [hb'] at p2 hq'; omega
      · omega
end SPLIT
/-- a block begins at x -/
def Bg (c : Nat → Int32) (lev st : Nat → Nat) (x : Nat) : Prop := ∃ i b r, Cl lev st i b x ∧ r < 1028 ∧ c i = nI r
theorem s_split {σ : St} {lev st : Nat → Nat} {lv : Nat → Bool} {L : Nat → List Nat} {V : Nat → Nat → Int32} {n i b q r : Nat} {Q : St → Prop} (hB : BI σ lev st lv L V n) (hn : 0 < n) (hC : Cl lev st i b q) (hb : 0 < b) (hr : r < 1028) (hlr : lv r = true) (er : σ 11 i = nI r)
    (hQ : ∀ (τ : St) (j : Nat), j < 2048 → lev j = 0 → BI τ (fu lev j (lb b)) (fu st j q) lv L V (n - 1) → (∀ k, k ≠ 1 → k ≠ 11 → k ≠ 13 → τ k = σ k) → τ 11 i = -nI (Rw j) → (∀ k, k < 32 → τ 11 (Rw j + k) = nI r) → (∀ x, x ≠ i → (x < Rw j ∨ Rw j + 32 ≤ x) → τ 11 x = σ 11 x) → Q τ) : F_Bl_split (nI i) σ Q := by
  obtain ⟨hR, hT, hV, ⟨hn8, e13, hcount, hsp, hinj⟩, hH, hZ⟩ := hB
  have hi := Cl_i hC
  unfold F_Bl_split
  rw [e13]
  refine ⟨fun h => absurd h (nI_nle hn (by omega)), fun _ => ?_⟩
  intro σ1 h1
  rw [ar_m1 hn] at h1
  have e113 : σ1 13 0 = nI (n - 1) := by rw [h1, sA_s]
  have e1o : ∀ k, k ≠ 13 → σ1 k = σ k := fun k a => by rw [h1, sA_n a]
  obtain ⟨j, hj, ej, h0⟩ := hsp (n - 1) (by omega)
  rw [e113, cl (by omega), cl (by omega), e1o 12 (by decide), e1o 11 (by decide), ej, er]
  refine ⟨vp_in_nI (by omega) (by decide), ?_⟩
  intro z2 hz2
  subst hz2
  refine ⟨vp_in_nI hi (by decide), ?_⟩
  intro z3 hz3
  subst hz3
  have hrw : Rw j + 32 ≤ 66624 := by unfold Rw; omega
  have e32 : nI (Rw j) + (32 : Int32) = nI (Rw j + 32) := nI_add _ 32
  rw [e32]
  refine s_fill4 (by omega) hrw (fun σ4 f4 a4 => ?_)
  refine s_hold hr ?_
  refine ⟨vp_in_nI hi (by decide), ?_⟩
  intro σ6 h6
  have hout := Cl_row hC h0
  have g5 : ∀ k, k ≠ 1 → k ≠ 11 → k ≠ 13 → σ6 k = σ k := fun k a1 a11 a13 => by rw [h6, sA_n a11, sA_n a1, f4 k a11, e1o k a13]
  have g11 : ∀ x, σ6 11 x = if x = i then -nI (Rw j) else if Rw j ≤ x ∧ x < Rw j + 32 then nI r else σ 11 x := fun x => by
    rw [h6, sA_s]
    unfold upd
    by_cases e : x = i
    · rw [if_pos e, if_pos e]
    · rw [if_neg e, if_neg e, sA_n (by decide), a4 x, e1o 11 (by decide)]
  have c1 : σ6 11 i = -nI (Rw j) := by rw [g11, if_pos rfl]
  have c2 : ∀ k, k < 32 → σ6 11 (Rw j + k) = nI r := fun k hk => by rw [g11, if_neg (by omega), if_pos (by omega)]
  have c3 : ∀ x, x ≠ i → (x < Rw j ∨ Rw j + 32 ≤ x) → σ6 11 x = σ 11 x := fun x a1 a2 => by rw [g11, if_neg a1, if_neg (by omega)]
  have g13 : σ6 13 0 = nI (n - 1) := by rw [h6, sA_n (by decide), sA_n (by decide), f4 13 (by decide)]; exact e113
  have g1 : ∀ x, σ6 1 x = if x = r then σ 1 r + 31 else σ 1 x := fun x => by
    rw [h6, sA_n (by decide), sA_s]
    unfold upd
    rw [f4 1 (by decide), e1o 1 (by decide)]
  refine hQ σ6 j hj h0 ⟨RI_congr (g5 0 (by decide) (by decide) (by decide)) (g5 2 (by decide) (by decide) (by decide)) (g5 3 (by decide) (by decide) (by decide)) (g5 4 (by decide) (by decide) (by decide)) (g5 7 (by decide) (by decide) (by decide)) hR,
    TI_split hT hC hb hj h0 hr hlr er c1 c2 c3, VI_split hV hC hb hj h0 hr er (g5 0 (by decide) (by decide) (by decide)) c1 c2 c3, ⟨by omega, g13, ?_, ?_, ?_⟩, ?_, fun f hf => by rw [g5 0 (by decide) (by decide) (by decide)]; exact hZ f hf⟩ g5 c1 c2 c3
  · have h3 := sm_one (f := fun x => (fu lev j (lb b) x != 0).toNat) (g := fun x => (lev x != 0).toNat) (k := j) (n := 2048) hj (fun x _ hne => by
      show (fu lev j (lb b) x != 0).toNat = (lev x != 0).toNat
      rw [fu_n hne])
    have h4 : (fu lev j (lb b) j != 0).toNat = 1 := by rw [fu_s]; rcases lb_12 b with h | h <;> rw [h] <;> rfl
    have h5 : (lev j != 0).toNat = 0 := by rw [h0]; rfl
    try dsimp only at h3
    omega
  · intro x hx
    obtain ⟨j', a1, a2, a3⟩ := hsp x (by omega)
    have hne : j' ≠ j := fun e => by
      have := hinj x (n - 1) (by omega) (by omega) (by rw [a2, ej, e])
      omega
    exact ⟨j', a1, by rw [g5 12 (by decide) (by decide) (by decide)]; exact a2, by rw [fu_n hne]; exact a3⟩
  · intro x y hx hy hxy
    rw [g5 12 (by decide) (by decide) (by decide)] at hxy
    exact hinj x y (by omega) (by omega) hxy
  · have hfun : σ6 11 = upd (fun x => if Rw j ≤ x ∧ x < Rw j + 32 then nI r else σ 11 x) i (-nI (Rw j)) := by
      funext x
      rw [g11]
      rfl
    have hu : us (fu lev j (lb b)) i = true := us_cl (Cl_up (l := lb b) (p := q) hC h0)
    have hl0 : lb b ≠ 0 := by rcases lb_12 b with h | h <;> omega
    have hcnt : ∀ x, x < 1028 → hN (σ6 11) (fu lev j (lb b)) x + (r == x).toNat = hN (σ 11) lev x + 32 * (r == x).toNat := fun x hx => by
      have k1 : hN (fun x => if Rw j ≤ x ∧ x < Rw j + 32 then nI r else σ 11 x) (fu lev j (lb b)) x = hN (σ 11) lev x + 32 * (nI r == nI x).toNat := hN_row (c := σ 11) (c' := fun x => if Rw j ≤ x ∧ x < Rw j + 32 then nI r else σ 11 x) (lev := lev) (j := j) (l := lb b) (r := x) (s := r) hj h0 hl0 (fun y _ a2 => by rw [if_neg (by omega)]) (fun k hk => by rw [if_pos (by omega)])
      have k2 := hN_set (c := fun x => if Rw j ≤ x ∧ x < Rw j + 32 then nI r else σ 11 x) (lev := fu lev j (lb b)) (i := i) (r := x) (x := -nI (Rw j)) hi hu
      rw [← hfun] at k2
      have k3 : ((-nI (Rw j)) == nI x) = false := beq_eq_false_iff_ne.mpr (fun e => ng_ne (b := Rw j) (by unfold Rw; omega) (by omega) (by unfold Rw; omega) e.symm)
      have k4 : (if Rw j ≤ i ∧ i < Rw j + 32 then nI r else σ 11 i) = nI r := by rw [if_neg (by omega), er]
      simp only [k3, k4, nI_beq (show r < 2 ^ 31 by omega) (show x < 2 ^ 31 by omega), Bool.toNat_false] at k1 k2
      omega
    intro x hx
    have h2 := hcnt x hx
    obtain ⟨a1, a2⟩ := hH x hx
    by_cases e : x = r
    · subst e
      rw [beq_self_eq_true] at h2
      simp only [Bool.toNat_true] at h2
      have hle := hN_le (σ 11) lev x
      refine ⟨?_, ⟨fun _ => by omega, fun _ => hlr⟩⟩
      rw [g1, if_pos rfl, a1, show (31 : Int32) = nI 31 from rfl, nI_add]
      exact congrArg nI (by omega)
    · rw [beq_eq_false_iff_ne.mpr (fun h => e h.symm)] at h2
      simp only [Bool.toNat_false] at h2
      rw [g1, if_neg e, show hN (σ6 11) (fu lev j (lb b)) x = hN (σ 11) lev x by omega]
      exact ⟨a1, a2⟩
theorem Bg_split {c c' : Nat → Int32} {lev st : Nat → Nat} {i b q r j x : Nat} (hC : Cl lev st i b q) (hb : 0 < b) (hj : j < 2048) (h0 : lev j = 0) (hr : r < 1028) (e2 : ∀ k, k < 32 → c' (Rw j + k) = nI r) (e3 : ∀ x, x ≠ i → (x < Rw j ∨ Rw j + 32 ≤ x) → c' x = c x) (h : Bg c lev st x) : Bg c' (fu lev j (lb b)) (fu st j q) x := by
  obtain ⟨i', b', r', h1, h2, h3⟩ := h
  by_cases ei : i' = i
  · subst ei
    obtain ⟨rfl, rfl⟩ := Cl_fun hC h1
    have h4 := row_cl (k := 0) (Cl_up (j := j) (l := lb b) (p := q) hC h0) hb hj (fu_s _ _ _) (fu_s _ _ _) (by decide)
    rw [Nat.mul_zero, Nat.add_zero, Nat.add_zero] at h4
    have h5 := e2 0 (by decide)
    rw [Nat.add_zero] at h5
    exact ⟨Rw j, b - 5, r, h4, hr, h5⟩
  · exact ⟨i', b', r', Cl_up h1 h0, h2, by rw [e3 i' ei (Cl_row h1 h0)]; exact h3⟩
theorem s_splitBefore {σ : St} {lev st : Nat → Nat} {lv : Nat → Bool} {L : Nat → List Nat} {V : Nat → Nat → Int32} {n p : Nat} {Q : St → Prop} (hB : BI σ lev st lv L V n) (hn : 2 ≤ n) (hp : p < 1114112)
    (hQ : ∀ (τ : St) (lev' st' : Nat → Nat) (n' : Nat), n ≤ n' + 2 → n' ≤ n → BI τ lev' st' lv L V n' → Bg (τ 11) lev' st' p → (∀ x, Bg (σ 11) lev st x → Bg (τ 11) lev' st' x) → (∀ k, k ≠ 1 → k ≠ 11 → k ≠ 13 → k ≠ 14 → k ≠ 15 → k ≠ 16 → τ k = σ k) → Q τ) : F_Bl_splitBefore (nI p) σ Q := by
  have hn8 : n ≤ 2048 := hB.2.2.2.1.1
  unfold F_Bl_splitBefore
  refine s_find hB.2.1 hp (fun τ0 i0 b0 q0 r0 hC0 q1 q2 hr0 hlr0 er0 hf0 e14 e15 _ => ?_)
  intro z5 hz5
  have hB0 : BI τ0 lev st lv L V n := BI_congr (fun j _ _ _ _ _ a => hf0 j (by omega) (by omega) (by omega)) hB
  have e11 : τ0 11 = σ 11 := hf0 11 (by decide) (by decide) (by decide)
  have hb0 : b0 ≤ 10 := by rcases Cl_b hC0 with h | h | h <;> omega
  unfold F_Bl_splitBefore_L8
  refine ⟨fun v2 τ => ∃ (lev' st' : Nat → Nat) (n' B i b q r : Nat), v2 = nI B ∧ (B = 10 ∨ B = 5 ∨ B = 0) ∧ b ≤ B ∧ n ≤ n' + (10 - B) / 5 ∧ n' ≤ n ∧ BI τ lev' st' lv L V n' ∧ Cl lev' st' i b q ∧ q ≤ p ∧ p < q + 2 ^ b ∧ r < 1028 ∧ lv r = true ∧ τ 11 i = nI r ∧ τ 14 0 = nI i ∧ τ 15 0 = nI q ∧ (∀ x, Bg (σ 11) lev st x → Bg (τ 11) lev' st' x) ∧ ∀ k, k ≠ 1 → k ≠ 11 → k ≠ 13 → k ≠ 14 → k ≠ 15 → k ≠ 16 → τ k = σ k,
    fun v2 _ => v2.toNatClampNeg, ⟨lev, st, n, 10, i0, b0, q0, r0, hz5, Or.inl rfl, hb0, by omega, by omega, hB0, hC0, q1, q2, hr0, hlr0, by rw [e11]; exact er0, e14, e15, fun x h => by rw [e11]; exact h, fun k _ _ _ a1 a2 a3 => hf0 k a1 a2 a3⟩, ?_⟩
  intro v2 τ m hI hm
  dsimp only at hm ⊢
  obtain ⟨lev', st', n', B, i, b, q, r, rfl, hB3, hbB, hn1, hn2, hBI, hC, p1, p2, hr, hlr, er, g14, g15, hbg, hfr⟩ := hI
  have hi := Cl_i hC
  rw [cl (by omega)] at hm
  have hend : q = p → Q τ := fun e => hQ τ lev' st' n' (by omega) hn2 hBI ⟨i, b, r, by rw [← e]; exact hC, hr, er⟩ hbg hfr
  have hBz : nI B ≤ 0 ↔ B = 0 := by
    rw [show (0 : Int32) = nI 0 from rfl, nI_leI (by omega) (by omega)]
    omega
  rw [g15, g14]
  have hal := (Cl_al hBI.2.1 hC).2
  refine ⟨fun hc => ?_, fun hc => ⟨fun hc2 => ?_, fun hc2 => ?_⟩⟩
  · have hb : b = 0 := by have := hBz.mp hc; omega
    subst hb
    exact hend (by omega)
  · rw [nI_leI (by omega) (by omega)] at hc2
    exact hend (by omega)
  · rw [nI_leI (by omega) (by omega)] at hc2
    have hB0' : 0 < B := by
      rcases Nat.eq_zero_or_pos B with h | h
      · exact absurd (hBz.mpr h) hc
      · exact h
    have hb : 0 < b := by
      rcases Nat.eq_zero_or_pos b with h | h
      · subst h; omega
      · exact h
    refine s_split hBI (by omega) hC hb hr hlr er (fun σ1 j hj h0 hB1 hf1 c1 c2 c3 => ?_)
    refine s_find hB1.2.1 hp (fun σ2 i' b' q' r' hC' q1' q2' hr' hlr' er' hf2 k14 k15 _ => ?_)
    intro z3 hz3
    have hb5 : b = 10 ∨ b = 5 := by rcases Cl_b hC with h | h | h <;> omega
    have hB5 : B = 10 ∨ B = 5 := by omega
    have ez : z3 = nI (B - 5) := by
      rw [hz3]
      rcases hB5 with rfl | rfl <;> decide
    have halq := (Cl_al hBI.2.1 hC).1
    -- the new cell over p has five bits less
    have hbb : b' = b - 5 := by
      have hk : (p - q) / 2 ^ (b - 5) < 32 := by
        rcases hb5 with rfl | rfl <;> omega
      have h4 := row_cl (k := (p - q) / 2 ^ (b - 5)) (Cl_up (j := j) (l := lb b) (p := q) hC h0) hb hj (fu_s _ _ _) (fu_s _ _ _) hk
      have h5 := Cl_one hB1.2.1 hC' h4 (by omega) (show r < 2 ^ 31 by omega) er' (c2 _ hk) q1' q2' (by rcases hb5 with rfl | rfl <;> omega) (by rcases hb5 with rfl | rfl <;> omega)
      exact h5.2.1
    refine ⟨⟨fu lev' j (lb b), fu st' j q, n' - 1, B - 5, i', b', q', r', ez, by omega, by omega, by omega, by omega, BI_congr (fun x _ _ _ _ _ a => hf2 x (by omega) (by omega) (by omega)) hB1, hC', q1', q2', hr', hlr', by rw [hf2 11 (by decide) (by decide) (by decide)]; exact er', k14, k15, fun x h => ?_, fun k a1 a11 a13 a14 a15 a16 => by rw [hf2 k a14 a15 a16, hf1 k a1 a11 a13]; exact hfr k a1 a11 a13 a14 a15 a16⟩, ?_⟩
    · rw [hf2 11 (by decide) (by decide) (by decide)]
      exact Bg_split hC hb hj h0 hr c2 c3 (hbg x h)
    · rw [ez, cl (by omega)]
      omega
end
section
/-- what the change makes of V on the points from a up to (not with) z -/
def chg (V : Nat → Nat → Int32) (fl : Nat) (v k : Int32) (a z : Nat) : Nat → Nat → Int32 := fun p f => if a ≤ p ∧ p < z ∧ f = fl then (V p f &&& k) ||| v else V p f
theorem TI_set {c : Nat → Int32} {lev st : Nat → Nat} {lv lv' : Nat → Bool} {i b q r o : Nat} (hT : TI c lev st lv) (hC : Cl lev st i b q) (hr : r < 1028) (er : c i = nI r) (ho : o < 1028) (hlo : lv' o = true)
    (hlv : ∀ i' x, us lev i' = true → i' < 66624 → i' ≠ i → x < 1028 → c i' = nI x → lv x = true → lv' x = true) : TI (upd c i (nI o)) lev st lv' := by
  refine ⟨fun i' b' q' h => ?_, fun j hj hl => ?_⟩
  · by_cases ei : i' = i
    · subst ei
      exact Or.inl ⟨o, ho, hlo, by unfold upd; rw [if_pos rfl]⟩
    · have e : upd c i (nI o) i' = c i' := by unfold upd; rw [if_neg ei]
      rcases hT.1 i' b' q' h with ⟨x, h1, h2, h3⟩ | ⟨j, h1, h2, h3, h4, h5⟩
      · exact Or.inl ⟨x, h1, hlv i' x (us_cl h) (Cl_i h) ei h1 h3 h2, e.trans h3⟩
      · exact Or.inr ⟨j, h1, h2, h3, h4, e.trans h5⟩
  · obtain ⟨i', b', q', h, h1, h2, h3, h4, h5⟩ := hT.2 j hj hl
    have ei : i' ≠ i := fun e => by
      rw [e] at h5
      exact rec_no (by omega) hj er h5
    exact ⟨i', b', q', h, h1, h2, h3, h4, by unfold upd; rw [if_neg ei]; exact h5⟩
theorem TI_mono {c : Nat → Int32} {lev st : Nat → Nat} {lv lv' : Nat → Bool} (hT : TI c lev st lv) (h : ∀ x, lv x = true → lv' x = true) : TI c lev st lv' := by
  refine ⟨fun i b q hC => ?_, hT.2⟩
  rcases hT.1 i b q hC with ⟨r, h1, h2, h3⟩ | h1
  · exact Or.inl ⟨r, h1, h r h2, h3⟩
  · exact Or.inr h1
/-- the outcomes that are written down, for the records of the cells from point z on -/
def MI (σ : St) (lev st : Nat → Nat) (fl z : Nat) : Prop := ∀ i b q x, Cl lev st i b q → z ≤ q → x < 1028 → σ 11 i = nI x → σ 5 x = -1 ∨ ∃ o, o < 1028 ∧ σ 5 x = nI o ∧ (∀ f, f < 8 → σ 0 (8 * o + f) = nv σ fl x f) ∧ (o = x ∨ ∃ i2 b2 q2, Cl lev st i2 b2 q2 ∧ q2 < z ∧ σ 11 i2 = nI o)
theorem lv_at' {σ : St} {lev : Nat → Nat} {lv : Nat → Bool} (hH : HI σ lev lv) {i x : Nat} (hi : i < 66624) (hu : us lev i = true) (hx : x < 1028) (e : σ 11 i = nI x) : lv x = true := ((hH x hx).2).mpr (hN_pos hi hu e)
theorem s_replace {σ : St} {lev st : Nat → Nat} {lv : Nat → Bool} {L : Nat → List Nat} {V : Nat → Nat → Int32} {n i b q r fl : Nat} {Q : St → Prop} (hB : BI σ lev st lv L V n) (hM : MI σ lev st fl q) (hfl : fl < 8) (efl : σ 8 0 = nI fl) (hroom : sm (fun x => (lv x).toNat) 1028 < 1028)
    (hC : Cl lev st i b q) (hr : r < 1028) (er : σ 11 i = nI r)
    (hQ : ∀ (τ : St) (lv' : Nat → Bool) (L' : Nat → List Nat), BI τ lev st lv' L' (chg V fl (σ 9 0) (σ 10 0) q (q + 2 ^ b)) n → MI τ lev st fl (q + 2 ^ b) → (∀ x, Bg (σ 11) lev st x → Bg (τ 11) lev st x) → (∀ k, 7 < k → k ≠ 11 → τ k = σ k) → Q τ) : F_Bl_replace (nI i) σ Q := by
  obtain ⟨hR, hT, hV, hS, hH, hZ⟩ := hB
  have hi := Cl_i hC
  have hu := us_cl hC
  have hpos := p2_pos b
  have hlr : lv r = true := lv_at' hH hi hu hr er
  have hl0 : lv 0 = true := ((hH 0 (by decide)).2).mpr (by unfold hN; simp)
  unfold F_Bl_replace
  rw [cl (by omega)]
  refine ⟨vp_in_nI hi (by decide), ?_⟩
  intro z1 hz1
  rw [er] at hz1
  subst hz1
  have hmemo : σ 5 r = -1 ∨ ∃ o, o < 1028 ∧ lv o = true ∧ σ 5 r = nI o ∧ ∀ f, f < 8 → σ 0 (8 * o + f) = nv σ fl r f := by
    rcases hM i b q r hC (Nat.le_refl _) hr er with h | ⟨o, h1, h2, h3, h4⟩
    · exact Or.inl h
    · refine Or.inr ⟨o, h1, ?_, h2, h3⟩
      rcases h4 with h | ⟨i2, b2, q2, a1, -, a3⟩
      · rw [h]; exact hlr
      · exact lv_at' hH (Cl_i a1) (us_cl a1) h1 a3
  refine s_altered hR hr hfl efl hroom hmemo (fun o τ lv1 L1 ho hR1 hcase hold hnew h5 hfr => ?_)
  have t11 : τ 11 = σ 11 := hfr 11 (by decide) (by decide) (by decide) (by decide) (by decide) (by decide)
  have t1 : τ 1 = σ 1 := hfr 1 (by decide) (by decide) (by decide) (by decide) (by decide) (by decide)
  have tk : ∀ k, 7 < k → τ k = σ k := fun k h => hfr k (by omega) (by omega) (by omega) (by omega) (by omega) (by omega)
  -- a live record is not the new one
  have hliv : ∀ x f, lv x = true → f < 8 → τ 0 (8 * x + f) = σ 0 (8 * x + f) := fun x f hx hf => hold x f (fun h e => by rw [e, h] at hx; exact absurd hx (by decide)) hf
  have hnv : ∀ (ρ : St) x f, ρ 0 = τ 0 → ρ 9 = σ 9 → ρ 10 = σ 10 → lv x = true → f < 8 → nv ρ fl x f = nv σ fl x f := fun ρ x f a0 a9 a10 hx hf => by
    unfold nv
    rw [a0, a9, a10, hliv x f hx hf]
  -- what the change makes of the block's points
  have hblk : ∀ p f, q ≤ p → p < q + 2 ^ b → f < 8 → nv σ fl r f = chg V fl (σ 9 0) (σ 10 0) q (q + 2 ^ b) p f := fun p f p1 p2 hf => by
    unfold nv chg
    by_cases e : f = fl
    · rw [if_pos e, if_pos ⟨p1, p2, e⟩, hV i b q r hC hr er p p1 p2 f hf]
    · rw [if_neg e, if_neg (fun h => e h.2.2), hV i b q r hC hr er p p1 p2 f hf]
  have hout : ∀ p f, (p < q ∨ q + 2 ^ b ≤ p) → chg V fl (σ 9 0) (σ 10 0) q (q + 2 ^ b) p f = V p f := fun p f h => by
    unfold chg
    rw [if_neg (by omega)]
  have hl1 : ∀ x, lv1 x = true ↔ lv x = true ∨ x = o := fun x => by
    rcases hcase with ⟨h1, h2⟩ | ⟨h1, h2⟩
    · rw [h2]
      exact ⟨Or.inl, fun h => by rcases h with h | h; exact h; rw [h]; exact h1⟩
    · rw [h2]
      simp
  refine ⟨fun hc => ?_, fun hc => ?_⟩
  · have hor : o = r := nI_inj (by omega) (by omega) hc
    subst hor
    have hlv1 : lv1 = lv := by
      rcases hcase with ⟨-, h2⟩ | ⟨h1, -⟩
      · exact h2
      · rw [hlr] at h1; exact absurd h1 (by decide)
    subst hlv1
    refine hQ τ lv1 L1 ⟨hR1, by rw [t11]; exact hT, ?_, ?_, ?_, fun f hf => ?_⟩ ?_ (fun x h => by rw [t11]; exact h) (fun k h _ => tk k h)
    · intro i' b' q' r' hC' hr' er' p p1 p2 f hf
      rw [t11] at er'
      have hl' : lv1 r' = true := lv_at' hH (Cl_i hC') (us_cl hC') hr' er'
      by_cases hin : q ≤ p ∧ p < q + 2 ^ b
      · obtain ⟨rfl, -, -⟩ := Cl_one hT hC hC' (by omega) (by omega) er er' hin.1 hin.2 p1 p2
        have : r' = o := nI_inj (by omega) (by omega) (er'.symm.trans er)
        subst this
        rw [hnew f hf]
        exact hblk p f hin.1 hin.2 hf
      · rw [hliv r' f hl' hf, hout p f (by omega)]
        exact hV i' b' q' r' hC' hr' er' p p1 p2 f hf
    · obtain ⟨s1, s2, s3, s4, s5⟩ := hS
      exact ⟨s1, by rw [tk 13 (by decide)]; exact s2, s3, by rw [tk 12 (by decide)]; exact s4, by rw [tk 12 (by decide)]; exact s5⟩
    · intro x hx
      rw [t1, t11]
      exact hH x hx
    · have := hliv 0 f hl0 hf
      rw [Nat.mul_zero, Nat.zero_add] at this
      rw [this]
      exact hZ f hf
    · intro i' b' q' x hC' hq' hx ex
      rw [t11] at ex
      have hlx : lv1 x = true := lv_at' hH (Cl_i hC') (us_cl hC') hx ex
      rw [h5]
      by_cases e : x = o
      · rw [if_pos e]
        refine Or.inr ⟨o, ho, rfl, fun f hf => ?_, Or.inl e.symm⟩
        rw [hnew f hf, e, hnv τ o f rfl (tk 9 (by decide)) (tk 10 (by decide)) hlr hf]
      · rw [if_neg e]
        rcases hM i' b' q' x hC' (by omega) hx ex with h | ⟨o2, a1, a2, a3, a4⟩
        · exact Or.inl h
        · have hlo2 : lv1 o2 = true := by
            rcases a4 with h | ⟨i2, b2, q2, c1, -, c3⟩
            · rw [h]; exact hlx
            · exact lv_at' hH (Cl_i c1) (us_cl c1) a1 c3
          refine Or.inr ⟨o2, a1, a2, fun f hf => ?_, ?_⟩
          · rw [hliv o2 f hlo2 hf, a3 f hf, hnv τ x f rfl (tk 9 (by decide)) (tk 10 (by decide)) hlx hf]
          · rcases a4 with h | ⟨i2, b2, q2, c1, c2, c3⟩
            · exact Or.inl h
            · exact Or.inr ⟨i2, b2, q2, c1, by omega, by rw [t11]; exact c3⟩
  · have hor : o ≠ r := fun e => hc (by rw [e])
    refine ⟨vp_in_nI hi (by decide), ?_⟩
    intro σ4 h4
    rw [t11] at h4
    have k11 : σ4 11 = upd (σ 11) i (nI o) := by rw [h4, sA_s]
    have ko : ∀ k, k ≠ 11 → σ4 k = τ k := fun k a => by rw [h4, sA_n a]
    have hcnt : ∀ x, x < 1028 → hN (upd (σ 11) i (nI o)) lev x + (r == x).toNat = hN (σ 11) lev x + (o == x).toNat := fun x hx => by
      have h1 := hN_set (c := σ 11) (lev := lev) (i := i) (r := x) (x := nI o) hi hu
      rw [er, nI_beq (by omega) (by omega), nI_beq (by omega) (by omega)] at h1
      exact h1
    -- the end, whether the old record was dropped or not
    have fin : ∀ (ρ : St) (lv' : Nat → Bool) (L' : Nat → List Nat), RI ρ lv' L' → ρ 11 = upd (σ 11) i (nI o) → ρ 0 = τ 0 → ρ 5 = τ 5 → (∀ k, 7 < k → k ≠ 11 → ρ k = σ k) →
        (∀ x, x < 1028 → ρ 1 x = nI (hN (upd (σ 11) i (nI o)) lev x) ∧ (lv' x = true ↔ 0 < hN (upd (σ 11) i (nI o)) lev x)) → Q ρ := by
      intro ρ lv' L' hRρ g11 g0 g5 gk gH
      have ci : upd (σ 11) i (nI o) i = nI o := by unfold upd; rw [if_pos rfl]
      have cn : ∀ x, x ≠ i → upd (σ 11) i (nI o) x = σ 11 x := fun x h => by unfold upd; rw [if_neg h]
      have hlo : lv' o = true := ((gH o ho).2).mpr (hN_pos hi hu ci)
      refine hQ ρ lv' L' ⟨hRρ, ?_, ?_, ?_, ?_, fun f hf => ?_⟩ ?_ ?_ gk
      · rw [g11]
        exact TI_set hT hC hr er ho hlo (fun i' x u1 u2 u3 u4 u5 _ => ((gH x u4).2).mpr (hN_pos u2 u1 ((cn i' u3).trans u5)))
      · intro i' b' q' r' hC' hr' er' p p1 p2 f hf
        rw [g11] at er'
        rw [g0]
        by_cases ei : i' = i
        · subst ei
          obtain ⟨rfl, rfl⟩ := Cl_fun hC hC'
          have : r' = o := nI_inj (by omega) (by omega) (er'.symm.trans ci)
          subst this
          rw [hnew f hf]
          exact hblk p f p1 p2 hf
        · rw [cn i' ei] at er'
          have hl' : lv r' = true := lv_at' hH (Cl_i hC') (us_cl hC') hr' er'
          have hnin : p < q ∨ q + 2 ^ b ≤ p := by
            by_cases hin : q ≤ p ∧ p < q + 2 ^ b
            · obtain ⟨h1, -, -⟩ := Cl_one hT hC hC' (by omega) (by omega) er er' hin.1 hin.2 p1 p2
              exact absurd h1.symm ei
            · omega
          rw [hliv r' f hl' hf, hout p f hnin]
          exact hV i' b' q' r' hC' hr' er' p p1 p2 f hf
      · obtain ⟨s1, s2, s3, s4, s5⟩ := hS
        exact ⟨s1, by rw [gk 13 (by decide) (by decide)]; exact s2, s3, by rw [gk 12 (by decide) (by decide)]; exact s4, by rw [gk 12 (by decide) (by decide)]; exact s5⟩
      · intro x hx
        rw [g11]
        exact gH x hx
      · have := hliv 0 f hl0 hf
        rw [Nat.mul_zero, Nat.zero_add] at this
        rw [g0, this]
        exact hZ f hf
      · intro i' b' q' x hC' hq' hx ex
        have ei : i' ≠ i := fun e => by
          subst e
          have := (Cl_fun hC hC').2
          omega
        rw [g11, cn i' ei] at ex
        have hlx : lv x = true := lv_at' hH (Cl_i hC') (us_cl hC') hx ex
        rw [g5, h5]
        by_cases e : x = r
        · rw [if_pos e]
          refine Or.inr ⟨o, ho, rfl, fun f hf => ?_, Or.inr ⟨i, b, q, hC, by omega, by rw [g11]; exact ci⟩⟩
          rw [g0, hnew f hf, e, hnv ρ r f g0 (gk 9 (by decide) (by decide)) (gk 10 (by decide) (by decide)) hlr hf]
        · rw [if_neg e]
          rcases hM i' b' q' x hC' (by omega) hx ex with h | ⟨o2, a1, a2, a3, a4⟩
          · exact Or.inl h
          · have hlo2 : lv o2 = true := by
              rcases a4 with h | ⟨i2, b2, q2, c1, -, c3⟩
              · rw [h]; exact hlx
              · exact lv_at' hH (Cl_i c1) (us_cl c1) a1 c3
            refine Or.inr ⟨o2, a1, a2, fun f hf => ?_, ?_⟩
            · rw [g0, hliv o2 f hlo2 hf, a3 f hf, hnv ρ x f g0 (gk 9 (by decide) (by decide)) (gk 10 (by decide) (by decide)) hlx hf]
            · rcases a4 with h | ⟨i2, b2, q2, c1, c2, c3⟩
              · exact Or.inl h
              · have e2 : i2 ≠ i := fun e => by
                  subst e
                  have := (Cl_fun hC c1).2
                  omega
                exact Or.inr ⟨i2, b2, q2, c1, by omega, by rw [g11, cn i2 e2]; exact c3⟩
      · intro x h
        obtain ⟨i', b', r', a1, a2, a3⟩ := h
        rw [g11]
        by_cases ei : i' = i
        · subst ei
          exact ⟨i', b', o, a1, ho, ci⟩
        · exact ⟨i', b', r', a1, a2, (cn i' ei).trans a3⟩
    have hor' : (r == o) = false := beq_eq_false_iff_ne.mpr (fun e => hor e.symm)
    have ho' : (o == r) = false := beq_eq_false_iff_ne.mpr hor
    have hleo := hN_le (σ 11) lev o
    have hler := hN_le (σ 11) lev r
    have hco := hcnt o ho
    have hcr := hcnt r hr
    rw [hor', beq_self_eq_true] at hco
    rw [ho', beq_self_eq_true] at hcr
    simp only [Bool.toNat_true, Bool.toNat_false] at hco hcr
    have hr1 : 0 < hN (σ 11) lev r := hN_pos hi hu er
    refine s_hold ho ?_
    have k1 : σ4 1 = σ 1 := by rw [ko 1 (by decide), t1]
    rw [k1, (hH o ho).1, show (1 : Int32) = nI 1 from rfl, nI_add]
    generalize hσ5 : sA σ4 1 (upd (σ 1) o (nI (hN (σ 11) lev o + 1))) = σ5
    have m1 : ∀ x, σ5 1 x = if x = o then nI (hN (σ 11) lev o + 1) else σ 1 x := fun x => by rw [← hσ5, sA_s]; rfl
    have mo : ∀ k, k ≠ 1 → k ≠ 11 → σ5 k = τ k := fun k a1 a11 => by rw [← hσ5, sA_n a1]; exact ko k a11
    have m11 : σ5 11 = upd (σ 11) i (nI o) := by rw [← hσ5, sA_n (by decide)]; exact k11
    have hR5 : RI σ5 lv1 L1 := RI_congr (mo 0 (by decide) (by decide)) (mo 2 (by decide) (by decide)) (mo 3 (by decide) (by decide)) (mo 4 (by decide) (by decide)) (mo 7 (by decide) (by decide)) hR1
    have e5r : σ5 1 r = nI (hN (σ 11) lev r) := by rw [m1, if_neg (fun e => hor e.symm)]; exact (hH r hr).1
    refine s_release 1 hR5 hr ((hl1 r).mpr (Or.inl hlr)) e5r (by omega) hr1 (fun hh ρ hρ hfρ e1 => ?_) (fun hh => ?_)
    · refine fin ρ _ _ hρ ?_ ?_ ?_ ?_ ?_
      · rw [hfρ 11 (by decide) (by decide) (by decide) (by decide) (by decide)]; exact m11
      · rw [hfρ 0 (by decide) (by decide) (by decide) (by decide) (by decide)]; exact mo 0 (by decide) (by decide)
      · rw [hfρ 5 (by decide) (by decide) (by decide) (by decide) (by decide)]; exact mo 5 (by decide) (by decide)
      · intro k hk hk11
        rw [hfρ k (by omega) (by omega) (by omega) (by omega) (by omega), mo k (by omega) hk11, tk k hk]
      · intro x hx
        have hcx := hcnt x hx
        rw [e1]
        by_cases exr : x = r
        · subst exr
          rw [pk_us]
          refine ⟨congrArg nI (by omega), ?_⟩
          simp only [bne_self_eq_false, Bool.and_false]
          constructor
          · intro h; exact absurd h (by decide)
          · intro h; omega
        · rw [pk_un exr, m1]
          have hxr : (r == x) = false := beq_eq_false_iff_ne.mpr (fun e => exr e.symm)
          rw [hxr] at hcx
          by_cases exo : x = o
          · subst exo
            rw [beq_self_eq_true] at hcx
            simp only [Bool.toNat_true, Bool.toNat_false] at hcx
            rw [if_pos rfl]
            refine ⟨congrArg nI (by omega), ?_⟩
            rw [Bool.and_eq_true, bne_iff_ne]
            exact ⟨fun _ => by omega, fun _ => ⟨(hl1 x).mpr (Or.inr rfl), exr⟩⟩
          · have hxo : (o == x) = false := beq_eq_false_iff_ne.mpr (fun e => exo e.symm)
            rw [hxo] at hcx
            simp only [Bool.toNat_false] at hcx
            rw [if_neg exo, show hN (upd (σ 11) i (nI o)) lev x = hN (σ 11) lev x by omega]
            refine ⟨(hH x hx).1, ?_⟩
            rw [Bool.and_eq_true, bne_iff_ne, hl1 x, ← (hH x hx).2]
            exact ⟨fun h => by rcases h.1 with h1 | h1; exact h1; exact absurd h1 exo, fun h => ⟨Or.inl h, exr⟩⟩
    · have g : ∀ k, k ≠ 1 → (sA σ5 1 (upd (σ5 1) r (nI (hN (σ 11) lev r - 1)))) k = σ5 k := fun k a => sA_n a
      refine fin _ lv1 L1 (RI_congr (g 0 (by decide)) (g 2 (by decide)) (g 3 (by decide)) (g 4 (by decide)) (g 7 (by decide)) hR5) ?_ ?_ ?_ ?_ ?_
      · rw [g 11 (by decide)]; exact m11
      · rw [g 0 (by decide)]; exact mo 0 (by decide) (by decide)
      · rw [g 5 (by decide)]; exact mo 5 (by decide) (by decide)
      · intro k hk hk11
        rw [g k (by omega), mo k (by omega) hk11, tk k hk]
      · intro x hx
        have hcx := hcnt x hx
        rw [sA_s]
        by_cases exr : x = r
        · subst exr
          rw [pk_us]
          exact ⟨congrArg nI (by omega), ⟨fun _ => by omega, fun _ => (hl1 x).mpr (Or.inl hlr)⟩⟩
        · rw [pk_un exr, m1]
          have hxr : (r == x) = false := beq_eq_false_iff_ne.mpr (fun e => exr e.symm)
          rw [hxr] at hcx
          by_cases exo : x = o
          · subst exo
            rw [beq_self_eq_true] at hcx
            simp only [Bool.toNat_true, Bool.toNat_false] at hcx
            rw [if_pos rfl]
            exact ⟨congrArg nI (by omega), ⟨fun _ => by omega, fun _ => (hl1 x).mpr (Or.inr rfl)⟩⟩
          · have hxo : (o == x) = false := beq_eq_false_iff_ne.mpr (fun e => exo e.symm)
            rw [hxo] at hcx
            simp only [Bool.toNat_false] at hcx
            rw [if_neg exo, show hN (upd (σ 11) i (nI o)) lev x = hN (σ 11) lev x by omega]
            refine ⟨(hH x hx).1, ?_⟩
            rw [hl1 x, ← (hH x hx).2]
            exact ⟨fun h => by rcases h with h1 | h1; exact h1; exact absurd h1 exo, Or.inl⟩
theorem Cl_inj {c : Nat → Int32} {lev st : Nat → Nat} {lv : Nat → Bool} (hT : TI c lev st lv) {i i' b q : Nat} (hb : 0 < b) (h : Cl lev st i b q) (h' : Cl lev st i' b q) : i = i' := by
  rcases h with ⟨rfl, h1, rfl⟩ | ⟨rfl, j, k, hj, hk, hl, rfl, rfl⟩ | ⟨rfl, h⟩
  · rcases h' with ⟨-, h1', e⟩ | ⟨e, -⟩ | ⟨e, -⟩ <;> omega
  · rcases h' with ⟨e, -⟩ | ⟨-, j', k', hj', hk', hl', rfl, e⟩ | ⟨e, -⟩
    · omega
    · obtain ⟨t, a1, a2, a3⟩ := (TI_st hT hj).1 hl
      obtain ⟨t', a1', a2', a3'⟩ := (TI_st hT hj').1 hl'
      have : t = t' := by omega
      subst this
      have e2 := ng_inj (a := Rw j) (b := Rw j') (by unfold Rw; omega) (by unfold Rw; omega) (a3.symm.trans a3')
      unfold Rw at e2 ⊢
      omega
    · omega
  · omega
theorem Cl_off {lev st : Nat → Nat} {i b q j : Nat} (h : Cl (fu lev j 0) st i b q) : Cl lev st i b q ∧ (i < Rw j ∨ Rw j + 32 ≤ i) := by
  rcases h with ⟨rfl, h1, rfl⟩ | ⟨rfl, j', k, hj', hk, hl, rfl, rfl⟩ | ⟨rfl, j', k, hj', hk, hl, rfl, rfl⟩
  · exact ⟨Or.inl ⟨rfl, h1, rfl⟩, by unfold Rw; omega⟩
  · have hne : j' ≠ j := fun e => by rw [e, fu_s] at hl; omega
    rw [fu_n hne] at hl
    exact ⟨Or.inr (Or.inl ⟨rfl, j', k, hj', hk, hl, rfl, rfl⟩), by unfold Rw; omega⟩
  · have hne : j' ≠ j := fun e => by rw [e, fu_s] at hl; omega
    rw [fu_n hne] at hl
    exact ⟨Or.inr (Or.inr ⟨rfl, j', k, hj', hk, hl, rfl, rfl⟩), by unfold Rw; omega⟩
theorem Cl_on {lev st : Nat → Nat} {i b q j : Nat} (h : Cl lev st i b q) (hi : i < Rw j ∨ Rw j + 32 ≤ i) : Cl (fu lev j 0) st i b q := by
  rcases h with ⟨rfl, h1, rfl⟩ | ⟨rfl, j', k, hj', hk, hl, rfl, rfl⟩ | ⟨rfl, j', k, hj', hk, hl, rfl, rfl⟩
  · exact Or.inl ⟨rfl, h1, rfl⟩
  · have hne : j' ≠ j := fun e => by subst e; omega
    exact Or.inr (Or.inl ⟨rfl, j', k, hj', hk, by rw [fu_n hne]; exact hl, rfl, rfl⟩)
  · have hne : j' ≠ j := fun e => by subst e; omega
    exact Or.inr (Or.inr ⟨rfl, j', k, hj', hk, by rw [fu_n hne]; exact hl, rfl, rfl⟩)
section JOIN
variable {c : Nat → Int32} {lev st : Nat → Nat} {lv : Nat → Bool} {i b q r j : Nat}
/-- a pointing cell lies outside the row that it points to -/
theorem Pn_out (hT : TI c lev st lv) (hC : Cl lev st i b q) (hp : Pn c lev st i b q j) : i < Rw j ∨ Rw j + 32 ≤ i := by
  obtain ⟨hb, hj, hl, hs, -⟩ := hp
  rcases hC with ⟨rfl, h1, rfl⟩ | ⟨rfl, j', k, hj', hk, hl', rfl, rfl⟩ | ⟨rfl, h⟩
  · unfold Rw; omega
  · have hne : j' ≠ j := fun e => by
      subst e
      rw [hl'] at hl
      exact absurd hl (by decide)
    unfold Rw; omega
  · omega
theorem TI_join (hT : TI c lev st lv) (hC : Cl lev st i b q) (hp : Pn c lev st i b q j) (hr : r < 1028) (hlr : lv r = true) (hrow : ∀ k, k < 32 → c (Rw j + k) = nI r) : TI (upd c i (nI r)) (fu lev j 0) st lv := by
  have hp0 := hp
  obtain ⟨hb, hj, hl, hs, hc⟩ := hp
  have ci : upd c i (nI r) i = nI r := by unfold upd; rw [if_pos rfl]
  have cn : ∀ x, x ≠ i → upd c i (nI r) x = c x := fun x h => by unfold upd; rw [if_neg h]
  refine ⟨fun i' b' q' h => ?_, fun j' hj' hl' => ?_⟩
  · obtain ⟨h1, h2⟩ := Cl_off h
    by_cases ei : i' = i
    · rw [ei]
      exact Or.inl ⟨r, hr, hlr, ci⟩
    · rcases hT.1 i' b' q' h1 with ⟨x, a1, a2, a3⟩ | ⟨j2, a1, a2, a3, a4, a5⟩
      · exact Or.inl ⟨x, a1, a2, (cn i' ei).trans a3⟩
      · have hne : j2 ≠ j := fun e => by
          subst e
          have hq : q' = q := a4.symm.trans hs
          have hbb : b' = b := by
            have h3 : lb b' = lb b := a3.symm.trans hl
            unfold lb at h3
            rcases Cl_b hC with rfl | rfl | rfl <;> rcases Cl_b h1 with rfl | rfl | rfl <;> simp at h3 ⊢ <;> omega
          subst hq hbb
          exact ei (Cl_inj hT a1 h1 hC)
        exact Or.inr ⟨j2, a1, a2, by rw [fu_n hne]; exact a3, a4, (cn i' ei).trans a5⟩
  · have hne : j' ≠ j := fun e => by rw [e, fu_s] at hl'; exact hl' rfl
    rw [fu_n hne] at hl'
    obtain ⟨i', b', q', h1, a1, a2, a3, a4, a5⟩ := hT.2 j' hj' hl'
    have ei : i' ≠ i := fun e => by
      subst e
      have := ng_inj (a := Rw j') (b := Rw j) (by unfold Rw; omega) (by unfold Rw; omega) (a5.symm.trans hc)
      unfold Rw at this
      omega
    have hout : i' < Rw j ∨ Rw j + 32 ≤ i' := by
      by_cases hin : Rw j ≤ i' ∧ i' < Rw j + 32
      · exfalso
        have h3 := hrow (i' - Rw j) (by omega)
        rw [show Rw j + (i' - Rw j) = i' by omega] at h3
        exact rec_no (by omega) hj' h3 a5
      · omega
    exact ⟨i', b', q', Cl_on h1 hout, a1, a2, by rw [fu_n hne]; exact a3, a4, (cn i' ei).trans a5⟩
theorem VI_join {σ τ : St} {V : Nat → Nat → Int32} (hT : TI (σ 11) lev st lv) (hV : VI σ lev st V) (hC : Cl lev st i b q) (hp : Pn (σ 11) lev st i b q j) (hr : r < 1028) (hrow : ∀ k, k < 32 → σ 11 (Rw j + k) = nI r) (ev : τ 0 = σ 0) (ec : τ 11 = upd (σ 11) i (nI r)) : VI τ (fu lev j 0) st V := by
  obtain ⟨hb, hj, hl, hs, hc⟩ := hp
  intro i' b' q' r' h hr' er' p p1 p2 f hf
  obtain ⟨h1, h2⟩ := Cl_off h
  rw [ev]
  rw [ec] at er'
  unfold upd at er'
  by_cases ei : i' = i
  · rw [if_pos ei] at er'
    subst ei
    obtain ⟨rfl, rfl⟩ := Cl_fun hC h1
    have : r' = r := (nI_inj (by omega) (by omega) er').symm
    subst this
    have hb5 : b = 10 ∨ b = 5 := by rcases Cl_b hC with h | h | h <;> omega
    have hk : (p - q) / 2 ^ (b - 5) < 32 := by rcases hb5 with rfl | rfl <;> omega
    have h4 := row_cl hC hb hj hl hs hk
    exact hV _ _ _ r' h4 hr (hrow _ hk) p (by rcases hb5 with rfl | rfl <;> omega) (by rcases hb5 with rfl | rfl <;> omega) f hf
  · rw [if_neg ei] at er'
    exact hV i' b' q' r' h1 hr' er' p p1 p2 f hf
end JOIN
theorem s_isAllAlike {σ : St} {Q : Int32 → St → Prop} {j : Nat} (hj : j < 2048) (h1 : (∀ k, k < 32 → σ 11 (Rw j + k) = σ 11 (Rw j)) → ¬ σ 11 (Rw j) < 0 → Q 1 σ) (h0 : Q 0 σ) : F_Bl_isAllAlike (nI (Rw j)) σ Q := by
  have hrw : Rw j + 32 ≤ 66624 := by unfold Rw; omega
  unfold F_Bl_isAllAlike
  rw [cl (by omega)]
  refine ⟨vp_in_nI (by omega) (by decide), ?_⟩
  intro z2 hz2
  refine ⟨fun hc => ?_, fun _ => h0⟩
  intro z3 hz3
  unfold F_Bl_isAllAlike_L15
  refine ⟨fun v3 τ => τ = σ ∧ ∃ k, 1 ≤ k ∧ k ≤ 32 ∧ v3 = nI k ∧ ∀ x, x < k → σ 11 (Rw j + x) = z2, fun v3 _ => 32 - v3.toNatClampNeg, ⟨rfl, 1, by omega, by omega, hz3, fun x hx => by rw [show x = 0 by omega, Nat.add_zero]; exact hz2.symm⟩, ?_⟩
  intro v3 τ n hI hm
  dsimp only at hm ⊢
  obtain ⟨rfl, k, hk1, hk, rfl, hall⟩ := hI
  rw [cl (by omega)] at hm
  have e8 : (32 : Int32) = nI 32 := rfl
  refine ⟨fun hc1 => ?_, fun hc1 => ?_⟩
  · rw [e8, nI_leI (by omega) (by omega)] at hc1
    refine h1 (fun x hx => by rw [hall x (by omega), hz2]) (fun h => ?_)
    rw [← hz2] at h
    exact Int32.not_lt.mpr hc h
  · rw [e8, nI_leI (by omega) (by omega)] at hc1
    rw [nI_add, cl (by omega)]
    refine ⟨vp_in_nI (by omega) (by decide), fun hc2 => ?_, fun _ => h0⟩
    intro z1 hz1
    rw [ar_1] at hz1
    refine ⟨⟨rfl, k + 1, by omega, by omega, hz1, fun x hx => ?_⟩, ?_⟩
    · by_cases e : x = k
      · rw [e]; exact hc2
      · exact hall x (by omega)
    · rw [hz1, cl (by omega)]
      omega
theorem s_join {σ : St} {lev st : Nat → Nat} {lv : Nat → Bool} {L : Nat → List Nat} {V : Nat → Nat → Int32} {n i b q : Nat} {Q : St → Prop} (hB : BI σ lev st lv L V n) (hC : Cl lev st i b q)
    (hQ : ∀ (τ : St) (lev' : Nat → Nat) (n' : Nat), n ≤ n' → BI τ lev' st lv L V n' → (∀ x, lev x ≠ lb b → lev' x = lev x) → (∀ x, x ≠ i → τ 11 x = σ 11 x) → (∀ k, k ≠ 1 → k ≠ 11 → k ≠ 12 → k ≠ 13 → τ k = σ k) → Q τ) : F_Bl_join (nI i) σ Q := by
  have hB0 := hB
  obtain ⟨hR, hT, hV, ⟨hn8, e13, hcount, hsp, hinj⟩, hH, hZ⟩ := hB
  have hi := Cl_i hC
  have hu := us_cl hC
  have hstay : Q σ := hQ σ lev n (Nat.le_refl _) hB0 (fun _ _ => rfl) (fun _ _ => rfl) (fun _ _ _ _ _ => rfl)
  unfold F_Bl_join
  rw [cl (by omega)]
  refine ⟨vp_in_nI hi (by decide), ?_⟩
  intro z1 hz1
  refine ⟨fun _ => hstay, fun hc => ?_⟩
  rcases hT.1 i b q hC with ⟨r, h1, h2, h3⟩ | ⟨j, hp⟩
  · exfalso
    refine hc ?_
    rw [hz1, h3, Int32.le_iff_toInt_le, ng_toInt (by omega), Int32.toInt_zero]
    omega
  · have hp0 := hp
    obtain ⟨hb, hj, hl, hs, hcell⟩ := hp
    rw [hcell, ng_ng] at hz1
    subst hz1
    have hrw : Rw j + 32 ≤ 66624 := by unfold Rw; omega
    refine s_isAllAlike hj (fun hall hpos => ?_) ⟨fun _ => hstay, fun h => absurd rfl h⟩
    refine ⟨fun h => absurd h (by decide), fun _ => ?_⟩
    -- the row's record
    have hrec : ∃ r, r < 1028 ∧ lv r = true ∧ σ 11 (Rw j) = nI r := by
      have h4 := row_cl (k := 0) hC hb hj hl hs (by decide)
      rw [Nat.add_zero] at h4
      rcases hT.1 _ _ _ h4 with h5 | ⟨j2, a1, a2, a3, a4, a5⟩
      · exact h5
      · exfalso
        rw [a5] at hpos
        exact hpos (ng_lt (by unfold Rw; omega) (by unfold Rw; omega))
    obtain ⟨r, hr, hlr, er⟩ := hrec
    have hrow : ∀ k, k < 32 → σ 11 (Rw j + k) = nI r := fun k hk => by rw [hall k hk, er]
    rw [cl (by omega)]
    refine ⟨vp_in_nI (by omega) (by decide), ?_⟩
    intro z4 hz4
    rw [er] at hz4
    subst hz4
    refine ⟨vp_in_nI hi (by decide), ?_⟩
    intro σ5 h5
    have k11 : σ5 11 = upd (σ 11) i (nI r) := by rw [h5, sA_s]
    have ko : ∀ k, k ≠ 11 → σ5 k = σ k := fun k a => by rw [h5, sA_n a]
    have hR5 : RI σ5 lv L := RI_congr (ko 0 (by decide)) (ko 2 (by decide)) (ko 3 (by decide)) (ko 4 (by decide)) (ko 7 (by decide)) hR
    have hout := Pn_out hT hC hp0
    have hlj : lev j ≠ 0 := by rw [hl]; rcases lb_12 b with h | h <;> omega
    have hu' : us (fu lev j 0) i = true := us_cl (Cl_on hC hout)
    have hcnt : ∀ x, x < 1028 → hN (upd (σ 11) i (nI r)) (fu lev j 0) x + 32 * (r == x).toNat = hN (σ 11) lev x + (r == x).toNat := fun x hx => by
      have a1 := hN_unrow (c := σ 11) (lev := lev) (j := j) (r := x) (s := r) hj hlj hrow
      have a2 := hN_set (c := σ 11) (lev := fu lev j 0) (i := i) (r := x) (x := nI r) hi hu'
      have a3 : (σ 11 i == nI x) = false := beq_eq_false_iff_ne.mpr (fun e => rec_no (c := σ 11) (i := i) (show x < 2 ^ 31 by omega) hj e hcell)
      rw [a3, nI_beq (by omega) (by omega)] at a2
      rw [nI_beq (by omega) (by omega)] at a1
      simp only [Bool.toNat_false] at a2
      have a4 : hN (σ 11) (fun x => if x = j then 0 else lev x) x = hN (σ 11) (fu lev j 0) x := rfl
      omega
    have hcr := hcnt r hr
    rw [beq_self_eq_true] at hcr
    simp only [Bool.toNat_true] at hcr
    have hle := hN_le (σ 11) lev r
    have hpos' : 0 < hN (upd (σ 11) i (nI r)) (fu lev j 0) r := hN_pos hi hu' (by unfold upd; rw [if_pos rfl])
    refine s_release 31 hR5 hr hlr (show σ5 1 r = nI (hN (σ 11) lev r) by rw [ko 1 (by decide)]; exact (hH r hr).1) (by omega) (by omega) (fun hh => by omega) (fun _ => ?_)
    generalize hσ6 : sA σ5 1 (upd (σ5 1) r (nI (hN (σ 11) lev r - 31))) = σ6
    have m1 : ∀ x, σ6 1 x = if x = r then nI (hN (σ 11) lev r - 31) else σ 1 x := fun x => by rw [← hσ6, sA_s, ko 1 (by decide)]; rfl
    have mo : ∀ k, k ≠ 1 → σ6 k = σ5 k := fun k a => by rw [← hσ6, sA_n a]
    have hn1 : n < 2048 := by
      have h7 := sm_ge (f := fun x => (lev x != 0).toNat) (k := j) (n := 2048) hj
      have h8 : (lev j != 0).toNat = 1 := by rw [bne_iff_ne.mpr hlj]; rfl
      try dsimp only at h7
      omega
    have e613 : σ6 13 0 = nI n := by rw [mo 13 (by decide), ko 13 (by decide)]; exact e13
    rw [e613, cl (by omega)]
    refine ⟨vp_in_nI hn1 (by decide), ?_⟩
    intro σ7 h7 σ8 h8
    have e713 : σ7 13 0 = nI n := by rw [h7, sA_n (by decide)]; exact e613
    rw [e713, ar_1] at h8
    have g : ∀ k, k ≠ 12 → k ≠ 13 → σ8 k = σ6 k := fun k a1 a2 => by rw [h8, sA_n a2, h7, sA_n a1]
    have g12 : ∀ x, σ8 12 x = if x = n then nI (Rw j) else σ 12 x := fun x => by rw [h8, sA_n (by decide), h7, sA_s, mo 12 (by decide), ko 12 (by decide)]; rfl
    have g13 : σ8 13 0 = nI (n + 1) := by rw [h8, sA_s]
    have g11 : σ8 11 = upd (σ 11) i (nI r) := by rw [g 11 (by decide) (by decide), mo 11 (by decide)]; exact k11
    have gk : ∀ k, k ≠ 1 → k ≠ 11 → k ≠ 12 → k ≠ 13 → σ8 k = σ k := fun k a1 a11 a12 a13 => by rw [g k a12 a13, mo k a1, ko k a11]
    refine hQ σ8 (fu lev j 0) (n + 1) (by omega) ⟨RI_congr (gk 0 (by decide) (by decide) (by decide) (by decide)) (gk 2 (by decide) (by decide) (by decide) (by decide)) (gk 3 (by decide) (by decide) (by decide) (by decide)) (gk 4 (by decide) (by decide) (by decide) (by decide)) (gk 7 (by decide) (by decide) (by decide) (by decide)) hR,
      by rw [g11]; exact TI_join hT hC hp0 hr hlr hrow, VI_join hT hV hC hp0 hr hrow (gk 0 (by decide) (by decide) (by decide) (by decide)) g11, ⟨by omega, g13, ?_, ?_, ?_⟩, ?_, fun f hf => by rw [gk 0 (by decide) (by decide) (by decide) (by decide)]; exact hZ f hf⟩ (fun x hx => fu_n (fun e => hx (by rw [e]; exact hl))) (fun x hx => by rw [g11]; unfold upd; rw [if_neg hx]) gk
    · have h9 := sm_one (f := fun x => (fu lev j 0 x != 0).toNat) (g := fun x => (lev x != 0).toNat) (k := j) (n := 2048) hj (fun x _ hne => by
        show (fu lev j 0 x != 0).toNat = (lev x != 0).toNat
        rw [fu_n hne])
      have h10 : (fu lev j 0 j != 0).toNat = 0 := by rw [fu_s]; rfl
      have h11 : (lev j != 0).toNat = 1 := by rw [bne_iff_ne.mpr hlj]; rfl
      try dsimp only at h9
      omega
    · intro x hx
      rw [g12]
      by_cases e : x = n
      · rw [if_pos e]
        exact ⟨j, hj, rfl, fu_s _ _ _⟩
      · rw [if_neg e]
        obtain ⟨j', a1, a2, a3⟩ := hsp x (by omega)
        have hne : j' ≠ j := fun e => by rw [e] at a3; exact hlj a3
        exact ⟨j', a1, a2, by rw [fu_n hne]; exact a3⟩
    · have hno : ∀ x, x < n → σ 12 x ≠ nI (Rw j) := fun x hx e => by
        obtain ⟨j', a1, a2, a3⟩ := hsp x hx
        have := nI_inj (a := Rw j') (b := Rw j) (by unfold Rw; omega) (by unfold Rw; omega) (a2.symm.trans e)
        have : j' = j := by unfold Rw at this; omega
        rw [this] at a3
        exact hlj a3
      intro x y hx hy hxy
      rw [g12, g12] at hxy
      by_cases e1 : x = n
      · by_cases e2 : y = n
        · rw [e1, e2]
        · rw [if_pos e1, if_neg e2] at hxy
          exact absurd hxy.symm (hno y (by omega))
      · by_cases e2 : y = n
        · rw [if_neg e1, if_pos e2] at hxy
          exact absurd hxy (hno x (by omega))
        · rw [if_neg e1, if_neg e2] at hxy
          exact hinj x y (by omega) (by omega) hxy
    · intro x hx
      have hcx := hcnt x hx
      rw [g 1 (by decide) (by decide), m1, g11]
      by_cases e : x = r
      · subst e
        rw [if_pos rfl]
        exact ⟨by congr 1; omega, ⟨fun _ => hpos', fun _ => hlr⟩⟩
      · rw [beq_eq_false_iff_ne.mpr (fun h => e h.symm)] at hcx
        simp only [Bool.toNat_false] at hcx
        rw [if_neg e, show hN (upd (σ 11) i (nI r)) (fu lev j 0) x = hN (σ 11) lev x by omega]
        exact hH x hx
theorem s_joinBelow {σ : St} {lev st : Nat → Nat} {lv : Nat → Bool} {L : Nat → List Nat} {V : Nat → Nat → Int32} {n t : Nat} {Q : St → Prop} (hB : BI σ lev st lv L V n) (ht : t < 1088)
    (hQ : ∀ (τ : St) (lev' : Nat → Nat) (n' : Nat), n ≤ n' → BI τ lev' st lv L V n' → (∀ k, k ≠ 1 → k ≠ 11 → k ≠ 12 → k ≠ 13 → τ k = σ k) → Q τ) : F_Bl_joinBelow (nI t) σ Q := by
  have hC : Cl lev st t 10 (1024 * t) := Or.inl ⟨rfl, ht, rfl⟩
  unfold F_Bl_joinBelow
  rw [cl (by omega)]
  refine ⟨vp_in_nI (by omega) (by decide), ?_⟩
  intro z4 hz4
  refine ⟨fun _ => hQ σ lev n (Nat.le_refl _) hB (fun _ _ _ _ _ => rfl), fun hc => ?_⟩
  rcases hB.2.1.1 t 10 (1024 * t) hC with ⟨r, h1, h2, h3⟩ | ⟨j, hb, hj, hl, hs, hcell⟩
  · exfalso
    refine hc ?_
    rw [hz4, h3, Int32.le_iff_toInt_le, ng_toInt (by omega), Int32.toInt_zero]
    omega
  · rw [hcell, ng_ng] at hz4
    subst hz4
    have hrw : Rw j + 32 ≤ 66624 := by unfold Rw; omega
    intro z5 hz5
    unfold F_Bl_joinBelow_L14
    refine ⟨fun v3 τ => ∃ (lev' : Nat → Nat) (n' k : Nat), v3 = nI k ∧ k ≤ 32 ∧ n ≤ n' ∧ BI τ lev' st lv L V n' ∧ lev' j = 1 ∧ ∀ x, x ≠ 1 → x ≠ 11 → x ≠ 12 → x ≠ 13 → τ x = σ x, fun v3 _ => 32 - v3.toNatClampNeg, ⟨lev, n, 0, hz5, by omega, by omega, hB, hl, fun _ _ _ _ _ => rfl⟩, ?_⟩
    intro v3 τ m hI hm
    dsimp only at hm ⊢
    obtain ⟨lev', n', k, rfl, hk, hn, hB', hl', hfr⟩ := hI
    rw [cl (by omega)] at hm
    have e8 : (32 : Int32) = nI 32 := rfl
    refine ⟨fun hc1 => ?_, fun hc1 => ?_⟩
    · refine s_join hB' (Or.inl ⟨rfl, ht, rfl⟩ : Cl lev' st t 10 (1024 * t)) (fun ρ lev2 n2 a1 a2 _ _ a5 => ?_)
      exact hQ ρ lev2 n2 (by omega) a2 (fun x b1 b11 b12 b13 => by rw [a5 x b1 b11 b12 b13]; exact hfr x b1 b11 b12 b13)
    · rw [e8, nI_leI (by omega) (by omega)] at hc1
      rw [nI_add]
      refine s_join hB' (Or.inr (Or.inl ⟨rfl, j, k, hj, by omega, hl', rfl, rfl⟩) : Cl lev' st (Rw j + k) 5 (st j + 32 * k)) (fun ρ lev2 n2 a1 a2 a3 _ a5 => ?_)
      intro z3 hz3
      rw [ar_1] at hz3
      refine ⟨⟨lev2, n2, k + 1, hz3, by omega, by omega, a2, ?_, fun x b1 b11 b12 b13 => by rw [a5 x b1 b11 b12 b13]; exact hfr x b1 b11 b12 b13⟩, ?_⟩
      · rw [a3 j (by rw [hl']; decide)]; exact hl'
      · rw [hz3, cl (by omega)]
        omega
/-- the next point's fields are others -/
def bk (V : Nat → Nat → Int32) (p : Nat) : Bool := (List.range 8).any (fun f => V p f != V (p + 1) f)
def brk (V : Nat → Nat → Int32) : Nat := sm (fun p => (bk V p).toNat) 1114111
theorem bk_f {V : Nat → Nat → Int32} {p : Nat} : bk V p = false ↔ ∀ f, f < 8 → V p f = V (p + 1) f := by
  unfold bk
  rw [List.any_eq_false]
  constructor
  · intro h f hf
    have := h f (List.mem_range.mpr hf)
    simpa using this
  · intro h f hf
    rw [h f (List.mem_range.mp hf)]
    simp
theorem sm_ind (a : Nat) : ∀ n, sm (fun p => (p == a).toNat) n ≤ 1
  | 0 => Nat.zero_le _
  | n + 1 => by
    rw [sm_s]
    by_cases e : n = a
    · have h1 : sm (fun p => (p == a).toNat) n = 0 := sm_zero (fun i hi => by
        show (i == a).toNat = 0
        rw [beq_eq_false_iff_ne.mpr (by omega)]
        rfl)
      rcases bt_nat (n == a) with h | h <;> omega
    · have h1 := sm_ind a n
      rw [beq_eq_false_iff_ne.mpr e]
      simpa using h1
theorem sm_plus (f g : Nat → Nat) : ∀ n, sm (fun i => f i + g i) n = sm f n + sm g n
  | 0 => rfl
  | n + 1 => by
    rw [sm_s, sm_s, sm_s, sm_plus f g n]
    omega
theorem brk_chg {V : Nat → Nat → Int32} {fl a z : Nat} {v k : Int32} : brk (chg V fl v k a z) ≤ brk V + 2 := by
  unfold brk
  have h1 : sm (fun p => (bk (chg V fl v k a z) p).toNat) 1114111 ≤ sm (fun p => (bk V p).toNat + ((p == a - 1).toNat + (p == z - 1).toNat)) 1114111 := sm_le (fun p _ => by
    show (bk (chg V fl v k a z) p).toNat ≤ (bk V p).toNat + ((p == a - 1).toNat + (p == z - 1).toNat)
    by_cases e1 : p = a - 1
    · rw [e1, beq_self_eq_true]
      rcases bt_nat (bk (chg V fl v k a z) (a - 1)) with h | h <;> simp only [Bool.toNat_true] <;> omega
    · by_cases e2 : p = z - 1
      · rw [e2, beq_self_eq_true]
        rcases bt_nat (bk (chg V fl v k a z) (z - 1)) with h | h <;> simp only [Bool.toNat_true] <;> omega
      · cases hb : bk V p with
        | true => rcases bt_nat (bk (chg V fl v k a z) p) with h | h <;> simp only [Bool.toNat_true] <;> omega
        | false =>
          have hb' : bk (chg V fl v k a z) p = false := bk_f.mpr (fun f hf => by
            have h2 := bk_f.mp hb f hf
            unfold chg
            by_cases hin : a ≤ p ∧ p < z ∧ f = fl
            · rw [if_pos hin, if_pos (by omega), h2]
            · rw [if_neg hin, if_neg (by omega), h2])
          rw [hb']
          simp)
  have h2 := sm_plus (fun p => (bk V p).toNat) (fun p => (p == a - 1).toNat + (p == z - 1).toNat) 1114111
  have h3 := sm_plus (fun p => (p == a - 1).toNat) (fun p => (p == z - 1).toNat) 1114111
  have h4 := sm_ind (a - 1) 1114111
  have h5 := sm_ind (z - 1) 1114111
  omega
/-- every point lies in a cell with a record -/
theorem rec_ex {c : Nat → Int32} {lev st : Nat → Nat} {lv : Nat → Bool} (hT : TI c lev st lv) {p : Nat} (hp : p < 1114112) : ∃ i b q r, Cl lev st i b q ∧ q ≤ p ∧ p < q + 2 ^ b ∧ r < 1028 ∧ lv r = true ∧ c i = nI r := by
  have step : ∀ i b q, Cl lev st i b q → q ≤ p → p < q + 2 ^ b → (∃ r, r < 1028 ∧ lv r = true ∧ c i = nI r) ∨ (0 < b ∧ ∃ i' q', Cl lev st i' (b - 5) q' ∧ q' ≤ p ∧ p < q' + 2 ^ (b - 5)) := fun i b q hC p1 p2 => by
    rcases hT.1 i b q hC with h | ⟨j, hb, hj, hl, hs, hc⟩
    · exact Or.inl h
    · have hb5 : b = 10 ∨ b = 5 := by rcases Cl_b hC with h | h | h <;> omega
      have hk : (p - q) / 2 ^ (b - 5) < 32 := by rcases hb5 with rfl | rfl <;> omega
      exact Or.inr ⟨hb, _, _, row_cl hC hb hj hl hs hk, by rcases hb5 with rfl | rfl <;> omega, by rcases hb5 with rfl | rfl <;> omega⟩
  have h10 : Cl lev st (p / 1024) 10 (1024 * (p / 1024)) := Or.inl ⟨rfl, by omega, rfl⟩
  rcases step _ _ _ h10 (by omega) (by omega) with ⟨r, a1, a2, a3⟩ | ⟨-, i', q', b1, b2, b3⟩
  · exact ⟨_, _, _, r, h10, by omega, by omega, a1, a2, a3⟩
  · rcases step _ _ _ b1 b2 b3 with ⟨r, a1, a2, a3⟩ | ⟨-, i2, q2, c1, c2, c3⟩
    · exact ⟨_, _, _, r, b1, b2, b3, a1, a2, a3⟩
    · rcases step _ _ _ c1 c2 c3 with ⟨r, a1, a2, a3⟩ | ⟨h0, -⟩
      · exact ⟨_, _, _, r, c1, c2, c3, a1, a2, a3⟩
      · exact absurd h0 (by decide)
/-- the number of a point's record -/
def RecAt (c : Nat → Int32) (lev st : Nat → Nat) (p r : Nat) : Prop := ∃ i b q, Cl lev st i b q ∧ q ≤ p ∧ p < q + 2 ^ b ∧ r < 1028 ∧ c i = nI r
theorem RecAt_one {c : Nat → Int32} {lev st : Nat → Nat} {lv : Nat → Bool} (hT : TI c lev st lv) {p r r' : Nat} (h : RecAt c lev st p r) (h' : RecAt c lev st p r') : r = r' := by
  obtain ⟨i, b, q, a1, a2, a3, a4, a5⟩ := h
  obtain ⟨i', b', q', a1', a2', a3', a4', a5'⟩ := h'
  obtain ⟨rfl, -, -⟩ := Cl_one hT a1 a1' (by omega) (by omega) a5 a5' a2 a3 a2' a3'
  exact nI_inj (by omega) (by omega) (a5.symm.trans a5')
theorem room_le {σ : St} {lev st : Nat → Nat} {lv : Nat → Bool} {L : Nat → List Nat} {V : Nat → Nat → Int32} {n : Nat} (hB : BI σ lev st lv L V n) : sm (fun x => (lv x).toNat) 1028 ≤ 2 + brk V := by
  obtain ⟨hR, hT, hV, hS, hH, hZ⟩ := hB
  have hsp : ∀ p, p < 1114112 → RecAt (σ 11) lev st p (Classical.epsilon (fun r => RecAt (σ 11) lev st p r)) := fun p hp => by
    obtain ⟨i, b, q, r, a1, a2, a3, a4, -, a6⟩ := rec_ex hT hp
    exact Classical.epsilon_spec (p := fun r => RecAt (σ 11) lev st p r) ⟨r, i, b, q, a1, a2, a3, a4, a6⟩
  have h1 := sm_dist (fun p => Classical.epsilon (fun r => RecAt (σ 11) lev st p r)) 1028 1114111 (fun x => lv x && x != 0) (fun x hx hq => by
    rw [Bool.and_eq_true, bne_iff_ne] at hq
    obtain ⟨i, hi, hu, e⟩ := hN_at hq.2 (((hH x hx).2).mp hq.1)
    obtain ⟨b, q, hC⟩ := cl_us hT hi hu
    have h2 := Cl_al hT hC
    have hpos := p2_pos b
    refine ⟨q, by omega, ?_⟩
    exact RecAt_one hT (hsp q (by omega)) ⟨i, b, q, hC, Nat.le_refl _, by omega, hx, e⟩)
  have h2 : sm (fun p => ((fun p => Classical.epsilon (fun r => RecAt (σ 11) lev st p r)) p != (fun p => Classical.epsilon (fun r => RecAt (σ 11) lev st p r)) (p + 1)).toNat) 1114111 ≤ brk V := by
    unfold brk
    refine sm_le (fun p hp => ?_)
    cases hb : bk V p with
    | true => rcases bt_nat ((fun p => Classical.epsilon (fun r => RecAt (σ 11) lev st p r)) p != (fun p => Classical.epsilon (fun r => RecAt (σ 11) lev st p r)) (p + 1)) with h | h <;> rw [h] <;> simp
    | false =>
      have h3 := hsp p (by omega)
      have h4 := hsp (p + 1) (by omega)
      obtain ⟨i, b, q, a1, a2, a3, a4, a5⟩ := h3
      obtain ⟨i', b', q', a1', a2', a3', a4', a5'⟩ := h4
      have e := hR.2.2 _ _ a4 a4' (lv_at' hH (Cl_i a1) (us_cl a1) a4 a5) (lv_at' hH (Cl_i a1') (us_cl a1') a4' a5') (fun f hf => by
        rw [hV i b q _ a1 a4 a5 p a2 a3 f hf, hV i' b' q' _ a1' a4' a5' (p + 1) a2' a3' f hf]
        exact bk_f.mp hb f hf)
      show ((Classical.epsilon (fun r => RecAt (σ 11) lev st p r)) != Classical.epsilon (fun r => RecAt (σ 11) lev st (p + 1) r)).toNat ≤ _
      rw [← e]
      simp
  have h3 := sm_one (f := fun x => (lv x).toNat) (g := fun x => (lv x && x != 0).toNat) (k := 0) (n := 1028) (by decide) (fun x _ hne => by
    show (lv x).toNat = (lv x && x != 0).toNat
    rw [bne_iff_ne.mpr hne, Bool.and_true])
  have h4 : (lv 0 && (0 : Nat) != 0).toNat = 0 := by simp
  have h5 : (lv 0).toNat ≤ 1 := by rcases bt_nat (lv 0) with h | h <;> omega
  simp only [h4] at h3
  dsimp only at h2
  omega
theorem Bg_next {c : Nat → Int32} {lev st : Nat → Nat} {lv : Nat → Bool} (hT : TI c lev st lv) {i b q r : Nat} (hC : Cl lev st i b q) (hr : r < 1028) (er : c i = nI r) (h : q + 2 ^ b < 1114112) : Bg c lev st (q + 2 ^ b) := by
  have hpos := p2_pos b
  obtain ⟨i', b', q', r', a1, a2, a3, a4, -, a6⟩ := rec_ex hT h
  by_cases e : q' = q + 2 ^ b
  · subst e
    exact ⟨i', b', r', a1, a4, a6⟩
  · exfalso
    have h1 := Cl_one hT hC a1 (by omega) (by omega) er a6 (show q ≤ q + 2 ^ b - 1 by omega) (by omega) (by omega) (by omega)
    obtain ⟨-, rfl, rfl⟩ := h1
    omega
theorem Bg_at {c : Nat → Int32} {lev st : Nat → Nat} {lv : Nat → Bool} (hT : TI c lev st lv) {i b q r p : Nat} (hC : Cl lev st i b q) (hr : r < 1028) (er : c i = nI r) (h1 : q ≤ p) (h2 : p < q + 2 ^ b) (hg : Bg c lev st p) : q = p := by
  obtain ⟨i', b', r', a1, a2, a3⟩ := hg
  have hpos := p2_pos b'
  exact (Cl_one hT hC a1 (by omega) (by omega) er a3 h1 h2 (Nat.le_refl _) (by omega)).2.2
theorem chg_chg {V : Nat → Nat → Int32} {fl a x y : Nat} {v k : Int32} (h1 : a ≤ x) (h2 : x ≤ y) : chg (chg V fl v k a x) fl v k x y = chg V fl v k a y := by
  funext p f
  unfold chg
  by_cases e1 : x ≤ p ∧ p < y ∧ f = fl
  · rw [if_pos e1, if_neg (by omega), if_pos (by omega)]
  · rw [if_neg e1]
    by_cases e2 : a ≤ p ∧ p < x ∧ f = fl
    · rw [if_pos e2, if_pos (by omega)]
    · rw [if_neg e2, if_neg (by omega)]
theorem chg_none {V : Nat → Nat → Int32} {fl a : Nat} {v k : Int32} : chg V fl v k a a = V := by
  funext p f
  unfold chg
  rw [if_neg (by omega)]
theorem MI_congr {σ τ : St} {lev st : Nat → Nat} {fl z : Nat} (h0 : τ 0 = σ 0) (h5 : τ 5 = σ 5) (h9 : τ 9 = σ 9) (h10 : τ 10 = σ 10) (h11 : τ 11 = σ 11) (h : MI σ lev st fl z) : MI τ lev st fl z := by
  unfold MI nv at *
  rw [h0, h5, h9, h10, h11]
  exact h
theorem s_alterL67 {σ : St} {lev st : Nat → Nat} {lv : Nat → Bool} {L : Nat → List Nat} {V : Nat → Nat → Int32} {n z t0 : Nat} {Q : St → Prop} (hB : BI σ lev st lv L V n) (hz : z < 1114112) (ht0 : t0 ≤ z / 1024 + 1)
    (hQ : ∀ (τ : St) (lev' : Nat → Nat) (n' : Nat), n ≤ n' → BI τ lev' st lv L V n' → (∀ k, k ≠ 1 → k ≠ 11 → k ≠ 12 → k ≠ 13 → τ k = σ k) → Q τ) : F_Bl_alter_L67 (nI z) (nI t0) σ Q := by
  unfold F_Bl_alter_L67
  have hsh : nI z >>> ((10 : Int32) &&& 31) = nI (z / 1024) := pk_shrN (by omega) _ 10 (by decide)
  refine ⟨fun v4 τ => ∃ (lev' : Nat → Nat) (n' t : Nat), v4 = nI t ∧ t ≤ z / 1024 + 1 ∧ n ≤ n' ∧ BI τ lev' st lv L V n' ∧ ∀ x, x ≠ 1 → x ≠ 11 → x ≠ 12 → x ≠ 13 → τ x = σ x, fun v4 _ => 2000 - v4.toNatClampNeg, ⟨lev, n, t0, rfl, ht0, by omega, hB, fun _ _ _ _ _ => rfl⟩, ?_⟩
  intro v4 τ m hI hm
  dsimp only at hm ⊢
  obtain ⟨lev', n', t, rfl, ht, hn, hB', hfr⟩ := hI
  rw [cl (by omega)] at hm
  rw [hsh, nI_ltI (by omega) (by omega)]
  refine ⟨fun _ => hQ τ lev' n' hn hB' hfr, fun hc => ?_⟩
  refine s_joinBelow hB' (by omega) (fun ρ lev2 n2 a1 a2 a3 => ?_)
  intro z2 hz2
  rw [ar_1] at hz2
  refine ⟨⟨lev2, n2, t + 1, hz2, by omega, by omega, a2, fun x b1 b11 b12 b13 => by rw [a3 x b1 b11 b12 b13]; exact hfr x b1 b11 b12 b13⟩, ?_⟩
  rw [hz2, cl (by omega)]
  omega
theorem s_alterL29 {σ : St} {lev st : Nat → Nat} {lv : Nat → Bool} {L : Nat → List Nat} {V : Nat → Nat → Int32} {n a z fl : Nat} {Q : St → Prop} (hB : BI σ lev st lv L V n) (haz : a ≤ z) (hz : z < 1114112) (hfl : fl < 8) (efl : σ 8 0 = nI fl) (hout : ∀ i, i < 1028 → σ 5 i = -1) (hbr : brk V ≤ 1022)
    (hga : Bg (σ 11) lev st a) (hgz : z + 1 < 1114112 → Bg (σ 11) lev st (z + 1))
    (hQ : ∀ (τ : St) (lev' : Nat → Nat) (lv' : Nat → Bool) (L' : Nat → List Nat) (n' : Nat), n ≤ n' → BI τ lev' st lv' L' (chg V fl (σ 9 0) (σ 10 0) a (z + 1)) n' → (∀ k, 16 < k → τ k = σ k) → Q τ) : F_Bl_alter_L29 (nI a) (nI z) (nI a) σ Q := by
  unfold F_Bl_alter_L29
  have hsh : nI a >>> ((10 : Int32) &&& 31) = nI (a / 1024) := pk_shrN (by omega) _ 10 (by decide)
  refine ⟨fun v3 τ => ∃ (lv' : Nat → Bool) (L' : Nat → List Nat) (x : Nat), v3 = nI x ∧ a ≤ x ∧ x ≤ z + 1 ∧ BI τ lev st lv' L' (chg V fl (σ 9 0) (σ 10 0) a x) n ∧ MI τ lev st fl x ∧ (x ≤ z → Bg (τ 11) lev st x) ∧ (z + 1 < 1114112 → Bg (τ 11) lev st (z + 1)) ∧ τ 8 = σ 8 ∧ τ 9 = σ 9 ∧ τ 10 = σ 10 ∧ ∀ k, 16 < k → τ k = σ k,
    fun v3 _ => 1114200 - v3.toNatClampNeg, ⟨lv, L, a, rfl, Nat.le_refl _, by omega, by rw [chg_none]; exact hB, fun i b q x _ _ hx _ => Or.inl (hout x hx), fun _ => hga, hgz, rfl, rfl, rfl, fun _ _ => rfl⟩, ?_⟩
  intro v3 τ m hI hm
  dsimp only at hm ⊢
  obtain ⟨lv', L', x, rfl, hax, hxz, hB', hM, hgx, hgz', e8, e9, e10, hfr⟩ := hI
  rw [cl (by omega)] at hm
  rw [nI_ltI (by omega) (by omega)]
  refine ⟨fun hc => ?_, fun hc => ?_⟩
  · have : x = z + 1 := by omega
    subst this
    intro z3 hz3
    rw [hz3, hsh]
    refine s_alterL67 hB' hz (by omega) (fun ρ lev2 n2 a1 a2 a3 => ?_)
    exact hQ ρ lev2 lv' L' n2 a1 a2 (fun k hk => by rw [a3 k (by omega) (by omega) (by omega) (by omega)]; exact hfr k hk)
  · refine s_find hB'.2.1 (by omega) (fun σ4 i b q r hC q1 q2 hr hlr er hf4 g14 g15 g16 => ?_)
    have hq : q = x := Bg_at hB'.2.1 hC hr er q1 q2 (hgx (by omega))
    subst hq
    have hpos := p2_pos b
    have hal := (Cl_al hB'.2.1 hC).2
    have f4 : ∀ k, k < 14 → σ4 k = τ k := fun k hk => hf4 k (by omega) (by omega) (by omega)
    have hB4 : BI σ4 lev st lv' L' (chg V fl (σ 9 0) (σ 10 0) a q) n := BI_congr (fun k _ _ _ _ _ hk => f4 k hk) hB'
    have hM4 : MI σ4 lev st fl q := MI_congr (f4 0 (by decide)) (f4 5 (by decide)) (f4 9 (by decide)) (f4 10 (by decide)) (f4 11 (by decide)) hM
    have hroom : sm (fun y => (lv' y).toNat) 1028 < 1028 := by
      have h1 := room_le hB'
      have h2 := brk_chg (V := V) (fl := fl) (a := a) (z := q) (v := σ 9 0) (k := σ 10 0)
      omega
    rw [g14]
    refine s_replace hB4 hM4 hfl (by rw [f4 8 (by decide), e8]; exact efl) hroom hC hr (by rw [f4 11 (by decide)]; exact er) (fun σ5 lv5 L5 hB5 hM5 hg5 hf5 => ?_)
    rw [f4 9 (by decide), e9, f4 10 (by decide), e10, chg_chg hax (by omega)] at hB5
    intro z6 hz6
    have e16 : σ5 16 0 = nI (q + 2 ^ b - 1) := by rw [hf5 16 (by decide) (by decide)]; exact g16
    have ez : z6 = nI (q + 2 ^ b) := by
      rw [hz6, e16]
      by_cases hlt : nI q < nI (q + 2 ^ b - 1)
      · rw [if_pos hlt, ar_1]
        congr 1
        omega
      · rw [if_neg hlt, ar_1]
        rw [nI_ltI (by omega) (by omega)] at hlt
        congr 1
        omega
    have g11 : σ4 11 = τ 11 := f4 11 (by decide)
    have hle : q + 2 ^ b ≤ z + 1 := by
      by_cases hzl : z + 1 < 1114112
      · by_cases hgt : q + 2 ^ b ≤ z + 1
        · exact hgt
        · exfalso
          have := Bg_at hB'.2.1 hC hr er (show q ≤ z + 1 by omega) (by omega) (hgz' hzl)
          omega
      · omega
    refine ⟨⟨lv5, L5, q + 2 ^ b, ez, by omega, hle, hB5, hM5, fun hx => ?_, fun hzl => hg5 _ (by rw [g11]; exact hgz' hzl), by rw [hf5 8 (by decide) (by decide), f4 8 (by decide)]; exact e8, by rw [hf5 9 (by decide) (by decide), f4 9 (by decide)]; exact e9, by rw [hf5 10 (by decide) (by decide), f4 10 (by decide)]; exact e10, fun k hk => by rw [hf5 k (by omega) (by omega), hf4 k (by omega) (by omega) (by omega)]; exact hfr k hk⟩, ?_⟩
    · refine hg5 _ ?_
      rw [g11]
      exact Bg_next hB'.2.1 hC hr er (by omega)
    · rw [ez, cl (by omega)]
      omega
theorem s_alter {σ : St} {lev st : Nat → Nat} {lv : Nat → Bool} {L : Nat → List Nat} {V : Nat → Nat → Int32} {n a z fl : Nat} {Q : St → Prop} (hB : BI σ lev st lv L V n) (hn : 4 ≤ n) (haz : a ≤ z) (hz : z < 1114112) (hfl : fl < 8) (efl : σ 8 0 = nI fl) (hout : ∀ i, i < 1028 → σ 5 i = -1) (hbr : brk V ≤ 1022)
    (hQ : ∀ (τ : St) (lev' st' : Nat → Nat) (lv' : Nat → Bool) (L' : Nat → List Nat) (n' : Nat), n ≤ n' + 4 → BI τ lev' st' lv' L' (chg V fl (σ 9 0) (σ 10 0) a (z + 1)) n' → (∀ k, 16 < k → τ k = σ k) → Q τ) : F_Bl_alter (nI a) (nI z) σ Q := by
  have e13 : σ 13 0 = nI n := hB.2.2.2.1.2.1
  have hn8 : n ≤ 2048 := hB.2.2.2.1.1
  unfold F_Bl_alter
  rw [e13, show (4 : Int32) = nI 4 from rfl, nI_leI (by omega) (by omega), show (1114111 : Int32) = nI 1114111 from rfl, nI_leI (by omega) (by omega)]
  refine ⟨fun _ => ?_, fun h => absurd hn h⟩
  refine s_splitBefore hB (by omega) (by omega) (fun σ7 lev7 st7 n7 h1 h2 hB7 hg7 _ hf7 => ?_)
  have k7 : ∀ k, k ≠ 1 → k ≠ 11 → k < 13 → σ7 k = σ k := fun k a1 a11 hk => hf7 k a1 a11 (by omega) (by omega) (by omega) (by omega)
  refine ⟨fun hc => ?_, fun hc => ?_⟩
  · refine s_alterL29 hB7 haz hz hfl (by rw [k7 8 (by decide) (by decide) (by decide)]; exact efl) (by rw [k7 5 (by decide) (by decide) (by decide)]; exact hout) hbr hg7 (fun h => by omega) (fun τ lev' lv' L' n' a1 a2 a3 => ?_)
    rw [k7 9 (by decide) (by decide) (by decide), k7 10 (by decide) (by decide) (by decide)] at a2
    exact hQ τ lev' st7 lv' L' n' (by omega) a2 (fun k hk => by rw [a3 k hk]; exact hf7 k (by omega) (by omega) (by omega) (by omega) (by omega) (by omega))
  · rw [ar_1]
    refine s_splitBefore hB7 (by omega) (by omega) (fun σ8 lev8 st8 n8 h3 h4 hB8 hg8 hb8 hf8 => ?_)
    have k8 : ∀ k, k ≠ 1 → k ≠ 11 → k < 13 → σ8 k = σ k := fun k a1 a11 hk => by rw [hf8 k a1 a11 (by omega) (by omega) (by omega) (by omega)]; exact k7 k a1 a11 hk
    refine s_alterL29 hB8 haz hz hfl (by rw [k8 8 (by decide) (by decide) (by decide)]; exact efl) (by rw [k8 5 (by decide) (by decide) (by decide)]; exact hout) hbr (hb8 _ hg7) (fun _ => hg8) (fun τ lev' lv' L' n' a1 a2 a3 => ?_)
    rw [k8 9 (by decide) (by decide) (by decide), k8 10 (by decide) (by decide) (by decide)] at a2
    exact hQ τ lev' st8 lv' L' n' (by omega) a2 (fun k hk => by rw [a3 k hk, hf8 k (by omega) (by omega) (by omega) (by omega) (by omega) (by omega)]; exact hf7 k (by omega) (by omega) (by omega) (by omega) (by omega) (by omega))
end
section
abbrev L00 : Nat → List Nat := fun d => if d = chN (fun _ => 0) 0 then [0] else []
theorem hN_0 {c : Nat → Int32} (h : ∀ i, i < 1088 → c i = nI 0) (r : Nat) (hr : r < 1028) : hN c (fun _ => 0) r = if r = 0 then 1089 else 0 := by
  have hu : ∀ i, us (fun _ => 0) i = decide (i < 1088) := fun i => by
    unfold us
    simp
  unfold hN
  by_cases e : r = 0
  · subst e
    have h1 := sm_blk (g := fun _ => 0) (n := 66624) (b := 0) (c := 1) 1088 (fun i => (us (fun _ => 0) i && c i == nI 0).toNat) (by omega) (fun i _ a2 => by
      show (us (fun _ => 0) i && c i == nI 0).toNat = 0 + 1
      rw [hu i, decide_eq_true (show i < 1088 by omega), h i (by omega)]
      simp) (fun i _ a2 => by
      show (us (fun _ => 0) i && c i == nI 0).toNat = 0
      rw [hu i, decide_eq_false (show ¬ i < 1088 by omega)]
      rfl)
    have h2 : sm (fun _ => 0) 66624 = 0 := sm_zero (fun _ _ => rfl)
    rw [if_pos rfl, h1, h2]
    rfl
  · rw [if_neg e]
    have h1 : sm (fun i => (us (fun _ => 0) i && c i == nI r).toNat) 66624 = 0 := sm_zero (fun i _ => by
      show (us (fun _ => 0) i && c i == nI r).toNat = 0
      by_cases a : i < 1088
      · rw [h i a, nI_beq (by omega) (by omega), beq_eq_false_iff_ne.mpr (fun q => e q.symm), Bool.and_false]
        rfl
      · rw [hu i, decide_eq_false a]
        rfl)
    rw [h1, beq_eq_false_iff_ne.mpr e]
    rfl
theorem s_Bempty {σ : St} {Q : St → Prop} (hQ : ∀ τ : St, BI τ (fun _ => 0) (fun _ => 0) (fun x => x == 0) L00 (fun _ _ => 0) 2048 → (∀ k, 16 < k → τ k = σ k) → Q τ) : F_Bl_empty σ Q := by
  unfold F_Bl_empty
  refine s_Rempty (fun σ1 hR1 h11 h01 hf1 => ?_)
  refine s_fill4 (b := 0) (e := 1088) (by omega) (by omega) (fun σ2 hf2 hc2 => ?_)
  refine s_hold (r := 0) (by omega) ?_
  intro z1 hz1
  unfold F_Bl_empty_L32
  refine ⟨fun v1 τ => (∀ j, j ≠ 12 → τ j = sA σ2 1 (upd (σ2 1) 0 (σ2 1 0 + 1088)) j) ∧ ∃ k, k ≤ 2048 ∧ v1 = nI k ∧ ∀ q, q < k → τ 12 q = nI (Rw q), fun v1 _ => 2048 - v1.toNatClampNeg, ⟨fun _ _ => rfl, 0, by omega, hz1, fun q hq => absurd hq (Nat.not_lt_zero _)⟩, ?_⟩
  intro v1 τ n hI hm
  dsimp only at hm ⊢
  obtain ⟨hfr, k, hk, rfl, hall⟩ := hI
  rw [cl (by omega)] at hm
  have e8 : (2048 : Int32) = nI 2048 := rfl
  refine ⟨fun hc1 => ?_, fun hc1 => ?_⟩
  · rw [e8, nI_leI (by omega) (by omega)] at hc1
    have hk8 : k = 2048 := by omega
    subst hk8
    intro σ4 h4
    have g : ∀ j, j ≠ 1 → j ≠ 12 → j ≠ 13 → σ4 j = σ2 j := fun j b1 b12 b13 => by rw [h4, sA_n b13, hfr j b12, sA_n b1]
    have g11 : ∀ i, i < 1088 → σ4 11 i = nI 0 := fun i hi => by
      rw [g 11 (by decide) (by decide) (by decide), hc2 i, if_pos (by omega)]
      rfl
    have g0 : ∀ f, f < 8 → σ4 0 f = 0 := fun f hf => by
      rw [g 0 (by decide) (by decide) (by decide), hf2 0 (by decide)]
      exact h01 f hf
    have g1 : ∀ r, r < 1028 → σ4 1 r = if r = 0 then nI 1089 else nI 0 := fun r hr => by
      rw [h4, sA_n (by decide), hfr 1 (by decide), sA_s, hf2 1 (by decide)]
      unfold upd
      by_cases e : r = 0
      · rw [if_pos e, if_pos e, h11 0 (by omega), if_pos rfl]
        rfl
      · rw [if_neg e, if_neg e, h11 r hr, if_neg e]
        rfl
    have g12 : ∀ q, q < 2048 → σ4 12 q = nI (Rw q) := fun q hq => by
      rw [h4, sA_n (by decide)]
      exact hall q hq
    have hcl : ∀ i b p, Cl (fun _ => 0) (fun _ => 0) i b p → i < 1088 := fun i b p h => by
      rcases h with ⟨-, h, -⟩ | ⟨-, j, k, -, -, h, -⟩ | ⟨-, j, k, -, -, h, -⟩
      · exact h
      · exact absurd h (show ¬ (0 = 1) by decide)
      · exact absurd h (show ¬ (0 = 2) by decide)
    refine hQ σ4 ⟨?_, ⟨fun i b p h => Or.inl ⟨0, by omega, rfl, g11 i (hcl i b p h)⟩, fun j _ h => absurd rfl h⟩, ?_, ⟨by omega, ?_, ?_, fun q hq => ⟨q, hq, g12 q hq, rfl⟩, fun i j hi hj hij => ?_⟩, fun r hr => ?_, g0⟩ (fun j hj => ?_)
    · have o : ∀ j, j ≠ 1 → j ≠ 11 → j ≠ 12 → j ≠ 13 → σ4 j = σ1 j := fun j b1 b11 b12 b13 => by rw [g j b1 b12 b13, hf2 j b11]
      exact RI_congr (o 0 (by decide) (by decide) (by decide) (by decide)) (o 2 (by decide) (by decide) (by decide) (by decide)) (o 3 (by decide) (by decide) (by decide) (by decide)) (o 4 (by decide) (by decide) (by decide) (by decide)) (o 7 (by decide) (by decide) (by decide) (by decide)) hR1
    · intro i b q r hC hr er p _ _ f hf
      have h1 := g11 i (hcl i b q hC)
      have : r = 0 := nI_inj (by omega) (by omega) (er.symm.trans h1)
      subst this
      rw [Nat.mul_zero, Nat.zero_add]
      exact g0 f hf
    · rw [h4, sA_s]
      rfl
    · have hz : sm (fun j => ((fun _ : Nat => 0) j != 0).toNat) 2048 = 0 := sm_zero (fun _ _ => rfl)
      rw [hz]
    · rw [g12 i hi, g12 j hj] at hij
      have := nI_inj (by unfold Rw; omega) (by unfold Rw; omega) hij
      unfold Rw at this
      omega
    · rw [g1 r hr, hN_0 g11 r hr]
      by_cases e : r = 0
      · rw [if_pos e, if_pos e]
        refine ⟨rfl, ?_⟩
        simp [e]
      · rw [if_neg e, if_neg e]
        refine ⟨rfl, ?_⟩
        simp [e]
    · rw [g j (by omega) (by omega) (by omega), hf2 j (by omega), hf1 j (by omega) (by omega) (by omega) (by omega) (by omega) (by omega) (by omega)]
  · rw [e8, nI_leI (by omega) (by omega)] at hc1
    refine ⟨vp_in_nI (by omega) (by decide), ?_⟩
    intro σ8 h8 z9 hz9
    rw [cl (by omega), show (1088 : Int32) = nI 1088 from rfl, show (32 : Int32) = nI 32 from rfl, pk_mul, nI_add] at h8
    rw [ar_1] at hz9
    refine ⟨⟨fun j b => by rw [h8, sA_n b]; exact hfr j b, k + 1, by omega, hz9, fun q hq => ?_⟩, ?_⟩
    · rw [h8, sA_s]
      unfold upd
      by_cases e : q = k
      · rw [if_pos e, e]
        unfold Rw
        rw [Nat.mul_comm]
      · rw [if_neg e]
        exact hall q (by omega)
    · rw [hz9, cl (by omega)]
      omega
/-- what a reading leaves -/
abbrev sm3 (τ σ : St) : Prop := ∀ j, j ≠ 14 → j ≠ 15 → j ≠ 16 → τ j = σ j
theorem BI_sm3 {σ τ : St} {lev st : Nat → Nat} {lv : Nat → Bool} {L : Nat → List Nat} {V : Nat → Nat → Int32} {n : Nat} (h : sm3 τ σ) (hB : BI σ lev st lv L V n) : BI τ lev st lv L V n := BI_congr (fun j _ _ _ _ _ hj => h j (by omega) (by omega) (by omega)) hB
theorem s_valueAt {σ : St} {lev st : Nat → Nat} {lv : Nat → Bool} {L : Nat → List Nat} {V : Nat → Nat → Int32} {n p f : Nat} {Q : Int32 → St → Prop} (hB : BI σ lev st lv L V n) (hp : p < 1114112) (hf : f < 8)
    (hQ : ∀ (τ : St) (z : Nat), sm3 τ σ → p ≤ z → z < 1114112 → τ 16 0 = nI z → (∀ x, p ≤ x → x ≤ z → V x f = V p f) → Q (V p f) τ) : F_Pt_valueAt (nI p) (nI f) σ Q := by
  unfold F_Pt_valueAt
  refine s_recordOf hB.2.1 hp (fun τ i b q r hC q1 q2 hr hlr er hfr e14 e15 e16 => ?_)
  have hal := (Cl_al hB.2.1 hC).2
  have hv : ∀ x, q ≤ x → x < q + 2 ^ b → σ 0 (8 * r + f) = V x f := fun x h1 h2 => hB.2.2.1 i b q r hC hr er x h1 h2 f hf
  refine s_value hr hf ?_
  rw [hfr 0 (by decide) (by decide) (by decide), hv p q1 q2]
  refine hQ τ (q + 2 ^ b - 1) hfr (by omega) (by omega) e16 (fun x h1 h2 => ?_)
  rw [← hv x (by omega) (by omega), hv p q1 q2]
theorem s_ckPoint {σ : St} {Q : St → Prop} {p : Nat} (hp : p < 1114112) (hQ : Q σ) : F_Pt_checkPoint (nI p) σ Q := by
  unfold F_Pt_checkPoint
  exact ⟨fun h => nI_pos (by omega) h, fun _ => ⟨fun _ => hQ, fun h => h ((nI_leI (b := 1114111) (by omega) (by omega)).mpr (by omega))⟩⟩
theorem s_ckField {σ : St} {Q : St → Prop} {f : Nat} (hf : f < 8) (hQ : Q σ) : F_Pt_checkField (nI f) σ Q := by
  unfold F_Pt_checkField
  exact ⟨fun h => nI_pos (by omega) h, fun _ => ⟨fun _ => hQ, fun h => h ((nI_ltI (b := 8) (by omega) (by omega)).mpr (by omega))⟩⟩
theorem s_ckRange {σ : St} {Q : St → Prop} {a z : Nat} (haz : a ≤ z) (hz : z < 1114112) (hQ : Q σ) : F_Pt_checkRange (nI a) (nI z) σ Q := by
  unfold F_Pt_checkRange
  exact ⟨fun h => nI_pos (by omega) h, fun _ => ⟨fun h => absurd ((nI_ltI (by omega) (by omega)).mp h) (by omega), fun _ => ⟨fun _ => hQ, fun h => h ((nI_leI (b := 1114111) (by omega) (by omega)).mpr (by omega))⟩⟩⟩
theorem s_ckLength {σ : St} {Q : St → Prop} {k : Nat} (hk : k ≤ 4000) (hQ : Q σ) : F_Pt_checkLength (nI k) σ Q := by
  unfold F_Pt_checkLength
  exact ⟨fun _ => hQ, fun h => h ((nI_leI (b := 4000) (by omega) (by omega)).mpr hk)⟩
theorem s_Tget {σ : St} {lev st : Nat → Nat} {lv : Nat → Bool} {L : Nat → List Nat} {V : Nat → Nat → Int32} {n p f : Nat} {Q : Int32 → St → Prop} (hB : BI σ lev st lv L V n) (hp : p < 1114112) (hf : f < 8)
    (hQ : ∀ τ : St, sm3 τ σ → Q (V p f) τ) : F_Pt_get (nI p) (nI f) σ Q := by
  unfold F_Pt_get
  refine s_ckPoint hp ?_
  refine s_ckField hf ?_
  exact s_valueAt hB hp hf (fun τ z h _ _ _ _ => hQ τ h)
/-- what change answers -/
def ChR (V : Nat → Nat → Int32) (p f : Nat) (x : Int32) : Prop := (∃ r, p < r ∧ r < 1114112 ∧ V r f ≠ V p f ∧ (∀ y, p ≤ y → y < r → V y f = V p f) ∧ x = nI r) ∨ (x = -1 ∧ ∀ y, p ≤ y → y < 1114112 → V y f = V p f)
theorem ChR_one {V : Nat → Nat → Int32} {p f : Nat} {x y : Int32} (hx : ChR V p f x) (hy : ChR V p f y) : x = y := by
  rcases hx with ⟨r, a1, a2, a3, a4, a5⟩ | ⟨a1, a2⟩
  · rcases hy with ⟨r', b1, b2, b3, b4, b5⟩ | ⟨b1, b2⟩
    · rcases Nat.lt_trichotomy r r' with h | h | h
      · exact absurd (b4 r (by omega) h) a3
      · rw [a5, b5, h]
      · exact absurd (a4 r' (by omega) h) b3
    · exact absurd (b2 r (by omega) a2) a3
  · rcases hy with ⟨r', b1, b2, b3, b4, b5⟩ | ⟨b1, b2⟩
    · exact absurd (a2 r' (by omega) b2) b3
    · rw [a1, b1]
theorem mx_nI {a b : Nat} (h : a ≤ b) (hb : b < 2 ^ 31) : (if nI a < nI b then nI b else nI a) = nI b := by
  by_cases e : nI a < nI b
  · rw [if_pos e]
  · rw [if_neg e]
    rw [nI_ltI (by omega) (by omega)] at e
    rw [show a = b by omega]
theorem s_Tchange {σ : St} {lev st : Nat → Nat} {lv : Nat → Bool} {L : Nat → List Nat} {V : Nat → Nat → Int32} {n p f : Nat} {Q : Int32 → St → Prop} (hB : BI σ lev st lv L V n) (hp : p < 1114112) (hf : f < 8)
    (hQ : ∀ (x : Int32) (τ : St), sm3 τ σ → ChR V p f x → Q x τ) : F_Pt_change (nI p) (nI f) σ Q := by
  unfold F_Pt_change
  refine s_ckPoint hp ?_
  refine s_ckField hf ?_
  refine s_valueAt hB hp hf (fun τ0 z0 h0 _ _ _ _ => ?_)
  unfold F_Pt_change_L18
  refine ⟨fun v4 τ => sm3 τ σ ∧ ∃ x, v4 = nI x ∧ p ≤ x ∧ x ≤ 1114112 ∧ ∀ y, p ≤ y → y < x → V y f = V p f, fun v4 _ => 1114200 - v4.toNatClampNeg, ⟨h0, p, rfl, Nat.le_refl _, by omega, fun y h1 h2 => absurd h1 (by omega)⟩, ?_⟩
  intro v4 τ m hI hm
  dsimp only at hm ⊢
  obtain ⟨hs, x, rfl, hpx, hx, hall⟩ := hI
  rw [cl (by omega)] at hm
  rw [show (1114111 : Int32) = nI 1114111 from rfl, nI_ltI (by omega) (by omega)]
  refine ⟨fun hc => hQ _ _ hs (Or.inr ⟨rfl, fun y h1 h2 => hall y h1 (by omega)⟩), fun hc => ?_⟩
  refine s_valueAt (BI_sm3 hs hB) (by omega) hf (fun τ1 z h1 hz hz2 e16 hv => ?_)
  have hs1 : sm3 τ1 σ := fun j a b c => by rw [h1 j a b c]; exact hs j a b c
  refine ⟨fun he => ?_, fun he => ?_⟩
  · intro z2 hz3
    rw [e16, mx_nI hz (by omega), ar_1] at hz3
    refine ⟨⟨hs1, z + 1, hz3, by omega, by omega, fun y b1 b2 => ?_⟩, ?_⟩
    · by_cases hy : y < x
      · exact hall y b1 hy
      · rw [hv y (by omega) (by omega)]; exact he
    · rw [hz3, cl (by omega)]
      omega
  · refine hQ _ _ hs1 (Or.inl ⟨x, ?_, by omega, he, hall, rfl⟩)
    by_cases e : x = p
    · rw [e] at he; exact absurd rfl he
    · omega
theorem lv_0 {σ : St} {lev : Nat → Nat} {lv : Nat → Bool} (hH : HI σ lev lv) : lv 0 = true := by
  refine ((hH 0 (by omega)).2).mpr ?_
  unfold hN
  simp
theorem s_Talike {σ : St} {lev st : Nat → Nat} {lv : Nat → Bool} {L : Nat → List Nat} {V : Nat → Nat → Int32} {n p q : Nat} {Q : Int32 → St → Prop} (hB : BI σ lev st lv L V n) (hp : p < 1114112) (hq : q < 1114112)
    (h1 : ∀ τ : St, sm3 τ σ → (∀ f, f < 8 → V p f = V q f) → Q 1 τ) (h0 : ∀ τ : St, sm3 τ σ → (¬ ∀ f, f < 8 → V p f = V q f) → Q 0 τ) : F_Pt_alike (nI p) (nI q) σ Q := by
  unfold F_Pt_alike
  refine s_ckPoint hp ?_
  refine s_ckPoint hq ?_
  refine s_recordOf hB.2.1 hp (fun τ i b x r hC x1 x2 hr hlr er hfr e14 e15 e16 => ?_)
  have hB2 : BI τ lev st lv L V n := BI_sm3 hfr hB
  refine s_recordOf hB2.2.1 hq (fun τ2 i2 b2 y r2 hC2 y1 y2 hr2 hlr2 er2 hfr2 e142 e152 e162 => ?_)
  rw [hfr 11 (by decide) (by decide) (by decide)] at er2
  have hs : sm3 τ2 σ := fun j a b c => by rw [hfr2 j a b c]; exact hfr j a b c
  have v1 : ∀ f, f < 8 → σ 0 (8 * r + f) = V p f := fun f hf => hB.2.2.1 i b x r hC hr er p x1 x2 f hf
  have v2 : ∀ f, f < 8 → σ 0 (8 * r2 + f) = V q f := fun f hf => hB.2.2.1 i2 b2 y r2 hC2 hr2 er2 q y1 y2 f hf
  refine ⟨fun he => h1 τ2 hs (fun f hf => ?_), fun he => h0 τ2 hs (fun hall => he ?_)⟩
  · have : r = r2 := nI_inj (by omega) (by omega) he
    rw [← v1 f hf, ← v2 f hf, this]
  · rw [hB.1.2.2 r r2 hr hr2 hlr hlr2 (fun f hf => by rw [v1 f hf, v2 f hf]; exact hall f hf)]
/-- the hash of k points -/
def hsh (V : Nat → Nat → Int32) (f a : Nat) : Nat → Int32
  | 0 => 1
  | k + 1 => (31 : Int32) * hsh V f a k + V (a + k) f
theorem s_Thash {σ : St} {lev st : Nat → Nat} {lv : Nat → Bool} {L : Nat → List Nat} {V : Nat → Nat → Int32} {n a z f : Nat} {Q : Int32 → St → Prop} (hB : BI σ lev st lv L V n) (haz : a ≤ z) (hz : z < 1114112) (hlen : z - a + 1 ≤ 4000) (hf : f < 8)
    (hQ : ∀ τ : St, sm3 τ σ → Q (hsh V f a (z - a + 1)) τ) : F_Pt_hash (nI a) (nI z) (nI f) σ Q := by
  unfold F_Pt_hash
  refine s_ckRange haz hz ?_
  rw [pk_sub haz, ar_1]
  refine s_ckLength hlen ?_
  refine s_ckField hf ?_
  intro z1 hz1 z2 hz2 z3 hz3
  unfold F_Pt_hash_L29
  refine ⟨fun v4 v5 v6 v7 τ => sm3 τ σ ∧ ∃ k, v7 = nI (a + k) ∧ a + k ≤ z + 1 ∧ v4 = hsh V f a k ∧ (v6 = -1 ∨ ∃ w, v6 = nI w ∧ w < 1114112 ∧ ∀ x, a + k ≤ x → x ≤ w → V x f = v5), fun _ _ _ v7 _ => 1114200 - v7.toNatClampNeg, ⟨fun _ _ _ _ => rfl, 0, rfl, by omega, hz1, Or.inl hz3⟩, ?_⟩
  intro v4 v5 v6 v7 τ m hI hm
  dsimp only at hm ⊢
  obtain ⟨hs, k, rfl, hk, rfl, hw⟩ := hI
  rw [cl (by omega)] at hm
  rw [nI_ltI (by omega) (by omega)]
  refine ⟨fun hc => ?_, fun hc => ?_⟩
  · have : k = z - a + 1 := by omega
    subst this
    exact hQ τ hs
  · have hJ : ∀ (τ1 : St) (w : Nat) (v : Int32), sm3 τ1 σ → a + k ≤ w → w < 1114112 → (∀ x, a + k ≤ x → x ≤ w → V x f = v) →
        (sm3 τ1 σ ∧ ∃ j, nI (a + k + 1) = nI (a + j) ∧ a + j ≤ z + 1 ∧ (31 : Int32) * hsh V f a k + v = hsh V f a j ∧ (nI w = -1 ∨ ∃ w', nI w = nI w' ∧ w' < 1114112 ∧ ∀ x, a + j ≤ x → x ≤ w' → V x f = v)) := fun τ1 w v hs1 h1 h2 h3 =>
      ⟨hs1, k + 1, by rw [Nat.add_assoc], by omega, by
        show _ = (31 : Int32) * hsh V f a k + V (a + k) f
        rw [h3 (a + k) (Nat.le_refl _) h1], Or.inr ⟨w, rfl, h2, fun x b1 b2 => h3 x (by omega) b2⟩⟩
    refine ⟨fun hc2 => ?_, fun hc2 => ?_⟩
    · rcases hw with hw | ⟨w, rfl, hw1, hw2⟩
      · exfalso
        rw [hw] at hc2
        have h3 : (nI (a + k)).toInt ≤ (-1 : Int32).toInt := Int32.le_iff_toInt_le.mp hc2
        rw [nI_toInt (by omega), show ((-1 : Int32)).toInt = -1 by decide] at h3
        omega
      · rw [nI_leI (by omega) (by omega)] at hc2
        unfold F_Pt_hash_J60
        intro z4 hz4 z5 hz5
        rw [ar_1] at hz5
        subst hz4
        subst hz5
        refine ⟨hJ τ w v5 hs hc2 hw1 hw2, ?_⟩
        rw [cl (by omega)]
        omega
    · refine s_valueAt (BI_sm3 hs hB) (by omega) hf (fun τ1 w h1 hz1' hz2' e16 hv => ?_)
      intro z6 hz6
      rw [e16] at hz6
      subst hz6
      have hs1 : sm3 τ1 σ := fun j a b c => by rw [h1 j a b c]; exact hs j a b c
      unfold F_Pt_hash_J60
      intro z4 hz4 z5 hz5
      rw [ar_1] at hz5
      subst hz4
      subst hz5
      refine ⟨hJ τ1 w (V (a + k) f) hs1 hz1' hz2' (fun x b1 b2 => hv x b1 b2), ?_⟩
      rw [cl (by omega)]
      omega
/-- some field of the point isn't 0 -/
def nz (V : Nat → Nat → Int32) (p : Nat) : Bool := (List.range 8).any (fun f => V p f != 0)
theorem nz_f {V : Nat → Nat → Int32} {p : Nat} : nz V p = false ↔ ∀ f, f < 8 → V p f = 0 := by
  unfold nz
  rw [List.any_eq_false]
  constructor
  · intro h f hf
    have := h f (List.mem_range.mpr hf)
    simpa using this
  · intro h f hf
    rw [h f (List.mem_range.mp hf)]
    simp
def cnt (V : Nat → Nat → Int32) (k : Nat) : Nat := sm (fun p => (nz V p).toNat) k
theorem cnt_le (V : Nat → Nat → Int32) (k : Nat) : cnt V k ≤ k := by
  have h := sm_le (f := fun p => (nz V p).toNat) (g := fun _ => 1) (n := k) (fun i _ => by
    show (nz V i).toNat ≤ 1
    rcases bt_nat (nz V i) with h | h <;> omega)
  have h2 := sm_const (f := fun _ => 1) (c := 1) (n := k) (fun _ _ => rfl)
  unfold cnt
  omega
theorem cnt_run {V : Nat → Nat → Int32} {b : Bool} {x : Nat} : ∀ (d : Nat), (∀ y, x ≤ y → y < x + d → nz V y = b) → cnt V (x + d) = cnt V x + d * b.toNat
  | 0, _ => by rw [Nat.zero_mul]; rfl
  | d + 1, h => by
    have h1 := cnt_run (V := V) (b := b) (x := x) d (fun y a1 a2 => h y a1 (by omega))
    have h2 : cnt V (x + (d + 1)) = cnt V (x + d) + (nz V (x + d)).toNat := rfl
    rw [h2, h1, h (x + d) (by omega) (by omega), Nat.succ_mul]
    omega
theorem s_Tclear {σ : St} {lev st : Nat → Nat} {lv : Nat → Bool} {L : Nat → List Nat} {V : Nat → Nat → Int32} {n : Nat} {Q : Int32 → St → Prop} (hB : BI σ lev st lv L V n)
    (hQ : ∀ τ : St, BI τ (fun _ => 0) (fun _ => 0) (fun x => x == 0) L00 (fun _ _ => 0) 2048 → (∀ k, 16 < k → τ k = σ k) → Q (nI (cnt V 1024)) τ) : F_Pt_clear σ Q := by
  unfold F_Pt_clear
  intro z1 hz1 z2 hz2
  unfold F_Pt_clear_L4
  refine ⟨fun v1 v2 τ => sm3 τ σ ∧ ∃ x, v2 = nI x ∧ x ≤ 1024 ∧ v1 = nI (cnt V x), fun _ v2 _ => 1024 - v2.toNatClampNeg, ⟨fun _ _ _ _ => rfl, 0, hz2, by omega, hz1⟩, ?_⟩
  intro v1 v2 τ m hI hm
  dsimp only at hm ⊢
  obtain ⟨hs, x, rfl, hx, rfl⟩ := hI
  rw [cl (by omega)] at hm
  rw [show (1024 : Int32) = nI 1024 from rfl, nI_leI (by omega) (by omega)]
  refine ⟨fun hc => ?_, fun hc => ?_⟩
  · have : x = 1024 := by omega
    subst this
    exact s_Bempty (fun τ1 h1 h2 => hQ τ1 h1 (fun k hk => by rw [h2 k hk]; exact hs k (by omega) (by omega) (by omega)))
  · have hB1 := BI_sm3 hs hB
    refine s_recordOf hB1.2.1 (by omega) (fun τ1 i b q r hC q1 q2 hr hlr er hfr e14 e15 e16 => ?_)
    have hs1 : sm3 τ1 σ := fun j a b c => by rw [hfr j a b c]; exact hs j a b c
    have hal := Cl_al hB1.2.1 hC
    have hq4 : q + 2 ^ b ≤ 1024 := by rcases Cl_b hC with rfl | rfl | rfl <;> omega
    have hpos := p2_pos b
    have hv : ∀ y, q ≤ y → y < q + 2 ^ b → ∀ f, f < 8 → τ 0 (8 * r + f) = V y f := fun y a1 a2 f hf => hB1.2.2.1 i b q r hC hr er y a1 a2 f hf
    have hnz : ∀ y, x ≤ y → y < q + 2 ^ b → nz V y = !(r == 0) := fun y a1 a2 => by
      by_cases e : r = 0
      · subst e
        show nz V y = false
        refine nz_f.mpr (fun f hf => ?_)
        rw [← hv y (by omega) a2 f hf, Nat.mul_zero, Nat.zero_add]
        exact hB1.2.2.2.2.2 f hf
      · rw [beq_eq_false_iff_ne.mpr e]
        show nz V y = true
        cases hn : nz V y with
        | true => rfl
        | false =>
          exfalso
          refine e (hB1.1.2.2 r 0 hr (by omega) hlr (lv_0 hB1.2.2.2.2.1) (fun f hf => ?_))
          rw [hv y (by omega) a2 f hf, nz_f.mp hn f hf, Nat.mul_zero, Nat.zero_add]
          exact (hB1.2.2.2.2.2 f hf).symm
    have hnx : ∀ z4 : Int32, z4 = (if nI x < τ1 16 0 then τ1 16 0 else nI x) + 1 → z4 = nI (q + 2 ^ b) := fun z4 h4 => by
      rw [h4, e16, mx_nI (by omega) (by omega), ar_1]
      congr 1
      omega
    have hcn := cnt_run (V := V) (b := !(r == 0)) (x := x) (q + 2 ^ b - x) (fun y a1 a2 => hnz y a1 (by omega))
    rw [show x + (q + 2 ^ b - x) = q + 2 ^ b by omega] at hcn
    have hcl := cnt_le V x
    refine ⟨fun he => ?_, fun he => ?_⟩
    · have hr0 : r = 0 := nI_inj (b := 0) (by omega) (by omega) he
      subst hr0
      intro z3 hz3 z4 hz4
      have h4 := hnx z4 hz4
      refine ⟨fun h => absurd (hz3.symm.trans h) (by decide), fun _ => ⟨⟨hs1, q + 2 ^ b, h4, hq4, ?_⟩, ?_⟩⟩
      · rw [hcn]
        simp
      · rw [h4, cl (by omega)]
        omega
    · have hr0 : r ≠ 0 := fun q => he (by rw [q]; rfl)
      intro z3 hz3 z4 hz4
      have h4 := hnx z4 hz4
      refine ⟨fun _ => ?_, fun h => absurd hz3 h⟩
      intro z5 hz5
      rw [h4, pk_sub (by omega), nI_add] at hz5
      refine ⟨⟨hs1, q + 2 ^ b, h4, hq4, ?_⟩, ?_⟩
      · rw [hcn, hz5, beq_eq_false_iff_ne.mpr hr0]
        simp
      · rw [h4, cl (by omega)]
        omega
theorem s_Tmark {σ : St} {lev st : Nat → Nat} {lv : Nat → Bool} {L : Nat → List Nat} {V : Nat → Nat → Int32} {n a z fl : Nat} {v k : Int32} {Q : Int32 → St → Prop} (hB : BI σ lev st lv L V n) (hn : 4 ≤ n) (hbr : brk V ≤ 1022) (haz : a ≤ z) (hz : z < 1114112) (hfl : fl < 8)
    (hQ : ∀ (τ : St) (lev' st' : Nat → Nat) (lv' : Nat → Bool) (L' : Nat → List Nat) (n' : Nat), n ≤ n' + 4 → BI τ lev' st' lv' L' (chg V fl v k a (z + 1)) n' → (∀ k, 16 < k → τ k = σ k) → Q (nI (z - a + 1)) τ) : F_Pt_mark (nI a) (nI z) (nI fl) v k σ Q := by
  unfold F_Pt_mark
  refine s_ckRange haz hz ?_
  refine s_ckField hfl ?_
  refine s_begin (fun σ1 h8 h9 h10 h5 hfr => ?_)
  have hB1 : BI σ1 lev st lv L V n := BI_congr (fun j a5 _ a8 a9 a10 _ => hfr j a5 a8 a9 a10) hB
  refine s_alter hB1 hn haz hz hfl h8 h5 hbr (fun τ lev' st' lv' L' n' b1 b2 b3 => ?_)
  rw [pk_sub haz, ar_1]
  rw [h9, h10] at b2
  exact hQ τ lev' st' lv' L' n' b1 b2 (fun j hj => by rw [b3 j hj]; exact hfr j (by omega) (by omega) (by omega) (by omega))
theorem s_Tset {σ : St} {lev st : Nat → Nat} {lv : Nat → Bool} {L : Nat → List Nat} {V : Nat → Nat → Int32} {n a z fl : Nat} {v : Int32} {Q : Int32 → St → Prop} (hB : BI σ lev st lv L V n) (hn : 4 ≤ n) (hbr : brk V ≤ 1022) (haz : a ≤ z) (hz : z < 1114112) (hfl : fl < 8)
    (hQ : ∀ (τ : St) (lev' st' : Nat → Nat) (lv' : Nat → Bool) (L' : Nat → List Nat) (n' : Nat), n ≤ n' + 4 → BI τ lev' st' lv' L' (chg V fl v 0 a (z + 1)) n' → (∀ k, 16 < k → τ k = σ k) → Q (nI (z - a + 1)) τ) : F_Pt_set (nI a) (nI z) (nI fl) v σ Q := by
  unfold F_Pt_set
  exact s_Tmark hB hn hbr haz hz hfl hQ
/-- the reference's starts: n pieces, the first at 0, rising -/
def MS (σ : St) (s : Nat → Nat) (n : Nat) : Prop := 1 ≤ n ∧ n ≤ 8999 ∧ σ 20 0 = nI n ∧ s 0 = 0 ∧ (∀ i, i < n → σ 17 i = nI (s i) ∧ s i < 1114112) ∧ ∀ i j, i < j → j < n → s i < s j
/-- each piece's fields are what V says of its points -/
def MV (σ : St) (s : Nat → Nat) (n : Nat) (V : Nat → Nat → Int32) : Prop := ∀ i p, i < n → s i ≤ p → p < 1114112 → (i + 1 < n → p < s (i + 1)) → ∀ f, f < 8 → σ 18 (8 * i + f) = V p f
theorem MS_congr {σ τ : St} {s : Nat → Nat} {n : Nat} (h17 : τ 17 = σ 17) (h20 : τ 20 = σ 20) (h : MS σ s n) : MS τ s n := by
  unfold MS at *
  rw [h17, h20]
  exact h
theorem MV_congr {σ τ : St} {s : Nat → Nat} {n : Nat} {V : Nat → Nat → Int32} (h18 : τ 18 = σ 18) (h : MV σ s n V) : MV τ s n V := by
  unfold MV at *
  rw [h18]
  exact h
def ins (s : Nat → Nat) (k p : Nat) : Nat → Nat := fun i => if i ≤ k then s i else if i = k + 1 then p else s (i - 1)
theorem ins_le {s : Nat → Nat} {k p i : Nat} (h : i ≤ k) : ins s k p i = s i := if_pos h
theorem ins_at {s : Nat → Nat} {k p : Nat} : ins s k p (k + 1) = p := by
  unfold ins
  rw [if_neg (by omega), if_pos rfl]
theorem ins_gt {s : Nat → Nat} {k p i : Nat} (h : k + 1 < i) : ins s k p i = s (i - 1) := by
  unfold ins
  rw [if_neg (by omega), if_neg (by omega)]
theorem MS_ins {σ τ : St} {s : Nat → Nat} {n k p : Nat} (hM : MS σ s n) (hn : n < 8999) (hk : k < n) (h1 : s k < p) (h2 : k + 1 < n → p < s (k + 1)) (hp : p < 1114112)
    (t17 : ∀ i, i ≤ k → τ 17 i = σ 17 i) (t17p : τ 17 (k + 1) = nI p) (t17g : ∀ i, k + 1 < i → i ≤ n → τ 17 i = σ 17 (i - 1)) (t20 : τ 20 0 = nI (n + 1)) : MS τ (ins s k p) (n + 1) := by
  obtain ⟨m1, m2, m3, m4, m5, m6⟩ := hM
  refine ⟨by omega, by omega, t20, ?_, fun i hi => ?_, fun i j hij hj => ?_⟩
  · rw [ins_le (Nat.zero_le _)]; exact m4
  · by_cases a1 : i ≤ k
    · rw [ins_le a1, t17 i a1]; exact m5 i (by omega)
    · by_cases a2 : i = k + 1
      · rw [a2, ins_at]; exact ⟨t17p, hp⟩
      · rw [ins_gt (by omega), t17g i (by omega) (by omega)]; exact m5 (i - 1) (by omega)
  · by_cases b1 : j ≤ k
    · rw [ins_le b1, ins_le (by omega)]; exact m6 i j hij (by omega)
    · by_cases b2 : j = k + 1
      · rw [b2, ins_at, ins_le (by omega)]
        by_cases b3 : i = k
        · rw [b3]; exact h1
        · have := m6 i k (by omega) hk
          omega
      · rw [ins_gt (i := j) (by omega)]
        by_cases a1 : i ≤ k
        · rw [ins_le a1]; exact m6 i (j - 1) (by omega) (by omega)
        · by_cases a2 : i = k + 1
          · rw [a2, ins_at]
            have h3 := h2 (by omega)
            by_cases b4 : j - 1 = k + 1
            · rw [b4]; exact h3
            · have := m6 (k + 1) (j - 1) (by omega) (by omega)
              omega
          · rw [ins_gt (by omega)]; exact m6 (i - 1) (j - 1) (by omega) (by omega)
theorem MV_ins {σ τ : St} {s : Nat → Nat} {n k p : Nat} {V : Nat → Nat → Int32} (hV : MV σ s n V) (hk : k < n) (h1 : s k < p) (h2 : k + 1 < n → p < s (k + 1))
    (t18 : ∀ i f, i ≤ k → f < 8 → τ 18 (8 * i + f) = σ 18 (8 * i + f)) (t18p : ∀ f, f < 8 → τ 18 (8 * (k + 1) + f) = σ 18 (8 * k + f)) (t18g : ∀ i f, k + 1 < i → i ≤ n → f < 8 → τ 18 (8 * i + f) = σ 18 (8 * (i - 1) + f)) : MV τ (ins s k p) (n + 1) V := by
  intro i q hi hq hq2 hq3 f hf
  by_cases a1 : i ≤ k
  · rw [t18 i f a1 hf]
    rw [ins_le a1] at hq
    refine hV i q (by omega) hq hq2 (fun h => ?_) f hf
    by_cases a3 : i + 1 ≤ k
    · have := hq3 (by omega)
      rw [ins_le a3] at this
      exact this
    · have hik : i = k := by omega
      subst hik
      have := hq3 (by omega)
      rw [ins_at] at this
      have := h2 h
      omega
  · by_cases a2 : i = k + 1
    · subst a2
      rw [t18p f hf]
      rw [ins_at] at hq
      refine hV k q hk (by omega) hq2 (fun h => ?_) f hf
      have := hq3 (by omega)
      rw [ins_gt (by omega), Nat.add_sub_cancel] at this
      exact this
    · rw [t18g i f (by omega) (by omega) hf]
      rw [ins_gt (by omega)] at hq
      refine hV (i - 1) q (by omega) hq hq2 (fun h => ?_) f hf
      have := hq3 (by omega)
      rw [ins_gt (by omega), Nat.add_sub_cancel] at this
      rw [show i - 1 + 1 = i by omega]
      exact this
/-- the piece of a point -/
def Pc' (s : Nat → Nat) (n p k : Nat) : Prop := k < n ∧ s k ≤ p ∧ (k + 1 < n → p < s (k + 1))
theorem MV_at {σ : St} {s : Nat → Nat} {n p k : Nat} {V : Nat → Nat → Int32} (hV : MV σ s n V) (hp : p < 1114112) (hk : Pc' s n p k) {f : Nat} (hf : f < 8) : σ 18 (8 * k + f) = V p f := hV k p hk.1 hk.2.1 hp hk.2.2 f hf
theorem Pc_one {σ : St} {s : Nat → Nat} {n p k : Nat} (hM : MS σ s n) (hk : Pc' s n p k) {i : Nat} (hi : i < n) (e : s i = p) : i = k := by
  obtain ⟨-, -, -, -, -, m6⟩ := hM
  obtain ⟨k1, k2, k3⟩ := hk
  rcases Nat.lt_trichotomy i k with h | h | h
  · have := m6 i k h k1
    omega
  · exact h
  · exfalso
    have h3 := k3 (by omega)
    by_cases a : i = k + 1
    · rw [← a] at h3; omega
    · have := m6 (k + 1) i (by omega) hi
      omega
theorem MS_mono {σ : St} {s : Nat → Nat} {n : Nat} (hM : MS σ s n) {i j : Nat} (hij : i ≤ j) (hj : j < n) : s i ≤ s j := by
  by_cases a : i = j
  · rw [a]; exact Nat.le_refl _
  · exact Nat.le_of_lt (hM.2.2.2.2.2 i j (by omega) hj)
theorem s_Mat {σ : St} {s : Nat → Nat} {n p : Nat} {Q : Int32 → St → Prop} (hM : MS σ s n) (hp : p < 1114112) (hQ : ∀ k, Pc' s n p k → Q (nI k) σ) : F_Mo_at (nI p) σ Q := by
  obtain ⟨m1, m2, e20, s0, hs, hinc⟩ := hM
  unfold F_Mo_at
  intro z1 hz1 z2 hz2
  rw [e20, ar_m1 m1] at hz2
  unfold F_Mo_at_L9
  refine ⟨fun v2 v3 τ => τ = σ ∧ ∃ lo hi, v2 = nI lo ∧ v3 = nI hi ∧ lo ≤ hi ∧ hi < n ∧ s lo ≤ p ∧ (hi + 1 < n → p < s (hi + 1)), fun v2 v3 _ => v3.toNatClampNeg - v2.toNatClampNeg, ⟨rfl, 0, n - 1, hz1, hz2, by omega, by omega, by omega, fun h => absurd h (by omega)⟩, ?_⟩
  intro v2 v3 τ m hI hm
  dsimp only at hm ⊢
  obtain ⟨rfl, lo, hi, rfl, rfl, hle, hlt, hl, hh⟩ := hI
  rw [cl (by omega), cl (by omega)] at hm
  rw [nI_leI (by omega) (by omega)]
  refine ⟨fun hc => ?_, fun hc => ?_⟩
  · have : hi = lo := by omega
    subst this
    exact hQ hi ⟨hlt, hl, hh⟩
  · intro z3 hz3
    rw [nI_add, ar_1, show (2 : Int32) = nI 2 from rfl, pk_div (by omega) (by omega) (by omega)] at hz3
    obtain ⟨md, hmd⟩ : ∃ md, md = (lo + hi + 1) / 2 := ⟨_, rfl⟩
    rw [← hmd] at hz3
    subst hz3
    have hb : lo < md ∧ md ≤ hi := by omega
    obtain ⟨h17, hsm⟩ := hs md (by omega)
    rw [cl (by omega), h17, nI_ltI (by omega) (by omega)]
    refine ⟨vp_in_nI (by omega) (by decide), fun hc2 => ?_, fun hc2 => ⟨⟨rfl, md, hi, rfl, rfl, hb.2, hlt, by omega, hh⟩, by rw [cl (by omega)]; omega⟩⟩
    · intro z4 hz4
      rw [ar_m1 (by omega)] at hz4
      subst hz4
      refine ⟨⟨rfl, lo, md - 1, rfl, rfl, by omega, by omega, hl, fun _ => ?_⟩, ?_⟩
      · rw [show md - 1 + 1 = md by omega]
        omega
      · rw [cl (by omega), cl (by omega)]
        omega
theorem s_cutL53 {σ : St} {j p k : Nat} {K : Int32 → St → Prop} {Q : St → Prop} (h1 : 1 ≤ j) (hj : j < 9000)
    (hQ : ∀ τ : St, (∀ x, x ≠ 18 → τ x = σ x) → (∀ q, τ 18 q = if 8 * j ≤ q ∧ q < 8 * j + 8 then σ 18 (q - 8) else σ 18 q) → K (nI (j - 1)) τ) : F_Mo_cut_L53 (nI p) (nI k) (nI j) 0 σ K Q := by
  unfold F_Mo_cut_L53
  refine ⟨fun v4 τ => (∀ x, x ≠ 18 → τ x = σ x) ∧ ∃ f, f ≤ 8 ∧ v4 = nI f ∧ ∀ q, τ 18 q = if 8 * j ≤ q ∧ q < 8 * j + f then σ 18 (q - 8) else σ 18 q, fun v4 _ => 8 - v4.toNatClampNeg, ⟨fun _ _ => rfl, 0, by omega, rfl, fun q => by rw [if_neg (by omega)]⟩, ?_⟩
  intro v4 τ m hI hm
  dsimp only at hm ⊢
  obtain ⟨hfr, f, hf, rfl, hall⟩ := hI
  rw [cl (by omega)] at hm
  rw [show (8 : Int32) = nI 8 from rfl, nI_leI (by omega) (by omega)]
  refine ⟨fun hc => ?_, fun hc => ?_⟩
  · have : f = 8 := by omega
    subst this
    intro z1 hz1
    have e1 : z1 = nI (j - 1) := by
      rw [hz1, show j = (j - 1) + 1 by omega, pk_m1]
      congr 1
    rw [e1]
    exact hQ τ hfr hall
  · rw [pk_mul, pk_sub (by omega), nI_add, nI_add, cl (by omega), cl (by omega)]
    refine ⟨vp_in_nI (by omega) (by decide), vp_in_nI (by omega) (by decide), ?_⟩
    intro σ1 e1 z2 hz2
    rw [ar_1] at hz2
    refine ⟨⟨fun x a => by rw [e1, sA_n a]; exact hfr x a, f + 1, by omega, hz2, fun q => ?_⟩, ?_⟩
    · rw [e1, sA_s]
      unfold upd
      by_cases a1 : q = 8 * j + f
      · rw [if_pos a1, if_pos (by omega), hall, if_neg (by omega)]
        congr 1
        omega
      · rw [if_neg a1, hall]
        by_cases a2 : 8 * j ≤ q ∧ q < 8 * j + f
        · rw [if_pos a2, if_pos (by omega)]
        · rw [if_neg a2, if_neg (by omega)]
    · rw [hz2, cl (by omega)]
      omega
theorem s_cutL110 {σ : St} {n k : Nat} {Q : St → Prop} (hk : k < 8999) (e20 : σ 20 0 = nI n)
    (hQ : ∀ τ : St, (∀ x, x ≠ 18 → x ≠ 20 → τ x = σ x) → (∀ q, τ 18 q = if 8 * k + 8 ≤ q ∧ q < 8 * k + 16 then σ 18 (q - 8) else σ 18 q) → τ 20 0 = nI (n + 1) → Q τ) : F_Mo_cut_L110 (nI k) 0 σ Q := by
  unfold F_Mo_cut_L110
  refine ⟨fun v3 τ => (∀ x, x ≠ 18 → τ x = σ x) ∧ ∃ f, f ≤ 8 ∧ v3 = nI f ∧ ∀ q, τ 18 q = if 8 * k + 8 ≤ q ∧ q < 8 * k + 8 + f then σ 18 (q - 8) else σ 18 q, fun v3 _ => 8 - v3.toNatClampNeg, ⟨fun _ _ => rfl, 0, by omega, rfl, fun q => by rw [if_neg (by omega)]⟩, ?_⟩
  intro v3 τ m hI hm
  dsimp only at hm ⊢
  obtain ⟨hfr, f, hf, rfl, hall⟩ := hI
  rw [cl (by omega)] at hm
  rw [show (8 : Int32) = nI 8 from rfl, nI_leI (by omega) (by omega)]
  refine ⟨fun hc => ?_, fun hc => ?_⟩
  · have : f = 8 := by omega
    subst this
    intro σ1 h1
    rw [hfr 20 (by decide), e20, ar_1] at h1
    refine hQ σ1 (fun x a b => by rw [h1, sA_n b]; exact hfr x a) (fun q => ?_) (by rw [h1, sA_s])
    rw [h1, sA_n (by decide), hall]
  · rw [pk_mul, nI_add, nI_add, nI_add, cl (by omega), cl (by omega)]
    refine ⟨vp_in_nI (by omega) (by decide), vp_in_nI (by omega) (by decide), ?_⟩
    intro σ1 e1 z2 hz2
    rw [ar_1] at hz2
    refine ⟨⟨fun x a => by rw [e1, sA_n a]; exact hfr x a, f + 1, by omega, hz2, fun q => ?_⟩, ?_⟩
    · rw [e1, sA_s]
      unfold upd
      by_cases a1 : q = 8 * k + 8 + f
      · rw [if_pos a1, if_pos (by omega), hall, if_neg (by omega)]
        congr 1
        omega
      · rw [if_neg a1, hall]
        by_cases a2 : 8 * k + 8 ≤ q ∧ q < 8 * k + 8 + f
        · rw [if_pos a2, if_pos (by omega)]
        · rw [if_neg a2, if_neg (by omega)]
    · rw [hz2, cl (by omega)]
      omega
theorem s_Mcut {σ : St} {s : Nat → Nat} {n p : Nat} {V : Nat → Nat → Int32} {Q : St → Prop} (hM : MS σ s n) (hV : MV σ s n V) (hn : n < 8999) (hp : p ≤ 1114112)
    (hQ : ∀ (τ : St) (s' : Nat → Nat) (n' : Nat), n' ≤ n + 1 → MS τ s' n' → MV τ s' n' V → (p < 1114112 → ∃ i, i < n' ∧ s' i = p) → (∀ i, i < n → ∃ j, j < n' ∧ s' j = s i) → (∀ x, x ≠ 17 → x ≠ 18 → x ≠ 20 → τ x = σ x) → Q τ) : F_Mo_cut (nI p) σ Q := by
  unfold F_Mo_cut
  rw [show (1114111 : Int32) = nI 1114111 from rfl, nI_leI (by omega) (by omega)]
  refine ⟨fun hc => ?_, fun hc => hQ σ s n (by omega) hM hV (fun h => absurd h (by omega)) (fun i hi => ⟨i, hi, rfl⟩) (fun _ _ _ _ => rfl)⟩
  refine s_Mat hM (by omega) (fun k hk => ?_)
  obtain ⟨k1, k2, k3⟩ := hk
  obtain ⟨m1, m2, e20, s0, hs, hinc⟩ := id hM
  obtain ⟨h17, hsk⟩ := hs k k1
  rw [cl (by omega), h17]
  refine ⟨vp_in_nI (by omega) (by decide), fun he => ?_, fun he => ?_⟩
  · have : s k = p := nI_inj (by omega) (by omega) he
    exact hQ σ s n (by omega) hM hV (fun _ => ⟨k, k1, this⟩) (fun i hi => ⟨i, hi, rfl⟩) (fun _ _ _ _ => rfl)
  · have hlt : s k < p := by
      by_cases e : s k = p
      · exact absurd (by rw [e]) he
      · omega
    intro z3 hz3
    rw [e20] at hz3
    subst hz3
    unfold F_Mo_cut_L29
    refine ⟨fun v3 τ => ∃ j, v3 = nI j ∧ k + 1 ≤ j ∧ j ≤ n ∧ (∀ x, x ≠ 17 → x ≠ 18 → τ x = σ x) ∧ (∀ q, τ 17 q = if j < q ∧ q ≤ n then σ 17 (q - 1) else σ 17 q) ∧ ∀ q, τ 18 q = if 8 * j + 8 ≤ q ∧ q < 8 * n + 8 then σ 18 (q - 8) else σ 18 q, fun v3 _ => v3.toNatClampNeg,
      ⟨n, rfl, by omega, by omega, fun _ _ _ => rfl, fun q => by rw [if_neg (by omega)], fun q => by rw [if_neg (by omega)]⟩, ?_⟩
    intro v3 τ m hI hm
    dsimp only at hm ⊢
    obtain ⟨j, rfl, j1, j2, hfr, t17, t18⟩ := hI
    rw [cl (by omega)] at hm
    rw [ar_1, nI_leI (by omega) (by omega)]
    refine ⟨fun hc1 => ?_, fun hc1 => ?_⟩
    · have hj : j = k + 1 := by omega
      subst hj
      refine ⟨vp_in_nI (by omega) (by decide), ?_⟩
      intro σ4 h4 z5 hz5
      rw [cl (by omega)] at h4
      subst hz5
      refine s_cutL110 (n := n) (by omega) (by rw [h4, sA_n (by decide), hfr 20 (by decide) (by decide)]; exact e20) (fun τ2 f2 t2 g20 => ?_)
      have g17 : τ2 17 = upd (τ 17) (k + 1) (nI p) := by rw [f2 17 (by decide) (by decide), h4, sA_s]
      have g18 : ∀ q, τ2 18 q = if 8 * k + 8 ≤ q ∧ q < 8 * k + 16 then τ 18 (q - 8) else τ 18 q := fun q => by rw [t2 q, h4, sA_n (by decide)]
      refine hQ τ2 (ins s k p) (n + 1) (by omega) (MS_ins hM hn k1 hlt k3 (by omega) (fun i hi => ?_) ?_ (fun i a1 a2 => ?_) g20) (MV_ins hV k1 hlt k3 (fun i f hi hf => ?_) (fun f hf => ?_) (fun i f a1 a2 hf => ?_)) (fun _ => ⟨k + 1, by omega, ins_at⟩) (fun i hi => ?_) (fun x a b c => by rw [f2 x b c, h4, sA_n a]; exact hfr x a b)
      · rw [g17, pk_un (by omega), t17, if_neg (by omega)]
      · rw [g17, pk_us]
      · rw [g17, pk_un (by omega), t17, if_pos (by omega)]
      · rw [g18, if_neg (by omega), t18, if_neg (by omega)]
      · rw [g18, if_pos (by omega), show 8 * (k + 1) + f - 8 = 8 * k + f by omega, t18, if_neg (by omega)]
      · rw [g18, if_neg (by omega), t18, if_pos (by omega)]
        congr 1
        omega
      · by_cases a : i ≤ k
        · exact ⟨i, by omega, ins_le a⟩
        · exact ⟨i + 1, by omega, by rw [ins_gt (by omega)]; rfl⟩
    · rw [ar_m1 (by omega), cl (by omega), cl (by omega)]
      refine ⟨vp_in_nI (by omega) (by decide), vp_in_nI (by omega) (by decide), ?_⟩
      intro σ4 h4 z5 hz5
      subst hz5
      refine s_cutL53 (by omega) (by omega) (fun τ2 f2 t2 => ?_)
      refine ⟨⟨j - 1, rfl, by omega, by omega, fun x a b => by rw [f2 x b, h4, sA_n a]; exact hfr x a b, fun q => ?_, fun q => ?_⟩, ?_⟩
      · rw [f2 17 (by decide), h4, sA_s]
        by_cases a1 : q = j
        · rw [a1, pk_us, if_pos (by omega), t17, if_neg (by omega)]
        · rw [pk_un a1, t17]
          by_cases a2 : j < q ∧ q ≤ n
          · rw [if_pos a2, if_pos (by omega)]
          · rw [if_neg a2, if_neg (by omega)]
      · rw [t2 q, h4, sA_n (by decide), t18, t18]
        by_cases a1 : 8 * j ≤ q ∧ q < 8 * j + 8
        · rw [if_pos a1, if_neg (by omega), if_pos (by omega)]
        · rw [if_neg a1]
          by_cases a2 : 8 * j + 8 ≤ q ∧ q < 8 * n + 8
          · rw [if_pos a2, if_pos (by omega)]
          · rw [if_neg a2, if_neg (by omega)]
      · rw [cl (by omega)]
        omega
def inP (x : Int32) : Prop := ¬ x < 0 ∧ x ≤ 1114111
def inF (x : Int32) : Prop := ¬ x < 0 ∧ x ≤ 7
theorem inP_nI {p : Nat} (h : p < 1114112) : inP (nI p) := ⟨nI_pos (by omega), (nI_leI (b := 1114111) (by omega) (by omega)).mpr (by omega)⟩
theorem inF_nI {f : Nat} (h : f < 8) : inF (nI f) := ⟨nI_pos (by omega), (nI_leI (b := 7) (by omega) (by omega)).mpr (by omega)⟩
theorem inP_of {x : Int32} (h : inP x) : ∃ p, p < 1114112 ∧ x = nI p := by
  obtain ⟨j, hj, e⟩ := nI_of h.1
  refine ⟨j, ?_, e⟩
  have h2 := h.2
  rw [e] at h2
  have := (nI_leI (b := 1114111) hj (by omega)).mp h2
  omega
theorem inF_of {x : Int32} (h : inF x) : ∃ p, p < 8 ∧ x = nI p := by
  obtain ⟨j, hj, e⟩ := nI_of h.1
  refine ⟨j, ?_, e⟩
  have h2 := h.2
  rw [e] at h2
  have := (nI_leI (b := 7) hj (by omega)).mp h2
  omega
theorem s_fail {σ : St} {x : Int32} {Q : Int32 → St → Prop} (hQ : Q 0 (sA σ 19 (fun _ => x))) : F_Mo_fail x σ Q := by
  unfold F_Mo_fail
  intro σ1 h1
  rw [h1]
  exact hQ
theorem s_out {σ : St} {x : Int32} {Q : Int32 → St → Prop} (h1 : ¬ inP x → Q 1 σ) (h0 : inP x → Q 0 σ) : F_Mo_out x σ Q := by
  unfold F_Mo_out
  refine ⟨fun a => h1 (fun h => h.1 a), fun a => ⟨fun b => h0 ⟨a, b⟩, fun b => h1 (fun h => b h.2)⟩⟩
theorem s_thrown {σ : St} {Q : Int32 → St → Prop} (hQ : Q (σ 19 0) σ) : F_Mo_thrown σ Q := by
  unfold F_Mo_thrown
  exact hQ
/-- the reference's end of a refused call -/
abbrev bad (σ : St) : St := sA (sA σ 19 (fun _ => 0)) 19 (fun _ => 1)
theorem s_Mmark_bad {σ : St} {x1 x2 x3 x4 x5 : Int32} {Q : Int32 → St → Prop} (h : ¬ (inP x1 ∧ inP x2 ∧ ¬ x2 < x1 ∧ inF x3)) (hQ : Q 0 (bad σ)) : F_Mo_mark x1 x2 x3 x4 x5 σ Q := by
  unfold F_Mo_mark
  intro σ1 h1
  subst h1
  have hb : F_Mo_fail 1 (sA σ 19 (fun _ => 0)) Q := s_fail hQ
  refine s_out (fun a => ⟨fun q => absurd q (by decide), fun _ => hb⟩) (fun a1 => ⟨fun _ => ?_, fun q => absurd rfl q⟩)
  refine s_out (fun a => ⟨fun q => absurd q (by decide), fun _ => hb⟩) (fun a2 => ⟨fun _ => ?_, fun q => absurd rfl q⟩)
  refine ⟨fun _ => hb, fun a3 => ⟨fun _ => hb, fun a4 => ⟨fun a5 => absurd ⟨a1, a2, a3, a4, a5⟩ h, fun _ => hb⟩⟩⟩
theorem s_Mmark {σ : St} {s : Nat → Nat} {n a z fl : Nat} {v k : Int32} {V : Nat → Nat → Int32} {Q : Int32 → St → Prop} (hM : MS σ s n) (hV : MV σ s n V) (hn : n < 8998) (haz : a ≤ z) (hz : z < 1114112) (hfl : fl < 8)
    (hQ : ∀ (τ : St) (s' : Nat → Nat) (n' : Nat), n' ≤ n + 2 → MS τ s' n' → MV τ s' n' (chg V fl v k a (z + 1)) → τ 19 0 = 0 → (∀ x, x < 17 → τ x = σ x) → Q (nI (z - a + 1)) τ) : F_Mo_mark (nI a) (nI z) (nI fl) v k σ Q := by
  unfold F_Mo_mark
  intro σ1 h1
  have hM1 : MS σ1 s n := MS_congr (by rw [h1, sA_n (by decide)]) (by rw [h1, sA_n (by decide)]) hM
  have hV1 : MV σ1 s n V := MV_congr (by rw [h1, sA_n (by decide)]) hV
  refine s_out (fun q => absurd (inP_nI (by omega)) q) (fun _ => ⟨fun _ => ?_, fun q => absurd rfl q⟩)
  refine s_out (fun q => absurd (inP_nI (by omega)) q) (fun _ => ⟨fun _ => ?_, fun q => absurd rfl q⟩)
  refine ⟨fun q => absurd ((nI_ltI (by omega) (by omega)).mp q) (by omega), fun _ => ⟨fun q => absurd q (nI_pos (by omega)), fun _ => ⟨fun _ => ?_, fun q => absurd (inF_nI hfl).2 q⟩⟩⟩
  refine s_Mcut hM1 hV1 (by omega) (by omega) (fun σ2 s2 n2 hn2 hM2 hV2 hst2 _ hf2 => ?_)
  rw [ar_1]
  refine s_Mcut hM2 hV2 (by omega) (by omega) (fun σ3 s3 n3 hn3 hM3 hV3 hst3 hk3 hf3 => ?_)
  refine s_Mat hM3 (by omega) (fun k0 hk0 => ?_)
  obtain ⟨i2, hi2, e2⟩ := hst2 (by omega)
  obtain ⟨i3, hi3, e3⟩ := hk3 i2 hi2
  have hk0a : s3 k0 = a := by
    rw [← Pc_one hM3 hk0 hi3 (e3.trans e2), e3, e2]
  obtain ⟨m1, m2, e20, s0, hs, hinc⟩ := id hM3
  have hfail : σ3 19 0 = 0 := by
    rw [hf3 19 (by decide) (by decide) (by decide), hf2 19 (by decide) (by decide) (by decide), h1, sA_s]
  unfold F_Mo_mark_L61
  refine ⟨fun v6 τ => ∃ j, v6 = nI j ∧ k0 ≤ j ∧ j ≤ n3 ∧ (∀ x, x ≠ 18 → τ x = σ3 x) ∧ (∀ i, k0 ≤ i → i < j → s3 i ≤ z) ∧ ∀ i f, f < 8 → τ 18 (8 * i + f) = if k0 ≤ i ∧ i < j ∧ f = fl then (σ3 18 (8 * i + f) &&& k) ||| v else σ3 18 (8 * i + f), fun v6 _ => 9000 - v6.toNatClampNeg,
    ⟨k0, rfl, Nat.le_refl _, Nat.le_of_lt hk0.1, fun _ _ => rfl, fun i q1 q2 => absurd q1 (by omega), fun i f _ => by rw [if_neg (by omega)]⟩, ?_⟩
  intro v6 τ m hI hm
  dsimp only at hm ⊢
  obtain ⟨j, rfl, j1, j2, hfr, hle, h18⟩ := hI
  rw [cl (by omega)] at hm
  have hJ : (j = n3 ∨ z < s3 j) → F_Mo_mark_J117 (nI a) (nI z) τ Q := fun hex => by
    unfold F_Mo_mark_J117
    rw [pk_sub haz, ar_1]
    refine hQ τ s3 n3 (by omega) (MS_congr (hfr 17 (by decide)) (hfr 20 (by decide)) hM3) (fun i p hi hp1 hp2 hp3 f hf => ?_) (by rw [hfr 19 (by decide)]; exact hfail) (fun x hx => ?_)
    · rw [h18 i f hf, hV3 i p hi hp1 hp2 hp3 f hf]
      have hc : (k0 ≤ i ∧ i < j ∧ f = fl) ↔ (a ≤ p ∧ p < z + 1 ∧ f = fl) := by
        constructor
        · intro ⟨c1, c2, c3⟩
          refine ⟨?_, ?_, c3⟩
          · have := MS_mono hM3 c1 hi
            omega
          · by_cases hz1 : z + 1 < 1114112
            · obtain ⟨t, ht, et⟩ := hst3 hz1
              have hlt := hle i c1 c2
              have hit : i < t := by
                by_cases hit : i < t
                · exact hit
                · have := MS_mono hM3 (show t ≤ i by omega) hi
                  omega
              have h2 := hp3 (by omega)
              have h3 := MS_mono hM3 (show i + 1 ≤ t by omega) ht
              omega
            · omega
        · intro ⟨c1, c2, c3⟩
          refine ⟨?_, ?_, c3⟩
          · by_cases hik : k0 ≤ i
            · exact hik
            · exfalso
              have h2 := hp3 (by have := hk0.1; omega)
              have h3 := MS_mono hM3 (show i + 1 ≤ k0 by omega) hk0.1
              omega
          · by_cases hij : i < j
            · exact hij
            · exfalso
              rcases hex with h | h
              · omega
              · have := MS_mono hM3 (show j ≤ i by omega) hi
                omega
      unfold chg
      by_cases hcc : k0 ≤ i ∧ i < j ∧ f = fl
      · rw [if_pos hcc, if_pos (hc.mp hcc)]
      · rw [if_neg hcc, if_neg (fun q => hcc (hc.mpr q))]
    · rw [hfr x (by omega), hf3 x (by omega) (by omega) (by omega), hf2 x (by omega) (by omega) (by omega), h1, sA_n (by omega)]
  rw [hfr 20 (by decide), e20, nI_leI (by omega) (by omega)]
  refine ⟨fun hc => hJ (Or.inl (by omega)), fun hc => ?_⟩
  obtain ⟨e17, hsj⟩ := hs j (by omega)
  rw [cl (by omega), hfr 17 (by decide), e17, nI_ltI (by omega) (by omega)]
  refine ⟨vp_in_nI (by omega) (by decide), fun hc2 => hJ (Or.inr hc2), fun hc2 => ?_⟩
  rw [show (8 : Int32) = nI 8 from rfl, pk_mul, nI_add, cl (by omega)]
  refine ⟨vp_in_nI (by omega) (by decide), vp_in_nI (by omega) (by decide), ?_⟩
  intro σ4 h4 z5 hz5
  rw [ar_1] at hz5
  refine ⟨⟨j + 1, hz5, by omega, by omega, fun x hx => by rw [h4, sA_n hx]; exact hfr x hx, fun i q1 q2 => ?_, fun i f hf => ?_⟩, ?_⟩
  · by_cases e : i = j
    · subst e; omega
    · exact hle i q1 (by omega)
  · rw [h4, sA_s]
    by_cases e : 8 * i + f = 8 * j + fl
    · have ei : i = j ∧ f = fl := by omega
      obtain ⟨rfl, rfl⟩ := ei
      rw [pk_us, if_pos (by omega), h18 i f hf, if_neg (by omega)]
    · rw [pk_un e, h18 i f hf]
      by_cases c : k0 ≤ i ∧ i < j ∧ f = fl
      · rw [if_pos c, if_pos (by omega)]
      · rw [if_neg c, if_neg (by omega)]
  · rw [hz5, cl (by omega)]
    omega
theorem s_Mget_bad {σ : St} {x1 x2 : Int32} {Q : Int32 → St → Prop} (h : ¬ (inP x1 ∧ inF x2)) (hQ : Q 0 (bad σ)) : F_Mo_get x1 x2 σ Q := by
  unfold F_Mo_get
  intro σ1 h1
  subst h1
  have hb : F_Mo_fail 1 (sA σ 19 (fun _ => 0)) Q := s_fail hQ
  refine s_out (fun a => ⟨fun q => absurd q (by decide), fun _ => hb⟩) (fun a1 => ⟨fun _ => ?_, fun q => absurd rfl q⟩)
  refine ⟨fun _ => hb, fun a4 => ⟨fun a5 => absurd ⟨a1, a4, a5⟩ h, fun _ => hb⟩⟩
theorem s_Mget {σ : St} {s : Nat → Nat} {n p f : Nat} {V : Nat → Nat → Int32} {Q : Int32 → St → Prop} (hM : MS σ s n) (hV : MV σ s n V) (hp : p < 1114112) (hf : f < 8) (hQ : Q (V p f) (sA σ 19 (fun _ => 0))) : F_Mo_get (nI p) (nI f) σ Q := by
  unfold F_Mo_get
  intro σ1 h1
  have hM1 : MS σ1 s n := MS_congr (by rw [h1, sA_n (by decide)]) (by rw [h1, sA_n (by decide)]) hM
  have hV1 : MV σ1 s n V := MV_congr (by rw [h1, sA_n (by decide)]) hV
  rw [← h1] at hQ
  refine s_out (fun q => absurd (inP_nI hp) q) (fun _ => ⟨fun _ => ?_, fun q => absurd rfl q⟩)
  refine ⟨fun q => absurd q (nI_pos (by omega)), fun _ => ⟨fun _ => ?_, fun q => absurd (inF_nI hf).2 q⟩⟩
  refine s_Mat hM1 hp (fun k hk => ?_)
  have hk1 := hk.1
  have hn := hM.2.1
  rw [show (8 : Int32) = nI 8 from rfl, pk_mul, nI_add, cl (by omega), MV_at hV1 hp hk hf]
  exact ⟨vp_in_nI (by omega) (by decide), hQ⟩
theorem s_Mchange_bad {σ : St} {x1 x2 : Int32} {Q : Int32 → St → Prop} (h : ¬ (inP x1 ∧ inF x2)) (hQ : Q 0 (bad σ)) : F_Mo_change x1 x2 σ Q := by
  unfold F_Mo_change
  intro σ1 h1
  subst h1
  have hb : F_Mo_fail 1 (sA σ 19 (fun _ => 0)) Q := s_fail hQ
  refine s_out (fun a => ⟨fun q => absurd q (by decide), fun _ => hb⟩) (fun a1 => ⟨fun _ => ?_, fun q => absurd rfl q⟩)
  refine ⟨fun _ => hb, fun a4 => ⟨fun a5 => absurd ⟨a1, a4, a5⟩ h, fun _ => hb⟩⟩
theorem s_Mchange {σ : St} {s : Nat → Nat} {n p f : Nat} {V : Nat → Nat → Int32} {Q : Int32 → St → Prop} (hM : MS σ s n) (hV : MV σ s n V) (hp : p < 1114112) (hf : f < 8) (hQ : ∀ x : Int32, ChR V p f x → Q x (sA σ 19 (fun _ => 0))) : F_Mo_change (nI p) (nI f) σ Q := by
  unfold F_Mo_change
  intro σ1 h1
  have hM1 : MS σ1 s n := MS_congr (by rw [h1, sA_n (by decide)]) (by rw [h1, sA_n (by decide)]) hM
  have hV1 : MV σ1 s n V := MV_congr (by rw [h1, sA_n (by decide)]) hV
  rw [← h1] at hQ
  obtain ⟨m1, m2, e20, s0, hs, hinc⟩ := id hM1
  refine s_out (fun q => absurd (inP_nI hp) q) (fun _ => ⟨fun _ => ?_, fun q => absurd rfl q⟩)
  refine ⟨fun q => absurd q (nI_pos (by omega)), fun _ => ⟨fun _ => ?_, fun q => absurd (inF_nI hf).2 q⟩⟩
  refine s_Mat hM1 hp (fun k0 hk => ?_)
  have hk1 := hk.1
  rw [show (8 : Int32) = nI 8 from rfl, pk_mul, nI_add, cl (by omega), MV_at hV1 hp hk hf]
  refine ⟨vp_in_nI (by omega) (by decide), ?_⟩
  intro z4 hz4
  subst hz4
  unfold F_Mo_change_L48
  refine ⟨fun v3 τ => τ = σ1 ∧ ∃ j, v3 = nI j ∧ k0 ≤ j ∧ j ≤ n ∧ (∀ y, p ≤ y → y < 1114112 → (j < n → y < s j) → V y f = V p f), fun v3 _ => 9000 - v3.toNatClampNeg, ⟨rfl, k0, rfl, Nat.le_refl _, by omega, fun y q1 q2 q3 => by have := q3 hk1; have := hk.2.1; omega⟩, ?_⟩
  intro v3 τ m hI hm
  dsimp only at hm ⊢
  obtain ⟨rfl, j, rfl, j1, j2, hall⟩ := hI
  rw [cl (by omega)] at hm
  have hJ : ∀ x : Int32, (j = n → x = -1 → Q x τ) → (j < n → x = nI (s j) → Q x τ) → True := fun _ _ _ => trivial
  have hj78 : (j = n ∨ (j < n ∧ τ 18 (8 * j + f) ≠ V p f)) → F_Mo_change_J78 (nI j) τ Q := fun hex => by
    unfold F_Mo_change_J78
    rw [e20, nI_eq (by omega) (by omega)]
    refine ⟨fun he => ?_, fun he => ?_⟩
    · exact hQ _ (Or.inr ⟨rfl, fun y q1 q2 => hall y q1 q2 (fun q => absurd q (by omega))⟩)
    · have hjn : j < n := by omega
      obtain ⟨e17, hsj⟩ := hs j hjn
      rw [cl (by omega), e17]
      refine ⟨vp_in_nI (by omega) (by decide), hQ _ (Or.inl ?_)⟩
      rcases hex with h | ⟨-, h⟩
      · exact absurd h he
      · have hsv : τ 18 (8 * j + f) = V (s j) f := hV1 j (s j) hjn (Nat.le_refl _) hsj (fun q => hinc j (j + 1) (by omega) q) f hf
        have hlt : p < s j := by
          by_cases e : j = k0
          · subst e
            exact absurd (MV_at hV1 hp hk hf) h
          · have h2 := hk.2.2 (by omega)
            have h3 := MS_mono hM1 (show k0 + 1 ≤ j by omega) hjn
            omega
        exact ⟨s j, hlt, hsj, by rw [← hsv]; exact h, fun y q1 q2 => hall y q1 (by omega) (fun _ => q2), rfl⟩
  rw [e20, nI_leI (by omega) (by omega)]
  refine ⟨fun hc => hj78 (Or.inl (by omega)), fun hc => ?_⟩
  rw [show (8 : Int32) = nI 8 from rfl, pk_mul, nI_add, cl (by omega)]
  refine ⟨vp_in_nI (by omega) (by decide), fun hc2 => ?_, fun hc2 => hj78 (Or.inr ⟨by omega, hc2⟩)⟩
  intro z5 hz5
  rw [ar_1] at hz5
  refine ⟨⟨rfl, j + 1, hz5, by omega, by omega, fun y q1 q2 q3 => ?_⟩, ?_⟩
  · by_cases hy : y < s j
    · exact hall y q1 q2 (fun _ => hy)
    · rw [← hV1 j y (by omega) (by omega) q2 q3 f hf]
      exact hc2
  · rw [hz5, cl (by omega)]
    omega
theorem s_Malike_bad {σ : St} {x1 x2 : Int32} {Q : Int32 → St → Prop} (h : ¬ (inP x1 ∧ inP x2)) (hQ : Q 0 (bad σ)) : F_Mo_alike x1 x2 σ Q := by
  unfold F_Mo_alike
  intro σ1 h1
  subst h1
  have hb : F_Mo_alike_J21 (sA σ 19 (fun _ => 0)) Q := by
    unfold F_Mo_alike_J21
    refine s_fail ?_
    exact ⟨fun _ => hQ, fun q => absurd (Int32.le_refl 0) q⟩
  refine s_out (fun a => ⟨fun q => absurd q (by decide), fun _ => hb⟩) (fun a1 => ⟨fun _ => ?_, fun q => absurd rfl q⟩)
  refine s_out (fun a => ⟨fun q => absurd q (by decide), fun _ => hb⟩) (fun a2 => absurd ⟨a1, a2⟩ h)
theorem s_Malike {σ : St} {s : Nat → Nat} {n p q : Nat} {V : Nat → Nat → Int32} {Q : Int32 → St → Prop} (hM : MS σ s n) (hV : MV σ s n V) (hp : p < 1114112) (hq : q < 1114112)
    (hQ1 : (∀ f, f < 8 → V p f = V q f) → Q 1 (sA σ 19 (fun _ => 0))) (hQ0 : (¬ ∀ f, f < 8 → V p f = V q f) → Q 0 (sA σ 19 (fun _ => 0))) : F_Mo_alike (nI p) (nI q) σ Q := by
  unfold F_Mo_alike
  intro σ1 h1
  have hM1 : MS σ1 s n := MS_congr (by rw [h1, sA_n (by decide)]) (by rw [h1, sA_n (by decide)]) hM
  have hV1 : MV σ1 s n V := MV_congr (by rw [h1, sA_n (by decide)]) hV
  rw [← h1] at hQ1 hQ0
  have hn := hM.2.1
  refine s_out (fun q => absurd (inP_nI hp) q) (fun _ => ⟨fun _ => ?_, fun q => absurd rfl q⟩)
  refine s_out (fun z => absurd (inP_nI hq) z) (fun _ => ⟨fun _ => ?_, fun q => absurd rfl q⟩)
  intro z3 hz3
  unfold F_Mo_alike_L37
  refine ⟨fun v3 τ => τ = σ1 ∧ ∃ k, k ≤ 8 ∧ v3 = nI k ∧ ∀ f, f < k → V p f = V q f, fun v3 _ => 8 - v3.toNatClampNeg, ⟨rfl, 0, by omega, hz3, fun f hf => absurd hf (Nat.not_lt_zero _)⟩, ?_⟩
  intro v3 τ m hI hm
  dsimp only at hm ⊢
  obtain ⟨rfl, k, hk, rfl, hall⟩ := hI
  rw [cl (by omega)] at hm
  rw [show (8 : Int32) = nI 8 from rfl, nI_leI (by omega) (by omega)]
  refine ⟨fun hc => hQ1 (fun f hf => hall f (by omega)), fun hc => ?_⟩
  refine s_Mat hM1 hp (fun i hi => ?_)
  have hi1 := hi.1
  rw [pk_mul, nI_add, cl (by omega), MV_at hV1 hp hi (by omega)]
  refine ⟨vp_in_nI (by omega) (by decide), ?_⟩
  refine s_Mat hM1 hq (fun j hj => ?_)
  have hj1 := hj.1
  rw [pk_mul, nI_add, cl (by omega), MV_at hV1 hq hj (by omega)]
  refine ⟨vp_in_nI (by omega) (by decide), fun hc2 => ?_, fun hc2 => hQ0 (fun h => hc2 (h k (by omega)))⟩
  intro z4 hz4
  rw [ar_1] at hz4
  refine ⟨⟨rfl, k + 1, by omega, hz4, fun f hf => ?_⟩, ?_⟩
  · by_cases e : f = k
    · subst e; exact hc2
    · exact hall f (by omega)
  · rw [hz4, cl (by omega)]
    omega
theorem s_Mhash_bad {σ : St} {x1 x2 x3 : Int32} {Q : Int32 → St → Prop} (h : ¬ (inP x1 ∧ inP x2 ∧ ¬ x2 < x1 ∧ ¬ 3999 < x2 - x1 ∧ inF x3)) (hQ : Q 0 (bad σ)) : F_Mo_hash x1 x2 x3 σ Q := by
  unfold F_Mo_hash
  intro σ1 h1
  subst h1
  have hb : F_Mo_fail 1 (sA σ 19 (fun _ => 0)) Q := s_fail hQ
  refine s_out (fun a => ⟨fun q => absurd q (by decide), fun _ => hb⟩) (fun a1 => ⟨fun _ => ?_, fun q => absurd rfl q⟩)
  refine s_out (fun a => ⟨fun q => absurd q (by decide), fun _ => hb⟩) (fun a2 => ⟨fun _ => ?_, fun q => absurd rfl q⟩)
  refine ⟨fun _ => hb, fun a3 => ⟨fun _ => hb, fun a4 => ⟨fun _ => hb, fun a5 => ⟨fun a6 => absurd ⟨a1, a2, a3, a4, a5, a6⟩ h, fun _ => hb⟩⟩⟩⟩
theorem s_Mhash {σ : St} {s : Nat → Nat} {n a z f : Nat} {V : Nat → Nat → Int32} {Q : Int32 → St → Prop} (hM : MS σ s n) (hV : MV σ s n V) (haz : a ≤ z) (hz : z < 1114112) (hlen : z - a ≤ 3999) (hf : f < 8) (hQ : Q (hsh V f a (z - a + 1)) (sA σ 19 (fun _ => 0))) : F_Mo_hash (nI a) (nI z) (nI f) σ Q := by
  unfold F_Mo_hash
  intro σ1 h1
  have hM1 : MS σ1 s n := MS_congr (by rw [h1, sA_n (by decide)]) (by rw [h1, sA_n (by decide)]) hM
  have hV1 : MV σ1 s n V := MV_congr (by rw [h1, sA_n (by decide)]) hV
  rw [← h1] at hQ
  have hn := hM.2.1
  refine s_out (fun q => absurd (inP_nI (by omega)) q) (fun _ => ⟨fun _ => ?_, fun q => absurd rfl q⟩)
  refine s_out (fun q => absurd (inP_nI (by omega)) q) (fun _ => ⟨fun _ => ?_, fun q => absurd rfl q⟩)
  rw [pk_sub haz, show (3999 : Int32) = nI 3999 from rfl]
  refine ⟨fun q => absurd ((nI_ltI (by omega) (by omega)).mp q) (by omega), fun _ => ⟨fun q => absurd ((nI_ltI (by omega) (by omega)).mp q) (by omega), fun _ => ⟨fun q => absurd q (nI_pos (by omega)), fun _ => ⟨fun _ => ?_, fun q => absurd (inF_nI hf).2 q⟩⟩⟩⟩
  intro z4 hz4
  unfold F_Mo_hash_L57
  refine ⟨fun v4 v5 τ => τ = σ1 ∧ ∃ k, v5 = nI (a + k) ∧ a + k ≤ z + 1 ∧ v4 = hsh V f a k, fun _ v5 _ => 1114200 - v5.toNatClampNeg, ⟨rfl, 0, rfl, by omega, hz4⟩, ?_⟩
  intro v4 v5 τ m hI hm
  dsimp only at hm ⊢
  obtain ⟨rfl, k, rfl, hk, rfl⟩ := hI
  rw [cl (by omega)] at hm
  rw [nI_ltI (by omega) (by omega)]
  refine ⟨fun hc => ?_, fun hc => ?_⟩
  · have : k = z - a + 1 := by omega
    subst this
    exact hQ
  · refine s_Mat hM1 (by omega) (fun i hi => ?_)
    have hi1 := hi.1
    rw [show (8 : Int32) = nI 8 from rfl, pk_mul, nI_add, cl (by omega), MV_at hV1 (by omega) hi hf]
    refine ⟨vp_in_nI (by omega) (by decide), ?_⟩
    intro z5 hz5 z6 hz6
    rw [ar_1] at hz6
    refine ⟨⟨rfl, k + 1, by rw [hz6, Nat.add_assoc], by omega, hz5⟩, ?_⟩
    rw [hz6, cl (by omega)]
    omega
theorem s_clearL21 {σ : St} {s : Nat → Nat} {n p c : Nat} {V : Nat → Nat → Int32} {K : Int32 → Int32 → St → Prop} {Q : Int32 → St → Prop} (hM : MS σ s n) (hV : MV σ s n V) (hp : p < 1114112)
    (hQ : K (nI (c + (nz V p).toNat)) (nI (p + 1)) σ) : F_Mo_clear_L21 (nI c) (nI p) 0 0 σ K Q := by
  have hn := hM.2.1
  unfold F_Mo_clear_L21
  refine ⟨fun v3 v4 τ => τ = σ ∧ ∃ k, k ≤ 8 ∧ v4 = nI k ∧ ((v3 = 0 ∧ ∀ f, f < k → V p f = 0) ∨ (v3 = 1 ∧ nz V p = true)), fun _ v4 _ => 8 - v4.toNatClampNeg, ⟨rfl, 0, by omega, rfl, Or.inl ⟨rfl, fun f hf => absurd hf (Nat.not_lt_zero _)⟩⟩, ?_⟩
  intro v3 v4 τ m hI hm
  dsimp only at hm ⊢
  obtain ⟨rfl, k, hk, rfl, hor⟩ := hI
  rw [cl (by omega)] at hm
  rw [show (8 : Int32) = nI 8 from rfl, nI_leI (by omega) (by omega)]
  refine ⟨fun hc => ?_, fun hc => ?_⟩
  · rcases hor with ⟨e, h⟩ | ⟨e, h⟩
    · refine ⟨fun _ => ?_, fun q => absurd e q⟩
      intro z1 hz1 z2 hz2
      rw [ar_1] at hz2
      have e0 : nz V p = false := nz_f.mpr (fun f hf => h f (by omega))
      rw [e0] at hQ
      rw [hz1, hz2, show (0 : Int32) = nI 0 from rfl, nI_add]
      exact hQ
    · refine ⟨fun q => absurd (e.symm.trans q) (by decide), fun _ => ?_⟩
      intro z1 hz1 z2 hz2
      rw [ar_1] at hz1 hz2
      rw [h] at hQ
      rw [hz1, hz2]
      exact hQ
  · refine s_Mat hM hp (fun i hi => ?_)
    have hi1 := hi.1
    rw [pk_mul, nI_add, cl (by omega), MV_at hV hp hi (by omega)]
    refine ⟨vp_in_nI (by omega) (by decide), fun he => ?_, fun he => ?_⟩
    · intro z1 hz1
      rw [ar_1] at hz1
      refine ⟨⟨rfl, k + 1, by omega, hz1, ?_⟩, ?_⟩
      · rcases hor with ⟨e, h⟩ | h
        · refine Or.inl ⟨e, fun f hf => ?_⟩
          by_cases e2 : f = k
          · rw [e2]; exact he
          · exact h f (by omega)
        · exact Or.inr h
      · rw [hz1, cl (by omega)]
        omega
    · intro z0 hz0 z1 hz1
      rw [ar_1] at hz1
      refine ⟨⟨rfl, k + 1, by omega, hz1, Or.inr ⟨hz0, ?_⟩⟩, ?_⟩
      · cases h : nz V p with
        | true => rfl
        | false => exact absurd (nz_f.mp h k (by omega)) he
      · rw [hz1, cl (by omega)]
        omega
theorem s_clearL80 {σ : St} {c : Int32} {Q : Int32 → St → Prop} (hQ : ∀ τ : St, (∀ x, x ≠ 18 → τ x = σ x) → (∀ f, f < 8 → τ 18 f = 0) → Q c τ) : F_Mo_clear_L80 c 0 σ Q := by
  unfold F_Mo_clear_L80
  refine ⟨fun v2 τ => (∀ x, x ≠ 18 → τ x = σ x) ∧ ∃ k, k ≤ 8 ∧ v2 = nI k ∧ ∀ f, f < k → τ 18 f = 0, fun v2 _ => 8 - v2.toNatClampNeg, ⟨fun _ _ => rfl, 0, by omega, rfl, fun f hf => absurd hf (Nat.not_lt_zero _)⟩, ?_⟩
  intro v2 τ m hI hm
  dsimp only at hm ⊢
  obtain ⟨hfr, k, hk, rfl, hall⟩ := hI
  rw [cl (by omega)] at hm
  rw [show (8 : Int32) = nI 8 from rfl, nI_leI (by omega) (by omega)]
  refine ⟨fun hc => hQ τ hfr (fun f hf => hall f (by omega)), fun hc => ?_⟩
  refine ⟨vp_in_nI (by omega) (by decide), ?_⟩
  intro σ1 h1 z1 hz1
  rw [cl (by omega)] at h1
  rw [ar_1] at hz1
  refine ⟨⟨fun x hx => by rw [h1, sA_n hx]; exact hfr x hx, k + 1, by omega, hz1, fun f hf => ?_⟩, ?_⟩
  · rw [h1, sA_s]
    by_cases e : f = k
    · rw [e, pk_us]
    · rw [pk_un e]; exact hall f (by omega)
  · rw [hz1, cl (by omega)]
    omega
theorem s_Mclear {σ : St} {s : Nat → Nat} {n : Nat} {V : Nat → Nat → Int32} {Q : Int32 → St → Prop} (hM : MS σ s n) (hV : MV σ s n V)
    (hQ : ∀ τ : St, MS τ (fun _ => 0) 1 → MV τ (fun _ => 0) 1 (fun _ _ => 0) → τ 19 0 = 0 → (∀ x, x < 17 → τ x = σ x) → Q (nI (cnt V 1024)) τ) : F_Mo_clear σ Q := by
  unfold F_Mo_clear
  intro σ1 h1 z1 hz1 z2 hz2
  have hM1 : MS σ1 s n := MS_congr (by rw [h1, sA_n (by decide)]) (by rw [h1, sA_n (by decide)]) hM
  have hV1 : MV σ1 s n V := MV_congr (by rw [h1, sA_n (by decide)]) hV
  unfold F_Mo_clear_L9
  refine ⟨fun v1 v2 τ => τ = σ1 ∧ ∃ x, v2 = nI x ∧ x ≤ 1024 ∧ v1 = nI (cnt V x), fun _ v2 _ => 1024 - v2.toNatClampNeg, ⟨rfl, 0, hz2, by omega, hz1⟩, ?_⟩
  intro v1 v2 τ m hI hm
  dsimp only at hm ⊢
  obtain ⟨rfl, x, rfl, hx, rfl⟩ := hI
  rw [cl (by omega)] at hm
  rw [show (1024 : Int32) = nI 1024 from rfl, nI_leI (by omega) (by omega)]
  refine ⟨fun hc => ?_, fun hc => ?_⟩
  · have : x = 1024 := by omega
    subst this
    intro σ2 h2 z3 hz3
    subst hz3
    refine s_clearL80 (fun τ2 f2 t2 => ?_)
    obtain ⟨m1, m2, e20, s0, hs, hinc⟩ := hM1
    refine hQ τ2 ⟨by omega, by omega, ?_, rfl, fun i hi => ?_, fun i j hij hj => absurd hij (by omega)⟩ (fun i p hi _ _ _ f hf => ?_) ?_ (fun y hy => ?_)
    · rw [f2 20 (by decide), h2, sA_s]
      rfl
    · have : i = 0 := by omega
      subst this
      refine ⟨?_, show 0 < 1114112 by omega⟩
      rw [f2 17 (by decide), h2, sA_n (by decide), (hs 0 (by omega)).1, s0]
    · have : i = 0 := by omega
      subst this
      rw [Nat.mul_zero, Nat.zero_add]
      exact t2 f hf
    · rw [f2 19 (by decide), h2, sA_n (by decide), h1, sA_s]
    · rw [f2 y (by omega), h2, sA_n (by omega), h1, sA_n (by omega)]
  · intro z3 hz3 z4 hz4
    subst hz3
    subst hz4
    refine s_clearL21 hM1 hV1 (by omega) ⟨⟨rfl, x + 1, rfl, by omega, rfl⟩, ?_⟩
    rw [cl (by omega)]
    omega
end
