abbrev St : Type := Nat → Nat → Int32
/-- a component gets new contents -/
def sA (σ : St) (k : Nat) (f : Nat → Int32) : St := fun j => cond (Nat.beq j k) f (σ j)
theorem sA_s (σ : St) (k : Nat) (f : Nat → Int32) : sA σ k f k = f := by
  unfold sA
  rw [show Nat.beq k k = true from Nat.beq_refl k]
  rfl
theorem sA_n {σ : St} {k : Nat} {f : Nat → Int32} {j : Nat} (h : j ≠ k) : sA σ k f j = σ j := by
  unfold sA
  cases e : Nat.beq j k with
  | true => exact absurd (Nat.eq_of_beq_eq_true e) h
  | false => rfl
theorem sA_e (σ : St) (k : Nat) (f : Nat → Int32) (j : Nat) : sA σ k f j = if j = k then f else σ j := by
  by_cases h : j = k
  · rw [if_pos h, h, sA_s]
  · rw [if_neg h, sA_n h]
def F_Ar_fill2_heads_L5 (v1 : Int32) (v2 : Int32) (v3 : Int32) (σ : St) (Q : St → Prop) : Prop :=
  ∃ (I5 : Int32 → St → Prop) (m5 : Int32 → St → Nat), I5 v2 σ ∧ ∀ (v2 : Int32) (σ : St) (n5 : Nat), I5 v2 σ → m5 v2 σ = n5 →
  ((v3 ≤ v2 →
  Q σ) ∧ (¬ v3 ≤ v2 →
  vp_in v2 1024 ∧ ∀ σ1 : St, σ1 = sA σ 3 (upd (σ 3) v2.toNatClampNeg v1) →
  ∀ z2 : Int32, z2 = v2 + (1 : Int32) →
  I5 z2 σ1 ∧ m5 z2 σ1 < n5))
def F_Ar_fill2_heads (x1 : Int32) (σ : St) (Q : St → Prop) : Prop :=
  ∀ z3 : Int32, z3 = (0 : Int32) →
  ∀ z4 : Int32, z4 = (1024 : Int32) →
  F_Ar_fill2_heads_L5 x1 z3 z4 σ Q
def F_Ar_fill2_holders_L5 (v1 : Int32) (v2 : Int32) (v3 : Int32) (σ : St) (Q : St → Prop) : Prop :=
  ∃ (I5 : Int32 → St → Prop) (m5 : Int32 → St → Nat), I5 v2 σ ∧ ∀ (v2 : Int32) (σ : St) (n5 : Nat), I5 v2 σ → m5 v2 σ = n5 →
  ((v3 ≤ v2 →
  Q σ) ∧ (¬ v3 ≤ v2 →
  vp_in v2 1028 ∧ ∀ σ1 : St, σ1 = sA σ 1 (upd (σ 1) v2.toNatClampNeg v1) →
  ∀ z2 : Int32, z2 = v2 + (1 : Int32) →
  I5 z2 σ1 ∧ m5 z2 σ1 < n5))
def F_Ar_fill2_holders (x1 : Int32) (σ : St) (Q : St → Prop) : Prop :=
  ∀ z3 : Int32, z3 = (0 : Int32) →
  ∀ z4 : Int32, z4 = (1028 : Int32) →
  F_Ar_fill2_holders_L5 x1 z3 z4 σ Q
def F_Ar_fill2_wanted_L5 (v1 : Int32) (v2 : Int32) (v3 : Int32) (σ : St) (Q : St → Prop) : Prop :=
  ∃ (I5 : Int32 → St → Prop) (m5 : Int32 → St → Nat), I5 v2 σ ∧ ∀ (v2 : Int32) (σ : St) (n5 : Nat), I5 v2 σ → m5 v2 σ = n5 →
  ((v3 ≤ v2 →
  Q σ) ∧ (¬ v3 ≤ v2 →
  vp_in v2 8 ∧ ∀ σ1 : St, σ1 = sA σ 6 (upd (σ 6) v2.toNatClampNeg v1) →
  ∀ z2 : Int32, z2 = v2 + (1 : Int32) →
  I5 z2 σ1 ∧ m5 z2 σ1 < n5))
def F_Ar_fill2_wanted (x1 : Int32) (σ : St) (Q : St → Prop) : Prop :=
  ∀ z3 : Int32, z3 = (0 : Int32) →
  ∀ z4 : Int32, z4 = (8 : Int32) →
  F_Ar_fill2_wanted_L5 x1 z3 z4 σ Q
def F_Ar_fill2_outcome_L5 (v1 : Int32) (v2 : Int32) (v3 : Int32) (σ : St) (Q : St → Prop) : Prop :=
  ∃ (I5 : Int32 → St → Prop) (m5 : Int32 → St → Nat), I5 v2 σ ∧ ∀ (v2 : Int32) (σ : St) (n5 : Nat), I5 v2 σ → m5 v2 σ = n5 →
  ((v3 ≤ v2 →
  Q σ) ∧ (¬ v3 ≤ v2 →
  vp_in v2 1028 ∧ ∀ σ1 : St, σ1 = sA σ 5 (upd (σ 5) v2.toNatClampNeg v1) →
  ∀ z2 : Int32, z2 = v2 + (1 : Int32) →
  I5 z2 σ1 ∧ m5 z2 σ1 < n5))
def F_Ar_fill2_outcome (x1 : Int32) (σ : St) (Q : St → Prop) : Prop :=
  ∀ z3 : Int32, z3 = (0 : Int32) →
  ∀ z4 : Int32, z4 = (1028 : Int32) →
  F_Ar_fill2_outcome_L5 x1 z3 z4 σ Q
def F_Ar_rangeCheck (x0 : Int32) (x1 : Int32) (x2 : Int32) (σ : St) (Q : St → Prop) : Prop :=
  ((x1 ≤ x2 →
  ((0 ≤ x1 →
  ((x2 ≤ x0 →
  Q σ) ∧ (¬ x2 ≤ x0 →
  False))) ∧ (¬ 0 ≤ x1 →
  False))) ∧ (¬ x1 ≤ x2 →
  False))
def F_Ar_fill4_cells_L10 (v2 : Int32) (v3 : Int32) (v4 : Int32) (σ : St) (Q : St → Prop) : Prop :=
  ∃ (I10 : Int32 → St → Prop) (m10 : Int32 → St → Nat), I10 v4 σ ∧ ∀ (v4 : Int32) (σ : St) (n10 : Nat), I10 v4 σ → m10 v4 σ = n10 →
  ((v2 ≤ v4 →
  Q σ) ∧ (¬ v2 ≤ v4 →
  vp_in v4 66624 ∧ ∀ σ1 : St, σ1 = sA σ 11 (upd (σ 11) v4.toNatClampNeg v3) →
  ∀ z2 : Int32, z2 = v4 + (1 : Int32) →
  I10 z2 σ1 ∧ m10 z2 σ1 < n10))
def F_Ar_fill4_cells (x1 : Int32) (x2 : Int32) (x3 : Int32) (σ : St) (Q : St → Prop) : Prop :=
  F_Ar_rangeCheck (66624 : Int32) x1 x2 σ (fun σ3 =>
  F_Ar_fill4_cells_L10 x2 x3 x1 σ3 Q)
def F_Rc_chainOf_values_L4 (v1 : Int32) (v2 : Int32) (v3 : Int32) (σ : St) (Q : Int32 → St → Prop) : Prop :=
  ∃ (I4 : Int32 → Int32 → St → Prop) (m4 : Int32 → Int32 → St → Nat), I4 v2 v3 σ ∧ ∀ (v2 v3 : Int32) (σ : St) (n4 : Nat), I4 v2 v3 σ → m4 v2 v3 σ = n4 →
  (((v1 + (8 : Int32)) ≤ v3 →
  ∀ z1 : Int32, z1 = (v2 ^^^ ((v2.toUInt32 >>> ((20 : Int32).toUInt32 &&& Int32.toUInt32 31)).toInt32 ^^^ (v2.toUInt32 >>> ((10 : Int32).toUInt32 &&& Int32.toUInt32 31)).toInt32)) →
  Q (z1 &&& (1023 : Int32)) σ) ∧ (¬ (v1 + (8 : Int32)) ≤ v3 →
  vp_in v3 8224 ∧
  ∀ z2 : Int32, z2 = (((31 : Int32) * v2) + (σ 0 v3.toNatClampNeg)) →
  ∀ z3 : Int32, z3 = v3 + (1 : Int32) →
  I4 z2 z3 σ ∧ m4 z2 z3 σ < n4))
def F_Rc_chainOf_values (x1 : Int32) (σ : St) (Q : Int32 → St → Prop) : Prop :=
  ∀ z4 : Int32, z4 = (0 : Int32) →
  F_Rc_chainOf_values_L4 x1 z4 x1 σ Q
def F_Rc_chainOf_wanted_L4 (v1 : Int32) (v2 : Int32) (v3 : Int32) (σ : St) (Q : Int32 → St → Prop) : Prop :=
  ∃ (I4 : Int32 → Int32 → St → Prop) (m4 : Int32 → Int32 → St → Nat), I4 v2 v3 σ ∧ ∀ (v2 v3 : Int32) (σ : St) (n4 : Nat), I4 v2 v3 σ → m4 v2 v3 σ = n4 →
  (((v1 + (8 : Int32)) ≤ v3 →
  ∀ z1 : Int32, z1 = (v2 ^^^ ((v2.toUInt32 >>> ((20 : Int32).toUInt32 &&& Int32.toUInt32 31)).toInt32 ^^^ (v2.toUInt32 >>> ((10 : Int32).toUInt32 &&& Int32.toUInt32 31)).toInt32)) →
  Q (z1 &&& (1023 : Int32)) σ) ∧ (¬ (v1 + (8 : Int32)) ≤ v3 →
  vp_in v3 8 ∧
  ∀ z2 : Int32, z2 = (((31 : Int32) * v2) + (σ 6 v3.toNatClampNeg)) →
  ∀ z3 : Int32, z3 = v3 + (1 : Int32) →
  I4 z2 z3 σ ∧ m4 z2 z3 σ < n4))
def F_Rc_chainOf_wanted (x1 : Int32) (σ : St) (Q : Int32 → St → Prop) : Prop :=
  ∀ z4 : Int32, z4 = (0 : Int32) →
  F_Rc_chainOf_wanted_L4 x1 z4 x1 σ Q
def F_Rc_value (x1 : Int32) (x2 : Int32) (σ : St) (Q : Int32 → St → Prop) : Prop :=
  vp_in ((x1 * (8 : Int32)) + x2) 8224 ∧
  Q (σ 0 ((x1 * (8 : Int32)) + x2).toNatClampNeg) σ
def F_Rc_hold (x1 : Int32) (x2 : Int32) (σ : St) (Q : St → Prop) : Prop :=
  vp_in x1 1028 ∧
  vp_in x1 1028 ∧ ∀ σ1 : St, σ1 = sA σ 1 (upd (σ 1) x1.toNatClampNeg ((σ 1 x1.toNatClampNeg) + x2)) →
  Q σ1
def F_Rc_isWanted_L2 (v1 : Int32) (v2 : Int32) (σ : St) (Q : Int32 → St → Prop) : Prop :=
  ∃ (I2 : Int32 → St → Prop) (m2 : Int32 → St → Nat), I2 v2 σ ∧ ∀ (v2 : Int32) (σ : St) (n2 : Nat), I2 v2 σ → m2 v2 σ = n2 →
  (((8 : Int32) ≤ v2 →
  Q (1 : Int32) σ) ∧ (¬ (8 : Int32) ≤ v2 →
  vp_in ((v1 * (8 : Int32)) + v2) 8224 ∧
  vp_in v2 8 ∧
  (((σ 0 ((v1 * (8 : Int32)) + v2).toNatClampNeg) = (σ 6 v2.toNatClampNeg) →
  ∀ z1 : Int32, z1 = v2 + (1 : Int32) →
  I2 z1 σ ∧ m2 z1 σ < n2) ∧ (¬ (σ 0 ((v1 * (8 : Int32)) + v2).toNatClampNeg) = (σ 6 v2.toNatClampNeg) →
  Q (0 : Int32) σ))))
def F_Rc_isWanted (x1 : Int32) (σ : St) (Q : Int32 → St → Prop) : Prop :=
  ∀ z2 : Int32, z2 = (0 : Int32) →
  F_Rc_isWanted_L2 x1 z2 σ Q
def F_Rc_findWanted_L9 (v2 : Int32) (v3 : Int32) (σ : St) (Q : Int32 → St → Prop) : Prop :=
  ∃ (I9 : Int32 → Int32 → St → Prop) (m9 : Int32 → Int32 → St → Nat), I9 v2 v3 σ ∧ ∀ (v2 v3 : Int32) (σ : St) (n9 : Nat), I9 v2 v3 σ → m9 v2 v3 σ = n9 →
  (((1028 : Int32) ≤ v3 →
  Q (-1 : Int32) σ) ∧ (¬ (1028 : Int32) ≤ v3 →
  ((v2 = (-1 : Int32) →
  Q (-1 : Int32) σ) ∧ (¬ v2 = (-1 : Int32) →
  F_Rc_isWanted v2 σ (fun r2 σ1 =>
  ((r2 = 0 →
  vp_in v2 1028 ∧
  ∀ z3 : Int32, z3 = (σ1 4 v2.toNatClampNeg) →
  ∀ z4 : Int32, z4 = v3 + (1 : Int32) →
  I9 z3 z4 σ1 ∧ m9 z3 z4 σ1 < n9) ∧ (¬ r2 = 0 →
  Q v2 σ1)))))))
def F_Rc_findWanted (x1 : Int32) (σ : St) (Q : Int32 → St → Prop) : Prop :=
  vp_in x1 1024 ∧
  ∀ z5 : Int32, z5 = (σ 3 x1.toNatClampNeg) →
  ∀ z6 : Int32, z6 = (0 : Int32) →
  F_Rc_findWanted_L9 z5 z6 σ Q
def F_Rc_keepWanted (x1 : Int32) (σ : St) (Q : Int32 → St → Prop) : Prop :=
  ∀ σ1 : St, σ1 = sA σ 7 (fun _ => ((σ 7 0) - (1 : Int32))) →
  vp_in (σ1 7 0) 1028 ∧
  ∀ z2 : Int32, z2 = (σ1 2 (σ1 7 0).toNatClampNeg) →
  ¬ (0 : Int32) < 0 ∧ ¬ (z2 * (8 : Int32)) < 0 ∧ ¬ (8 : Int32) < 0 ∧ (0 : Int32).toNatClampNeg + (8 : Int32).toNatClampNeg ≤ 8 ∧ (z2 * (8 : Int32)).toNatClampNeg + (8 : Int32).toNatClampNeg ≤ 8224 ∧ ∀ σ3 : St, σ3 = sA σ1 0 (va_cpy (σ1 6) (σ1 0) (0 : Int32).toNatClampNeg (z2 * (8 : Int32)).toNatClampNeg (8 : Int32).toNatClampNeg) →
  vp_in x1 1024 ∧
  vp_in z2 1028 ∧ ∀ σ4 : St, σ4 = sA σ3 4 (upd (σ3 4) z2.toNatClampNeg (σ3 3 x1.toNatClampNeg)) →
  vp_in x1 1024 ∧ ∀ σ5 : St, σ5 = sA σ4 3 (upd (σ4 3) x1.toNatClampNeg z2) →
  Q z2 σ5
def F_Rc_drop_J95 (v1 : Int32) (σ : St) (Q : St → Prop) : Prop :=
  vp_in (σ 7 0) 1028 ∧ ∀ σ1 : St, σ1 = sA σ 2 (upd (σ 2) (σ 7 0).toNatClampNeg v1) →
  ∀ σ2 : St, σ2 = sA σ1 7 (fun _ => ((σ1 7 0) + (1 : Int32))) →
  Q σ2
def F_Rc_drop_J63 (v1 : Int32) (v2 : Int32) (v3 : Int32) (σ : St) (Q : St → Prop) : Prop :=
  ((v3 = (-1 : Int32) →
  vp_in v1 1028 ∧
  vp_in v2 1024 ∧ ∀ σ4 : St, σ4 = sA σ 3 (upd (σ 3) v2.toNatClampNeg (σ 4 v1.toNatClampNeg)) →
  F_Rc_drop_J95 v1 σ4 Q) ∧ (¬ v3 = (-1 : Int32) →
  vp_in v1 1028 ∧
  vp_in v3 1028 ∧ ∀ σ3 : St, σ3 = sA σ 4 (upd (σ 4) v3.toNatClampNeg (σ 4 v1.toNatClampNeg)) →
  F_Rc_drop_J95 v1 σ3 Q))
def F_Rc_drop_L25 (v1 : Int32) (v2 : Int32) (v3 : Int32) (v4 : Int32) (v5 : Int32) (σ : St) (Q : St → Prop) : Prop :=
  ∃ (I25 : Int32 → Int32 → Int32 → St → Prop) (m25 : Int32 → Int32 → Int32 → St → Nat), I25 v3 v4 v5 σ ∧ ∀ (v3 v4 v5 : Int32) (σ : St) (n25 : Nat), I25 v3 v4 v5 σ → m25 v3 v4 v5 σ = n25 →
  (((1028 : Int32) ≤ v5 →
  F_Rc_drop_J63 v1 v2 v3 σ Q) ∧ (¬ (1028 : Int32) ≤ v5 →
  ((v4 = (-1 : Int32) →
  F_Rc_drop_J63 v1 v2 v3 σ Q) ∧ (¬ v4 = (-1 : Int32) →
  ((v4 = v1 →
  F_Rc_drop_J63 v1 v2 v3 σ Q) ∧ (¬ v4 = v1 →
  vp_in v4 1028 ∧
  ∀ z5 : Int32, z5 = (σ 4 v4.toNatClampNeg) →
  ∀ z6 : Int32, z6 = v5 + (1 : Int32) →
  I25 v4 z5 z6 σ ∧ m25 v4 z5 z6 σ < n25))))))
def F_Rc_drop (x1 : Int32) (σ : St) (Q : St → Prop) : Prop :=
  F_Rc_chainOf_values (x1 * (8 : Int32)) σ (fun r8 σ7 =>
  ∀ z9 : Int32, z9 = (-1 : Int32) →
  vp_in r8 1024 ∧
  ∀ z10 : Int32, z10 = (σ7 3 r8.toNatClampNeg) →
  ∀ z11 : Int32, z11 = (0 : Int32) →
  F_Rc_drop_L25 x1 r8 z9 z10 z11 σ7 Q)
def F_Rc_release (x1 : Int32) (x2 : Int32) (σ : St) (Q : St → Prop) : Prop :=
  vp_in x1 1028 ∧
  vp_in x1 1028 ∧ ∀ σ1 : St, σ1 = sA σ 1 (upd (σ 1) x1.toNatClampNeg ((σ 1 x1.toNatClampNeg) - x2)) →
  vp_in x1 1028 ∧
  (((σ1 1 x1.toNatClampNeg) = 0 →
  F_Rc_drop x1 σ1 (fun σ2 =>
  Q σ2)) ∧ (¬ (σ1 1 x1.toNatClampNeg) = 0 →
  Q σ1))
def F_Rc_begin (x1 : Int32) (x2 : Int32) (x3 : Int32) (σ : St) (Q : St → Prop) : Prop :=
  ∀ σ1 : St, σ1 = sA σ 8 (fun _ => x1) →
  ∀ σ2 : St, σ2 = sA σ1 9 (fun _ => x2) →
  ∀ σ3 : St, σ3 = sA σ2 10 (fun _ => x3) →
  F_Ar_fill2_outcome (-1 : Int32) σ3 (fun σ4 =>
  Q σ4)
def F_Rc_altered_J93 (v1 : Int32) (v3 : Int32) (σ : St) (Q : Int32 → St → Prop) : Prop :=
  vp_in v1 1028 ∧ ∀ σ1 : St, σ1 = sA σ 5 (upd (σ 5) v1.toNatClampNeg v3) →
  vp_in v1 1028 ∧
  Q (σ1 5 v1.toNatClampNeg) σ1
def F_Rc_altered (x1 : Int32) (σ : St) (Q : Int32 → St → Prop) : Prop :=
  vp_in x1 1028 ∧
  (((σ 5 x1.toNatClampNeg) = (-1 : Int32) →
  ¬ (x1 * (8 : Int32)) < 0 ∧ ¬ (0 : Int32) < 0 ∧ ¬ (8 : Int32) < 0 ∧ (x1 * (8 : Int32)).toNatClampNeg + (8 : Int32).toNatClampNeg ≤ 8224 ∧ (0 : Int32).toNatClampNeg + (8 : Int32).toNatClampNeg ≤ 8 ∧ ∀ σ2 : St, σ2 = sA σ 6 (va_cpy (σ 0) (σ 6) (x1 * (8 : Int32)).toNatClampNeg (0 : Int32).toNatClampNeg (8 : Int32).toNatClampNeg) →
  vp_in (σ2 8 0) 8 ∧
  vp_in (σ2 8 0) 8 ∧ ∀ σ3 : St, σ3 = sA σ2 6 (upd (σ2 6) (σ2 8 0).toNatClampNeg (((σ2 6 (σ2 8 0).toNatClampNeg) &&& (σ2 10 0)) ||| (σ2 9 0))) →
  F_Rc_chainOf_wanted (0 : Int32) σ3 (fun r5 σ4 =>
  F_Rc_findWanted r5 σ4 (fun r7 σ6 =>
  ((r7 = (-1 : Int32) →
  (((σ6 7 0) ≤ 0 →
  F_Rc_altered_J93 x1 x1 σ6 Q) ∧ (¬ (σ6 7 0) ≤ 0 →
  F_Rc_keepWanted r5 σ6 (fun r9 σ8 =>
  F_Rc_altered_J93 x1 r9 σ8 Q)))) ∧ (¬ r7 = (-1 : Int32) →
  F_Rc_altered_J93 x1 r7 σ6 Q))))) ∧ (¬ (σ 5 x1.toNatClampNeg) = (-1 : Int32) →
  vp_in x1 1028 ∧
  Q (σ 5 x1.toNatClampNeg) σ))
def F_Rc_empty_L18 (v1 : Int32) (σ : St) (Q : St → Prop) : Prop :=
  ∃ (I18 : Int32 → St → Prop) (m18 : Int32 → St → Nat), I18 v1 σ ∧ ∀ (v1 : Int32) (σ : St) (n18 : Nat), I18 v1 σ → m18 v1 σ = n18 →
  (((1028 : Int32) ≤ v1 →
  ∀ σ1 : St, σ1 = sA σ 7 (fun _ => (1028 : Int32)) →
  F_Ar_fill2_wanted (0 : Int32) σ1 (fun σ2 =>
  F_Rc_chainOf_wanted (0 : Int32) σ2 (fun r4 σ3 =>
  F_Rc_keepWanted r4 σ3 (fun r6 σ5 =>
  F_Rc_hold r6 (1 : Int32) σ5 (fun σ7 =>
  Q σ7))))) ∧ (¬ (1028 : Int32) ≤ v1 →
  vp_in v1 1028 ∧ ∀ σ8 : St, σ8 = sA σ 2 (upd (σ 2) v1.toNatClampNeg ((1027 : Int32) - v1)) →
  ∀ z9 : Int32, z9 = v1 + (1 : Int32) →
  I18 z9 σ8 ∧ m18 z9 σ8 < n18))
def F_Rc_empty (σ : St) (Q : St → Prop) : Prop :=
  F_Ar_fill2_heads (-1 : Int32) σ (fun σ10 =>
  F_Ar_fill2_holders (0 : Int32) σ10 (fun σ11 =>
  ∀ z12 : Int32, z12 = (0 : Int32) →
  F_Rc_empty_L18 z12 σ11 Q))
def F_Bl_find_J53 (v1 : Int32) (v2 : Int32) (σ : St) (Q : St → Prop) : Prop :=
  ∀ z1 : Int32, z1 = (((1 : Int32) <<< (v2 &&& 31)) - (1 : Int32)) →
  ∀ σ2 : St, σ2 = sA σ 15 (fun _ => (v1 &&& (z1 ^^^ (-1 : Int32)))) →
  ∀ σ3 : St, σ3 = sA σ2 16 (fun _ => (v1 ||| z1)) →
  Q σ3
def F_Bl_find_L10 (v1 : Int32) (v2 : Int32) (σ : St) (Q : St → Prop) : Prop :=
  ∃ (I10 : Int32 → St → Prop) (m10 : Int32 → St → Nat), I10 v2 σ ∧ ∀ (v2 : Int32) (σ : St) (n10 : Nat), I10 v2 σ → m10 v2 σ = n10 →
  ((v2 ≤ 0 →
  F_Bl_find_J53 v1 v2 σ Q) ∧ (¬ v2 ≤ 0 →
  vp_in (σ 14 0) 66624 ∧
  ((0 ≤ (σ 11 (σ 14 0).toNatClampNeg) →
  F_Bl_find_J53 v1 v2 σ Q) ∧ (¬ 0 ≤ (σ 11 (σ 14 0).toNatClampNeg) →
  ∀ z4 : Int32, z4 = v2 + (-5 : Int32) →
  vp_in (σ 14 0) 66624 ∧
  ∀ σ5 : St, σ5 = sA σ 14 (fun _ => ((-(σ 11 (σ 14 0).toNatClampNeg)) + ((v1 >>> (z4 &&& 31)) &&& (31 : Int32)))) →
  I10 z4 σ5 ∧ m10 z4 σ5 < n10))))
def F_Bl_find (x1 : Int32) (σ : St) (Q : St → Prop) : Prop :=
  ∀ z6 : Int32, z6 = (10 : Int32) →
  ∀ σ7 : St, σ7 = sA σ 14 (fun _ => (x1 >>> (z6 &&& 31))) →
  F_Bl_find_L10 x1 z6 σ7 Q
def F_Bl_recordOf (x1 : Int32) (σ : St) (Q : Int32 → St → Prop) : Prop :=
  F_Bl_find x1 σ (fun σ1 =>
  vp_in (σ1 14 0) 66624 ∧
  Q (σ1 11 (σ1 14 0).toNatClampNeg) σ1)
def F_Bl_split (x1 : Int32) (σ : St) (Q : St → Prop) : Prop :=
  (((σ 13 0) ≤ 0 →
  Q σ) ∧ (¬ (σ 13 0) ≤ 0 →
  ∀ σ1 : St, σ1 = sA σ 13 (fun _ => ((σ 13 0) - (1 : Int32))) →
  vp_in (σ1 13 0) 2048 ∧
  ∀ z2 : Int32, z2 = (σ1 12 (σ1 13 0).toNatClampNeg) →
  vp_in x1 66624 ∧
  ∀ z3 : Int32, z3 = (σ1 11 x1.toNatClampNeg) →
  F_Ar_fill4_cells z2 (z2 + (32 : Int32)) z3 σ1 (fun σ4 =>
  F_Rc_hold z3 (31 : Int32) σ4 (fun σ5 =>
  vp_in x1 66624 ∧ ∀ σ6 : St, σ6 = sA σ5 11 (upd (σ5 11) x1.toNatClampNeg (-z2)) →
  Q σ6))))
def F_Bl_splitBefore_L8 (v1 : Int32) (v2 : Int32) (σ : St) (Q : St → Prop) : Prop :=
  ∃ (I8 : Int32 → St → Prop) (m8 : Int32 → St → Nat), I8 v2 σ ∧ ∀ (v2 : Int32) (σ : St) (n8 : Nat), I8 v2 σ → m8 v2 σ = n8 →
  ((v2 ≤ 0 →
  Q σ) ∧ (¬ v2 ≤ 0 →
  ((v1 ≤ (σ 15 0) →
  Q σ) ∧ (¬ v1 ≤ (σ 15 0) →
  F_Bl_split (σ 14 0) σ (fun σ1 =>
  F_Bl_find v1 σ1 (fun σ2 =>
  ∀ z3 : Int32, z3 = v2 + (-5 : Int32) →
  I8 z3 σ2 ∧ m8 z3 σ2 < n8))))))
def F_Bl_splitBefore (x1 : Int32) (σ : St) (Q : St → Prop) : Prop :=
  F_Bl_find x1 σ (fun σ4 =>
  ∀ z5 : Int32, z5 = (10 : Int32) →
  F_Bl_splitBefore_L8 x1 z5 σ4 Q)
def F_Bl_replace (x1 : Int32) (σ : St) (Q : St → Prop) : Prop :=
  vp_in x1 66624 ∧
  ∀ z1 : Int32, z1 = (σ 11 x1.toNatClampNeg) →
  F_Rc_altered z1 σ (fun r3 σ2 =>
  ((r3 = z1 →
  Q σ2) ∧ (¬ r3 = z1 →
  vp_in x1 66624 ∧ ∀ σ4 : St, σ4 = sA σ2 11 (upd (σ2 11) x1.toNatClampNeg r3) →
  F_Rc_hold r3 (1 : Int32) σ4 (fun σ5 =>
  F_Rc_release z1 (1 : Int32) σ5 (fun σ6 =>
  Q σ6)))))
def F_Bl_isAllAlike_L15 (v1 : Int32) (v2 : Int32) (v3 : Int32) (σ : St) (Q : Int32 → St → Prop) : Prop :=
  ∃ (I15 : Int32 → St → Prop) (m15 : Int32 → St → Nat), I15 v3 σ ∧ ∀ (v3 : Int32) (σ : St) (n15 : Nat), I15 v3 σ → m15 v3 σ = n15 →
  (((32 : Int32) ≤ v3 →
  Q (1 : Int32) σ) ∧ (¬ (32 : Int32) ≤ v3 →
  vp_in (v1 + v3) 66624 ∧
  (((σ 11 (v1 + v3).toNatClampNeg) = v2 →
  ∀ z1 : Int32, z1 = v3 + (1 : Int32) →
  I15 z1 σ ∧ m15 z1 σ < n15) ∧ (¬ (σ 11 (v1 + v3).toNatClampNeg) = v2 →
  Q (0 : Int32) σ))))
def F_Bl_isAllAlike (x1 : Int32) (σ : St) (Q : Int32 → St → Prop) : Prop :=
  vp_in x1 66624 ∧
  ∀ z2 : Int32, z2 = (σ 11 x1.toNatClampNeg) →
  ((0 ≤ z2 →
  ∀ z3 : Int32, z3 = (1 : Int32) →
  F_Bl_isAllAlike_L15 x1 z2 z3 σ Q) ∧ (¬ 0 ≤ z2 →
  Q (0 : Int32) σ))
def F_Bl_join (x1 : Int32) (σ : St) (Q : St → Prop) : Prop :=
  vp_in x1 66624 ∧
  ∀ z1 : Int32, z1 = (-(σ 11 x1.toNatClampNeg)) →
  ((z1 ≤ 0 →
  Q σ) ∧ (¬ z1 ≤ 0 →
  F_Bl_isAllAlike z1 σ (fun r3 σ2 =>
  ((r3 = 0 →
  Q σ2) ∧ (¬ r3 = 0 →
  vp_in z1 66624 ∧
  ∀ z4 : Int32, z4 = (σ2 11 z1.toNatClampNeg) →
  vp_in x1 66624 ∧ ∀ σ5 : St, σ5 = sA σ2 11 (upd (σ2 11) x1.toNatClampNeg z4) →
  F_Rc_release z4 (31 : Int32) σ5 (fun σ6 =>
  vp_in (σ6 13 0) 2048 ∧ ∀ σ7 : St, σ7 = sA σ6 12 (upd (σ6 12) (σ6 13 0).toNatClampNeg z1) →
  ∀ σ8 : St, σ8 = sA σ7 13 (fun _ => ((σ7 13 0) + (1 : Int32))) →
  Q σ8))))))
def F_Bl_joinBelow_L14 (v1 : Int32) (v2 : Int32) (v3 : Int32) (σ : St) (Q : St → Prop) : Prop :=
  ∃ (I14 : Int32 → St → Prop) (m14 : Int32 → St → Nat), I14 v3 σ ∧ ∀ (v3 : Int32) (σ : St) (n14 : Nat), I14 v3 σ → m14 v3 σ = n14 →
  (((32 : Int32) ≤ v3 →
  F_Bl_join v1 σ (fun σ1 =>
  Q σ1)) ∧ (¬ (32 : Int32) ≤ v3 →
  F_Bl_join (v2 + v3) σ (fun σ2 =>
  ∀ z3 : Int32, z3 = v3 + (1 : Int32) →
  I14 z3 σ2 ∧ m14 z3 σ2 < n14)))
def F_Bl_joinBelow (x1 : Int32) (σ : St) (Q : St → Prop) : Prop :=
  vp_in x1 66624 ∧
  ∀ z4 : Int32, z4 = (-(σ 11 x1.toNatClampNeg)) →
  ((z4 ≤ 0 →
  Q σ) ∧ (¬ z4 ≤ 0 →
  ∀ z5 : Int32, z5 = (0 : Int32) →
  F_Bl_joinBelow_L14 x1 z4 z5 σ Q))
def F_Bl_alter_L67 (v2 : Int32) (v4 : Int32) (σ : St) (Q : St → Prop) : Prop :=
  ∃ (I67 : Int32 → St → Prop) (m67 : Int32 → St → Nat), I67 v4 σ ∧ ∀ (v4 : Int32) (σ : St) (n67 : Nat), I67 v4 σ → m67 v4 σ = n67 →
  (((v2 >>> ((10 : Int32) &&& 31)) < v4 →
  Q σ) ∧ (¬ (v2 >>> ((10 : Int32) &&& 31)) < v4 →
  F_Bl_joinBelow v4 σ (fun σ1 =>
  ∀ z2 : Int32, z2 = v4 + (1 : Int32) →
  I67 z2 σ1 ∧ m67 z2 σ1 < n67)))
def F_Bl_alter_L29 (v1 : Int32) (v2 : Int32) (v3 : Int32) (σ : St) (Q : St → Prop) : Prop :=
  ∃ (I29 : Int32 → St → Prop) (m29 : Int32 → St → Nat), I29 v3 σ ∧ ∀ (v3 : Int32) (σ : St) (n29 : Nat), I29 v3 σ → m29 v3 σ = n29 →
  ((v2 < v3 →
  ∀ z3 : Int32, z3 = (v1 >>> ((10 : Int32) &&& 31)) →
  F_Bl_alter_L67 v2 z3 σ Q) ∧ (¬ v2 < v3 →
  F_Bl_find v3 σ (fun σ4 =>
  F_Bl_replace (σ4 14 0) σ4 (fun σ5 =>
  ∀ z6 : Int32, z6 = ((if v3 < (σ5 16 0) then (σ5 16 0) else v3) + (1 : Int32)) →
  I29 z6 σ5 ∧ m29 z6 σ5 < n29))))
def F_Bl_alter (x1 : Int32) (x2 : Int32) (σ : St) (Q : St → Prop) : Prop :=
  (((4 : Int32) ≤ (σ 13 0) →
  F_Bl_splitBefore x1 σ (fun σ7 =>
  (((1114111 : Int32) ≤ x2 →
  F_Bl_alter_L29 x1 x2 x1 σ7 Q) ∧ (¬ (1114111 : Int32) ≤ x2 →
  F_Bl_splitBefore (x2 + (1 : Int32)) σ7 (fun σ8 =>
  F_Bl_alter_L29 x1 x2 x1 σ8 Q))))) ∧ (¬ (4 : Int32) ≤ (σ 13 0) →
  Q σ))
def F_Bl_empty_L32 (v1 : Int32) (σ : St) (Q : St → Prop) : Prop :=
  ∃ (I32 : Int32 → St → Prop) (m32 : Int32 → St → Nat), I32 v1 σ ∧ ∀ (v1 : Int32) (σ : St) (n32 : Nat), I32 v1 σ → m32 v1 σ = n32 →
  (((2048 : Int32) ≤ v1 →
  ∀ σ1 : St, σ1 = sA σ 13 (fun _ => (2048 : Int32)) →
  Q σ1) ∧ (¬ (2048 : Int32) ≤ v1 →
  vp_in v1 2048 ∧ ∀ σ2 : St, σ2 = sA σ 12 (upd (σ 12) v1.toNatClampNeg ((1088 : Int32) + (v1 * (32 : Int32)))) →
  ∀ z3 : Int32, z3 = v1 + (1 : Int32) →
  I32 z3 σ2 ∧ m32 z3 σ2 < n32))
def F_Bl_empty (σ : St) (Q : St → Prop) : Prop :=
  F_Rc_empty  σ (fun σ4 =>
  F_Ar_fill4_cells (0 : Int32) (1088 : Int32) (0 : Int32) σ4 (fun σ5 =>
  F_Rc_hold (0 : Int32) (1088 : Int32) σ5 (fun σ6 =>
  ∀ z7 : Int32, z7 = (0 : Int32) →
  F_Bl_empty_L32 z7 σ6 Q)))
def F_Pt_valueAt (x1 : Int32) (x2 : Int32) (σ : St) (Q : Int32 → St → Prop) : Prop :=
  F_Bl_recordOf x1 σ (fun r2 σ1 =>
  F_Rc_value r2 x2 σ1 (fun r4 σ3 =>
  Q r4 σ3))
def F_Pt_clear_L4 (v1 : Int32) (v2 : Int32) (σ : St) (Q : Int32 → St → Prop) : Prop :=
  ∃ (I4 : Int32 → Int32 → St → Prop) (m4 : Int32 → Int32 → St → Nat), I4 v1 v2 σ ∧ ∀ (v1 v2 : Int32) (σ : St) (n4 : Nat), I4 v1 v2 σ → m4 v1 v2 σ = n4 →
  (((1024 : Int32) ≤ v2 →
  F_Bl_empty  σ (fun σ1 =>
  Q v1 σ1)) ∧ (¬ (1024 : Int32) ≤ v2 →
  F_Bl_recordOf v2 σ (fun r3 σ2 =>
  ((r3 = 0 →
  ∀ z7 : Int32, z7 = (1 : Int32) →
  ∀ z8 : Int32, z8 = ((if v2 < (σ2 16 0) then (σ2 16 0) else v2) + (1 : Int32)) →
  ((z7 = 0 →
  ∀ z9 : Int32, z9 = (v1 + (z8 - v2)) →
  I4 z9 z8 σ2 ∧ m4 z9 z8 σ2 < n4) ∧ (¬ z7 = 0 →
  I4 v1 z8 σ2 ∧ m4 v1 z8 σ2 < n4))) ∧ (¬ r3 = 0 →
  ∀ z4 : Int32, z4 = (0 : Int32) →
  ∀ z5 : Int32, z5 = ((if v2 < (σ2 16 0) then (σ2 16 0) else v2) + (1 : Int32)) →
  ((z4 = 0 →
  ∀ z6 : Int32, z6 = (v1 + (z5 - v2)) →
  I4 z6 z5 σ2 ∧ m4 z6 z5 σ2 < n4) ∧ (¬ z4 = 0 →
  I4 v1 z5 σ2 ∧ m4 v1 z5 σ2 < n4)))))))
def F_Pt_clear (σ : St) (Q : Int32 → St → Prop) : Prop :=
  ∀ z10 : Int32, z10 = (0 : Int32) →
  ∀ z11 : Int32, z11 = (0 : Int32) →
  F_Pt_clear_L4 z10 z11 σ Q
def F_Pt_checkPoint (x0 : Int32) (σ : St) (Q : St → Prop) : Prop :=
  ((x0 < 0 →
  False) ∧ (¬ x0 < 0 →
  ((x0 ≤ (1114111 : Int32) →
  Q σ) ∧ (¬ x0 ≤ (1114111 : Int32) →
  False))))
def F_Pt_checkRange (x0 : Int32) (x1 : Int32) (σ : St) (Q : St → Prop) : Prop :=
  ((x0 < 0 →
  False) ∧ (¬ x0 < 0 →
  ((x1 < x0 →
  False) ∧ (¬ x1 < x0 →
  ((x1 ≤ (1114111 : Int32) →
  Q σ) ∧ (¬ x1 ≤ (1114111 : Int32) →
  False))))))
def F_Pt_checkField (x0 : Int32) (σ : St) (Q : St → Prop) : Prop :=
  ((x0 < 0 →
  False) ∧ (¬ x0 < 0 →
  ((x0 < (8 : Int32) →
  Q σ) ∧ (¬ x0 < (8 : Int32) →
  False))))
def F_Pt_checkLength (x0 : Int32) (σ : St) (Q : St → Prop) : Prop :=
  ((x0 ≤ (4000 : Int32) →
  Q σ) ∧ (¬ x0 ≤ (4000 : Int32) →
  False))
def F_Pt_get (x1 : Int32) (x2 : Int32) (σ : St) (Q : Int32 → St → Prop) : Prop :=
  F_Pt_checkPoint x1 σ (fun σ1 =>
  F_Pt_checkField x2 σ1 (fun σ2 =>
  F_Pt_valueAt x1 x2 σ2 (fun r4 σ3 =>
  Q r4 σ3)))
def F_Pt_change_L18 (v2 : Int32) (v3 : Int32) (v4 : Int32) (σ : St) (Q : Int32 → St → Prop) : Prop :=
  ∃ (I18 : Int32 → St → Prop) (m18 : Int32 → St → Nat), I18 v4 σ ∧ ∀ (v4 : Int32) (σ : St) (n18 : Nat), I18 v4 σ → m18 v4 σ = n18 →
  (((1114111 : Int32) < v4 →
  Q (-1 : Int32) σ) ∧ (¬ (1114111 : Int32) < v4 →
  F_Pt_valueAt v4 v2 σ (fun r2 σ1 =>
  ((r2 = v3 →
  ∀ z3 : Int32, z3 = ((if v4 < (σ1 16 0) then (σ1 16 0) else v4) + (1 : Int32)) →
  I18 z3 σ1 ∧ m18 z3 σ1 < n18) ∧ (¬ r2 = v3 →
  Q v4 σ1)))))
def F_Pt_change (x1 : Int32) (x2 : Int32) (σ : St) (Q : Int32 → St → Prop) : Prop :=
  F_Pt_checkPoint x1 σ (fun σ4 =>
  F_Pt_checkField x2 σ4 (fun σ5 =>
  F_Pt_valueAt x1 x2 σ5 (fun r7 σ6 =>
  F_Pt_change_L18 x2 r7 x1 σ6 Q)))
def F_Pt_alike (x1 : Int32) (x2 : Int32) (σ : St) (Q : Int32 → St → Prop) : Prop :=
  F_Pt_checkPoint x1 σ (fun σ1 =>
  F_Pt_checkPoint x2 σ1 (fun σ2 =>
  F_Bl_recordOf x1 σ2 (fun r4 σ3 =>
  F_Bl_recordOf x2 σ3 (fun r6 σ5 =>
  ((r4 = r6 →
  Q (1 : Int32) σ5) ∧ (¬ r4 = r6 →
  Q (0 : Int32) σ5))))))
def F_Pt_hash_J60 (v2 : Int32) (v3 : Int32) (v4 : Int32) (v5 : Int32) (v6 : Int32) (v7 : Int32) (σ : St) (K29 : Int32 → Int32 → Int32 → Int32 → St → Prop) (Q : Int32 → St → Prop) : Prop :=
  ∀ z1 : Int32, z1 = (((31 : Int32) * v4) + v5) →
  ∀ z2 : Int32, z2 = v7 + (1 : Int32) →
  K29 z1 v5 v6 z2 σ
def F_Pt_hash_L29 (v2 : Int32) (v3 : Int32) (v4 : Int32) (v5 : Int32) (v6 : Int32) (v7 : Int32) (σ : St) (Q : Int32 → St → Prop) : Prop :=
  ∃ (I29 : Int32 → Int32 → Int32 → Int32 → St → Prop) (m29 : Int32 → Int32 → Int32 → Int32 → St → Nat), I29 v4 v5 v6 v7 σ ∧ ∀ (v4 v5 v6 v7 : Int32) (σ : St) (n29 : Nat), I29 v4 v5 v6 v7 σ → m29 v4 v5 v6 v7 σ = n29 →
  ((v2 < v7 →
  Q v4 σ) ∧ (¬ v2 < v7 →
  ((v7 ≤ v6 →
  F_Pt_hash_J60 v2 v3 v4 v5 v6 v7 σ (fun b4 b5 b6 b7 τ => I29 b4 b5 b6 b7 τ ∧ m29 b4 b5 b6 b7 τ < n29) Q) ∧ (¬ v7 ≤ v6 →
  F_Pt_valueAt v7 v3 σ (fun r4 σ3 =>
  ∀ z5 : Int32, z5 = (σ3 16 0) →
  F_Pt_hash_J60 v2 v3 v4 r4 z5 v7 σ3 (fun b4 b5 b6 b7 τ => I29 b4 b5 b6 b7 τ ∧ m29 b4 b5 b6 b7 τ < n29) Q)))))
def F_Pt_hash (x1 : Int32) (x2 : Int32) (x3 : Int32) (σ : St) (Q : Int32 → St → Prop) : Prop :=
  F_Pt_checkRange x1 x2 σ (fun σ6 =>
  F_Pt_checkLength ((x2 - x1) + (1 : Int32)) σ6 (fun σ7 =>
  F_Pt_checkField x3 σ7 (fun σ8 =>
  ∀ z9 : Int32, z9 = (1 : Int32) →
  ∀ z10 : Int32, z10 = (0 : Int32) →
  ∀ z11 : Int32, z11 = (-1 : Int32) →
  F_Pt_hash_L29 x2 x3 z9 z10 z11 x1 σ8 Q)))
def F_Pt_mark (x1 : Int32) (x2 : Int32) (x3 : Int32) (x4 : Int32) (x5 : Int32) (σ : St) (Q : Int32 → St → Prop) : Prop :=
  F_Pt_checkRange x1 x2 σ (fun σ1 =>
  F_Pt_checkField x3 σ1 (fun σ2 =>
  F_Rc_begin x3 x4 x5 σ2 (fun σ3 =>
  F_Bl_alter x1 x2 σ3 (fun σ4 =>
  Q ((x2 - x1) + (1 : Int32)) σ4))))
def F_Pt_set (x1 : Int32) (x2 : Int32) (x3 : Int32) (x4 : Int32) (σ : St) (Q : Int32 → St → Prop) : Prop :=
  F_Pt_mark x1 x2 x3 x4 (0 : Int32) σ (fun r2 σ1 =>
  Q r2 σ1)
def F_Mo_thrown (σ : St) (Q : Int32 → St → Prop) : Prop :=
  Q (σ 19 0) σ
def F_Mo_fail (x1 : Int32) (σ : St) (Q : Int32 → St → Prop) : Prop :=
  ∀ σ1 : St, σ1 = sA σ 19 (fun _ => x1) →
  Q (0 : Int32) σ1
def F_Mo_at_L9 (v1 : Int32) (v2 : Int32) (v3 : Int32) (σ : St) (Q : Int32 → St → Prop) : Prop :=
  ∃ (I9 : Int32 → Int32 → St → Prop) (m9 : Int32 → Int32 → St → Nat), I9 v2 v3 σ ∧ ∀ (v2 v3 : Int32) (σ : St) (n9 : Nat), I9 v2 v3 σ → m9 v2 v3 σ = n9 →
  ((v3 ≤ v2 →
  Q v2 σ) ∧ (¬ v3 ≤ v2 →
  ∀ z1 : Int32, z1 = (((v2 + v3) + (1 : Int32)) / (2 : Int32)) →
  vp_in z1 9000 ∧
  ((v1 < (σ 17 z1.toNatClampNeg) →
  ∀ z2 : Int32, z2 = (z1 - (1 : Int32)) →
  I9 v2 z2 σ ∧ m9 v2 z2 σ < n9) ∧ (¬ v1 < (σ 17 z1.toNatClampNeg) →
  I9 z1 v3 σ ∧ m9 z1 v3 σ < n9))))
def F_Mo_at (x1 : Int32) (σ : St) (Q : Int32 → St → Prop) : Prop :=
  ∀ z3 : Int32, z3 = (0 : Int32) →
  ∀ z4 : Int32, z4 = ((σ 20 0) - (1 : Int32)) →
  F_Mo_at_L9 x1 z3 z4 σ Q
def F_Mo_out (x1 : Int32) (σ : St) (Q : Int32 → St → Prop) : Prop :=
  ((x1 < 0 →
  Q (1 : Int32) σ) ∧ (¬ x1 < 0 →
  ((x1 ≤ (1114111 : Int32) →
  Q (0 : Int32) σ) ∧ (¬ x1 ≤ (1114111 : Int32) →
  Q (1 : Int32) σ))))
def F_Mo_cut_L110 (v2 : Int32) (v3 : Int32) (σ : St) (Q : St → Prop) : Prop :=
  ∃ (I110 : Int32 → St → Prop) (m110 : Int32 → St → Nat), I110 v3 σ ∧ ∀ (v3 : Int32) (σ : St) (n110 : Nat), I110 v3 σ → m110 v3 σ = n110 →
  (((8 : Int32) ≤ v3 →
  ∀ σ1 : St, σ1 = sA σ 20 (fun _ => ((σ 20 0) + (1 : Int32))) →
  Q σ1) ∧ (¬ (8 : Int32) ≤ v3 →
  vp_in (((8 : Int32) * v2) + v3) 72000 ∧
  vp_in ((((8 : Int32) * v2) + (8 : Int32)) + v3) 72000 ∧ ∀ σ2 : St, σ2 = sA σ 18 (upd (σ 18) ((((8 : Int32) * v2) + (8 : Int32)) + v3).toNatClampNeg (σ 18 (((8 : Int32) * v2) + v3).toNatClampNeg)) →
  ∀ z3 : Int32, z3 = v3 + (1 : Int32) →
  I110 z3 σ2 ∧ m110 z3 σ2 < n110))
def F_Mo_cut_L53 (v1 : Int32) (v2 : Int32) (v3 : Int32) (v4 : Int32) (σ : St) (K29 : Int32 → St → Prop) (Q : St → Prop) : Prop :=
  ∃ (I53 : Int32 → St → Prop) (m53 : Int32 → St → Nat), I53 v4 σ ∧ ∀ (v4 : Int32) (σ : St) (n53 : Nat), I53 v4 σ → m53 v4 σ = n53 →
  (((8 : Int32) ≤ v4 →
  ∀ z4 : Int32, z4 = v3 + (-1 : Int32) →
  K29 z4 σ) ∧ (¬ (8 : Int32) ≤ v4 →
  vp_in ((((8 : Int32) * v3) - (8 : Int32)) + v4) 72000 ∧
  vp_in (((8 : Int32) * v3) + v4) 72000 ∧ ∀ σ5 : St, σ5 = sA σ 18 (upd (σ 18) (((8 : Int32) * v3) + v4).toNatClampNeg (σ 18 ((((8 : Int32) * v3) - (8 : Int32)) + v4).toNatClampNeg)) →
  ∀ z6 : Int32, z6 = v4 + (1 : Int32) →
  I53 z6 σ5 ∧ m53 z6 σ5 < n53))
def F_Mo_cut_L29 (v1 : Int32) (v2 : Int32) (v3 : Int32) (σ : St) (Q : St → Prop) : Prop :=
  ∃ (I29 : Int32 → St → Prop) (m29 : Int32 → St → Nat), I29 v3 σ ∧ ∀ (v3 : Int32) (σ : St) (n29 : Nat), I29 v3 σ → m29 v3 σ = n29 →
  ((v3 ≤ (v2 + (1 : Int32)) →
  vp_in (v2 + (1 : Int32)) 9000 ∧ ∀ σ7 : St, σ7 = sA σ 17 (upd (σ 17) (v2 + (1 : Int32)).toNatClampNeg v1) →
  ∀ z8 : Int32, z8 = (0 : Int32) →
  F_Mo_cut_L110 v2 z8 σ7 Q) ∧ (¬ v3 ≤ (v2 + (1 : Int32)) →
  vp_in (v3 - (1 : Int32)) 9000 ∧
  vp_in v3 9000 ∧ ∀ σ9 : St, σ9 = sA σ 17 (upd (σ 17) v3.toNatClampNeg (σ 17 (v3 - (1 : Int32)).toNatClampNeg)) →
  ∀ z10 : Int32, z10 = (0 : Int32) →
  F_Mo_cut_L53 v1 v2 v3 z10 σ9 (fun b3 τ => I29 b3 τ ∧ m29 b3 τ < n29) Q))
def F_Mo_cut (x1 : Int32) (σ : St) (Q : St → Prop) : Prop :=
  ((x1 ≤ (1114111 : Int32) →
  F_Mo_at x1 σ (fun r12 σ11 =>
  vp_in r12 9000 ∧
  (((σ11 17 r12.toNatClampNeg) = x1 →
  Q σ11) ∧ (¬ (σ11 17 r12.toNatClampNeg) = x1 →
  ∀ z13 : Int32, z13 = (σ11 20 0) →
  F_Mo_cut_L29 x1 r12 z13 σ11 Q)))) ∧ (¬ x1 ≤ (1114111 : Int32) →
  Q σ))
def F_Mo_mark_J117 (v1 : Int32) (v2 : Int32) (σ : St) (Q : Int32 → St → Prop) : Prop :=
  Q ((v2 - v1) + (1 : Int32)) σ
def F_Mo_mark_L61 (v1 : Int32) (v2 : Int32) (v3 : Int32) (v4 : Int32) (v5 : Int32) (v6 : Int32) (σ : St) (Q : Int32 → St → Prop) : Prop :=
  ∃ (I61 : Int32 → St → Prop) (m61 : Int32 → St → Nat), I61 v6 σ ∧ ∀ (v6 : Int32) (σ : St) (n61 : Nat), I61 v6 σ → m61 v6 σ = n61 →
  (((σ 20 0) ≤ v6 →
  F_Mo_mark_J117 v1 v2 σ Q) ∧ (¬ (σ 20 0) ≤ v6 →
  vp_in v6 9000 ∧
  ((v2 < (σ 17 v6.toNatClampNeg) →
  F_Mo_mark_J117 v1 v2 σ Q) ∧ (¬ v2 < (σ 17 v6.toNatClampNeg) →
  vp_in (((8 : Int32) * v6) + v3) 72000 ∧
  vp_in (((8 : Int32) * v6) + v3) 72000 ∧ ∀ σ1 : St, σ1 = sA σ 18 (upd (σ 18) (((8 : Int32) * v6) + v3).toNatClampNeg (((σ 18 (((8 : Int32) * v6) + v3).toNatClampNeg) &&& v5) ||| v4)) →
  ∀ z2 : Int32, z2 = v6 + (1 : Int32) →
  I61 z2 σ1 ∧ m61 z2 σ1 < n61))))
def F_Mo_mark (x1 : Int32) (x2 : Int32) (x3 : Int32) (x4 : Int32) (x5 : Int32) (σ : St) (Q : Int32 → St → Prop) : Prop :=
  ∀ σ3 : St, σ3 = sA σ 19 (fun _ => (0 : Int32)) →
  F_Mo_out x1 σ3 (fun r5 σ4 =>
  ((r5 = 0 →
  F_Mo_out x2 σ4 (fun r9 σ8 =>
  ((r9 = 0 →
  ((x2 < x1 →
  F_Mo_fail (1 : Int32) σ8 (fun r13 σ12 =>
  Q r13 σ12)) ∧ (¬ x2 < x1 →
  ((x3 < 0 →
  F_Mo_fail (1 : Int32) σ8 (fun r15 σ14 =>
  Q r15 σ14)) ∧ (¬ x3 < 0 →
  ((x3 ≤ (7 : Int32) →
  F_Mo_cut x1 σ8 (fun σ16 =>
  F_Mo_cut (x2 + (1 : Int32)) σ16 (fun σ17 =>
  F_Mo_at x1 σ17 (fun r19 σ18 =>
  F_Mo_mark_L61 x1 x2 x3 x4 x5 r19 σ18 Q)))) ∧ (¬ x3 ≤ (7 : Int32) →
  F_Mo_fail (1 : Int32) σ8 (fun r21 σ20 =>
  Q r21 σ20)))))))) ∧ (¬ r9 = 0 →
  F_Mo_fail (1 : Int32) σ8 (fun r11 σ10 =>
  Q r11 σ10))))) ∧ (¬ r5 = 0 →
  F_Mo_fail (1 : Int32) σ4 (fun r7 σ6 =>
  Q r7 σ6))))
def F_Mo_set (x1 : Int32) (x2 : Int32) (x3 : Int32) (x4 : Int32) (σ : St) (Q : Int32 → St → Prop) : Prop :=
  F_Mo_mark x1 x2 x3 x4 (0 : Int32) σ (fun r2 σ1 =>
  Q r2 σ1)
def F_Mo_get (x1 : Int32) (x2 : Int32) (σ : St) (Q : Int32 → St → Prop) : Prop :=
  ∀ σ1 : St, σ1 = sA σ 19 (fun _ => (0 : Int32)) →
  F_Mo_out x1 σ1 (fun r3 σ2 =>
  ((r3 = 0 →
  ((x2 < 0 →
  F_Mo_fail (1 : Int32) σ2 (fun r7 σ6 =>
  Q r7 σ6)) ∧ (¬ x2 < 0 →
  ((x2 ≤ (7 : Int32) →
  F_Mo_at x1 σ2 (fun r9 σ8 =>
  vp_in (((8 : Int32) * r9) + x2) 72000 ∧
  Q (σ8 18 (((8 : Int32) * r9) + x2).toNatClampNeg) σ8)) ∧ (¬ x2 ≤ (7 : Int32) →
  F_Mo_fail (1 : Int32) σ2 (fun r11 σ10 =>
  Q r11 σ10)))))) ∧ (¬ r3 = 0 →
  F_Mo_fail (1 : Int32) σ2 (fun r5 σ4 =>
  Q r5 σ4))))
def F_Mo_change_J78 (v3 : Int32) (σ : St) (Q : Int32 → St → Prop) : Prop :=
  ((v3 = (σ 20 0) →
  Q (-1 : Int32) σ) ∧ (¬ v3 = (σ 20 0) →
  vp_in v3 9000 ∧
  Q (σ 17 v3.toNatClampNeg) σ))
def F_Mo_change_L48 (v2 : Int32) (v3 : Int32) (v4 : Int32) (σ : St) (Q : Int32 → St → Prop) : Prop :=
  ∃ (I48 : Int32 → St → Prop) (m48 : Int32 → St → Nat), I48 v3 σ ∧ ∀ (v3 : Int32) (σ : St) (n48 : Nat), I48 v3 σ → m48 v3 σ = n48 →
  (((σ 20 0) ≤ v3 →
  F_Mo_change_J78 v3 σ Q) ∧ (¬ (σ 20 0) ≤ v3 →
  vp_in (((8 : Int32) * v3) + v2) 72000 ∧
  (((σ 18 (((8 : Int32) * v3) + v2).toNatClampNeg) = v4 →
  ∀ z1 : Int32, z1 = v3 + (1 : Int32) →
  I48 z1 σ ∧ m48 z1 σ < n48) ∧ (¬ (σ 18 (((8 : Int32) * v3) + v2).toNatClampNeg) = v4 →
  F_Mo_change_J78 v3 σ Q))))
def F_Mo_change (x1 : Int32) (x2 : Int32) (σ : St) (Q : Int32 → St → Prop) : Prop :=
  ∀ σ2 : St, σ2 = sA σ 19 (fun _ => (0 : Int32)) →
  F_Mo_out x1 σ2 (fun r4 σ3 =>
  ((r4 = 0 →
  ((x2 < 0 →
  F_Mo_fail (1 : Int32) σ3 (fun r8 σ7 =>
  Q r8 σ7)) ∧ (¬ x2 < 0 →
  ((x2 ≤ (7 : Int32) →
  F_Mo_at x1 σ3 (fun r10 σ9 =>
  vp_in (((8 : Int32) * r10) + x2) 72000 ∧
  ∀ z11 : Int32, z11 = (σ9 18 (((8 : Int32) * r10) + x2).toNatClampNeg) →
  F_Mo_change_L48 x2 r10 z11 σ9 Q)) ∧ (¬ x2 ≤ (7 : Int32) →
  F_Mo_fail (1 : Int32) σ3 (fun r13 σ12 =>
  Q r13 σ12)))))) ∧ (¬ r4 = 0 →
  F_Mo_fail (1 : Int32) σ3 (fun r6 σ5 =>
  Q r6 σ5))))
def F_Mo_alike_L37 (v1 : Int32) (v2 : Int32) (v3 : Int32) (σ : St) (Q : Int32 → St → Prop) : Prop :=
  ∃ (I37 : Int32 → St → Prop) (m37 : Int32 → St → Nat), I37 v3 σ ∧ ∀ (v3 : Int32) (σ : St) (n37 : Nat), I37 v3 σ → m37 v3 σ = n37 →
  (((8 : Int32) ≤ v3 →
  Q (1 : Int32) σ) ∧ (¬ (8 : Int32) ≤ v3 →
  F_Mo_at v1 σ (fun r2 σ1 =>
  vp_in (((8 : Int32) * r2) + v3) 72000 ∧
  F_Mo_at v2 σ1 (fun r4 σ3 =>
  vp_in (((8 : Int32) * r4) + v3) 72000 ∧
  (((σ1 18 (((8 : Int32) * r2) + v3).toNatClampNeg) = (σ3 18 (((8 : Int32) * r4) + v3).toNatClampNeg) →
  ∀ z5 : Int32, z5 = v3 + (1 : Int32) →
  I37 z5 σ3 ∧ m37 z5 σ3 < n37) ∧ (¬ (σ1 18 (((8 : Int32) * r2) + v3).toNatClampNeg) = (σ3 18 (((8 : Int32) * r4) + v3).toNatClampNeg) →
  Q (0 : Int32) σ3))))))
def F_Mo_alike_J21 (σ : St) (Q : Int32 → St → Prop) : Prop :=
  F_Mo_fail (1 : Int32) σ (fun r7 σ6 =>
  ((r7 ≤ 0 →
  Q (0 : Int32) σ6) ∧ (¬ r7 ≤ 0 →
  Q (1 : Int32) σ6)))
def F_Mo_alike (x1 : Int32) (x2 : Int32) (σ : St) (Q : Int32 → St → Prop) : Prop :=
  ∀ σ8 : St, σ8 = sA σ 19 (fun _ => (0 : Int32)) →
  F_Mo_out x1 σ8 (fun r10 σ9 =>
  ((r10 = 0 →
  F_Mo_out x2 σ9 (fun r12 σ11 =>
  ((r12 = 0 →
  ∀ z13 : Int32, z13 = (0 : Int32) →
  F_Mo_alike_L37 x1 x2 z13 σ11 Q) ∧ (¬ r12 = 0 →
  F_Mo_alike_J21  σ11 Q)))) ∧ (¬ r10 = 0 →
  F_Mo_alike_J21  σ9 Q)))
def F_Mo_hash_L57 (v2 : Int32) (v3 : Int32) (v4 : Int32) (v5 : Int32) (σ : St) (Q : Int32 → St → Prop) : Prop :=
  ∃ (I57 : Int32 → Int32 → St → Prop) (m57 : Int32 → Int32 → St → Nat), I57 v4 v5 σ ∧ ∀ (v4 v5 : Int32) (σ : St) (n57 : Nat), I57 v4 v5 σ → m57 v4 v5 σ = n57 →
  ((v2 < v5 →
  Q v4 σ) ∧ (¬ v2 < v5 →
  F_Mo_at v5 σ (fun r2 σ1 =>
  vp_in (((8 : Int32) * r2) + v3) 72000 ∧
  ∀ z3 : Int32, z3 = (((31 : Int32) * v4) + (σ1 18 (((8 : Int32) * r2) + v3).toNatClampNeg)) →
  ∀ z4 : Int32, z4 = v5 + (1 : Int32) →
  I57 z3 z4 σ1 ∧ m57 z3 z4 σ1 < n57)))
def F_Mo_hash (x1 : Int32) (x2 : Int32) (x3 : Int32) (σ : St) (Q : Int32 → St → Prop) : Prop :=
  ∀ σ5 : St, σ5 = sA σ 19 (fun _ => (0 : Int32)) →
  F_Mo_out x1 σ5 (fun r7 σ6 =>
  ((r7 = 0 →
  F_Mo_out x2 σ6 (fun r11 σ10 =>
  ((r11 = 0 →
  ((x2 < x1 →
  F_Mo_fail (1 : Int32) σ10 (fun r15 σ14 =>
  Q r15 σ14)) ∧ (¬ x2 < x1 →
  (((3999 : Int32) < (x2 - x1) →
  F_Mo_fail (1 : Int32) σ10 (fun r17 σ16 =>
  Q r17 σ16)) ∧ (¬ (3999 : Int32) < (x2 - x1) →
  ((x3 < 0 →
  F_Mo_fail (1 : Int32) σ10 (fun r19 σ18 =>
  Q r19 σ18)) ∧ (¬ x3 < 0 →
  ((x3 ≤ (7 : Int32) →
  ∀ z20 : Int32, z20 = (1 : Int32) →
  F_Mo_hash_L57 x2 x3 z20 x1 σ10 Q) ∧ (¬ x3 ≤ (7 : Int32) →
  F_Mo_fail (1 : Int32) σ10 (fun r22 σ21 =>
  Q r22 σ21)))))))))) ∧ (¬ r11 = 0 →
  F_Mo_fail (1 : Int32) σ10 (fun r13 σ12 =>
  Q r13 σ12))))) ∧ (¬ r7 = 0 →
  F_Mo_fail (1 : Int32) σ6 (fun r9 σ8 =>
  Q r9 σ8))))
def F_Mo_clear_L80 (v1 : Int32) (v2 : Int32) (σ : St) (Q : Int32 → St → Prop) : Prop :=
  ∃ (I80 : Int32 → St → Prop) (m80 : Int32 → St → Nat), I80 v2 σ ∧ ∀ (v2 : Int32) (σ : St) (n80 : Nat), I80 v2 σ → m80 v2 σ = n80 →
  (((8 : Int32) ≤ v2 →
  Q v1 σ) ∧ (¬ (8 : Int32) ≤ v2 →
  vp_in v2 72000 ∧ ∀ σ1 : St, σ1 = sA σ 18 (upd (σ 18) v2.toNatClampNeg (0 : Int32)) →
  ∀ z2 : Int32, z2 = v2 + (1 : Int32) →
  I80 z2 σ1 ∧ m80 z2 σ1 < n80))
def F_Mo_clear_L21 (v1 : Int32) (v2 : Int32) (v3 : Int32) (v4 : Int32) (σ : St) (K9 : Int32 → Int32 → St → Prop) (Q : Int32 → St → Prop) : Prop :=
  ∃ (I21 : Int32 → Int32 → St → Prop) (m21 : Int32 → Int32 → St → Nat), I21 v3 v4 σ ∧ ∀ (v3 v4 : Int32) (σ : St) (n21 : Nat), I21 v3 v4 σ → m21 v3 v4 σ = n21 →
  (((8 : Int32) ≤ v4 →
  ((v3 = 0 →
  ∀ z3 : Int32, z3 = (v1 + (0 : Int32)) →
  ∀ z4 : Int32, z4 = v2 + (1 : Int32) →
  K9 z3 z4 σ) ∧ (¬ v3 = 0 →
  ∀ z5 : Int32, z5 = (v1 + (1 : Int32)) →
  ∀ z6 : Int32, z6 = v2 + (1 : Int32) →
  K9 z5 z6 σ))) ∧ (¬ (8 : Int32) ≤ v4 →
  F_Mo_at v2 σ (fun r8 σ7 =>
  vp_in (((8 : Int32) * r8) + v4) 72000 ∧
  (((σ7 18 (((8 : Int32) * r8) + v4).toNatClampNeg) = 0 →
  ∀ z9 : Int32, z9 = v4 + (1 : Int32) →
  I21 v3 z9 σ7 ∧ m21 v3 z9 σ7 < n21) ∧ (¬ (σ7 18 (((8 : Int32) * r8) + v4).toNatClampNeg) = 0 →
  ∀ z10 : Int32, z10 = (1 : Int32) →
  ∀ z11 : Int32, z11 = v4 + (1 : Int32) →
  I21 z10 z11 σ7 ∧ m21 z10 z11 σ7 < n21)))))
def F_Mo_clear_L9 (v1 : Int32) (v2 : Int32) (σ : St) (Q : Int32 → St → Prop) : Prop :=
  ∃ (I9 : Int32 → Int32 → St → Prop) (m9 : Int32 → Int32 → St → Nat), I9 v1 v2 σ ∧ ∀ (v1 v2 : Int32) (σ : St) (n9 : Nat), I9 v1 v2 σ → m9 v1 v2 σ = n9 →
  (((1024 : Int32) ≤ v2 →
  ∀ σ12 : St, σ12 = sA σ 20 (fun _ => (1 : Int32)) →
  ∀ z13 : Int32, z13 = (0 : Int32) →
  F_Mo_clear_L80 v1 z13 σ12 Q) ∧ (¬ (1024 : Int32) ≤ v2 →
  ∀ z14 : Int32, z14 = (0 : Int32) →
  ∀ z15 : Int32, z15 = (0 : Int32) →
  F_Mo_clear_L21 v1 v2 z14 z15 σ (fun b1 b2 τ => I9 b1 b2 τ ∧ m9 b1 b2 τ < n9) Q))
def F_Mo_clear (σ : St) (Q : Int32 → St → Prop) : Prop :=
  ∀ σ16 : St, σ16 = sA σ 19 (fun _ => (0 : Int32)) →
  ∀ z17 : Int32, z17 = (0 : Int32) →
  ∀ z18 : Int32, z18 = (0 : Int32) →
  F_Mo_clear_L9 z17 z18 σ16 Q
