/-! nodes alike: the sides, the digits -/
def dR (M : Nat) (t : TS) (mt : MT) : Prop := ∀ k, 1 ≤ k → k ≤ M → ∃ D : Nat, D ≤ 10000 ∧ mt.2.2.2.2.1 k = nI D ∧ t.2.2.2.2.1 k = nI (min D 100)
theorem itp {p A B : Prop} [Decidable p] (h1 : p → A) (h2 : ¬ p → B) : if p then A else B := by
  by_cases h : p
  · rw [if_pos h]
    exact h1 h
  · rw [if_neg h]
    exact h2 h
theorem itt {p : Prop} [Decidable p] : if p then True else True := itp (fun _ => trivial) (fun _ => trivial)
section SIDES
variable {N M : Nat} {c : CS} {t : TS} {mc : MC} {mt : MT}
theorem has_eq (h1 : t.1 = nI M) (h2 : mt.1 = nI M) (n : Int32) : G_X3_has t n = G_X5_isNode mt n := by
  unfold G_X3_has G_X5_isNode
  rw [h1, h2]
  have e : (n < 1) ↔ n ≤ 0 := by
    rw [i32_lt, i32_le, i0, show (1 : Int32).toInt = 1 by decide]
    omega
  by_cases h : n < 1
  · rw [if_pos h, if_pos (e.mp h)]
  · rw [if_neg h, if_neg (fun q => h (e.mpr q))]
theorem has_nat (h1 : t.1 = nI M) (hM : M ≤ 200) {n : Int32} (h : ¬ G_X3_has t n = 0) : ∃ k : Nat, 1 ≤ k ∧ k ≤ M ∧ n = nI k := by
  rw [G_X3_has_iff, h1, nI_toInt (by omega)] at h
  exact ⟨n.toInt.toNat, by omega, by omega, i32_of (by omega) (by omega)⟩
theorem nat_has (h1 : t.1 = nI M) (hM : M ≤ 200) {k : Nat} (hk1 : 1 ≤ k) (hk2 : k ≤ M) : ¬ G_X3_has t (nI k) = 0 := by
  rw [G_X3_has_iff, h1, nI_toInt (by omega), nI_toInt (by omega)]
  omega
theorem cell_nat (h : cR N c mc) {n : Int32} (hn : ¬ G_X0_has c n = 0) : ∃ a : Nat, a < N ∧ n = nI a := by
  have := h.2.2.1
  rw [G_X0_has_iff, h.1, nI_toInt (by omega)] at hn
  exact ⟨n.toInt.toNat, by omega, i32_of (by omega) (by omega)⟩
theorem val_eq (h1 : t.1 = nI M) (h2 : mt.1 = nI M) (hM : M ≤ 200) (hR : tRel M t mt) (n : Int32) : OK_X5_isValue mt n ∧ G_X3_isValue t n = G_X5_isValue mt n := by
  unfold OK_X5_isValue G_X3_isValue G_X5_isValue
  rw [← has_eq h1 h2]
  by_cases h : G_X3_has t n = 0
  · rw [if_pos h, if_pos h, if_pos h]
    exact ⟨trivial, rfl⟩
  · rw [if_neg h, if_neg h, if_neg h]
    obtain ⟨k, hk1, hk2, rfl⟩ := has_nat h1 hM h
    rw [nI_clamp (by omega), (hR k hk1 hk2).1]
    exact ⟨⟨vp_in_nI (by omega) (by omega), by split <;> trivial⟩, rfl⟩
theorem val_nat (h1 : t.1 = nI M) (hM : M ≤ 200) {n : Int32} (h : ¬ G_X3_isValue t n = 0) : ∃ k : Nat, 1 ≤ k ∧ k ≤ M ∧ n = nI k ∧ isV t k := by
  unfold G_X3_isValue at h
  by_cases h0 : G_X3_has t n = 0
  · rw [if_pos h0] at h
    exact absurd rfl h
  · obtain ⟨k, hk1, hk2, rfl⟩ := has_nat h1 hM h0
    rw [if_neg h0, nI_clamp (by omega)] at h
    refine ⟨k, hk1, hk2, rfl, ?_⟩
    by_cases h9 : (9 : Int32) ≤ t.2.1 k
    · rw [if_pos h9] at h
      exact absurd rfl h
    · rw [i32_le, show (9 : Int32).toInt = 9 by decide] at h9
      show (t.2.1 k).toInt < 9
      omega
theorem sides_eq (hC : cR N c mc) (h1 : t.1 = nI M) (h2 : mt.1 = nI M) (hM : M ≤ 200) (hR : tRel M t mt) (k a b : Int32) : OK_X5_isSo mc mt k a b ∧ G_X3_areSides c t k a b = G_X5_isSo mc mt k a b := by
  have V := fun n => (val_eq h1 h2 hM hR n).2
  have W := fun n => (val_eq h1 h2 hM hR n).1
  have H := fun n => has_eq h1 h2 n
  have key : G_X3_areSides c t k a b = G_X5_isSo mc mt k a b := by
    unfold G_X3_areSides G_X5_isSo
    simp only [← V, ← H, ← cR_cells hC]
    by_cases hb : G_X3_has t b = 0
    · have e1 : ¬ G_X3_kindOf t b = 11 := by
        unfold G_X3_kindOf
        rw [if_pos hb]
        decide
      simp only [if_neg e1, if_pos hb]
    · obtain ⟨j, hj1, hj2, rfl⟩ := has_nat h1 hM hb
      obtain ⟨q1, q2, q3, -⟩ := hR j hj1 hj2
      have e1 : G_X3_kindOf t (nI j) = mt.2.1 (nI j).toNatClampNeg := by
        unfold G_X3_kindOf
        rw [if_neg hb, nI_clamp (by omega), q1]
      have e2 : G_X3_firstOf t (nI j) = mt.2.2.1 (nI j).toNatClampNeg := by
        unfold G_X3_firstOf
        rw [if_neg hb, nI_clamp (by omega), q2]
      have e3 : G_X3_secondOf t (nI j) = mt.2.2.2.1 (nI j).toNatClampNeg := by
        unfold G_X3_secondOf
        rw [if_neg hb, nI_clamp (by omega), q3]
      simp only [if_neg hb, e1, e2, e3]
  refine ⟨?_, key⟩
  unfold OK_X5_isSo
  have X : ¬ G_X5_isNode mt b = 0 → vp_in b 201 := fun hb => by
    rw [← H] at hb
    obtain ⟨j, hj1, hj2, rfl⟩ := has_nat h1 hM hb
    exact vp_in_nI (by omega) (by omega)
  refine itp (fun _ => trivial) fun _ => itp (fun _ => trivial) fun _ => itp (fun _ => itp (fun _ => trivial) fun _ => ⟨W _, itt⟩) fun _ => itp (fun _ => itp (fun _ => trivial) fun _ => ⟨W _, itt⟩) fun _ => itp (fun _ => itp (fun _ => trivial) fun _ => itp (fun _ => trivial) fun hb => ⟨X hb, itp (fun _ => ⟨X hb, W _, itp (fun _ => trivial) fun _ => ⟨X hb, W _, itt⟩⟩) (fun _ => trivial)⟩) fun _ => itp (fun _ => itp (fun _ => trivial) fun _ => itt) fun _ => itp (fun _ => ⟨W _, itp (fun _ => trivial) fun _ => itt⟩) fun _ => itp (fun _ => ⟨W _, itp (fun _ => trivial) fun _ => itt⟩) fun _ => ⟨W _, itp (fun _ => trivial) fun _ => ⟨W _, itt⟩⟩
/-- what the sides are -/
def SD (N M : Nat) (t : TS) (k a b : Int32) : Prop :=
  k = 0 ∨ (k = 1 ∧ ∃ i, i < N ∧ a = nI i) ∨ ((k = 2 ∨ k = 9) ∧ ∃ i j, i < N ∧ a = nI i ∧ b = nI j ∧ 1 ≤ j ∧ j ≤ M ∧ isV t j) ∨
  (k = 10 ∧ ∃ i j p q, i < N ∧ a = nI i ∧ b = nI j ∧ 1 ≤ j ∧ j ≤ M ∧ kd t j = 11 ∧ fa t j = nI p ∧ sb t j = nI q ∧ 1 ≤ p ∧ p ≤ M ∧ 1 ≤ q ∧ q ≤ M ∧ isV t p ∧ isV t q) ∨
  (k = 11 ∧ ∃ i j, a = nI i ∧ b = nI j ∧ 1 ≤ i ∧ i ≤ M ∧ 1 ≤ j ∧ j ≤ M) ∨
  ((k = 12 ∨ k = 13) ∧ ∃ i j, a = nI i ∧ b = nI j ∧ 1 ≤ i ∧ i ≤ M ∧ 1 ≤ j ∧ j ≤ M ∧ isV t i) ∨
  ((3 ≤ k.toInt ∧ k.toInt ≤ 8) ∧ ∃ i j, a = nI i ∧ b = nI j ∧ 1 ≤ i ∧ i ≤ M ∧ 1 ≤ j ∧ j ≤ M ∧ isV t i ∧ isV t j)
theorem sides_ok (hC : cR N c mc) (h1 : t.1 = nI M) (hM : M ≤ 200) {k a b : Int32} (hk1 : ¬ k < 0) (hk2 : k ≤ 13) (h : ¬ G_X3_areSides c t k a b = 0) : SD N M t k a b := by
  have D : ∀ {p : Prop} [Decidable p] {x : Int32}, ¬ (if p then 0 else x) = 0 → ¬ p ∧ ¬ x = 0 := fun {p} _ {x} hh => by
    by_cases hp : p
    · rw [if_pos hp] at hh
      exact absurd rfl hh
    · rw [if_neg hp] at hh
      exact ⟨hp, hh⟩
  unfold G_X3_areSides at h
  unfold SD
  by_cases e0 : k = 0
  · exact Or.inl e0
  rw [if_neg e0] at h
  by_cases e1 : k = 1
  · rw [if_pos e1] at h
    exact Or.inr (Or.inl ⟨e1, cell_nat hC h⟩)
  rw [if_neg e1] at h
  have two : (k = 2 ∨ k = 9) → ¬ (if G_X0_has c a = 0 then (0 : Int32) else if G_X3_isValue t b = 0 then 0 else 1) = 0 → ((k = 2 ∨ k = 9) ∧ ∃ i j, i < N ∧ a = nI i ∧ b = nI j ∧ 1 ≤ j ∧ j ≤ M ∧ isV t j) := fun hk hh => by
    obtain ⟨q1, q2⟩ := D hh
    obtain ⟨q2, -⟩ := D q2
    obtain ⟨i, hi, ei⟩ := cell_nat hC q1
    obtain ⟨j, hj1, hj2, ej, hv⟩ := val_nat h1 hM q2
    exact ⟨hk, i, j, hi, ei, ej, hj1, hj2, hv⟩
  by_cases e2 : k = 2
  · rw [if_pos e2] at h
    exact Or.inr (Or.inr (Or.inl (two (Or.inl e2) h)))
  rw [if_neg e2] at h
  by_cases e9 : k = 9
  · rw [if_pos e9] at h
    exact Or.inr (Or.inr (Or.inl (two (Or.inr e9) h)))
  rw [if_neg e9] at h
  by_cases e10 : k = 10
  · rw [if_pos e10] at h
    obtain ⟨q1, q2⟩ := D h
    obtain ⟨i, hi, ei⟩ := cell_nat hC q1
    by_cases hk : G_X3_kindOf t b = 11
    · rw [if_pos hk] at q2
      obtain ⟨q3, q4⟩ := D q2
      obtain ⟨q4, -⟩ := D q4
      by_cases hb : G_X3_has t b = 0
      · unfold G_X3_kindOf at hk
        rw [if_pos hb] at hk
        exact absurd hk (by decide)
      · obtain ⟨j, hj1, hj2, ej⟩ := has_nat h1 hM hb
        subst ej
        unfold G_X3_kindOf at hk
        rw [if_neg hb, nI_clamp (by omega)] at hk
        obtain ⟨p, hp1, hp2, ep, hpv⟩ := val_nat h1 hM q3
        obtain ⟨q, hq1, hq2, eq, hqv⟩ := val_nat h1 hM q4
        unfold G_X3_firstOf at ep
        unfold G_X3_secondOf at eq
        rw [if_neg hb, nI_clamp (by omega)] at ep eq
        exact Or.inr (Or.inr (Or.inr (Or.inl ⟨e10, i, j, p, q, hi, ei, rfl, hj1, hj2, hk, ep, eq, hp1, hp2, hq1, hq2, hpv, hqv⟩)))
    · rw [if_neg hk] at q2
      exact absurd rfl q2
  rw [if_neg e10] at h
  by_cases e11 : k = 11
  · rw [if_pos e11] at h
    obtain ⟨q1, q2⟩ := D h
    obtain ⟨q2, -⟩ := D q2
    obtain ⟨i, hi1, hi2, ei⟩ := has_nat h1 hM q1
    obtain ⟨j, hj1, hj2, ej⟩ := has_nat h1 hM q2
    exact Or.inr (Or.inr (Or.inr (Or.inr (Or.inl ⟨e11, i, j, ei, ej, hi1, hi2, hj1, hj2⟩))))
  rw [if_neg e11] at h
  have vn : (k = 12 ∨ k = 13) → ¬ (if G_X3_isValue t a = 0 then (0 : Int32) else if G_X3_has t b = 0 then 0 else 1) = 0 → ((k = 12 ∨ k = 13) ∧ ∃ i j, a = nI i ∧ b = nI j ∧ 1 ≤ i ∧ i ≤ M ∧ 1 ≤ j ∧ j ≤ M ∧ isV t i) := fun hk hh => by
    obtain ⟨q1, q2⟩ := D hh
    obtain ⟨q2, -⟩ := D q2
    obtain ⟨i, hi1, hi2, ei, hv⟩ := val_nat h1 hM q1
    obtain ⟨j, hj1, hj2, ej⟩ := has_nat h1 hM q2
    exact ⟨hk, i, j, ei, ej, hi1, hi2, hj1, hj2, hv⟩
  by_cases e12 : k = 12
  · rw [if_pos e12] at h
    exact Or.inr (Or.inr (Or.inr (Or.inr (Or.inr (Or.inl (vn (Or.inl e12) h))))))
  rw [if_neg e12] at h
  by_cases e13 : k = 13
  · rw [if_pos e13] at h
    exact Or.inr (Or.inr (Or.inr (Or.inr (Or.inr (Or.inl (vn (Or.inr e13) h))))))
  rw [if_neg e13] at h
  obtain ⟨q1, q2⟩ := D h
  obtain ⟨q2, -⟩ := D q2
  obtain ⟨i, hi1, hi2, ei, hiv⟩ := val_nat h1 hM q1
  obtain ⟨j, hj1, hj2, ej, hjv⟩ := val_nat h1 hM q2
  refine Or.inr (Or.inr (Or.inr (Or.inr (Or.inr (Or.inr ⟨?_, i, j, ei, ej, hi1, hi2, hj1, hj2, hiv, hjv⟩)))))
  have z : ∀ m : Nat, m < 100 → ¬ k = nI m → ¬ k.toInt = m := fun m hm hh q => hh (i32_of q (by omega))
  rw [i32_lt, i0] at hk1
  rw [i32_le, show (13 : Int32).toInt = 13 by decide] at hk2
  have z0 := z 0 (by omega) e0
  have z1 := z 1 (by omega) e1
  have z2 := z 2 (by omega) e2
  have z9 := z 9 (by omega) e9
  have z10 := z 10 (by omega) e10
  have z11 := z 11 (by omega) e11
  have z12 := z 12 (by omega) e12
  have z13 := z 13 (by omega) e13
  omega
end SIDES
/-! how many digits a number has -/
theorem dig_L {a : Int32} {v : Int64} : ∀ (e f1 f2 R : Nat) (rs : Int32), e ≤ 9 → R < 10 ^ e → rs.toInt.natAbs = R → e + 1 ≤ f1 → e + 1 ≤ f2 → OK_X5_digitsOf_L20 v f2 (nI (10 - e)) (lN R) ∧ ∃ D, D ≤ 10 ∧ G_X3_digitsIn_L7 a f1 (nI (10 - e)) rs = nI D ∧ G_X5_digitsOf_L20 v f2 (nI (10 - e)) (lN R) = nI D := by
  intro e
  induction e with
  | zero =>
    intro f1 f2 R rs he hR hrs h1 h2
    obtain ⟨f1, rfl⟩ : ∃ f, f1 = f + 1 := ⟨f1 - 1, by omega⟩
    obtain ⟨f2, rfl⟩ : ∃ f, f2 = f + 1 := ⟨f2 - 1, by omega⟩
    have hR0 : R = 0 := by have : R < 1 := hR; omega
    subst hR0
    have r0 : rs = 0 := i32_of (n := 0) (by omega) (by omega)
    have l0 : lg_cmp (lN 0) 0 ≤ 0 := by decide
    rw [OK_X5_digitsOf_L20, G_X3_digitsIn_L7, G_X5_digitsOf_L20, if_pos l0, if_pos r0, if_pos l0]
    exact ⟨trivial, 10, by omega, rfl, rfl⟩
  | succ e ih =>
    intro f1 f2 R rs he hR hrs h1 h2
    obtain ⟨f1, rfl⟩ : ∃ f, f1 = f + 1 := ⟨f1 - 1, by omega⟩
    obtain ⟨f2, rfl⟩ : ∃ f, f2 = f + 1 := ⟨f2 - 1, by omega⟩
    have hp : 10 ^ (e + 1) ≤ 10 ^ 9 := Nat.pow_le_pow_right (by omega) he
    have h9 : 10 ^ 9 = 1000000000 := by decide
    by_cases hz : R = 0
    · subst hz
      have r0 : rs = 0 := i32_of (n := 0) (by omega) (by omega)
      have l0 : lg_cmp (lN 0) 0 ≤ 0 := by decide
      rw [OK_X5_digitsOf_L20, G_X3_digitsIn_L7, G_X5_digitsOf_L20, if_pos l0, if_pos r0, if_pos l0]
      exact ⟨trivial, 10 - (e + 1), by omega, rfl, rfl⟩
    · have r0 : ¬ rs = 0 := fun q => by
        subst q
        rw [i0] at hrs
        simp at hrs
        omega
      have l0 : ¬ lg_cmp (lN R) 0 ≤ 0 := by
        rw [lg_cmp_le, Int64.le_iff_toInt_le, pf_lI (by omega), show (0 : Int64).toInt = 0 by decide]
        omega
      have c10 : ¬ (10 : Int32) ≤ nI (10 - (e + 1)) := nI_ge (b := 10) (by omega) (by omega)
      have e1 : lN R / 10 = lN (R / 10) := lN_div (b := 10) (by omega) (by omega) (by omega)
      have e2 : nI (10 - (e + 1)) + 1 = nI (10 - e) := by rw [nI_1]; congr 1; omega
      have e3 : (rs / 10).toInt.natAbs = R / 10 := by
        rw [Int32.toInt_div_of_ne_right _ _ (by decide), show (10 : Int32).toInt = 10 by decide, Int.natAbs_tdiv, hrs]
        rfl
      rw [OK_X5_digitsOf_L20, G_X3_digitsIn_L7, G_X5_digitsOf_L20, if_neg l0, if_neg r0, if_neg c10, if_neg l0, e1, e2]
      exact ih f1 f2 (R / 10) (rs / 10) (by omega) (by rw [Nat.pow_succ] at hR; omega) e3 (by omega) (by omega)
theorem dig_is (a : Int32) : OK_X5_digitsOf a.toInt64 ∧ ∃ D, D ≤ 10 ∧ G_X3_digitsIn a = nI D ∧ G_X5_digitsOf a.toInt64 = nI D := by
  have b1 := Int32.le_toInt a
  have b2 := Int32.toInt_lt a
  have e3 : (a / 10).toInt.natAbs = a.toInt.natAbs / 10 := by
    rw [Int32.toInt_div_of_ne_right _ _ (by decide), show (10 : Int32).toInt = 10 by decide, Int.natAbs_tdiv]
    rfl
  have h9 : 10 ^ 9 = 1000000000 := by decide
  unfold OK_X5_digitsOf G_X3_digitsIn G_X5_digitsOf
  have e10 : ∀ R : Nat, R < 2 ^ 40 → lN R / 10 = lN (R / 10) := fun R h => lN_div (b := 10) (by omega) (by omega) (by omega)
  have K := dig_L (a := a) (v := a.toInt64) 9 12 22 (a.toInt.natAbs / 10) (a / 10) (by omega) (by rw [h9]; omega) e3 (by omega) (by omega)
  by_cases h : 0 ≤ lg_cmp a.toInt64 0
  · rw [if_pos h, if_pos h]
    rw [lg_cmp_ge, Int64.le_iff_toInt_le, show (0 : Int64).toInt = 0 by decide, Int32.toInt_toInt64] at h
    have e : a.toInt64 = lN a.toInt.natAbs := Int64.toInt_inj.mp (by rw [Int32.toInt_toInt64, pf_lI (by omega)]; omega)
    have e' : a.toInt64 / 10 = lN (a.toInt.natAbs / 10) := by rw [e, e10 _ (by omega)]
    rw [e']
    exact K
  · rw [if_neg h, if_neg h]
    rw [lg_cmp_ge, Int64.le_iff_toInt_le, show (0 : Int64).toInt = 0 by decide, Int32.toInt_toInt64] at h
    have e : (0 : Int64) - a.toInt64 = lN a.toInt.natAbs := Int64.toInt_inj.mp (by
      rw [Int64.toInt_sub, Int32.toInt_toInt64, pf_lI (by omega), show (0 : Int64).toInt = 0 by decide, Int.bmod_eq_of_le (by omega) (by omega)]
      omega)
    rw [e, e10 _ (by omega)]
    exact K
