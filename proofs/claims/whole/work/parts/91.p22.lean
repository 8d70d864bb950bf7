section SURE
variable {N M : Nat} {c : CS} {t : TS} {mc : MC} {mt : MT} {k a b n : Int32}
theorem s140 {D : Nat} (hD : D < 2 ^ 30) : OK_X5_sureOf_L140 mc mt k a b 1 (nI D) ∧ G_X5_sureOf_L140 mc mt k a b 1 (nI D) = nI (min D 10000) := by
  rw [OK_X5_sureOf_L140, G_X5_sureOf_L140]
  refine ⟨itt, ?_⟩
  by_cases h : D ≤ 10000
  · rw [if_pos (show nI D ≤ 10000 from nI_le (b := 10000) h (by omega)), Nat.min_eq_left h]
  · rw [if_neg (show ¬ nI D ≤ 10000 from nI_ge (a := 10000) (by omega) (by omega)), Nat.min_eq_right (by omega)]
    rfl
theorem s125 (h7 : ¬ k = 7) (h8 : ¬ k = 8) {D : Nat} (hD : D < 2 ^ 30) : OK_X5_sureOf_L125 mc mt k a b 1 (nI D) ∧ G_X5_sureOf_L125 mc mt k a b 1 (nI D) = nI (min D 10000) := by
  rw [OK_X5_sureOf_L125, G_X5_sureOf_L125, if_neg h7, if_neg h7, if_neg h8, if_neg h8]
  exact s140 hD
theorem s111 (h6 : ¬ k = 6) (h7 : ¬ k = 7) (h8 : ¬ k = 8) {D : Nat} (hD : D < 2 ^ 30) : OK_X5_sureOf_L111 mc mt k a b 1 (nI D) ∧ G_X5_sureOf_L111 mc mt k a b 1 (nI D) = nI (min D 10000) := by
  rw [OK_X5_sureOf_L111, G_X5_sureOf_L111, if_neg h6, if_neg h6]
  exact s125 h7 h8 hD
theorem s91 (h5 : ¬ k = 5) (h6 : ¬ k = 6) (h7 : ¬ k = 7) (h8 : ¬ k = 8) {D : Nat} (hD : D < 2 ^ 30) : OK_X5_sureOf_L91 mc mt k a b 1 (nI D) ∧ G_X5_sureOf_L91 mc mt k a b 1 (nI D) = nI (min D 10000) := by
  rw [OK_X5_sureOf_L91, G_X5_sureOf_L91, if_neg h5, if_neg h5]
  exact s111 h6 h7 h8 hD
theorem s47 (h3 : ¬ k = 3) (h4 : ¬ k = 4) (h5 : ¬ k = 5) (h6 : ¬ k = 6) (h7 : ¬ k = 7) (h8 : ¬ k = 8) {D : Nat} (hD : D < 2 ^ 30) : OK_X5_sureOf_L47 mc mt k a b 1 (nI D) ∧ G_X5_sureOf_L47 mc mt k a b 1 (nI D) = nI (min D 10000) := by
  rw [OK_X5_sureOf_L47, G_X5_sureOf_L47, if_neg h3, if_neg h3, if_neg h4, if_neg h4]
  exact s91 h5 h6 h7 h8 hD
theorem s14 (h0 : ¬ k = 0) (h1 : ¬ k = 1) (h2 : ¬ k = 2) : OK_X5_sureOf mc mt k a b = OK_X5_sureOf_L47 mc mt k a b 1 0 ∧ G_X5_sureOf mc mt k a b = G_X5_sureOf_L47 mc mt k a b 1 0 := by
  rw [OK_X5_sureOf, G_X5_sureOf, if_neg h0, if_neg h0, OK_X5_sureOf_L14, G_X5_sureOf_L14, if_neg h1, if_neg h1, if_neg h2, if_neg h2]
  exact ⟨rfl, rfl⟩
theorem cap_is {E D : Nat} (hE : E < 2 ^ 30) (h : min E 100 = min D 100) : (if nI E < 100 then nI E else 100) = nI (min D 100) := by
  by_cases h1 : E < 100
  · rw [if_pos (show nI E < 100 from nI_lt (b := 100) h1 (by omega))]
    congr 1
    omega
  · rw [if_neg (show ¬ nI E < 100 from nI_nlt (b := 100) (by omega) (by omega)), show min D 100 = 100 by omega]
    rfl
theorem dgt_is (h1 : t.1 = nI M) (hM : M ≤ 200) {i D : Nat} (hi1 : 1 ≤ i) (hi2 : i ≤ M) (h : t.2.2.2.2.1 i = nI (min D 100)) : G_X3_digitsOf t (nI i) = nI (min D 100) := by
  unfold G_X3_digitsOf
  rw [if_neg (nat_has h1 hM hi1 hi2), nI_clamp (by omega), h]
theorem sure_is {t0 : TS} (hC : cR N c mc) (hd : dR M t mt) (h1 : t.1 = nI M) (hM : M ≤ 200) (hS : SD N M t0 k a b) :
    OK_X5_sureOf mc mt k a b ∧ ∃ D, D ≤ 10000 ∧ G_X5_sureOf mc mt k a b = nI D ∧ (if G_X3_digitsFor c t k a b < 100 then G_X3_digitsFor c t k a b else 100) = nI (min D 100) := by
  have hN := hC.2.2.1
  have nn : ∀ {q z : Int32}, k = q → ¬ q = z → ¬ k = z := fun e h => by rw [e]; exact h
  have zero : ¬ k = 0 → ¬ k = 1 → ¬ k = 2 → ¬ k = 3 → ¬ k = 4 → ¬ k = 5 → ¬ k = 6 → ¬ k = 7 → ¬ k = 8 → OK_X5_sureOf mc mt k a b ∧ ∃ D, D ≤ 10000 ∧ G_X5_sureOf mc mt k a b = nI D ∧ (if G_X3_digitsFor c t k a b < 100 then G_X3_digitsFor c t k a b else 100) = nI (min D 100) := fun n0 n1 n2 n3 n4 n5 n6 n7 n8 => by
    obtain ⟨e1, e2⟩ := s14 (mc := mc) (mt := mt) (a := a) (b := b) n0 n1 n2
    obtain ⟨q1, q2⟩ := s47 (mc := mc) (mt := mt) (a := a) (b := b) n3 n4 n5 n6 n7 n8 (D := 0) (by omega)
    refine ⟨by rw [e1]; exact q1, 0, by omega, e2.trans q2, ?_⟩
    unfold G_X3_digitsFor
    rw [if_neg n0, if_neg n1, if_neg n2, if_neg n3, if_neg n4, if_neg n5, if_neg n6, if_neg n7, if_neg n8]
    decide
  have cellK : ∀ i, i < N → a = nI i → (k = 1 ∨ k = 2) → OK_X5_sureOf mc mt k a b ∧ ∃ D, D ≤ 10000 ∧ G_X5_sureOf mc mt k a b = nI D ∧ (if G_X3_digitsFor c t k a b < 100 then G_X3_digitsFor c t k a b else 100) = nI (min D 100) := fun i hi ei hk => by
    subst ei
    obtain ⟨u, d, p, hc1⟩ := hC.2.2.2 i hi
    have n0 : ¬ k = 0 := hk.elim (fun e => nn e (by decide)) (fun e => nn e (by decide))
    have n3 : ¬ k = 3 := hk.elim (fun e => nn e (by decide)) (fun e => nn e (by decide))
    have n4 : ¬ k = 4 := hk.elim (fun e => nn e (by decide)) (fun e => nn e (by decide))
    have n5 : ¬ k = 5 := hk.elim (fun e => nn e (by decide)) (fun e => nn e (by decide))
    have n6 : ¬ k = 6 := hk.elim (fun e => nn e (by decide)) (fun e => nn e (by decide))
    have n7 : ¬ k = 7 := hk.elim (fun e => nn e (by decide)) (fun e => nn e (by decide))
    have n8 : ¬ k = 8 := hk.elim (fun e => nn e (by decide)) (fun e => nn e (by decide))
    have hv : vp_in (nI i) 40 := vp_in_nI (by omega) (by omega)
    have e2 : (nI u = 2) ↔ u = 2 := nI_eq (b := 2) (by have := hc1.u2; omega) (by omega)
    have d9 := hc1.d9
    have key : ∀ D : Nat, D ≤ 10 → G_X0_surelyWithin c (nI i) = nI D → (OK_X5_sureOf_L47 mc mt k (nI i) b 1 (nI D) → OK_X5_sureOf mc mt k (nI i) b) → G_X5_sureOf mc mt k (nI i) b = G_X5_sureOf_L47 mc mt k (nI i) b 1 (nI D) → OK_X5_sureOf mc mt k (nI i) b ∧ ∃ D, D ≤ 10000 ∧ G_X5_sureOf mc mt k (nI i) b = nI D ∧ (if G_X3_digitsFor c t k (nI i) b < 100 then G_X3_digitsFor c t k (nI i) b else 100) = nI (min D 100) := fun D hD g1 g2 g3 => by
      obtain ⟨q1, q2⟩ := s47 (mc := mc) (mt := mt) (a := nI i) (b := b) n3 n4 n5 n6 n7 n8 (D := D) (by omega)
      rw [Nat.min_eq_left (by omega)] at q2
      refine ⟨g2 q1, D, by omega, g3.trans q2, ?_⟩
      have gd : G_X3_digitsFor c t k (nI i) b = nI D := by
        unfold G_X3_digitsFor
        rw [if_neg n0]
        by_cases k1 : k = 1
        · rw [if_pos k1, g1]
        · rw [if_neg k1, if_pos (hk.resolve_left k1), g1]
      rw [gd]
      exact cap_is (by omega) rfl
    have sw : G_X0_surelyWithin c (nI i) = if u = 2 then 10 else nI d := by
      unfold G_X0_surelyWithin
      rw [if_neg (cR_has hC hi), nI_clamp (by omega), hc1.cu, hc1.cd]
      by_cases h2 : u = 2
      · rw [if_pos (e2.mpr h2), if_pos h2]
      · rw [if_neg (fun q => h2 (e2.mp q)), if_neg h2]
    have ot : ∀ {P Q : Prop}, (k = 1 → P) → (k = 2 → Q) → (P ∨ Q) := fun f g => hk.elim (fun e => Or.inl (f e)) (fun e => Or.inr (g e))
    by_cases h2 : u = 2
    · have e2' := e2.mpr h2
      refine key 10 (by omega) (by rw [sw, if_pos h2]; rfl) (fun hok => ?_) ?_
      · rw [OK_X5_sureOf, if_neg n0, OK_X5_sureOf_L14, nI_clamp (by omega), hc1.mu, if_pos e2']
        by_cases k1 : k = 1
        · rw [if_pos k1]
          exact ⟨hv, hok⟩
        · rw [if_neg k1, if_pos (hk.resolve_left k1)]
          exact ⟨hv, hok⟩
      · rw [G_X5_sureOf, if_neg n0, G_X5_sureOf_L14, nI_clamp (by omega), hc1.mu, if_pos e2']
        by_cases k1 : k = 1
        · rw [if_pos k1]
          rfl
        · rw [if_neg k1, if_pos (hk.resolve_left k1)]
          rfl
    · have e2' : ¬ nI u = 2 := fun q => h2 (e2.mp q)
      refine key d (by omega) (by rw [sw, if_neg h2]) (fun hok => ?_) ?_
      · rw [OK_X5_sureOf, if_neg n0, OK_X5_sureOf_L14, nI_clamp (by omega), hc1.mu, hc1.md, if_neg e2']
        by_cases k1 : k = 1
        · rw [if_pos k1]
          exact ⟨hv, hv, hok⟩
        · rw [if_neg k1, if_pos (hk.resolve_left k1)]
          exact ⟨hv, hv, hok⟩
      · rw [G_X5_sureOf, if_neg n0, G_X5_sureOf_L14, nI_clamp (by omega), hc1.mu, hc1.md, if_neg e2']
        by_cases k1 : k = 1
        · rw [if_pos k1]
        · rw [if_neg k1, if_pos (hk.resolve_left k1)]
  rcases hS with hk | ⟨hk, i, hi, ei⟩ | ⟨hk, i, j, hi, ei, ej, hj1, hj2, hv⟩ | ⟨hk, -⟩ | ⟨hk, -⟩ | ⟨hk, -⟩ | ⟨⟨hk1, hk2⟩, i, j, ei, ej, hi1, hi2, hj1, hj2, -⟩
  · obtain ⟨o, D, hD, g1, g2⟩ := dig_is a
    have n1 : ¬ k = 1 := nn hk (by decide)
    have n2 : ¬ k = 2 := nn hk (by decide)
    obtain ⟨q1, q2⟩ := s47 (mc := mc) (mt := mt) (a := a) (b := b) (k := k) (nn hk (by decide)) (nn hk (by decide)) (nn hk (by decide)) (nn hk (by decide)) (nn hk (by decide)) (nn hk (by decide)) (D := D) (by omega)
    rw [Nat.min_eq_left (by omega)] at q2
    rw [OK_X5_sureOf, G_X5_sureOf, if_pos hk, if_pos hk, OK_X5_sureOf_L14, G_X5_sureOf_L14, if_neg n1, if_neg n1, if_neg n2, if_neg n2, g2]
    refine ⟨⟨o, q1⟩, D, by omega, q2, ?_⟩
    have gd : G_X3_digitsFor c t k a b = nI D := by
      unfold G_X3_digitsFor
      rw [if_pos hk, g1]
    rw [gd]
    exact cap_is (by omega) rfl
  · exact cellK i hi ei (Or.inl hk)
  · rcases hk with hk | hk
    · exact cellK i hi ei (Or.inr hk)
    · exact zero (nn hk (by decide)) (nn hk (by decide)) (nn hk (by decide)) (nn hk (by decide)) (nn hk (by decide)) (nn hk (by decide)) (nn hk (by decide)) (nn hk (by decide)) (nn hk (by decide))
  · exact zero (nn hk (by decide)) (nn hk (by decide)) (nn hk (by decide)) (nn hk (by decide)) (nn hk (by decide)) (nn hk (by decide)) (nn hk (by decide)) (nn hk (by decide)) (nn hk (by decide))
  · exact zero (nn hk (by decide)) (nn hk (by decide)) (nn hk (by decide)) (nn hk (by decide)) (nn hk (by decide)) (nn hk (by decide)) (nn hk (by decide)) (nn hk (by decide)) (nn hk (by decide))
  · rcases hk with hk | hk
    · exact zero (nn hk (by decide)) (nn hk (by decide)) (nn hk (by decide)) (nn hk (by decide)) (nn hk (by decide)) (nn hk (by decide)) (nn hk (by decide)) (nn hk (by decide)) (nn hk (by decide))
    · exact zero (nn hk (by decide)) (nn hk (by decide)) (nn hk (by decide)) (nn hk (by decide)) (nn hk (by decide)) (nn hk (by decide)) (nn hk (by decide)) (nn hk (by decide)) (nn hk (by decide))
  · subst ei ej
    obtain ⟨Da, hDa, ma, ca⟩ := hd i hi1 hi2
    obtain ⟨Db, hDb, mb, cb⟩ := hd j hj1 hj2
    have ga := dgt_is h1 hM hi1 hi2 ca
    have gb := dgt_is h1 hM hj1 hj2 cb
    have va : vp_in (nI i) 201 := vp_in_nI (by omega) (by omega)
    have vb : vp_in (nI j) 201 := vp_in_nI (by omega) (by omega)
    have n0 : ¬ k = 0 := kne hk1 hk2 (by decide)
    have n1 : ¬ k = 1 := kne hk1 hk2 (by decide)
    have n2 : ¬ k = 2 := kne hk1 hk2 (by decide)
    obtain ⟨e1, e2⟩ := s14 (mc := mc) (mt := mt) (a := nI i) (b := nI j) n0 n1 n2
    rw [e1, e2]
    have add : (k = 3 ∨ k = 4) → OK_X5_sureOf_L47 mc mt k (nI i) (nI j) 1 0 ∧ G_X5_sureOf_L47 mc mt k (nI i) (nI j) 1 0 = nI (min (1 + max Da Db) 10000) := fun hk => by
      have n5 : ¬ k = 5 := hk.elim (fun e => nn e (by decide)) (fun e => nn e (by decide))
      have n6 : ¬ k = 6 := hk.elim (fun e => nn e (by decide)) (fun e => nn e (by decide))
      have n7 : ¬ k = 7 := hk.elim (fun e => nn e (by decide)) (fun e => nn e (by decide))
      have n8 : ¬ k = 8 := hk.elim (fun e => nn e (by decide)) (fun e => nn e (by decide))
      have aa : (1 : Int32) + nI Da = nI (1 + Da) := nI_add 1 Da
      have ab : (1 : Int32) + nI Db = nI (1 + Db) := nI_add 1 Db
      rw [OK_X5_sureOf_L47, G_X5_sureOf_L47, nI_clamp (by omega), nI_clamp (by omega), ma, mb, aa, ab]
      by_cases hle : Da ≤ Db
      · obtain ⟨q1, q2⟩ := s91 (mc := mc) (mt := mt) (a := nI i) (b := nI j) n5 n6 n7 n8 (D := 1 + Db) (by omega)
        have hl : nI Da ≤ nI Db := nI_le hle (by omega)
        rw [if_pos hl, if_pos hl, Nat.max_eq_right hle]
        by_cases k3 : k = 3
        · rw [if_pos k3, if_pos k3]
          exact ⟨⟨va, vb, vb, q1⟩, q2⟩
        · rw [if_neg k3, if_neg k3, if_pos (hk.resolve_left k3), if_pos (hk.resolve_left k3)]
          exact ⟨⟨va, vb, vb, q1⟩, q2⟩
      · obtain ⟨q1, q2⟩ := s91 (mc := mc) (mt := mt) (a := nI i) (b := nI j) n5 n6 n7 n8 (D := 1 + Da) (by omega)
        have hl : ¬ nI Da ≤ nI Db := nI_ge (by omega) (by omega)
        rw [if_neg hl, if_neg hl, Nat.max_eq_left (by omega)]
        by_cases k3 : k = 3
        · rw [if_pos k3, if_pos k3]
          exact ⟨⟨va, vb, va, q1⟩, q2⟩
        · rw [if_neg k3, if_neg k3, if_pos (hk.resolve_left k3), if_pos (hk.resolve_left k3)]
          exact ⟨⟨va, vb, va, q1⟩, q2⟩
    have addC : (k = 3 ∨ k = 4) → G_X3_digitsFor c t k (nI i) (nI j) = nI (max (min Da 100) (min Db 100) + 1) := fun hk => by
      have e : (if nI (min Da 100) < nI (min Db 100) then nI (min Db 100) else nI (min Da 100)) + 1 = nI (max (min Da 100) (min Db 100) + 1) := by
        by_cases hl : min Da 100 < min Db 100
        · rw [if_pos (nI_lt hl (by omega)), nI_1]
          congr 1
          omega
        · rw [if_neg (nI_nlt (by omega) (by omega)), nI_1]
          congr 1
          omega
      unfold G_X3_digitsFor
      rw [if_neg n0, if_neg n1, if_neg n2, ga, gb, e]
      by_cases k3 : k = 3
      · rw [if_pos k3]
      · rw [if_neg k3, if_pos (hk.resolve_left k3)]
    by_cases k3 : k = 3
    · obtain ⟨q1, q2⟩ := add (Or.inl k3)
      refine ⟨q1, _, by omega, q2, ?_⟩
      rw [addC (Or.inl k3)]
      exact cap_is (by omega) (by omega)
    by_cases k4 : k = 4
    · obtain ⟨q1, q2⟩ := add (Or.inr k4)
      refine ⟨q1, _, by omega, q2, ?_⟩
      rw [addC (Or.inr k4)]
      exact cap_is (by omega) (by omega)
    rw [OK_X5_sureOf_L47, G_X5_sureOf_L47, if_neg k3, if_neg k3, if_neg k4, if_neg k4, OK_X5_sureOf_L91, G_X5_sureOf_L91]
    by_cases k5 : k = 5
    · have ae : nI Da + nI Db = nI (Da + Db) := nI_add _ _
      obtain ⟨q1, q2⟩ := s111 (mc := mc) (mt := mt) (a := nI i) (b := nI j) (k := k) (nn k5 (by decide)) (nn k5 (by decide)) (nn k5 (by decide)) (D := Da + Db) (by omega)
      rw [if_pos k5, if_pos k5, nI_clamp (by omega), nI_clamp (by omega), ma, mb, ae]
      refine ⟨⟨va, vb, q1⟩, _, by omega, q2, ?_⟩
      have gd : G_X3_digitsFor c t k (nI i) (nI j) = nI (min Da 100 + min Db 100) := by
        unfold G_X3_digitsFor
        rw [if_neg n0, if_neg n1, if_neg n2, if_neg k3, if_neg k4, if_pos k5, ga, gb, nI_add]
      rw [gd]
      exact cap_is (by omega) (by omega)
    rw [if_neg k5, if_neg k5, OK_X5_sureOf_L111, G_X5_sureOf_L111]
    by_cases k6 : k = 6
    · obtain ⟨q1, q2⟩ := s125 (mc := mc) (mt := mt) (a := nI i) (b := nI j) (k := k) (nn k6 (by decide)) (nn k6 (by decide)) (D := Da) (by omega)
      rw [if_pos k6, if_pos k6, nI_clamp (by omega), ma]
      refine ⟨⟨va, q1⟩, _, by omega, q2, ?_⟩
      have gd : G_X3_digitsFor c t k (nI i) (nI j) = nI (min Da 100) := by
        unfold G_X3_digitsFor
        rw [if_neg n0, if_neg n1, if_neg n2, if_neg k3, if_neg k4, if_neg k5, if_pos k6, ga]
      rw [gd]
      exact cap_is (by omega) (by omega)
    rw [if_neg k6, if_neg k6, OK_X5_sureOf_L125, G_X5_sureOf_L125]
    obtain ⟨q1, q2⟩ := s140 (mc := mc) (mt := mt) (a := nI i) (b := nI j) (k := k) (D := 1) (by omega)
    by_cases k7 : k = 7
    · rw [if_pos k7, if_pos k7]
      refine ⟨q1, _, by omega, q2, ?_⟩
      have gd : G_X3_digitsFor c t k (nI i) (nI j) = nI 1 := by
        unfold G_X3_digitsFor
        rw [if_neg n0, if_neg n1, if_neg n2, if_neg k3, if_neg k4, if_neg k5, if_neg k6, if_pos k7]
        rfl
      rw [gd]
      exact cap_is (by omega) (by omega)
    · have k8 : k = 8 := by
        have z : ∀ m : Nat, m < 100 → ¬ k = nI m → ¬ k.toInt = m := fun m hm hh q => hh (i32_of q (by omega))
        have z3 := z 3 (by omega) k3
        have z4 := z 4 (by omega) k4
        have z5 := z 5 (by omega) k5
        have z6 := z 6 (by omega) k6
        have z7 := z 7 (by omega) k7
        exact i32_of (n := 8) (by omega) (by omega)
      rw [if_neg k7, if_neg k7, if_pos k8, if_pos k8]
      refine ⟨q1, _, by omega, q2, ?_⟩
      have gd : G_X3_digitsFor c t k (nI i) (nI j) = nI 1 := by
        unfold G_X3_digitsFor
        rw [if_neg n0, if_neg n1, if_neg n2, if_neg k3, if_neg k4, if_neg k5, if_neg k6, if_neg k7, if_pos k8]
        rfl
      rw [gd]
      exact cap_is (by omega) (by omega)
end SURE
