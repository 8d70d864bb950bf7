/-! the rows that are kept -/
def kR (r : RS) (mk : MK) : Prop := ∃ n, n ≤ 400 ∧ r.1 = nI n ∧ mk.1 = nI n ∧ ∀ i, i < n → r.2.1 i = mk.2.1 i ∧ r.2.2.1 i = mk.2.2.2 i ∧ r.2.2.2.1 i = if 2 < mk.2.1 i ∧ mk.2.1 i < 7 ∧ mk.2.2.1 i ≤ 18 then 1 else 0
def RowG (M : Nat) (q : Row) : Prop := (q.2.2 = 0 ∧ (q.1.toInt ≤ 2 ∨ 9 ≤ q.1.toInt)) ∨ (∃ j : Nat, 1 ≤ j ∧ j ≤ M ∧ q.2.2 = nI j ∧ 3 ≤ q.1.toInt ∧ q.1.toInt ≤ 8)
theorem RG {M : Nat} {op : Int32} {v : Int64} (h : op.toInt ≤ 2 ∨ 9 ≤ op.toInt) : RowG M (op, v, 0) := Or.inl ⟨rfl, h⟩
theorem dr_rows {M : Nat} {t : TS} {k : Nat} : ∀ q ∈ dr t k, RowG M q := by
  intro q hq
  unfold dr at hq
  by_cases h : isV t k
  · rw [if_pos h, List.mem_singleton] at hq
    subst hq
    exact RG (by decide)
  · rw [if_neg h] at hq
    exact absurd hq List.not_mem_nil
theorem cd_rows {N M : Nat} {c : CS} {t : TS} (hT : tOK N M c t) : ∀ (d k b : Nat), 1 ≤ k → k ≤ M → k ≤ d → ∀ q ∈ cd t d k b, RowG M q := by
  have hM2 := hT.2.2.2.1
  intro d
  induction d with
  | zero => intro k b h1 h2 h3; omega
  | succ d ih =>
    intro k b h1 h2 h3 q hq
    rcases hT.2.2.2.2 k h1 h2 with ⟨hf, hv⟩ | ⟨hf, hk | hk | hk | hk | hk | hk⟩
    · rw [(cd_f hf).1, List.mem_singleton] at hq
      subst hq
      exact RG (by decide)
    · obtain ⟨hk, a, haN, ha⟩ := hk
      rw [(cd_1 hf hk ha).1, List.mem_singleton] at hq
      subst hq
      exact RG (by decide)
    · obtain ⟨hk, a, j, haN, ha, hj, hj1, hj2, hjv⟩ := hk
      rw [(cd_2 hf hk ha hj (by omega)).1, List.mem_append, List.mem_singleton] at hq
      rcases hq with hq | hq
      · exact ih j b (by omega) (by omega) (by omega) q hq
      · subst hq
        refine Or.inl ⟨rfl, ?_⟩
        rcases hk with hk | hk
        · exact Or.inl (by show (kd t k).toInt ≤ 2; rw [hk]; decide)
        · exact Or.inr (by show 9 ≤ (kd t k).toInt; rw [hk]; decide)
    · obtain ⟨hk, a, j, p, r, haN, ha, hj, hj1, hj2, hp, hr, hp1, hp2, hr1, hr2, hpv, hrv⟩ := hk
      rw [(cd_10 hf hk ha hj hp hr (by omega) (by omega) (by omega)).1, List.mem_append, List.mem_append, List.mem_singleton] at hq
      rcases hq with hq | hq | hq
      · exact ih p _ (by omega) (by omega) (by omega) q hq
      · exact ih r _ (by omega) (by omega) (by omega) q hq
      · subst hq
        exact RG (by decide)
    · obtain ⟨hk, i, j, hi, hj, hi1, hi2, hj1, hj2⟩ := hk
      rw [(cd_11 hf hk hi hj (by omega) (by omega)).1, List.mem_append, List.mem_append, List.mem_append] at hq
      rcases hq with hq | hq | hq | hq
      · exact ih i _ (by omega) (by omega) (by omega) q hq
      · exact dr_rows q hq
      · exact ih j _ (by omega) (by omega) (by omega) q hq
      · exact dr_rows q hq
    · obtain ⟨hk | hk, i, j, hi, hj, hi1, hi2, hj1, hj2, hiv⟩ := hk
      · rw [(cd_12 hf hk hi hj (by omega) (by omega)).1, List.mem_append, List.mem_cons, List.mem_append] at hq
        rcases hq with hq | hq | hq | hq
        · exact ih i _ (by omega) (by omega) (by omega) q hq
        · subst hq
          exact RG (by decide)
        · exact ih j _ (by omega) (by omega) (by omega) q hq
        · exact dr_rows q hq
      · rw [(cd_13 hf hk hi hj (by omega) (by omega)).1, List.mem_append, List.mem_cons, List.mem_append, List.mem_append, List.mem_singleton] at hq
        rcases hq with hq | hq | hq | hq | hq
        · exact ih i _ (by omega) (by omega) (by omega) q hq
        · subst hq
          exact RG (by decide)
        · exact ih j _ (by omega) (by omega) (by omega) q hq
        · exact dr_rows q hq
        · subst hq
          exact RG (by decide)
    · obtain ⟨⟨hk1, hk2⟩, i, j, hi, hj, hi1, hi2, hj1, hj2, hiv, hjv⟩ := hk
      rw [(cd_r hf hk1 hk2 hi hj (by omega) (by omega)).1, List.mem_append, List.mem_append, List.mem_singleton] at hq
      rcases hq with hq | hq | hq
      · exact ih i _ (by omega) (by omega) (by omega) q hq
      · exact ih j _ (by omega) (by omega) (by omega) q hq
      · subst hq
        exact Or.inr ⟨k, h1, h2, rfl, hk1, hk2⟩
section MK
variable {N M : Nat} {c : CS} {t : TS} {mt : MT}
theorem kR_of (h : tR N M c t mt) {code : List Row} (hG : ∀ q ∈ code, RowG M q) (hl : code.length ≤ 400) {r0 r : RS} {mr0 mr : MR} {mk : MK} (hE : Ext t r0 0 code r) (hX : MEx mt mr0 0 code mr) (h1 : mk.1 = nI code.length) (h2 : ∀ k, k < code.length → mk.2.1 k = mr.2.1 k ∧ mk.2.2.1 k = mr.2.2.1 k ∧ mk.2.2.2 k = mr.2.2.2 k) : kR r mk := by
  obtain ⟨hT, hm, hR, h0, hd, hr⟩ := h
  have e1 := hE.1
  rw [Nat.zero_add] at e1
  refine ⟨code.length, hl, e1, h1, fun i hi => ?_⟩
  obtain ⟨q, hq⟩ : ∃ q, code[i]? = some q := ⟨code[i], List.getElem?_eq_getElem hi⟩
  obtain ⟨a1, a2, a3⟩ := hE.2.2.1 i q hq
  obtain ⟨b1, b2, b3⟩ := hX.2.2 i q hq
  rw [Nat.zero_add] at a1 a2 a3 b1 b2 b3
  obtain ⟨c1, c2, c3⟩ := h2 i hi
  refine ⟨by rw [a1, c1, b1], by rw [a2, c3, b2], ?_⟩
  rw [a3, c1, c2, b1, b3]
  have hq' : q ∈ code := List.mem_of_getElem? hq
  have t2 : (2 : Int32).toInt = 2 := by decide
  have t7 : (7 : Int32).toInt = 7 := by decide
  have t6 : (6 : Int32).toInt = 6 := by decide
  rcases hG q hq' with ⟨z, ho⟩ | ⟨j, hj1, hj2, z, ho1, ho2⟩
  · unfold shO itO
    rw [if_pos z, if_neg]
    rw [i32_lt, i32_lt, t2, t7]
    omega
  · obtain ⟨D, hD, q1, q2⟩ := hd j hj1 hj2
    have hM2 := hT.2.2.2.1
    have gd := dgt_is hT.2.2.1 hM2 hj1 hj2 q2
    have nz : ¬ q.2.2 = 0 := by rw [z]; exact nI_ne0 (by omega) (by omega)
    unfold shO itO
    rw [if_neg nz, if_neg nz, z, nI_clamp (by omega), q1, gd]
    have e18 : (18 < nI (min D 100)) ↔ 18 < D := by
      have : (nI 18 < nI (min D 100)) ↔ 18 < min D 100 := nI_ltI (by omega) (by omega)
      rw [show (18 : Int32) = nI 18 from rfl, this]
      omega
    have e18' : (nI D ≤ 18) ↔ D ≤ 18 := nI_leI (b := 18) (by omega) (by omega)
    by_cases h6 : 6 < q.1
    · rw [if_pos h6, if_neg]
      rw [i32_lt, t6] at h6
      rw [i32_lt, i32_lt, t2, t7]
      omega
    · rw [if_neg h6]
      rw [i32_lt, t6] at h6
      by_cases h18 : 18 < D
      · rw [if_pos (e18.mpr h18), if_neg]
        rw [e18']
        omega
      · rw [if_neg (fun q => h18 (e18.mp q)), if_pos]
        rw [e18', i32_lt, i32_lt, t2, t7]
        omega
/-- what make does where there is a node and room -/
theorem build_1 (h : tR N M c t mt) {k : Nat} (h1 : 1 ≤ k) (h2 : k ≤ M) (hl : ln t 200 k ≤ 400) (r : RS) : ∃ r', G_X4_make t r (nI k) = (nI (ln t 200 k), r') ∧ Ext t (0, r.2.1, r.2.2.1, r.2.2.2.1, r.2.2.2.2.1, r.2.2.2.2.2) 0 (cd t 200 k 0) r' := by
  obtain ⟨hT, hm, hR, h0, hd, hr⟩ := h
  have hM2 := hT.2.2.2.1
  have E := emit_is hT 200 k 0 (0, r.2.1, r.2.2.1, r.2.2.2.1, r.2.2.2.2.1, r.2.2.2.2.2) 0 h1 h2 (by omega) (by omega) rfl (by rw [drA_len0]; simp only [List.length_nil]; omega)
  rw [drA_len0, List.append_nil] at E
  refine ⟨_, ?_, E⟩
  have e1 := E.1
  rw [cd_len, Nat.zero_add] at e1
  have ro : G_X3_rowsOf t (nI k) ≤ 400 := by
    unfold G_X3_rowsOf
    rw [if_neg (nat_has hT.2.2.1 hM2 h1 h2), nI_clamp (by omega), hr k h1 h2]
    exact nI_le (b := 400) (by omega) (by omega)
  have eb : G_X1_build t r (nI k) = ((em t 200 (0, r.2.1, r.2.2.1, r.2.2.2.1, r.2.2.2.2.1, r.2.2.2.2.2) k 0).1, em t 200 (0, r.2.1, r.2.2.1, r.2.2.2.1, r.2.2.2.2.1, r.2.2.2.2.2) k 0) := by
    unfold G_X1_build
    rw [if_neg (nat_has hT.2.2.1 hM2 h1 h2), if_pos ro]
    rfl
  unfold G_X4_make
  rw [eb, e1]
theorem build_0 (h : tR N M c t mt) {k : Nat} (h1 : 1 ≤ k) (h2 : k ≤ M) (hl : ¬ ln t 200 k ≤ 400) (r : RS) : G_X4_make t r (nI k) = (-1, (0, r.2.1, r.2.2.1, r.2.2.2.1, r.2.2.2.2.1, r.2.2.2.2.2)) ∧ ¬ G_X3_rowsOf t (nI k) ≤ 400 := by
  obtain ⟨hT, hm, hR, h0, hd, hr⟩ := h
  have hM2 := hT.2.2.2.1
  have ro : ¬ G_X3_rowsOf t (nI k) ≤ 400 := by
    unfold G_X3_rowsOf
    rw [if_neg (nat_has hT.2.2.1 hM2 h1 h2), nI_clamp (by omega), hr k h1 h2]
    exact nI_ge (a := 400) (by omega) (by omega)
  refine ⟨?_, ro⟩
  unfold G_X4_make G_X1_build
  rw [if_neg (nat_has hT.2.2.1 hM2 h1 h2), if_neg ro]
theorem build_n (h : tR N M c t mt) {n : Int32} (hn : G_X3_has t n = 0) (r : RS) : G_X4_make t r n = (-2, r) := by
  unfold G_X4_make G_X1_build
  rw [if_pos hn]
theorem kR_0 {r : RS} {mk : MK} (h1 : r.1 = nI 0) (h2 : mk.1 = nI 0) : kR r mk := ⟨0, by omega, h1, h2, fun i hi => absurd hi (by omega)⟩
theorem make_is (h : tR N M c t mt) {r : RS} {mk : MK} (hk : kR r mk) (me : ME) (mr : MR) (mq : MQS) (n : Int32) : ∃ fm, OK_X5_make me mt mk mr mq n fm ∧ (G_X4_make t r n).1 = (G_X5_make me mt mk mr mq n fm).1 ∧ (G_X5_make me mt mk mr mq n fm).2.1 = (0, me.2.1, me.2.2) ∧ kR (G_X4_make t r n).2 (G_X5_make me mt mk mr mq n fm).2.2.1 := by
  have hTR := h
  obtain ⟨hT, hm, hR, h0, hd, hr⟩ := h
  have hM2 := hT.2.2.2.1
  have he := has_eq hT.2.2.1 hm n
  by_cases hn : G_X3_has t n = 0
  · have hn' : G_X5_isNode mt n = 0 := he.symm.trans hn
    refine ⟨0, ?_⟩
    unfold OK_X5_make G_X5_make
    rw [if_pos hn', if_pos hn', build_n hTR hn]
    exact ⟨trivial, rfl, rfl, hk⟩
  · have hn' : ¬ G_X5_isNode mt n = 0 := fun q => hn (he.trans q)
    obtain ⟨k, h1, h2, rfl⟩ := has_nat hT.2.2.1 hM2 hn
    obtain ⟨fm, o, m0, m1⟩ := made_is hT hR h1 h2 mr mq
    refine ⟨fm, ?_⟩
    unfold OK_X5_make G_X5_make
    rw [if_neg hn', if_neg hn']
    by_cases hl : ln t 200 k ≤ 400
    · obtain ⟨g1, gX⟩ := m1 hl
      obtain ⟨r', eb, E⟩ := build_1 hTR h1 h2 hl r
      have gX1 := gX.1
      rw [cd_len, Nat.zero_add] at gX1
      obtain ⟨ok, mk', ek, k1, k2⟩ := keep1 (mk := mk) (mr := (G_X5_made mt mr mq (nI k) fm).2.1) hl gX1 (gd := (G_X5_made mt mr mq (nI k) fm).1) (by rw [g1]; decide)
      rw [ek, eb]
      refine ⟨⟨o, ok, trivial⟩, rfl, rfl, ?_⟩
      exact kR_of hTR (cd_rows hT 200 k 0 h1 h2 (by omega)) (by rw [cd_len]; exact hl) E gX (by rw [cd_len]; exact k1) (by rw [cd_len]; exact k2)
    · have g0 := m0 (by omega)
      rw [g0]
      obtain ⟨ok, mk', ek, k1⟩ := keep0 (mk := mk) (mr := (G_X5_made mt mr mq (nI k) fm).2.1)
      rw [ek, (build_0 hTR h1 h2 hl r).1]
      exact ⟨⟨o, ok, trivial⟩, rfl, rfl, kR_0 rfl k1⟩
end MK
/-! asking for kept rows -/
theorem code_is {r : RS} {mk : MK} (h : kR r mk) (me : ME) (i wh : Int32) : OK_X5_code me mk i wh ∧ G_X4_code r i wh = (G_X5_code me mk i wh).1 ∧ (G_X5_code me mk i wh).2 = (0, me.2.1, me.2.2) := by
  obtain ⟨n, hn, h1, h2, h3⟩ := h
  unfold OK_X5_code G_X4_code G_X5_code
  by_cases hh : G_X1_has r i = 0
  · rw [if_pos hh]
    unfold G_X1_has at hh
    by_cases q1 : i < 0
    · simp only [if_pos q1]
      exact ⟨trivial, trivial, trivial⟩
    · rw [if_neg q1] at hh
      by_cases q2 : r.1 ≤ i
      · have q3 : ¬ i < mk.1 := by
          rw [h1] at q2
          rw [h2]
          rw [i32_lt]
          rw [i32_le] at q2
          omega
        simp only [if_neg q1, if_neg q3]
        exact ⟨trivial, trivial, trivial⟩
      · rw [if_neg q2] at hh
        exact absurd hh (by decide)
  · rw [if_neg hh]
    have hh' := hh
    rw [G_X1_has_iff, h1, nI_toInt (by omega)] at hh'
    obtain ⟨j, hj, rfl⟩ : ∃ j : Nat, j < n ∧ i = nI j := ⟨i.toInt.toNat, by omega, i32_of (by omega) (by omega)⟩
    obtain ⟨a1, a2, a3⟩ := h3 j hj
    have q1 : ¬ nI j < 0 := nI_pos (by omega)
    have q2 : nI j < mk.1 := by rw [h2]; exact nI_lt hj (by omega)
    have v : vp_in (nI j) 401 := vp_in_nI (by omega) (by omega)
    have e1 : G_X1_opOf r (nI j) = mk.2.1 j := by
      unfold G_X1_opOf
      rw [if_neg hh, nI_clamp (by omega), a1]
    have e2 : G_X1_numberOf r (nI j) = mk.2.2.2 j := by
      unfold G_X1_numberOf
      rw [if_neg hh, nI_clamp (by omega), a2]
    rw [e1, e2]
    simp only [if_neg q1, if_pos q2, nI_clamp (show j < 2 ^ 31 by omega)]
    by_cases w0 : wh = 0
    · simp only [if_pos w0]
      exact ⟨⟨v, trivial⟩, trivial, trivial⟩
    · by_cases w1 : wh = 1
      · simp only [if_neg w0, if_pos w1]
        exact ⟨⟨v, trivial⟩, trivial, trivial⟩
      · simp only [if_neg w0, if_neg w1]
        exact ⟨trivial, trivial, trivial⟩
theorem fast_is {r : RS} {mk : MK} (h : kR r mk) (me : ME) (i : Int32) : OK_X5_fast me mk i ∧ G_X4_fast r i = (G_X5_fast me mk i).1 ∧ (G_X5_fast me mk i).2 = (0, me.2.1, me.2.2) := by
  obtain ⟨n, hn, h1, h2, h3⟩ := h
  unfold OK_X5_fast G_X4_fast G_X5_fast
  by_cases hh : G_X1_has r i = 0
  · rw [if_pos hh]
    unfold G_X1_has at hh
    by_cases q1 : i < 0
    · simp only [if_pos q1]
      exact ⟨trivial, trivial, trivial⟩
    · rw [if_neg q1] at hh
      by_cases q2 : r.1 ≤ i
      · have q3 : mk.1 ≤ i := by rw [h2, ← h1]; exact q2
        simp only [if_neg q1, if_pos q3]
        exact ⟨trivial, trivial, trivial⟩
      · rw [if_neg q2] at hh
        exact absurd hh (by decide)
  · rw [if_neg hh]
    have hh' := hh
    rw [G_X1_has_iff, h1, nI_toInt (by omega)] at hh'
    obtain ⟨j, hj, rfl⟩ : ∃ j : Nat, j < n ∧ i = nI j := ⟨i.toInt.toNat, by omega, i32_of (by omega) (by omega)⟩
    obtain ⟨a1, a2, a3⟩ := h3 j hj
    have q1 : ¬ nI j < 0 := nI_pos (by omega)
    have q2 : ¬ mk.1 ≤ nI j := by rw [h2]; exact nI_ge hj (by omega)
    have v : vp_in (nI j) 401 := vp_in_nI (by omega) (by omega)
    unfold G_X1_isShort
    rw [if_neg hh, nI_clamp (by omega), a3]
    simp only [if_neg q1, if_neg q2]
    have t2 : (2 : Int32).toInt = 2 := by decide
    have t7 : (7 : Int32).toInt = 7 := by decide
    have t18 : (18 : Int32).toInt = 18 := by decide
    have z1 : ¬ (1 : Int32) = 0 := by decide
    by_cases p1 : mk.2.1 j ≤ 2
    · have c : ¬ (2 < mk.2.1 j ∧ mk.2.1 j < 7 ∧ mk.2.2.1 j ≤ 18) := fun q => by
        have := q.1
        rw [i32_lt, t2] at this
        rw [i32_le, t2] at p1
        omega
      simp only [if_neg c, if_pos p1, eq_self, if_true]
      exact ⟨⟨v, trivial⟩, trivial, trivial⟩
    · by_cases p2 : 7 ≤ mk.2.1 j
      · have c : ¬ (2 < mk.2.1 j ∧ mk.2.1 j < 7 ∧ mk.2.2.1 j ≤ 18) := fun q => by
          have := q.2.1
          rw [i32_lt, t7] at this
          rw [i32_le, t7] at p2
          omega
        simp only [if_neg c, if_neg p1, if_pos p2, eq_self, if_true]
        exact ⟨⟨v, v, trivial⟩, trivial, trivial⟩
      · by_cases p3 : 18 < mk.2.2.1 j
        · have c : ¬ (2 < mk.2.1 j ∧ mk.2.1 j < 7 ∧ mk.2.2.1 j ≤ 18) := fun q => by
            have := q.2.2
            rw [i32_le, t18] at this
            rw [i32_lt, t18] at p3
            omega
          simp only [if_neg c, if_neg p1, if_neg p2, if_pos p3, eq_self, if_true]
          exact ⟨⟨v, v, v, trivial⟩, trivial, trivial⟩
        · have c : 2 < mk.2.1 j ∧ mk.2.1 j < 7 ∧ mk.2.2.1 j ≤ 18 := by
            rw [i32_lt, i32_lt, i32_le, t2, t7, t18]
            rw [i32_le, t2] at p1
            rw [i32_le, t7] at p2
            rw [i32_lt, t18] at p3
            omega
          simp only [if_pos c, if_neg p1, if_neg p2, if_neg p3, if_neg z1]
          exact ⟨⟨v, v, v, trivial⟩, trivial, trivial⟩
theorem point_L {r : RS} {mk : MK} {n : Nat} (hn : n ≤ 400) (h1 : r.1 = nI n) (h2 : mk.1 = nI n) (h3 : ∀ i, i < n → r.2.1 i = mk.2.1 i) (me : ME) (w : Int32) : ∀ (e i f1 f2 : Nat) (sn : Int32) (mev : ME), i + e = n → e + 1 ≤ f1 → e + 1 ≤ f2 → OK_X5_point_L9 me mk w f2 sn (nI i) mev ∧ G_X5_point_L9 me mk w f2 sn (nI i) mev = (G_X1_storingRow_L4 r w f1 sn (nI i), mev) := by
  intro e
  induction e with
  | zero =>
    intro i f1 f2 sn mev hi g1 g2
    obtain ⟨f1, rfl⟩ : ∃ f, f1 = f + 1 := ⟨f1 - 1, by omega⟩
    obtain ⟨f2, rfl⟩ : ∃ f, f2 = f + 1 := ⟨f2 - 1, by omega⟩
    have q1 : mk.1 ≤ nI i := by rw [h2]; exact nI_le (by omega) (by omega)
    have q2 : r.1 ≤ nI i := by rw [h1]; exact nI_le (by omega) (by omega)
    rw [OK_X5_point_L9, G_X5_point_L9, G_X1_storingRow_L4, if_pos q1, if_pos q1, if_pos q2]
    exact ⟨trivial, rfl⟩
  | succ e ih =>
    intro i f1 f2 sn mev hi g1 g2
    obtain ⟨f1, rfl⟩ : ∃ f, f1 = f + 1 := ⟨f1 - 1, by omega⟩
    obtain ⟨f2, rfl⟩ : ∃ f, f2 = f + 1 := ⟨f2 - 1, by omega⟩
    have q1 : ¬ mk.1 ≤ nI i := by rw [h2]; exact nI_ge (by omega) (by omega)
    have q2 : ¬ r.1 ≤ nI i := by rw [h1]; exact nI_ge (by omega) (by omega)
    have q3 : ¬ 400 ≤ nI i := nI_ge (b := 400) (by omega) (by omega)
    have v : vp_in (nI i) 401 := vp_in_nI (by omega) (by omega)
    obtain ⟨a1, a2⟩ := ih (i + 1) f1 f2 (sn + 1) mev (by omega) (by omega) (by omega)
    obtain ⟨b1, b2⟩ := ih (i + 1) f1 f2 sn mev (by omega) (by omega) (by omega)
    rw [OK_X5_point_L9, G_X5_point_L9, G_X1_storingRow_L4, if_neg q1, if_neg q1, if_neg q2, if_neg q3, nI_clamp (by omega), h3 i (by omega), nI_1]
    by_cases p9 : mk.2.1 i = 9
    · rw [if_pos p9, if_pos p9, if_pos p9]
      by_cases ps : sn = w
      · rw [if_pos ps, if_pos ps, if_pos ps]
        exact ⟨⟨v, trivial⟩, rfl⟩
      · rw [if_neg ps, if_neg ps, if_neg ps]
        exact ⟨⟨v, a1⟩, a2⟩
    · rw [if_neg p9, if_neg p9, if_neg p9]
      by_cases p10 : mk.2.1 i = 10
      · rw [if_pos p10, if_pos p10, if_pos p10]
        by_cases ps : sn = w
        · rw [if_pos ps, if_pos ps, if_pos ps]
          exact ⟨⟨v, v, trivial⟩, rfl⟩
        · rw [if_neg ps, if_neg ps, if_neg ps]
          exact ⟨⟨v, v, a1⟩, a2⟩
      · rw [if_neg p10, if_neg p10, if_neg p10]
        exact ⟨⟨v, v, b1⟩, b2⟩
theorem point_is {r : RS} {mk : MK} (h : kR r mk) (me : ME) (i : Int32) : OK_X5_point me mk i ∧ G_X4_point r i = (G_X5_point me mk i).1 ∧ (G_X5_point me mk i).2 = (0, me.2.1, me.2.2) := by
  obtain ⟨n, hn, h1, h2, h3⟩ := h
  obtain ⟨o, e⟩ := point_L hn h1 h2 (fun i hi => (h3 i hi).1) me i n 0 402 402 0 (0, me.2.1, me.2.2) (by omega) (by omega) (by omega)
  unfold OK_X5_point G_X4_point G_X1_storingRow G_X5_point
  rw [show G_X5_point_L9 me mk i 402 0 0 (0, me.2.1, me.2.2) = _ from e]
  exact ⟨o, rfl, rfl⟩
