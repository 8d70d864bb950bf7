/-! making: the class's rows are cd's -/
def em (t : TS) (d : Nat) (r : RS) (k : Nat) (al : Int32) : RS := G_X1_emit t d r (nI k) al (nI (201 - d))
theorem em_def (t : TS) (d : Nat) (r : RS) (k : Nat) (al : Int32) : G_X1_emit t d r (nI k) al (nI (201 - d)) = em t d r k al := rfl
def tl (t : TS) (k : Nat) (al : Int32) (r : RS) : RS := if al = 0 then r else if isV t k then G_X1_addRow r 15 0 0 else r
theorem tl_of {t : TS} {k : Nat} {al : Int32} {r : RS} : (if al = 0 then r else if (if isV t k then (1 : Int32) else 0) = 0 then r else G_X1_addRow r 15 0 0) = tl t k al r := by
  unfold tl
  by_cases ha : al = 0
  · rw [if_pos ha, if_pos ha]
  · rw [if_neg ha, if_neg ha]
    by_cases hv : isV t k
    · rw [if_pos hv, if_neg (by decide), if_pos hv]
    · rw [if_neg hv, if_pos rfl, if_neg hv]
section EM
variable {N M : Nat} {c : CS} {t : TS} {d : Nat} {r : RS} {k : Nat} {al : Int32}
theorem em_f (h : tOK N M c t) (h1 : 1 ≤ k) (h2 : k ≤ M) (hd : d + 1 ≤ 200) (hf : fo t k = 1) : em t (d + 1) r k al = tl t k al (G_X1_addRow r 0 (nu t k) 0) := by
  unfold em
  rw [G_X1_emit, if_neg (dp_ok hd).1, if_neg (tOK_has h h1 h2), tOK_folded h h1 h2, if_neg (show ¬ (if fo t k = 0 then (0 : Int32) else 1) = 0 by rw [if_neg (by rw [hf]; decide)]; decide), tOK_number h h1 h2, tOK_value h h1 h2, tl_of]
theorem em_1 (h : tOK N M c t) (h1 : 1 ≤ k) (h2 : k ≤ M) (hd : d + 1 ≤ 200) (hf : fo t k = 0) (hk : kd t k = 1) : em t (d + 1) r k al = tl t k al (G_X1_addRow r 1 (fa t k).toInt64 0) := by
  unfold em
  rw [G_X1_emit, if_neg (dp_ok hd).1, if_neg (tOK_has h h1 h2), tOK_folded h h1 h2, if_pos (show (if fo t k = 0 then (0 : Int32) else 1) = 0 from if_pos hf), tOK_kind h h1 h2, tOK_first h h1 h2, tOK_value h h1 h2, if_pos hk, tl_of]
theorem em_2 (h : tOK N M c t) (h1 : 1 ≤ k) (h2 : k ≤ M) (hd : d + 1 ≤ 200) (hf : fo t k = 0) (hk : kd t k = 2 ∨ kd t k = 9) {j : Nat} (hj : sb t k = nI j) : em t (d + 1) r k al = tl t k al (G_X1_addRow (em t d r j 0) (kd t k) (fa t k).toInt64 0) := by
  unfold em
  rw [G_X1_emit, if_neg (dp_ok hd).1, if_neg (tOK_has h h1 h2), tOK_folded h h1 h2, if_pos (show (if fo t k = 0 then (0 : Int32) else 1) = 0 from if_pos hf), tOK_kind h h1 h2, tOK_first h h1 h2, tOK_second h h1 h2, tOK_value h h1 h2, (dp_ok hd).2, hj]
  rcases hk with hk | hk
  · rw [if_neg (by rw [hk]; decide), if_pos hk, tl_of]
  · rw [if_neg (by rw [hk]; decide), if_neg (by rw [hk]; decide), if_pos hk, tl_of]
theorem em_10 (h : tOK N M c t) (h1 : 1 ≤ k) (h2 : k ≤ M) (hd : d + 1 ≤ 200) (hf : fo t k = 0) (hk : kd t k = 10) {j p q : Nat} (hj : sb t k = nI j) (hj1 : 1 ≤ j) (hj2 : j ≤ M) (hp : fa t j = nI p) (hq : sb t j = nI q) : em t (d + 1) r k al = tl t k al (G_X1_addRow (em t d (em t d r p 0) q 0) 10 (fa t k).toInt64 0) := by
  unfold em
  rw [G_X1_emit, if_neg (dp_ok hd).1, if_neg (tOK_has h h1 h2), tOK_folded h h1 h2, if_pos (show (if fo t k = 0 then (0 : Int32) else 1) = 0 from if_pos hf), tOK_kind h h1 h2, tOK_first h h1 h2, tOK_second h h1 h2, tOK_value h h1 h2, (dp_ok hd).2, hj, tOK_first h hj1 hj2, tOK_second h hj1 hj2, hp, hq, if_neg (by rw [hk]; decide), if_neg (by rw [hk]; decide), if_neg (by rw [hk]; decide), if_pos hk, tl_of]
theorem em_11 (h : tOK N M c t) (h1 : 1 ≤ k) (h2 : k ≤ M) (hd : d + 1 ≤ 200) (hf : fo t k = 0) (hk : kd t k = 11) {i j : Nat} (hi : fa t k = nI i) (hj : sb t k = nI j) : em t (d + 1) r k al = tl t k al (em t d (em t d r i 1) j 1) := by
  unfold em
  rw [G_X1_emit, if_neg (dp_ok hd).1, if_neg (tOK_has h h1 h2), tOK_folded h h1 h2, if_pos (show (if fo t k = 0 then (0 : Int32) else 1) = 0 from if_pos hf), tOK_kind h h1 h2, tOK_first h h1 h2, tOK_second h h1 h2, tOK_value h h1 h2, (dp_ok hd).2, hi, hj, if_neg (by rw [hk]; decide), if_neg (by rw [hk]; decide), if_neg (by rw [hk]; decide), if_neg (by rw [hk]; decide), if_pos hk, tl_of]
theorem em_12 (h : tOK N M c t) (h1 : 1 ≤ k) (h2 : k ≤ M) (hd : d + 1 ≤ 200) (hf : fo t k = 0) (hk : kd t k = 12) {i j : Nat} (hi : fa t k = nI i) (hj : sb t k = nI j) : em t (d + 1) r k al = tl t k al (G_X1_aim (em t d (G_X1_addRow (em t d r i 0) 12 0 0) j 1) (em t d r i 0).1 (em t d (G_X1_addRow (em t d r i 0) 12 0 0) j 1).1) := by
  unfold em
  rw [G_X1_emit, if_neg (dp_ok hd).1, if_neg (tOK_has h h1 h2), tOK_folded h h1 h2, if_pos (show (if fo t k = 0 then (0 : Int32) else 1) = 0 from if_pos hf), tOK_kind h h1 h2, tOK_first h h1 h2, tOK_second h h1 h2, tOK_value h h1 h2, (dp_ok hd).2, hi, hj, if_neg (by rw [hk]; decide), if_neg (by rw [hk]; decide), if_neg (by rw [hk]; decide), if_neg (by rw [hk]; decide), if_neg (by rw [hk]; decide), if_pos hk, if_neg (by rw [hk]; decide), tl_of, hk]
theorem em_13 (h : tOK N M c t) (h1 : 1 ≤ k) (h2 : k ≤ M) (hd : d + 1 ≤ 200) (hf : fo t k = 0) (hk : kd t k = 13) {i j : Nat} (hi : fa t k = nI i) (hj : sb t k = nI j) : em t (d + 1) r k al = tl t k al (G_X1_aim (G_X1_addRow (em t d (G_X1_addRow (em t d r i 0) 13 0 0) j 1) 14 ((em t d r i 0).1 + 1).toInt64 0) (em t d r i 0).1 (G_X1_addRow (em t d (G_X1_addRow (em t d r i 0) 13 0 0) j 1) 14 ((em t d r i 0).1 + 1).toInt64 0).1) := by
  unfold em
  rw [G_X1_emit, if_neg (dp_ok hd).1, if_neg (tOK_has h h1 h2), tOK_folded h h1 h2, if_pos (show (if fo t k = 0 then (0 : Int32) else 1) = 0 from if_pos hf), tOK_kind h h1 h2, tOK_first h h1 h2, tOK_second h h1 h2, tOK_value h h1 h2, (dp_ok hd).2, hi, hj, if_neg (by rw [hk]; decide), if_neg (by rw [hk]; decide), if_neg (by rw [hk]; decide), if_neg (by rw [hk]; decide), if_neg (by rw [hk]; decide), if_neg (by rw [hk]; decide), if_pos hk, if_pos hk, tl_of, hk]
/-- whether a row's node is fast -/
def shO (t : TS) (op nn : Int32) : Int32 := if nn = 0 then 0 else if (6 : Int32) < op then 0 else if (18 : Int32) < G_X3_digitsOf t nn then 0 else 1
theorem em_r (h : tOK N M c t) (h1 : 1 ≤ k) (h2 : k ≤ M) (hd : d + 1 ≤ 200) (hf : fo t k = 0) (hk1 : 3 ≤ (kd t k).toInt) (hk2 : (kd t k).toInt ≤ 8) {i j : Nat} (hi : fa t k = nI i) (hj : sb t k = nI j) : em t (d + 1) r k al = tl t k al (G_X1_addRow (em t d (em t d r i 0) j 0) (kd t k) 0 (shO t (kd t k) (nI k))) := by
  have hM2 := h.2.2.2.1
  have hz : ¬ nI k = 0 := nI_ne0 (by omega) (by omega)
  unfold em shO
  rw [G_X1_emit, if_neg (dp_ok hd).1, if_neg (tOK_has h h1 h2), tOK_folded h h1 h2, if_pos (show (if fo t k = 0 then (0 : Int32) else 1) = 0 from if_pos hf), tOK_kind h h1 h2, tOK_first h h1 h2, tOK_second h h1 h2, tOK_value h h1 h2, (dp_ok hd).2, hi, hj, if_neg (kne hk1 hk2 (by decide)), if_neg (kne hk1 hk2 (by decide)), if_neg (kne hk1 hk2 (by decide)), if_neg (kne hk1 hk2 (by decide)), if_neg (kne hk1 hk2 (by decide)), if_neg (kne hk1 hk2 (by decide)), if_neg (kne hk1 hk2 (by decide)), if_neg hz]
  by_cases q1 : (6 : Int32) < kd t k
  · rw [if_pos q1, if_pos q1, tl_of]
  · rw [if_neg q1, if_neg q1]
    by_cases q2 : (18 : Int32) < G_X3_digitsOf t (nI k)
    · rw [if_pos q2, if_pos q2, tl_of]
    · rw [if_neg q2, if_neg q2, tl_of]
end EM
/-- r' is r with the rows l from b on -/
def Ext (t : TS) (r : RS) (b : Nat) (l : List Row) (r' : RS) : Prop := r'.1 = nI (b + l.length) ∧ (∀ i, i < b → r'.2.1 i = r.2.1 i ∧ r'.2.2.1 i = r.2.2.1 i ∧ r'.2.2.2.1 i = r.2.2.2.1 i) ∧ (∀ (i : Nat) (q : Row), l[i]? = some q → r'.2.1 (b + i) = q.1 ∧ r'.2.2.1 (b + i) = q.2.1 ∧ r'.2.2.2.1 (b + i) = shO t q.1 q.2.2) ∧ r'.2.2.2.2 = r.2.2.2.2
theorem Ext.nil {t : TS} {r : RS} {b : Nat} (h : r.1 = nI b) : Ext t r b [] r := ⟨h, fun _ _ => ⟨rfl, rfl, rfl⟩, fun i q hq => by simp at hq, rfl⟩
theorem Ext.app {t : TS} {r r1 r2 : RS} {b : Nat} {l1 l2 : List Row} (h1 : Ext t r b l1 r1) (h2 : Ext t r1 (b + l1.length) l2 r2) : Ext t r b (l1 ++ l2) r2 := by
  obtain ⟨a1, a2, a3, a4⟩ := h1
  obtain ⟨b1, b2, b3, b4⟩ := h2
  refine ⟨by rw [b1, List.length_append, Nat.add_assoc], fun i hi => ?_, fun i q hq => ?_, b4.trans a4⟩
  · obtain ⟨q1, q2, q3⟩ := b2 i (by omega)
    obtain ⟨p1, p2, p3⟩ := a2 i hi
    exact ⟨q1.trans p1, q2.trans p2, q3.trans p3⟩
  · by_cases hl : i < l1.length
    · rw [List.getElem?_append_left hl] at hq
      obtain ⟨q1, q2, q3⟩ := b2 (b + i) (by omega)
      obtain ⟨p1, p2, p3⟩ := a3 i q hq
      exact ⟨q1.trans p1, q2.trans p2, q3.trans p3⟩
    · rw [List.getElem?_append_right (by omega)] at hq
      have := b3 _ q hq
      rw [show b + l1.length + (i - l1.length) = b + i by omega] at this
      exact this
theorem narB {v : Int32} (h : v = 0 ∨ v = 1) : vp_nar .boolean v = v := by rcases h with rfl | rfl <;> rfl
theorem shO_01 (t : TS) (op nn : Int32) : shO t op nn = 0 ∨ shO t op nn = 1 := by
  unfold shO
  repeat' split
  all_goals first | exact Or.inl rfl | exact Or.inr rfl
theorem Ext.row {t : TS} {r : RS} {b : Nat} (h : r.1 = nI b) (hb : b < 400) (op : Int32) (v : Int64) (nn sw : Int32) (hs : sw = shO t op nn) : Ext t r b [(op, v, nn)] (G_X1_addRow r op v sw) := by
  subst hs
  unfold G_X1_addRow
  rw [h, if_neg (by rw [i32_lt, nI_toInt (by omega), i0]; omega), if_pos (by rw [i32_lt, nI_toInt (by omega), show (400 : Int32).toInt = 400 by decide]; omega), nI_clamp (by omega), narB (shO_01 t op nn)]
  refine ⟨nI_1 b, fun i hi => ⟨pk_un (by omega), pk_uLn (by omega), pk_un (by omega)⟩, fun i q hq => ?_, rfl⟩
  have hi : i < 1 := (List.getElem?_eq_some_iff.mp hq).1
  have : i = 0 := by omega
  subst this
  cases hq
  exact ⟨pk_us, pk_uLs, pk_us⟩
theorem Ext.aim {t : TS} {r r1 : RS} {b : Nat} {l1 l2 : List Row} {op : Int32} {tg n : Nat} (h : Ext t r b (l1 ++ (op, 0, 0) :: l2) r1) (hn : b + l1.length = n) (hb : b + (l1 ++ ((op, 0, 0) : Row) :: l2).length ≤ 400) (ht : tg ≤ 400) : Ext t r b (l1 ++ (op, lN tg, 0) :: l2) (G_X1_aim r1 (nI n) (nI tg)) := by
  subst hn
  obtain ⟨a1, a2, a3, a4⟩ := h
  simp only [List.length_append, List.length_cons] at hb a1
  have hh : ¬ G_X1_has r1 (nI (b + l1.length)) = 0 := by
    rw [G_X1_has_iff, a1, nI_toInt (by omega), nI_toInt (by omega)]
    omega
  unfold G_X1_aim
  rw [if_neg hh, nI_clamp (by omega), nI_l (by omega)]
  refine ⟨by simp only [List.length_append, List.length_cons]; exact a1, fun i hi => ?_, fun i q hq => ?_, a4⟩
  · obtain ⟨p1, p2, p3⟩ := a2 i hi
    exact ⟨p1, (pk_uLn (by omega)).trans p2, p3⟩
  · by_cases hl : i < l1.length
    · rw [List.getElem?_append_left hl] at hq
      obtain ⟨p1, p2, p3⟩ := a3 i q (by rw [List.getElem?_append_left hl]; exact hq)
      exact ⟨p1, (pk_uLn (by omega)).trans p2, p3⟩
    · by_cases he : i = l1.length
      · subst he
        rw [List.getElem?_append_right (Nat.le_refl _), Nat.sub_self] at hq
        cases hq
        obtain ⟨p1, p2, p3⟩ := a3 l1.length (op, 0, 0) (by rw [List.getElem?_append_right (Nat.le_refl _), Nat.sub_self]; rfl)
        exact ⟨p1, pk_uLs, p3⟩
      · obtain ⟨e, hi⟩ : ∃ e, i - l1.length = e + 1 := ⟨i - l1.length - 1, by omega⟩
        rw [List.getElem?_append_right (by omega), hi] at hq
        obtain ⟨p1, p2, p3⟩ := a3 i q (by rw [List.getElem?_append_right (by omega), hi]; exact hq)
        exact ⟨p1, (pk_uLn (by omega)).trans p2, p3⟩
def drA (t : TS) (k : Nat) (al : Int32) : List Row := if al = 0 then [] else dr t k
theorem Ext.drop {t : TS} {r r1 : RS} {b k : Nat} {al : Int32} {l : List Row} (h : Ext t r b l r1) (hb : b + (l.length + (drA t k al).length) ≤ 400) : Ext t r b (l ++ drA t k al) (tl t k al r1) := by
  unfold drA tl at *
  by_cases ha : al = 0
  · rw [if_pos ha, if_pos ha, List.append_nil]
    exact h
  · rw [if_neg ha] at hb
    rw [if_neg ha, if_neg ha]
    unfold dr at *
    by_cases hv : isV t k
    · rw [if_pos hv] at hb
      simp only [List.length_cons, List.length_nil] at hb
      rw [if_pos hv, if_pos hv]
      exact h.app (Ext.row h.1 (by omega) 15 0 0 0 rfl)
    · rw [if_neg hv, if_neg hv, List.append_nil]
      exact h
