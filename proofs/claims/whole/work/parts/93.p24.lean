/-! node: both sides -/
abbrev fT (M : Nat) (t : TS) (k a b : Int32) (fo' : AI) (nu' : AL) : TS := (nI M, upd t.2.1 (M + 1) k, upd t.2.2.1 (M + 1) a, upd t.2.2.2.1 (M + 1) b, t.2.2.2.2.1, t.2.2.2.2.2.1, fo', nu')
abbrev mT (M : Nat) (mt : MT) (k a b : Int32) : MT := (nI (M + 1), upd mt.2.1 (M + 1) k, upd mt.2.2.1 (M + 1) a, upd mt.2.2.2.1 (M + 1) b, mt.2.2.2.2.1, mt.2.2.2.2.2.1, mt.2.2.2.2.2.2)
theorem nb1 : vp_nar .boolean (1 : Int32) = 1 := rfl
theorem nb0 : vp_nar .boolean (0 : Int32) = 0 := rfl
theorem i10 : ¬ (1 : Int32) = 0 := by decide
section MN
variable {M : Nat} {mc : MC} {mt : MT} {k a b : Int32} {me : ME}
theorem mn_0 (h2 : mt.1 = nI M) (hM : M < 200) (hk1 : ¬ k < 0) (hk2 : k ≤ 13) (ho : OK_X5_isSo mc mt k a b) (hs : ¬ G_X5_isSo mc mt k a b = 0) (hS : OK_X5_sureOf mc (mT M mt k a b) k a b) (k0 : k = 0) : OK_X5_node me mc mt k a b ∧ G_X5_node me mc mt k a b = (nI (M + 1), (0, me.2.1, me.2.2), mNew M mt k a b (G_X5_sureOf mc (mT M mt k a b) k a b) 1 a.toInt64) := by
  have h200 : ¬ nI M = 200 := fun e => by have := (nI_eq (b := 200) (by omega) (by omega)).mp e; omega
  have v : vp_in (nI (M + 1)) 201 := vp_in_nI (by omega) (by omega)
  unfold OK_X5_node G_X5_node
  rw [h2, nI_1, nI_clamp (show M + 1 < 2 ^ 31 by omega)]
  simp only [if_neg hk1, if_pos hk2, if_neg hs, if_neg h200, if_pos k0, pk_us, nb1, nb0, if_neg i10, eq_self, if_true]
  exact ⟨⟨ho, v, v, v, hS, v, v, v, v, trivial⟩, trivial⟩
theorem mn_2 (h2 : mt.1 = nI M) (hM : M < 200) (hk1 : ¬ k < 0) (hk2 : k ≤ 13) (ho : OK_X5_isSo mc mt k a b) (hs : ¬ G_X5_isSo mc mt k a b = 0) (hS : OK_X5_sureOf mc (mT M mt k a b) k a b) (k0 : ¬ k = 0) (k2 : k ≤ 2) : OK_X5_node me mc mt k a b ∧ G_X5_node me mc mt k a b = (nI (M + 1), (0, me.2.1, me.2.2), mNew M mt k a b (G_X5_sureOf mc (mT M mt k a b) k a b) 0 0) := by
  have h200 : ¬ nI M = 200 := fun e => by have := (nI_eq (b := 200) (by omega) (by omega)).mp e; omega
  have v : vp_in (nI (M + 1)) 201 := vp_in_nI (by omega) (by omega)
  unfold OK_X5_node G_X5_node
  rw [h2, nI_1, nI_clamp (show M + 1 < 2 ^ 31 by omega)]
  simp only [if_neg hk1, if_pos hk2, if_neg hs, if_neg h200, if_neg k0, if_pos k2, pk_us, nb1, nb0, if_neg i10, eq_self, if_true]
  exact ⟨⟨ho, v, v, v, hS, v, v, v, v, trivial⟩, trivial⟩
theorem mn_9 (h2 : mt.1 = nI M) (hM : M < 200) (hk1 : ¬ k < 0) (hk2 : k ≤ 13) (ho : OK_X5_isSo mc mt k a b) (hs : ¬ G_X5_isSo mc mt k a b = 0) (hS : OK_X5_sureOf mc (mT M mt k a b) k a b) (k0 : ¬ k = 0) (k2 : ¬ k ≤ 2) (k9 : 9 ≤ k) : OK_X5_node me mc mt k a b ∧ G_X5_node me mc mt k a b = (nI (M + 1), (0, me.2.1, me.2.2), mNew M mt k a b (G_X5_sureOf mc (mT M mt k a b) k a b) 0 0) := by
  have h200 : ¬ nI M = 200 := fun e => by have := (nI_eq (b := 200) (by omega) (by omega)).mp e; omega
  have v : vp_in (nI (M + 1)) 201 := vp_in_nI (by omega) (by omega)
  unfold OK_X5_node G_X5_node
  rw [h2, nI_1, nI_clamp (show M + 1 < 2 ^ 31 by omega)]
  simp only [if_neg hk1, if_pos hk2, if_neg hs, if_neg h200, if_neg k0, if_neg k2, if_pos k9, pk_us, nb1, nb0, if_neg i10, eq_self, if_true]
  exact ⟨⟨ho, v, v, v, hS, v, v, v, v, trivial⟩, trivial⟩
theorem mn_A (h2 : mt.1 = nI M) (hM : M < 200) (hk1 : ¬ k < 0) (hk2 : k ≤ 13) (ho : OK_X5_isSo mc mt k a b) (hs : ¬ G_X5_isSo mc mt k a b = 0) (hS : OK_X5_sureOf mc (mT M mt k a b) k a b) (k0 : ¬ k = 0) (k2 : ¬ k ≤ 2) (k9 : ¬ 9 ≤ k) (va : vp_in a 201) (vb : vp_in b 201) (fa0 : mt.2.2.2.2.2.1 a.toNatClampNeg = 0) : OK_X5_node me mc mt k a b ∧ G_X5_node me mc mt k a b = (nI (M + 1), (0, me.2.1, me.2.2), mNew M mt k a b (G_X5_sureOf mc (mT M mt k a b) k a b) 0 0) := by
  have h200 : ¬ nI M = 200 := fun e => by have := (nI_eq (b := 200) (by omega) (by omega)).mp e; omega
  have v : vp_in (nI (M + 1)) 201 := vp_in_nI (by omega) (by omega)
  unfold OK_X5_node G_X5_node
  rw [h2, nI_1, nI_clamp (show M + 1 < 2 ^ 31 by omega)]
  simp only [if_neg hk1, if_pos hk2, if_neg hs, if_neg h200, if_neg k0, if_neg k2, if_neg k9, if_pos fa0, pk_us, nb1, nb0, if_neg i10, eq_self, if_true]
  exact ⟨⟨ho, v, v, v, hS, v, va, v, v, v, trivial⟩, trivial⟩
theorem mn_B (h2 : mt.1 = nI M) (hM : M < 200) (hk1 : ¬ k < 0) (hk2 : k ≤ 13) (ho : OK_X5_isSo mc mt k a b) (hs : ¬ G_X5_isSo mc mt k a b = 0) (hS : OK_X5_sureOf mc (mT M mt k a b) k a b) (k0 : ¬ k = 0) (k2 : ¬ k ≤ 2) (k9 : ¬ 9 ≤ k) (va : vp_in a 201) (vb : vp_in b 201) (fa0 : ¬ mt.2.2.2.2.2.1 a.toNatClampNeg = 0) (fb0 : mt.2.2.2.2.2.1 b.toNatClampNeg = 0) : OK_X5_node me mc mt k a b ∧ G_X5_node me mc mt k a b = (nI (M + 1), (0, me.2.1, me.2.2), mNew M mt k a b (G_X5_sureOf mc (mT M mt k a b) k a b) 0 0) := by
  have h200 : ¬ nI M = 200 := fun e => by have := (nI_eq (b := 200) (by omega) (by omega)).mp e; omega
  have v : vp_in (nI (M + 1)) 201 := vp_in_nI (by omega) (by omega)
  unfold OK_X5_node G_X5_node
  rw [h2, nI_1, nI_clamp (show M + 1 < 2 ^ 31 by omega)]
  simp only [if_neg hk1, if_pos hk2, if_neg hs, if_neg h200, if_neg k0, if_neg k2, if_neg k9, if_neg fa0, if_pos fb0, pk_us, nb1, nb0, if_neg i10, eq_self, if_true]
  exact ⟨⟨ho, v, v, v, hS, v, va, vb, v, v, v, trivial⟩, trivial⟩
theorem mn_Z (h2 : mt.1 = nI M) (hM : M < 200) (hk1 : ¬ k < 0) (hk2 : k ≤ 13) (ho : OK_X5_isSo mc mt k a b) (hs : ¬ G_X5_isSo mc mt k a b = 0) (hS : OK_X5_sureOf mc (mT M mt k a b) k a b) (k0 : ¬ k = 0) (k2 : ¬ k ≤ 2) (k9 : ¬ 9 ≤ k) (va : vp_in a 201) (vb : vp_in b 201) (fa0 : ¬ mt.2.2.2.2.2.1 a.toNatClampNeg = 0) (fb0 : ¬ mt.2.2.2.2.2.1 b.toNatClampNeg = 0) (k6 : k = 6) (z : lg_cmp (mt.2.2.2.2.2.2 b.toNatClampNeg) 0 = 0) : OK_X5_node me mc mt k a b ∧ G_X5_node me mc mt k a b = (nI (M + 1), (0, me.2.1, me.2.2), mNew M mt k a b (G_X5_sureOf mc (mT M mt k a b) k a b) 0 0) := by
  have h200 : ¬ nI M = 200 := fun e => by have := (nI_eq (b := 200) (by omega) (by omega)).mp e; omega
  have v : vp_in (nI (M + 1)) 201 := vp_in_nI (by omega) (by omega)
  unfold OK_X5_node G_X5_node
  rw [h2, nI_1, nI_clamp (show M + 1 < 2 ^ 31 by omega)]
  simp only [if_neg hk1, if_pos hk2, if_neg hs, if_neg h200, if_neg k0, if_neg k2, if_neg k9, if_neg fa0, if_neg fb0, if_pos k6, if_pos z, pk_us, nb1, nb0, if_neg i10, eq_self, if_true]
  exact ⟨⟨ho, v, v, v, hS, v, va, vb, vb, v, v, v, trivial⟩, trivial⟩
theorem mn_R6 (h2 : mt.1 = nI M) (hM : M < 200) (hk1 : ¬ k < 0) (hk2 : k ≤ 13) (ho : OK_X5_isSo mc mt k a b) (hs : ¬ G_X5_isSo mc mt k a b = 0) (hS : OK_X5_sureOf mc (mT M mt k a b) k a b) (k0 : ¬ k = 0) (k2 : ¬ k ≤ 2) (k9 : ¬ 9 ≤ k) (va : vp_in a 201) (vb : vp_in b 201) (fa0 : ¬ mt.2.2.2.2.2.1 a.toNatClampNeg = 0) (fb0 : ¬ mt.2.2.2.2.2.1 b.toNatClampNeg = 0) (k6 : k = 6) (z : ¬ lg_cmp (mt.2.2.2.2.2.2 b.toNatClampNeg) 0 = 0) (hr : OK_X5_reckoned k (mt.2.2.2.2.2.2 a.toNatClampNeg) (mt.2.2.2.2.2.2 b.toNatClampNeg)) : OK_X5_node me mc mt k a b ∧ G_X5_node me mc mt k a b = (nI (M + 1), (0, me.2.1, me.2.2), mNew M mt k a b (G_X5_sureOf mc (mT M mt k a b) k a b) 1 (G_X5_reckoned k (mt.2.2.2.2.2.2 a.toNatClampNeg) (mt.2.2.2.2.2.2 b.toNatClampNeg))) := by
  have h200 : ¬ nI M = 200 := fun e => by have := (nI_eq (b := 200) (by omega) (by omega)).mp e; omega
  have v : vp_in (nI (M + 1)) 201 := vp_in_nI (by omega) (by omega)
  unfold OK_X5_node G_X5_node
  rw [h2, nI_1, nI_clamp (show M + 1 < 2 ^ 31 by omega)]
  simp only [if_neg hk1, if_pos hk2, if_neg hs, if_neg h200, if_neg k0, if_neg k2, if_neg k9, if_neg fa0, if_neg fb0, if_pos k6, if_neg z, pk_us, nb1, nb0, if_neg i10, eq_self, if_true]
  exact ⟨⟨ho, v, v, v, hS, v, va, vb, vb, v, v, va, vb, hr, v, trivial⟩, trivial⟩
theorem mn_R (h2 : mt.1 = nI M) (hM : M < 200) (hk1 : ¬ k < 0) (hk2 : k ≤ 13) (ho : OK_X5_isSo mc mt k a b) (hs : ¬ G_X5_isSo mc mt k a b = 0) (hS : OK_X5_sureOf mc (mT M mt k a b) k a b) (k0 : ¬ k = 0) (k2 : ¬ k ≤ 2) (k9 : ¬ 9 ≤ k) (va : vp_in a 201) (vb : vp_in b 201) (fa0 : ¬ mt.2.2.2.2.2.1 a.toNatClampNeg = 0) (fb0 : ¬ mt.2.2.2.2.2.1 b.toNatClampNeg = 0) (k6 : ¬ k = 6) (hr : OK_X5_reckoned k (mt.2.2.2.2.2.2 a.toNatClampNeg) (mt.2.2.2.2.2.2 b.toNatClampNeg)) : OK_X5_node me mc mt k a b ∧ G_X5_node me mc mt k a b = (nI (M + 1), (0, me.2.1, me.2.2), mNew M mt k a b (G_X5_sureOf mc (mT M mt k a b) k a b) 1 (G_X5_reckoned k (mt.2.2.2.2.2.2 a.toNatClampNeg) (mt.2.2.2.2.2.2 b.toNatClampNeg))) := by
  have h200 : ¬ nI M = 200 := fun e => by have := (nI_eq (b := 200) (by omega) (by omega)).mp e; omega
  have v : vp_in (nI (M + 1)) 201 := vp_in_nI (by omega) (by omega)
  unfold OK_X5_node G_X5_node
  rw [h2, nI_1, nI_clamp (show M + 1 < 2 ^ 31 by omega)]
  simp only [if_neg hk1, if_pos hk2, if_neg hs, if_neg h200, if_neg k0, if_neg k2, if_neg k9, if_neg fa0, if_neg fb0, if_neg k6, pk_us, nb1, nb0, if_neg i10, eq_self, if_true]
  exact ⟨⟨ho, v, v, v, hS, v, va, vb, v, v, va, vb, hr, v, trivial⟩, trivial⟩
end MN
section CN
variable {N M : Nat} {c : CS} {t : TS} {k a b : Int32} {fo' : AI} {nu' : AL}
theorem add_main (h1 : t.1 = nI M) (hM : M < 200) (hk1 : ¬ k < 0) (hk2 : k ≤ 13) (hs : ¬ G_X3_areSides c t k a b = 0) (hF : G_X3_fold (fT M t k a b t.2.2.2.2.2.2.1 t.2.2.2.2.2.2.2) (nI (M + 1)) k a b = fT M t k a b fo' nu') :
    (¬ fo' (M + 1) = 0 → G_X3_add c t k a b = (nI (M + 1), tNew M t k a b (if G_X3_digitsFor c (fT M t k a b fo' nu') k a b < 100 then G_X3_digitsFor c (fT M t k a b fo' nu') k a b else 100) 1 fo' nu')) ∧
    (fo' (M + 1) = 0 → ∃ F : TS, F.1 = nI M ∧ (∀ j, 1 ≤ j → j ≤ M → F.2.1 j = kd t j ∧ F.2.2.1 j = fa t j ∧ F.2.2.2.1 j = sb t j ∧ F.2.2.2.2.2.1 j = t.2.2.2.2.2.1 j) ∧ G_X3_add c t k a b = (nI (M + 1), tNew M t k a b (if G_X3_digitsFor c (fT M t k a b fo' nu') k a b < 100 then G_X3_digitsFor c (fT M t k a b fo' nu') k a b else 100) (if G_X3_rowsFor F k a b < 401 then G_X3_rowsFor F k a b else 401) fo' nu')) := by
  have h200 : t.1 < 200 := by rw [h1]; exact nI_lt (b := 200) (by omega) (by omega)
  have e : G_X3_add c t k a b = if fo' (M + 1) = 0 then (nI (M + 1), tNew M t k a b (if G_X3_digitsFor c (fT M t k a b fo' nu') k a b < 100 then G_X3_digitsFor c (fT M t k a b fo' nu') k a b else 100) (if G_X3_rowsFor (nI M, upd t.2.1 (M + 1) k, upd t.2.2.1 (M + 1) a, upd t.2.2.2.1 (M + 1) b, upd t.2.2.2.2.1 (M + 1) (if G_X3_digitsFor c (fT M t k a b fo' nu') k a b < 100 then G_X3_digitsFor c (fT M t k a b fo' nu') k a b else 100), t.2.2.2.2.2.1, fo', nu') k a b < 401 then G_X3_rowsFor (nI M, upd t.2.1 (M + 1) k, upd t.2.2.1 (M + 1) a, upd t.2.2.2.1 (M + 1) b, upd t.2.2.2.2.1 (M + 1) (if G_X3_digitsFor c (fT M t k a b fo' nu') k a b < 100 then G_X3_digitsFor c (fT M t k a b fo' nu') k a b else 100), t.2.2.2.2.2.1, fo', nu') k a b else 401) fo' nu') else (nI (M + 1), tNew M t k a b (if G_X3_digitsFor c (fT M t k a b fo' nu') k a b < 100 then G_X3_digitsFor c (fT M t k a b fo' nu') k a b else 100) 1 fo' nu') := by
    unfold G_X3_add
    rw [if_neg hk1, if_pos hk2, if_neg hs, if_pos h200, h1, nI_1, nI_clamp (show M + 1 < 2 ^ 31 by omega), hF]
  refine ⟨fun h => by rw [e, if_neg h], fun h => ⟨(nI M, upd t.2.1 (M + 1) k, upd t.2.2.1 (M + 1) a, upd t.2.2.2.1 (M + 1) b, upd t.2.2.2.2.1 (M + 1) (if G_X3_digitsFor c (fT M t k a b fo' nu') k a b < 100 then G_X3_digitsFor c (fT M t k a b fo' nu') k a b else 100), t.2.2.2.2.2.1, fo', nu'), rfl, fun j x y => ⟨pk_un (by omega), pk_un (by omega), pk_un (by omega), rfl⟩, by rw [e, if_pos h]⟩⟩
theorem fold_pre (hM : M < 200) (T : TS) : G_X3_fold T (nI (M + 1)) k a b = if k = 0 then (T.1, T.2.1, T.2.2.1, T.2.2.2.1, T.2.2.2.2.1, T.2.2.2.2.2.1, upd T.2.2.2.2.2.2.1 (M + 1) 1, vp_updL T.2.2.2.2.2.2.2 (M + 1) a.toInt64) else if G_X4_isReckoned k = 0 then T else if G_X3_isFolded T a = 0 then T else if G_X3_isFolded T b = 0 then T else if k = 6 then (if lg_cmp (G_X3_foldedOf T b) 0 = 0 then (T.1, T.2.1, T.2.2.1, T.2.2.2.1, T.2.2.2.2.1, T.2.2.2.2.2.1, upd T.2.2.2.2.2.2.1 (M + 1) 0, vp_updL T.2.2.2.2.2.2.2 (M + 1) (G_X4_reckon k (G_X3_foldedOf T a) (G_X3_foldedOf T b))) else (T.1, T.2.1, T.2.2.1, T.2.2.2.1, T.2.2.2.2.1, T.2.2.2.2.2.1, upd T.2.2.2.2.2.2.1 (M + 1) 1, vp_updL T.2.2.2.2.2.2.2 (M + 1) (G_X4_reckon k (G_X3_foldedOf T a) (G_X3_foldedOf T b)))) else (T.1, T.2.1, T.2.2.1, T.2.2.2.1, T.2.2.2.2.1, T.2.2.2.2.2.1, upd T.2.2.2.2.2.2.1 (M + 1) 1, vp_updL T.2.2.2.2.2.2.2 (M + 1) (G_X4_reckon k (G_X3_foldedOf T a) (G_X3_foldedOf T b))) := by
  have e1 : ¬ nI (M + 1) < 1 := nI_nlt (b := 1) (by omega) (by omega)
  have e2 : nI (M + 1) ≤ 200 := nI_le (b := 200) (by omega) (by omega)
  unfold G_X3_fold
  rw [if_neg e1, if_pos e2, nI_clamp (show M + 1 < 2 ^ 31 by omega)]
  rfl
end CN
/-- node answers alike, and the trees stay alike -/
theorem node_is {N M : Nat} {c : CS} {t : TS} {mc : MC} {mt : MT} (me : ME) (h : tR N M c t mt) (hC : cR N c mc) (k a b : Int32) :
    OK_X5_node me mc mt k a b ∧ (G_X4_node c t k a b).1 = (G_X5_node me mc mt k a b).1 ∧ (G_X5_node me mc mt k a b).2.1 = (0, me.2.1, me.2.2) ∧ ∃ M', tR N M' c (G_X4_node c t k a b).2 (G_X5_node me mc mt k a b).2.2 := by
  have hTR := h
  obtain ⟨hT, h2, hR, h0, hd, hr⟩ := h
  have h1 := hT.2.2.1
  have hM0 := hT.2.2.2.1
  obtain ⟨so, se⟩ := sides_eq hC h1 h2 hM0 hR k a b
  have ex : G_X4_node c t k a b = G_X3_add c t k a b := rfl
  rw [ex]
  by_cases hk1 : k < 0
  · unfold OK_X5_node G_X3_add G_X5_node
    simp only [if_pos hk1]
    exact ⟨trivial, trivial, trivial, M, hTR⟩
  by_cases hk2 : ¬ k ≤ 13
  · unfold OK_X5_node G_X3_add G_X5_node
    simp only [if_neg hk1, if_neg hk2]
    exact ⟨trivial, trivial, trivial, M, hTR⟩
  have hk2 := Decidable.not_not.mp hk2
  by_cases hs : G_X3_areSides c t k a b = 0
  · have hs' : G_X5_isSo mc mt k a b = 0 := by rw [← se]; exact hs
    unfold OK_X5_node G_X3_add G_X5_node
    simp only [if_neg hk1, if_pos hk2, if_pos hs, if_pos hs']
    exact ⟨⟨so, trivial⟩, trivial, trivial, M, hTR⟩
  have hs' : ¬ G_X5_isSo mc mt k a b = 0 := by rw [← se]; exact hs
  by_cases hM : M = 200
  · have e1 : ¬ t.1 < 200 := by rw [h1, hM]; decide
    have e2 : mt.1 = 200 := by rw [h2, hM]; rfl
    unfold OK_X5_node G_X3_add G_X5_node
    simp only [if_neg hk1, if_pos hk2, if_neg hs, if_neg hs', if_neg e1, if_pos e2]
    exact ⟨⟨so, trivial⟩, trivial, trivial, M, hTR⟩
  have hM : M < 200 := by omega
  have hS := sides_ok hC h1 hM0 hk1 hk2 hs
  have hd' : ∀ (f : AI) (g : AL), dR M (fT M t k a b f g) (mT M mt k a b) := fun f g => hd
  obtain ⟨so2, D, hD, sD, -⟩ := sure_is (t := fT M t k a b t.2.2.2.2.2.2.1 t.2.2.2.2.2.2.2) hC (hd' _ _) rfl hM0 hS
  -- both kinds of ends
  have FOLD : ∀ (f : AI) (g : AL) (v : Int64), isV (tNew M t k a b 0 0 f g) (M + 1) → G_X3_fold (fT M t k a b t.2.2.2.2.2.2.1 t.2.2.2.2.2.2.2) (nI (M + 1)) k a b = fT M t k a b f g → (∀ j, j ≠ M + 1 → f j = fo t j ∧ g j = nu t j) → f (M + 1) = 1 → g (M + 1) = v →
      (OK_X5_node me mc mt k a b ∧ G_X5_node me mc mt k a b = (nI (M + 1), (0, me.2.1, me.2.2), mNew M mt k a b (G_X5_sureOf mc (mT M mt k a b) k a b) 1 v)) → OK_X5_node me mc mt k a b ∧ (G_X3_add c t k a b).1 = (G_X5_node me mc mt k a b).1 ∧ (G_X5_node me mc mt k a b).2.1 = (0, me.2.1, me.2.2) ∧ ∃ M', tR N M' c (G_X3_add c t k a b).2 (G_X5_node me mc mt k a b).2.2 := by
    intro f g v hv hF hoff hf hg hm
    obtain ⟨o, em⟩ := hm
    have ea := (add_main h1 hM hk1 hk2 hs hF).1 (by rw [hf]; decide)
    obtain ⟨-, E, hE, sE, dE⟩ := sure_is (t := fT M t k a b f g) hC (hd' _ _) rfl hM0 hS
    rw [ea, em]
    refine ⟨o, rfl, rfl, M + 1, ?_⟩
    refine tR_new hTR hM hoff hf (fun _ => hg) (Or.inl ⟨hf, hv⟩) hE sE dE ?_
    rw [(cd_f (b := 0) (d := 199) (show fo (tNew M t k a b _ 1 f g) (M + 1) = 1 from hf)).2]
    rfl
  have OPEN : ∀ (f : AI) (g : AL) (v : Int64), ¬ k = 0 → G_X3_fold (fT M t k a b t.2.2.2.2.2.2.1 t.2.2.2.2.2.2.2) (nI (M + 1)) k a b = fT M t k a b f g → (∀ j, j ≠ M + 1 → f j = fo t j ∧ g j = nu t j) → f (M + 1) = 0 →
      (OK_X5_node me mc mt k a b ∧ G_X5_node me mc mt k a b = (nI (M + 1), (0, me.2.1, me.2.2), mNew M mt k a b (G_X5_sureOf mc (mT M mt k a b) k a b) 0 v)) → OK_X5_node me mc mt k a b ∧ (G_X3_add c t k a b).1 = (G_X5_node me mc mt k a b).1 ∧ (G_X5_node me mc mt k a b).2.1 = (0, me.2.1, me.2.2) ∧ ∃ M', tR N M' c (G_X3_add c t k a b).2 (G_X5_node me mc mt k a b).2.2 := by
    intro f g v k0 hF hoff hf hm
    obtain ⟨o, em⟩ := hm
    obtain ⟨F, hF1, hF2, ea⟩ := (add_main h1 hM hk1 hk2 hs hF).2 hf
    obtain ⟨-, E, hE, sE, dE⟩ := sure_is (t := fT M t k a b f g) hC (hd' _ _) rfl hM0 hS
    rw [ea, em]
    refine ⟨o, rfl, rfl, M + 1, ?_⟩
    exact tR_new hTR hM hoff hf (fun q => absurd q (by decide)) (SD_nOK hS hoff k0 hf) hE sE dE (SD_rows hTR hM hS hoff k0 hf hF1 hF2)
  have same : ∀ j, j ≠ M + 1 → t.2.2.2.2.2.2.1 j = fo t j ∧ t.2.2.2.2.2.2.2 j = nu t j := fun j _ => ⟨rfl, rfl⟩
  have offU : ∀ (v : Int32) (w : Int64), ∀ j, j ≠ M + 1 → upd t.2.2.2.2.2.2.1 (M + 1) v j = fo t j ∧ vp_updL t.2.2.2.2.2.2.2 (M + 1) w j = nu t j := fun v w j hj => ⟨pk_un hj, pk_uLn hj⟩
  by_cases k0 : k = 0
  · refine FOLD _ _ a.toInt64 ?_ ?_ (offU 1 a.toInt64) pk_us pk_uLs (mn_0 h2 hM hk1 hk2 so hs' so2 k0)
    · show (upd t.2.1 (M + 1) k (M + 1)).toInt < 9
      rw [pk_us, k0]
      decide
    · rw [fold_pre hM, if_pos k0]
  by_cases hrk : G_X4_isReckoned k = 0
  · have hF : G_X3_fold (fT M t k a b t.2.2.2.2.2.2.1 t.2.2.2.2.2.2.2) (nI (M + 1)) k a b = fT M t k a b t.2.2.2.2.2.2.1 t.2.2.2.2.2.2.2 := by
      rw [fold_pre hM, if_neg k0, if_pos hrk]
    have hkk : k ≤ 2 ∨ 9 ≤ k := by
      unfold G_X4_isReckoned at hrk
      rw [i32_le, i32_le, show (2 : Int32).toInt = 2 by decide, show (9 : Int32).toInt = 9 by decide]
      by_cases q1 : k < 3
      · rw [i32_lt, show (3 : Int32).toInt = 3 by decide] at q1
        omega
      · rw [if_neg q1] at hrk
        by_cases q2 : 8 < k
        · rw [i32_lt, show (8 : Int32).toInt = 8 by decide] at q2
          omega
        · rw [if_neg q2] at hrk
          exact absurd hrk (by decide)
    by_cases k2 : k ≤ 2
    · exact OPEN _ _ 0 k0 hF same (h0 _ (by omega)) (mn_2 h2 hM hk1 hk2 so hs' so2 k0 k2)
    · exact OPEN _ _ 0 k0 hF same (h0 _ (by omega)) (mn_9 h2 hM hk1 hk2 so hs' so2 k0 k2 (hkk.resolve_left k2))
  have hk3 : 3 ≤ k.toInt ∧ k.toInt ≤ 8 := by
    unfold G_X4_isReckoned at hrk
    by_cases q1 : k < 3
    · rw [if_pos q1] at hrk
      exact absurd rfl hrk
    · rw [if_neg q1] at hrk
      by_cases q2 : 8 < k
      · rw [if_pos q2] at hrk
        exact absurd rfl hrk
      · rw [i32_lt, show (3 : Int32).toInt = 3 by decide] at q1
        rw [i32_lt, show (8 : Int32).toInt = 8 by decide] at q2
        omega
  have k2 : ¬ k ≤ 2 := by rw [i32_le, show (2 : Int32).toInt = 2 by decide]; omega
  have k9 : ¬ 9 ≤ k := by rw [i32_le, show (9 : Int32).toInt = 9 by decide]; omega
  obtain ⟨i, j, ei, ej, hi1, hi2, hj1, hj2⟩ : ∃ i j, a = nI i ∧ b = nI j ∧ 1 ≤ i ∧ i ≤ M ∧ 1 ≤ j ∧ j ≤ M := by
    have nk : ∀ {z : Int32}, (z.toInt < 3 ∨ 8 < z.toInt) → ¬ k = z := fun hz => kne hk3.1 hk3.2 hz
    rcases hS with hk | ⟨hk, -⟩ | ⟨hk, -⟩ | ⟨hk, -⟩ | ⟨hk, -⟩ | ⟨hk, -⟩ | ⟨-, i, j, ei, ej, hi1, hi2, hj1, hj2, -⟩
    · exact absurd hk k0
    · exact absurd hk (nk (by decide))
    · exact hk.elim (fun e => absurd e (nk (by decide))) (fun e => absurd e (nk (by decide)))
    · exact absurd hk (nk (by decide))
    · exact absurd hk (nk (by decide))
    · exact hk.elim (fun e => absurd e (nk (by decide))) (fun e => absurd e (nk (by decide)))
    · exact ⟨i, j, ei, ej, hi1, hi2, hj1, hj2⟩
  subst ei ej
  obtain ⟨-, -, -, ri, qi⟩ := hR i hi1 hi2
  obtain ⟨-, -, -, rj, qj⟩ := hR j hj1 hj2
  have va : vp_in (nI i) 201 := vp_in_nI (by omega) (by omega)
  have vb : vp_in (nI j) 201 := vp_in_nI (by omega) (by omega)
  have ci : (nI i).toNatClampNeg = i := nI_clamp (by omega)
  have cj : (nI j).toNatClampNeg = j := nI_clamp (by omega)
  have fo01 : ∀ z, 1 ≤ z → z ≤ M → fo t z = 0 ∨ fo t z = 1 := fun z x y => by
    rcases hT.2.2.2.2 z x y with ⟨hf, -⟩ | ⟨hf, -⟩
    · exact Or.inr hf
    · exact Or.inl hf
  have IF : ∀ z, 1 ≤ z → z ≤ M → G_X3_isFolded (fT M t k (nI i) (nI j) t.2.2.2.2.2.2.1 t.2.2.2.2.2.2.2) (nI z) = if fo t z = 0 then 0 else 1 := fun z x y => by
    unfold G_X3_isFolded
    rw [if_neg (nat_has (t := fT M t k (nI i) (nI j) t.2.2.2.2.2.2.1 t.2.2.2.2.2.2.2) rfl hM0 x y), nI_clamp (by omega)]
  have FO : ∀ z, 1 ≤ z → z ≤ M → G_X3_foldedOf (fT M t k (nI i) (nI j) t.2.2.2.2.2.2.1 t.2.2.2.2.2.2.2) (nI z) = nu t z := fun z x y => by
    unfold G_X3_foldedOf
    rw [if_neg (nat_has (t := fT M t k (nI i) (nI j) t.2.2.2.2.2.2.1 t.2.2.2.2.2.2.2) rfl hM0 x y), nI_clamp (by omega)]
  rcases fo01 i hi1 hi2 with fi | fi
  · refine OPEN _ _ 0 k0 ?_ same (h0 _ (by omega)) (mn_A h2 hM hk1 hk2 so hs' so2 k0 k2 k9 va vb (by rw [ci, ri]; exact fi))
    rw [fold_pre hM, if_neg k0, if_neg hrk, IF i hi1 hi2, if_pos (show (if fo t i = 0 then (0 : Int32) else 1) = 0 from if_pos fi)]
  have fi' : ¬ fo t i = 0 := by rw [fi]; decide
  have fiC : ¬ (if fo t i = 0 then (0 : Int32) else 1) = 0 := by rw [if_neg fi']; decide
  have fiM : ¬ mt.2.2.2.2.2.1 (nI i).toNatClampNeg = 0 := by rw [ci, ri]; exact fi'
  rcases fo01 j hj1 hj2 with fj | fj
  · refine OPEN _ _ 0 k0 ?_ same (h0 _ (by omega)) (mn_B h2 hM hk1 hk2 so hs' so2 k0 k2 k9 va vb fiM (by rw [cj, rj]; exact fj))
    rw [fold_pre hM, if_neg k0, if_neg hrk, IF i hi1 hi2, IF j hj1 hj2, if_neg fiC, if_pos (show (if fo t j = 0 then (0 : Int32) else 1) = 0 from if_pos fj)]
  have fj' : ¬ fo t j = 0 := by rw [fj]; decide
  have fjC : ¬ (if fo t j = 0 then (0 : Int32) else 1) = 0 := by rw [if_neg fj']; decide
  have fjM : ¬ mt.2.2.2.2.2.1 (nI j).toNatClampNeg = 0 := by rw [cj, rj]; exact fj'
  have mi : mt.2.2.2.2.2.2 (nI i).toNatClampNeg = nu t i := by rw [ci, qi fi]
  have mj : mt.2.2.2.2.2.2 (nI j).toNatClampNeg = nu t j := by rw [cj, qj fj]
  have hvv : isV (tNew M t k (nI i) (nI j) 0 0 (upd t.2.2.2.2.2.2.1 (M + 1) 1) (vp_updL t.2.2.2.2.2.2.2 (M + 1) (G_X4_reckon k (nu t i) (nu t j)))) (M + 1) := by
    show (upd t.2.1 (M + 1) k (M + 1)).toInt < 9
    rw [pk_us]
    omega
  by_cases k6 : k = 6
  · by_cases z : lg_cmp (nu t j) 0 = 0
    · refine OPEN (upd t.2.2.2.2.2.2.1 (M + 1) 0) (vp_updL t.2.2.2.2.2.2.2 (M + 1) (G_X4_reckon k (nu t i) (nu t j))) 0 k0 ?_ (offU _ _) pk_us (mn_Z h2 hM hk1 hk2 so hs' so2 k0 k2 k9 va vb fiM fjM k6 (by rw [mj]; exact z))
      rw [fold_pre hM, if_neg k0, if_neg hrk, IF i hi1 hi2, IF j hj1 hj2, if_neg fiC, if_neg fjC, if_pos k6, FO i hi1 hi2, FO j hj1 hj2, if_pos z]
    · obtain ⟨r1, r2⟩ := reck_is (op := k) (y := nu t i) (w := nu t j) (fun _ => z)
      have mm := mn_R6 (me := me) h2 hM hk1 hk2 so hs' so2 k0 k2 k9 va vb fiM fjM k6 (by rw [mj]; exact z) (by rw [mi, mj]; exact r1)
      rw [mi, mj, r2] at mm
      refine FOLD (upd t.2.2.2.2.2.2.1 (M + 1) 1) (vp_updL t.2.2.2.2.2.2.2 (M + 1) (G_X4_reckon k (nu t i) (nu t j))) _ hvv ?_ (offU _ _) pk_us pk_uLs mm
      rw [fold_pre hM, if_neg k0, if_neg hrk, IF i hi1 hi2, IF j hj1 hj2, if_neg fiC, if_neg fjC, if_pos k6, FO i hi1 hi2, FO j hj1 hj2, if_neg z]
  · obtain ⟨r1, r2⟩ := reck_is (op := k) (y := nu t i) (w := nu t j) (fun q => absurd q k6)
    have mm := mn_R (me := me) h2 hM hk1 hk2 so hs' so2 k0 k2 k9 va vb fiM fjM k6 (by rw [mi, mj]; exact r1)
    rw [mi, mj, r2] at mm
    refine FOLD (upd t.2.2.2.2.2.2.1 (M + 1) 1) (vp_updL t.2.2.2.2.2.2.2 (M + 1) (G_X4_reckon k (nu t i) (nu t j))) _ hvv ?_ (offU _ _) pk_us pk_uLs mm
    rw [fold_pre hM, if_neg k0, if_neg hrk, IF i hi1 hi2, IF j hj1 hj2, if_neg fiC, if_neg fjC, if_neg k6, FO i hi1 hi2, FO j hj1 hj2]
