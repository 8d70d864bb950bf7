section LAID
variable {M : Nat} {t : TS} {mt : MT} {mr : MR} {mq : MQS} {k b : Nat} {tl : List Tk} {ol : List Nat}
theorem laid_f (hR : tRel M t mt) (h1 : 1 ≤ k) (h2 : k ≤ M) (hM : M ≤ 200) (hr : mr.1 = nI b) (hb : b ≤ 400) (hf : fo t k = 1) : OK_X5_laid mt mr mq (nI k) ∧ G_X5_laid mt mr mq (nI k) = (G_X5_row mr 0 (nu t k) 0, mq) := by
  obtain ⟨e1, e2, e3, e4, e5⟩ := hR k h1 h2
  have hv : vp_in (nI k) 201 := vp_in_nI (by omega) (by omega)
  unfold OK_X5_laid G_X5_laid
  rw [nI_clamp (by omega), e4, if_neg (by rw [hf]; decide), if_neg (by rw [hf]; decide), e5 hf]
  exact ⟨⟨hv, hv, hv, (row_ok hr hb _ _ _).1, trivial⟩, rfl⟩
theorem laid_1 (hR : tRel M t mt) (h1 : 1 ≤ k) (h2 : k ≤ M) (hM : M ≤ 200) (hr : mr.1 = nI b) (hb : b ≤ 400) (hf : fo t k = 0) (hk : kd t k = 1) : OK_X5_laid mt mr mq (nI k) ∧ G_X5_laid mt mr mq (nI k) = (G_X5_row mr 1 (fa t k).toInt64 0, mq) := by
  obtain ⟨e1, e2, e3, e4, e5⟩ := hR k h1 h2
  have hv : vp_in (nI k) 201 := vp_in_nI (by omega) (by omega)
  unfold OK_X5_laid G_X5_laid
  rw [nI_clamp (by omega), e4, e1, e2, if_pos hf, if_pos hf, if_pos hk, if_pos hk]
  exact ⟨⟨hv, hv, hv, (row_ok hr hb _ _ _).1, trivial⟩, rfl⟩
theorem laid_2 (hR : tRel M t mt) (h1 : 1 ≤ k) (h2 : k ≤ M) (hM : M ≤ 200) (hq : mqI tl ol mq) (hl : tl.length + 4 < 3000) (hf : fo t k = 0) (hk : kd t k = 2 ∨ kd t k = 9) : OK_X5_laid mt mr mq (nI k) ∧ ∃ mq', G_X5_laid mt mr mq (nI k) = (mr, mq') ∧ mqI ((0, 0, (sb t k).toInt64, 0) :: (2, kd t k, (fa t k).toInt64, 0) :: tl) ol mq' := by
  obtain ⟨e1, e2, e3, e4, e5⟩ := hR k h1 h2
  have hv : vp_in (nI k) 201 := vp_in_nI (by omega) (by omega)
  obtain ⟨o1, o2⟩ := mqI_push hq (by omega) 2 (kd t k) (fa t k).toInt64 0
  obtain ⟨o3, o4⟩ := mqI_push o2 (by simp only [List.length_cons]; omega) 0 0 (sb t k).toInt64 0
  unfold OK_X5_laid G_X5_laid
  rw [nI_clamp (by omega), e4, e1, e2, e3, if_pos hf, if_pos hf]
  rcases hk with hk | hk
  · rw [if_neg (show ¬ kd t k = 1 by rw [hk]; decide), if_neg (show ¬ kd t k = 1 by rw [hk]; decide), if_pos hk, if_pos hk]
    exact ⟨⟨hv, hv, hv, o1, hv, o3, trivial⟩, _, rfl, o4⟩
  · rw [if_neg (show ¬ kd t k = 1 by rw [hk]; decide), if_neg (show ¬ kd t k = 1 by rw [hk]; decide), if_neg (show ¬ kd t k = 2 by rw [hk]; decide), if_neg (show ¬ kd t k = 2 by rw [hk]; decide), if_pos hk, if_pos hk]
    exact ⟨⟨hv, hv, hv, o1, hv, o3, trivial⟩, _, rfl, o4⟩
theorem laid_10 (hR : tRel M t mt) (h1 : 1 ≤ k) (h2 : k ≤ M) (hM : M ≤ 200) (hq : mqI tl ol mq) (hl : tl.length + 4 < 3000) (hf : fo t k = 0) (hk : kd t k = 10) {j : Nat} (hj : sb t k = nI j) (hj1 : 1 ≤ j) (hj2 : j ≤ M) : OK_X5_laid mt mr mq (nI k) ∧ ∃ mq', G_X5_laid mt mr mq (nI k) = (mr, mq') ∧ mqI ((0, 0, (fa t j).toInt64, 0) :: (0, 0, (sb t j).toInt64, 0) :: (2, 10, (fa t k).toInt64, 0) :: tl) ol mq' := by
  obtain ⟨e1, e2, e3, e4, e5⟩ := hR k h1 h2
  obtain ⟨g1, g2, g3, g4, g5⟩ := hR j hj1 hj2
  have hv : vp_in (nI k) 201 := vp_in_nI (by omega) (by omega)
  have hvj : vp_in (nI j) 201 := vp_in_nI (by omega) (by omega)
  obtain ⟨o1, o2⟩ := mqI_push hq (by omega) 2 10 (fa t k).toInt64 0
  obtain ⟨o3, o4⟩ := mqI_push o2 (by simp only [List.length_cons]; omega) 0 0 (sb t j).toInt64 0
  obtain ⟨o5, o6⟩ := mqI_push o4 (by simp only [List.length_cons]; omega) 0 0 (fa t j).toInt64 0
  unfold OK_X5_laid G_X5_laid
  rw [nI_clamp (by omega), e4, e1, e2, e3, hj, nI_clamp (by omega), g2, g3, if_pos hf, if_pos hf, if_neg (show ¬ kd t k = 1 by rw [hk]; decide), if_neg (show ¬ kd t k = 1 by rw [hk]; decide), if_neg (show ¬ kd t k = 2 by rw [hk]; decide), if_neg (show ¬ kd t k = 2 by rw [hk]; decide), if_neg (show ¬ kd t k = 9 by rw [hk]; decide), if_neg (show ¬ kd t k = 9 by rw [hk]; decide), if_pos hk, if_pos hk]
  exact ⟨⟨hv, hv, hv, o1, hv, hvj, o3, hv, hvj, o5, trivial⟩, _, rfl, o6⟩
theorem laid_11 (hR : tRel M t mt) (h1 : 1 ≤ k) (h2 : k ≤ M) (hM : M ≤ 200) (hq : mqI tl ol mq) (hl : tl.length + 4 < 3000) (hf : fo t k = 0) (hk : kd t k = 11) : OK_X5_laid mt mr mq (nI k) ∧ ∃ mq', G_X5_laid mt mr mq (nI k) = (mr, mq') ∧ mqI ((1, 0, (fa t k).toInt64, 0) :: (1, 0, (sb t k).toInt64, 0) :: tl) ol mq' := by
  obtain ⟨e1, e2, e3, e4, e5⟩ := hR k h1 h2
  have hv : vp_in (nI k) 201 := vp_in_nI (by omega) (by omega)
  obtain ⟨o1, o2⟩ := mqI_push hq (by omega) 1 0 (sb t k).toInt64 0
  obtain ⟨o3, o4⟩ := mqI_push o2 (by simp only [List.length_cons]; omega) 1 0 (fa t k).toInt64 0
  unfold OK_X5_laid G_X5_laid
  rw [nI_clamp (by omega), e4, e1, e2, e3, if_pos hf, if_pos hf, if_neg (show ¬ kd t k = 1 by rw [hk]; decide), if_neg (show ¬ kd t k = 1 by rw [hk]; decide), if_neg (show ¬ kd t k = 2 by rw [hk]; decide), if_neg (show ¬ kd t k = 2 by rw [hk]; decide), if_neg (show ¬ kd t k = 9 by rw [hk]; decide), if_neg (show ¬ kd t k = 9 by rw [hk]; decide), if_neg (show ¬ kd t k = 10 by rw [hk]; decide), if_neg (show ¬ kd t k = 10 by rw [hk]; decide), if_pos hk, if_pos hk]
  exact ⟨⟨hv, hv, hv, o1, hv, o3, trivial⟩, _, rfl, o4⟩
theorem laid_12 (hR : tRel M t mt) (h1 : 1 ≤ k) (h2 : k ≤ M) (hM : M ≤ 200) (hq : mqI tl ol mq) (hl : tl.length + 4 < 3000) (hf : fo t k = 0) (hk : kd t k = 12 ∨ kd t k = 13) : OK_X5_laid mt mr mq (nI k) ∧ ∃ mq', G_X5_laid mt mr mq (nI k) = (mr, mq') ∧ mqI ((0, 0, (fa t k).toInt64, 0) :: (3, kd t k, 0, 0) :: (1, 0, (sb t k).toInt64, 0) :: ((if kd t k = 12 then 4 else 5), 0, 0, 0) :: tl) ol mq' := by
  obtain ⟨e1, e2, e3, e4, e5⟩ := hR k h1 h2
  have hv : vp_in (nI k) 201 := vp_in_nI (by omega) (by omega)
  obtain ⟨o1, o2⟩ := mqI_push hq (by omega) (if kd t k = 12 then 4 else 5) 0 0 0
  obtain ⟨o3, o4⟩ := mqI_push o2 (by simp only [List.length_cons]; omega) 1 0 (sb t k).toInt64 0
  obtain ⟨o5, o6⟩ := mqI_push o4 (by simp only [List.length_cons]; omega) 3 (kd t k) 0 0
  obtain ⟨o7, o8⟩ := mqI_push o6 (by simp only [List.length_cons]; omega) 0 0 (fa t k).toInt64 0
  unfold OK_X5_laid G_X5_laid
  rw [nI_clamp (by omega), e4, e1, e2, e3, if_pos hf, if_pos hf]
  rcases hk with hk | hk
  · rw [if_pos hk] at o1 o2 o3 o4 o5 o6 o7 o8
    rw [if_neg (show ¬ kd t k = 1 by rw [hk]; decide), if_neg (show ¬ kd t k = 1 by rw [hk]; decide), if_neg (show ¬ kd t k = 2 by rw [hk]; decide), if_neg (show ¬ kd t k = 2 by rw [hk]; decide), if_neg (show ¬ kd t k = 9 by rw [hk]; decide), if_neg (show ¬ kd t k = 9 by rw [hk]; decide), if_neg (show ¬ kd t k = 10 by rw [hk]; decide), if_neg (show ¬ kd t k = 10 by rw [hk]; decide), if_neg (show ¬ kd t k = 11 by rw [hk]; decide), if_neg (show ¬ kd t k = 11 by rw [hk]; decide), if_pos hk, if_pos hk, if_pos hk, if_pos hk, if_pos hk]
    exact ⟨⟨hv, hv, o1, hv, o3, o5, hv, o7, trivial⟩, _, rfl, o8⟩
  · have hn : ¬ kd t k = 12 := by rw [hk]; decide
    rw [if_neg hn] at o1 o2 o3 o4 o5 o6 o7 o8
    rw [if_neg (show ¬ kd t k = 1 by rw [hk]; decide), if_neg (show ¬ kd t k = 1 by rw [hk]; decide), if_neg (show ¬ kd t k = 2 by rw [hk]; decide), if_neg (show ¬ kd t k = 2 by rw [hk]; decide), if_neg (show ¬ kd t k = 9 by rw [hk]; decide), if_neg (show ¬ kd t k = 9 by rw [hk]; decide), if_neg (show ¬ kd t k = 10 by rw [hk]; decide), if_neg (show ¬ kd t k = 10 by rw [hk]; decide), if_neg (show ¬ kd t k = 11 by rw [hk]; decide), if_neg (show ¬ kd t k = 11 by rw [hk]; decide), if_neg hn, if_neg hn, if_pos hk, if_pos hk, if_neg hn, if_neg hn, if_neg hn]
    exact ⟨⟨hv, hv, o1, hv, o3, o5, hv, o7, trivial⟩, _, rfl, o8⟩
theorem laid_r (hR : tRel M t mt) (h1 : 1 ≤ k) (h2 : k ≤ M) (hM : M ≤ 200) (hq : mqI tl ol mq) (hl : tl.length + 4 < 3000) (hf : fo t k = 0) (hk1 : 3 ≤ (kd t k).toInt) (hk2 : (kd t k).toInt ≤ 8) : OK_X5_laid mt mr mq (nI k) ∧ ∃ mq', G_X5_laid mt mr mq (nI k) = (mr, mq') ∧ mqI ((0, 0, (fa t k).toInt64, 0) :: (0, 0, (sb t k).toInt64, 0) :: (2, kd t k, 0, itO mt (nI k)) :: tl) ol mq' := by
  obtain ⟨e1, e2, e3, e4, e5⟩ := hR k h1 h2
  have hv : vp_in (nI k) 201 := vp_in_nI (by omega) (by omega)
  have ei : itO mt (nI k) = mt.2.2.2.2.1 k := by
    unfold itO
    rw [if_neg (nI_ne0 (by omega) (by omega)), nI_clamp (by omega)]
  obtain ⟨o1, o2⟩ := mqI_push hq (by omega) 2 (kd t k) 0 (itO mt (nI k))
  obtain ⟨o3, o4⟩ := mqI_push o2 (by simp only [List.length_cons]; omega) 0 0 (sb t k).toInt64 0
  obtain ⟨o5, o6⟩ := mqI_push o4 (by simp only [List.length_cons]; omega) 0 0 (fa t k).toInt64 0
  have n1 : ¬ kd t k = 1 := kne hk1 hk2 (by decide)
  have n2 : ¬ kd t k = 2 := kne hk1 hk2 (by decide)
  have n9 : ¬ kd t k = 9 := kne hk1 hk2 (by decide)
  have n10 : ¬ kd t k = 10 := kne hk1 hk2 (by decide)
  have n11 : ¬ kd t k = 11 := kne hk1 hk2 (by decide)
  have n12 : ¬ kd t k = 12 := kne hk1 hk2 (by decide)
  have n13 : ¬ kd t k = 13 := kne hk1 hk2 (by decide)
  rw [ei] at o1 o2 o3 o4 o5 o6
  rw [ei]
  unfold OK_X5_laid G_X5_laid
  rw [nI_clamp (by omega), e4, e1, e2, e3, if_pos hf, if_pos hf, if_neg n1, if_neg n1, if_neg n2, if_neg n2, if_neg n9, if_neg n9, if_neg n10, if_neg n10, if_neg n11, if_neg n11]
  simp only [if_neg n12, if_neg n13]
  exact ⟨⟨hv, hv, hv, o1, hv, o3, hv, o5, trivial⟩, _, rfl, o6⟩
end LAID
