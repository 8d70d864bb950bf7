/-! a node more -/
def rR (M : Nat) (t : TS) : Prop := ∀ k, 1 ≤ k → k ≤ M → t.2.2.2.2.2.1 k = nI (min 401 (ln t 200 k))
def tR (N M : Nat) (c : CS) (t : TS) (mt : MT) : Prop := tOK N M c t ∧ mt.1 = nI M ∧ tRel M t mt ∧ (∀ k, M < k → fo t k = 0) ∧ dR M t mt ∧ rR M t
theorem nOK_agr {N M : Nat} {t t' : TS} (hA : agr M t t') {k : Nat} (h2 : k ≤ M) (h1 : 1 ≤ k) (h : nOK N t k) : nOK N t' k := by
  obtain ⟨e1, e2, e3, e4⟩ := hA k h1 h2
  have V : ∀ j, 1 ≤ j → j < k → isV t j → isV t' j := fun j a b hv => by
    show (kd t' j).toInt < 9
    rw [(hA j a (by omega)).1]
    exact hv
  unfold nOK
  rw [e1, e2, e3, e4]
  rcases h with ⟨hf, hv⟩ | ⟨hf, hk | hk | hk | hk | hk | hk⟩
  · exact Or.inl ⟨hf, by show (kd t' k).toInt < 9; rw [e1]; exact hv⟩
  · exact Or.inr ⟨hf, Or.inl hk⟩
  · obtain ⟨hk, a, j, haN, ha, hj, hj1, hj2, hjv⟩ := hk
    exact Or.inr ⟨hf, Or.inr (Or.inl ⟨hk, a, j, haN, ha, hj, hj1, hj2, V j hj1 hj2 hjv⟩)⟩
  · obtain ⟨hk, a, j, p, q, haN, ha, hj, hj1, hj2, hp, hq, hp1, hp2, hq1, hq2, hpv, hqv⟩ := hk
    obtain ⟨f1, f2, f3, f4⟩ := hA j hj1 (by omega)
    exact Or.inr ⟨hf, Or.inr (Or.inr (Or.inl ⟨hk, a, j, p, q, haN, ha, hj, hj1, hj2, f2.trans hp, f3.trans hq, hp1, hp2, hq1, hq2, V p hp1 hp2 hpv, V q hq1 hq2 hqv⟩))⟩
  · exact Or.inr ⟨hf, Or.inr (Or.inr (Or.inr (Or.inl hk)))⟩
  · obtain ⟨hk, i, j, hi, hj, hi1, hi2, hj1, hj2, hiv⟩ := hk
    exact Or.inr ⟨hf, Or.inr (Or.inr (Or.inr (Or.inr (Or.inl ⟨hk, i, j, hi, hj, hi1, hi2, hj1, hj2, V i hi1 hi2 hiv⟩))))⟩
  · obtain ⟨hk, i, j, hi, hj, hi1, hi2, hj1, hj2, hiv, hjv⟩ := hk
    exact Or.inr ⟨hf, Or.inr (Or.inr (Or.inr (Or.inr (Or.inr ⟨hk, i, j, hi, hj, hi1, hi2, hj1, hj2, V i hi1 hi2 hiv, V j hj1 hj2 hjv⟩))))⟩
abbrev tNew (M : Nat) (t : TS) (k a b dg rc : Int32) (fo' : AI) (nu' : AL) : TS := (nI (M + 1), upd t.2.1 (M + 1) k, upd t.2.2.1 (M + 1) a, upd t.2.2.2.1 (M + 1) b, upd t.2.2.2.2.1 (M + 1) dg, upd t.2.2.2.2.2.1 (M + 1) rc, fo', nu')
abbrev mNew (M : Nat) (mt : MT) (k a b s fv : Int32) (fn : Int64) : MT := (nI (M + 1), upd mt.2.1 (M + 1) k, upd mt.2.2.1 (M + 1) a, upd mt.2.2.2.1 (M + 1) b, upd mt.2.2.2.2.1 (M + 1) s, upd mt.2.2.2.2.2.1 (M + 1) fv, vp_updL mt.2.2.2.2.2.2 (M + 1) fn)
section NEW
variable {N M : Nat} {c : CS} {t : TS} {mc : MC} {mt : MT} {k a b dg rc s fv : Int32} {fn : Int64} {fo' : AI} {nu' : AL}
theorem tNew_agr (hoff : ∀ j, j ≠ M + 1 → fo' j = fo t j ∧ nu' j = nu t j) : agr M t (tNew M t k a b dg rc fo' nu') := fun j h1 h2 =>
  ⟨pk_un (by omega), pk_un (by omega), pk_un (by omega), (hoff j (by omega)).1⟩
theorem tR_new (h : tR N M c t mt) (hM : M < 200) (hoff : ∀ j, j ≠ M + 1 → fo' j = fo t j ∧ nu' j = nu t j) (hfv : fo' (M + 1) = fv) (hfn : fv = 1 → nu' (M + 1) = fn)
    (hn : nOK N (tNew M t k a b dg rc fo' nu') (M + 1)) {D : Nat} (hD : D ≤ 10000) (hs : s = nI D) (hdg : dg = nI (min D 100)) (hrc : rc = nI (min 401 (ln (tNew M t k a b dg rc fo' nu') 200 (M + 1)))) :
    tR N (M + 1) c (tNew M t k a b dg rc fo' nu') (mNew M mt k a b s fv fn) := by
  obtain ⟨hT, hm, hR, h0, hd, hr⟩ := h
  have hA : agr M t (tNew M t k a b dg rc fo' nu') := tNew_agr hoff
  have hT' : tOK N (M + 1) c (tNew M t k a b dg rc fo' nu') := by
    refine ⟨hT.1, hT.2.1, rfl, by omega, fun j h1 h2 => ?_⟩
    by_cases e : j = M + 1
    · subst e
      exact hn
    · exact nOK_agr hA (by omega) h1 (hT.2.2.2.2 j h1 (by omega))
  refine ⟨hT', rfl, fun j h1 h2 => ?_, fun j hj => ?_, fun j h1 h2 => ?_, fun j h1 h2 => ?_⟩
  · by_cases e : j = M + 1
    · subst e
      exact ⟨pk_us.trans pk_us.symm, pk_us.trans pk_us.symm, pk_us.trans pk_us.symm, pk_us.trans hfv.symm, fun q => pk_uLs.trans (hfn (hfv.symm.trans q)).symm⟩
    · obtain ⟨q1, q2, q3, q4, q5⟩ := hR j h1 (by omega)
      obtain ⟨o1, o2⟩ := hoff j e
      refine ⟨(pk_un e).trans (q1.trans (pk_un e).symm), (pk_un e).trans (q2.trans (pk_un e).symm), (pk_un e).trans (q3.trans (pk_un e).symm), (pk_un e).trans (q4.trans o1.symm), fun q => ?_⟩
      exact (pk_uLn e).trans ((q5 (o1.symm.trans q)).trans o2.symm)
  · exact (hoff j (by omega)).1.trans (h0 j (by omega))
  · by_cases e : j = M + 1
    · subst e
      exact ⟨D, hD, pk_us.trans hs, pk_us.trans hdg⟩
    · obtain ⟨E, q1, q2, q3⟩ := hd j h1 (by omega)
      exact ⟨E, q1, (pk_un e).trans q2, (pk_un e).trans q3⟩
  · by_cases e : j = M + 1
    · subst e
      exact pk_us.trans hrc
    · rw [ln_c hT hA 200 j h1 (by omega) (by omega)]
      exact (pk_un e).trans (hr j h1 (by omega))
/-- the new node is well formed -/
theorem SD_nOK (hS : SD N M t k a b) (hoff : ∀ j, j ≠ M + 1 → fo' j = fo t j ∧ nu' j = nu t j) (k0 : ¬ k = 0) (hf : fo' (M + 1) = 0) : nOK N (tNew M t k a b dg rc fo' nu') (M + 1) := by
  have hA : agr M t (tNew M t k a b dg rc fo' nu') := tNew_agr hoff
  have ek : kd (tNew M t k a b dg rc fo' nu') (M + 1) = k := pk_us
  have ea : fa (tNew M t k a b dg rc fo' nu') (M + 1) = a := pk_us
  have eb : sb (tNew M t k a b dg rc fo' nu') (M + 1) = b := pk_us
  have ef : fo (tNew M t k a b dg rc fo' nu') (M + 1) = 0 := hf
  have V : ∀ j, 1 ≤ j → j ≤ M → isV t j → isV (tNew M t k a b dg rc fo' nu') j := fun j x y hv => by
    show (kd (tNew M t k a b dg rc fo' nu') j).toInt < 9
    rw [(hA j x y).1]
    exact hv
  unfold nOK
  rw [ek, ea, eb, ef]
  refine Or.inr ⟨rfl, ?_⟩
  rcases hS with hk | ⟨hk, i, hi, ei⟩ | ⟨hk, i, j, hi, ei, ej, hj1, hj2, hv⟩ | ⟨hk, i, j, p, q, hi, ei, ej, hj1, hj2, hkj, hp, hq, hp1, hp2, hq1, hq2, hpv, hqv⟩ | ⟨hk, i, j, ei, ej, hi1, hi2, hj1, hj2⟩ | ⟨hk, i, j, ei, ej, hi1, hi2, hj1, hj2, hiv⟩ | ⟨hk, i, j, ei, ej, hi1, hi2, hj1, hj2, hiv, hjv⟩
  · exact absurd hk k0
  · exact Or.inl ⟨hk, i, hi, ei⟩
  · exact Or.inr (Or.inl ⟨hk, i, j, hi, ei, ej, hj1, by omega, V j hj1 hj2 hv⟩)
  · obtain ⟨f1, f2, f3, f4⟩ := hA j hj1 hj2
    exact Or.inr (Or.inr (Or.inl ⟨hk, i, j, p, q, hi, ei, ej, hj1, by omega, f2.trans hp, f3.trans hq, hp1, by omega, hq1, by omega, V p hp1 hp2 hpv, V q hq1 hq2 hqv⟩))
  · exact Or.inr (Or.inr (Or.inr (Or.inl ⟨hk, i, j, ei, ej, hi1, by omega, hj1, by omega⟩)))
  · exact Or.inr (Or.inr (Or.inr (Or.inr (Or.inl ⟨hk, i, j, ei, ej, hi1, by omega, hj1, by omega, V i hi1 hi2 hiv⟩))))
  · exact Or.inr (Or.inr (Or.inr (Or.inr (Or.inr ⟨hk, i, j, ei, ej, hi1, by omega, hj1, by omega, V i hi1 hi2 hiv, V j hj1 hj2 hjv⟩))))
theorem cap401 {E X : Nat} (hE : E < 2 ^ 30) (h : min E 401 = min X 401) : (if nI E < 401 then nI E else 401) = nI (min 401 X) := by
  by_cases h1 : E < 401
  · rw [if_pos (show nI E < 401 from nI_lt (b := 401) h1 (by omega))]
    congr 1
    omega
  · rw [if_neg (show ¬ nI E < 401 from nI_nlt (b := 401) (by omega) (by omega)), show min 401 X = 401 by omega]
    rfl
/-- its rows are counted -/
theorem SD_rows {F : TS} (h : tR N M c t mt) (hM : M < 200) (hS : SD N M t k a b) (hoff : ∀ j, j ≠ M + 1 → fo' j = fo t j ∧ nu' j = nu t j) (k0 : ¬ k = 0) (hf : fo' (M + 1) = 0) (hF1 : F.1 = nI M)
    (hF : ∀ j, 1 ≤ j → j ≤ M → F.2.1 j = kd t j ∧ F.2.2.1 j = fa t j ∧ F.2.2.2.1 j = sb t j ∧ F.2.2.2.2.2.1 j = t.2.2.2.2.2.1 j) :
    (if G_X3_rowsFor F k a b < 401 then G_X3_rowsFor F k a b else 401) = nI (min 401 (ln (tNew M t k a b dg rc fo' nu') 200 (M + 1))) := by
  obtain ⟨hT, hm, hR, h0, hd, hr⟩ := h
  have hA : agr M t (tNew M t k a b dg rc fo' nu') := tNew_agr hoff
  have ek : kd (tNew M t k a b dg rc fo' nu') (M + 1) = k := pk_us
  have ea : fa (tNew M t k a b dg rc fo' nu') (M + 1) = a := pk_us
  have eb : sb (tNew M t k a b dg rc fo' nu') (M + 1) = b := pk_us
  have ef : fo (tNew M t k a b dg rc fo' nu') (M + 1) = 0 := hf
  have EL : ∀ j, 1 ≤ j → j ≤ M → ln (tNew M t k a b dg rc fo' nu') 199 j = ln t 200 j := fun j x y => by
    rw [ln_c hT hA 199 j x y (by omega)]
    exact ln_d hT j 199 200 x y (by omega) (by omega)
  have ED : ∀ j, 1 ≤ j → j ≤ M → dl (tNew M t k a b dg rc fo' nu') j = dl t j := fun j x y => agr_dl hA x y
  have RO : ∀ j, 1 ≤ j → j ≤ M → G_X3_rowsOf F (nI j) = nI (min 401 (ln t 200 j)) := fun j x y => by
    unfold G_X3_rowsOf
    rw [if_neg (nat_has hF1 (by omega) x y), nI_clamp (by omega), (hF j x y).2.2.2, hr j x y]
  have RA : ∀ j, 1 ≤ j → j ≤ M → G_X3_rowsAlone F (nI j) = nI (min 401 (ln t 200 j) + dl t j) := fun j x y => by
    unfold G_X3_rowsAlone G_X3_isValue
    rw [if_neg (nat_has hF1 (by omega) x y), nI_clamp (by omega), (hF j x y).1, RO j x y]
    unfold dl isV
    by_cases hv : (kd t j).toInt < 9
    · rw [if_neg (show ¬ (9 : Int32) ≤ kd t j by rw [i32_le, show (9 : Int32).toInt = 9 by decide]; omega), if_neg (by decide), if_pos hv, nI_1]
    · rw [if_pos (show (9 : Int32) ≤ kd t j by rw [i32_le, show (9 : Int32).toInt = 9 by decide]; omega), if_pos rfl, if_neg hv]
      rfl
  have DL : ∀ j, dl t j ≤ 1 := fun j => by
    unfold dl
    split <;> omega
  have nn : ∀ {q z : Int32}, k = q → ¬ q = z → ¬ k = z := fun e h => by rw [e]; exact h
  unfold G_X3_rowsFor
  rw [if_neg k0]
  rcases hS with hk | ⟨hk, i, hi, ei⟩ | ⟨hk, i, j, hi, ei, ej, hj1, hj2, hv⟩ | ⟨hk, i, j, p, q, hi, ei, ej, hj1, hj2, hkj, hp, hq, hp1, hp2, hq1, hq2, hpv, hqv⟩ | ⟨hk, i, j, ei, ej, hi1, hi2, hj1, hj2⟩ | ⟨hk, i, j, ei, ej, hi1, hi2, hj1, hj2, hiv⟩ | ⟨⟨hk1, hk2⟩, i, j, ei, ej, hi1, hi2, hj1, hj2, hiv, hjv⟩
  · exact absurd hk k0
  · rw [if_pos hk, (cd_1 (b := 0) (d := 199) ef (ek.trans hk) (ea.trans ei)).2]
    rfl
  · subst ej
    rw [(cd_2 (b := 0) (d := 199) ef (by rw [ek]; exact hk) (ea.trans ei) eb (by omega)).2, EL j hj1 hj2, RO j hj1 hj2, nI_1]
    rcases hk with hk | hk
    · rw [if_neg (nn hk (by decide)), if_pos hk]
      exact cap401 (by omega) (by omega)
    · rw [if_neg (nn hk (by decide)), if_neg (nn hk (by decide)), if_pos hk]
      exact cap401 (by omega) (by omega)
  · subst ej
    obtain ⟨f1, f2, f3, f4⟩ := hA j hj1 hj2
    obtain ⟨g1, g2, g3, g4⟩ := hF j hj1 hj2
    have e1 : G_X3_firstOf F (nI j) = nI p := by
      unfold G_X3_firstOf
      rw [if_neg (nat_has hF1 (by omega) hj1 hj2), nI_clamp (by omega), g2, hp]
    have e2 : G_X3_secondOf F (nI j) = nI q := by
      unfold G_X3_secondOf
      rw [if_neg (nat_has hF1 (by omega) hj1 hj2), nI_clamp (by omega), g3, hq]
    rw [(cd_10 (b := 0) (d := 199) ef (ek.trans hk) (ea.trans ei) eb (f2.trans hp) (f3.trans hq) (by omega) (by omega) (by omega)).2, EL p hp1 hp2, EL q hq1 hq2, e1, e2, RO p hp1 hp2, RO q hq1 hq2, nI_add, nI_1]
    rw [if_neg (nn hk (by decide)), if_neg (nn hk (by decide)), if_neg (nn hk (by decide)), if_pos hk]
    exact cap401 (by omega) (by omega)
  · subst ei ej
    have := DL i
    have := DL j
    rw [(cd_11 (b := 0) (d := 199) ef (ek.trans hk) ea eb (by omega) (by omega)).2, EL i hi1 hi2, EL j hj1 hj2, ED i hi1 hi2, ED j hj1 hj2, RA i hi1 hi2, RA j hj1 hj2, nI_add]
    rw [if_neg (nn hk (by decide)), if_neg (nn hk (by decide)), if_neg (nn hk (by decide)), if_neg (nn hk (by decide)), if_pos hk]
    exact cap401 (by omega) (by omega)
  · subst ei ej
    have := DL j
    rcases hk with hk | hk
    · rw [(cd_12 (b := 0) (d := 199) ef (ek.trans hk) ea eb (by omega) (by omega)).2, EL i hi1 hi2, EL j hj1 hj2, ED j hj1 hj2, RO i hi1 hi2, RA j hj1 hj2, nI_1, nI_add]
      rw [if_neg (nn hk (by decide)), if_neg (nn hk (by decide)), if_neg (nn hk (by decide)), if_neg (nn hk (by decide)), if_neg (nn hk (by decide)), if_pos hk]
      exact cap401 (by omega) (by omega)
    · have e2 : nI (min 401 (ln t 200 i)) + 2 = nI (min 401 (ln t 200 i) + 2) := nI_add _ 2
      rw [(cd_13 (b := 0) (d := 199) ef (ek.trans hk) ea eb (by omega) (by omega)).2, EL i hi1 hi2, EL j hj1 hj2, ED j hj1 hj2, RO i hi1 hi2, RA j hj1 hj2, e2, nI_add]
      rw [if_neg (nn hk (by decide)), if_neg (nn hk (by decide)), if_neg (nn hk (by decide)), if_neg (nn hk (by decide)), if_neg (nn hk (by decide)), if_neg (nn hk (by decide)), if_pos hk]
      exact cap401 (by omega) (by omega)
  · subst ei ej
    rw [if_neg (kne hk1 hk2 (by decide)), if_neg (kne hk1 hk2 (by decide)), if_neg (kne hk1 hk2 (by decide)), if_neg (kne hk1 hk2 (by decide)), if_neg (kne hk1 hk2 (by decide)), if_neg (kne hk1 hk2 (by decide)), if_neg (kne hk1 hk2 (by decide))]
    rw [(cd_r (b := 0) (d := 199) ef (by rw [ek]; exact hk1) (by rw [ek]; exact hk2) ea eb (by omega) (by omega)).2, EL i hi1 hi2, EL j hj1 hj2, RO i hi1 hi2, RO j hj1 hj2, nI_add, nI_1]
    exact cap401 (by omega) (by omega)
end NEW
