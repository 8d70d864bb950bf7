theorem drA_len0 (t : TS) (k : Nat) : drA t k 0 = [] := if_pos rfl
theorem drA_len1 (t : TS) (k : Nat) : drA t k 1 = dr t k := if_neg (by decide)
/-- the rows that emit lays -/
theorem emit_is {N M : Nat} {c : CS} {t : TS} (hT : tOK N M c t) : ∀ (d k b : Nat) (r : RS) (al : Int32), 1 ≤ k → k ≤ M → k ≤ d → d ≤ 200 → r.1 = nI b → b + (ln t d k + (drA t k al).length) ≤ 400 → Ext t r b (cd t d k b ++ drA t k al) (em t d r k al) := by
  have hM2 := hT.2.2.2.1
  intro d
  induction d with
  | zero => intro k b r al h1 h2 h3; omega
  | succ d ih =>
    intro k b r al h1 h2 h3 h4 hr hb
    have ih0 : ∀ (k b : Nat) (r : RS), 1 ≤ k → k ≤ M → k ≤ d → r.1 = nI b → b + ln t d k ≤ 400 → Ext t r b (cd t d k b) (em t d r k 0) := fun k b r a1 a2 a3 a4 a5 => by
      have := ih k b r 0 a1 a2 a3 (by omega) a4 (by rw [drA_len0]; exact a5)
      rw [drA_len0, List.append_nil] at this
      exact this
    have ih1 : ∀ (k b : Nat) (r : RS), 1 ≤ k → k ≤ M → k ≤ d → r.1 = nI b → b + (ln t d k + dl t k) ≤ 400 → Ext t r b (cd t d k b ++ dr t k) (em t d r k 1) := fun k b r a1 a2 a3 a4 a5 => by
      have := ih k b r 1 a1 a2 a3 (by omega) a4 (by rw [drA_len1, dr_len]; exact a5)
      rw [drA_len1] at this
      exact this
    have fin : ∀ (l : List Row) (r1 : RS), cd t (d + 1) k b = l → Ext t r b l r1 → Ext t r b (cd t (d + 1) k b ++ drA t k al) (tl t k al r1) := fun l r1 e h => by
      rw [e]
      refine h.drop ?_
      rw [← e, cd_len]
      exact hb
    rcases hT.2.2.2.2 k h1 h2 with ⟨hf, hv⟩ | ⟨hf, hk | hk | hk | hk | hk | hk⟩
    · rw [em_f hT h1 h2 h4 hf]
      obtain ⟨e1, e2⟩ := cd_f (d := d) (b := b) hf
      rw [e2] at hb
      exact fin _ _ e1 (Ext.row hr (by omega) 0 (nu t k) 0 0 rfl)
    · obtain ⟨hk, a, haN, ha⟩ := hk
      rw [em_1 hT h1 h2 h4 hf hk, ha]
      obtain ⟨e1, e2⟩ := cd_1 (d := d) (b := b) hf hk ha
      rw [e2] at hb
      exact fin _ _ e1 (Ext.row hr (by omega) 1 _ 0 0 rfl)
    · obtain ⟨hk, a, j, haN, ha, hj, hj1, hj2, hjv⟩ := hk
      rw [em_2 hT h1 h2 h4 hf hk hj, ha]
      obtain ⟨e1, e2⟩ := cd_2 (d := d) (b := b) hf hk ha hj (by omega)
      rw [e2] at hb
      have A := ih0 j b r hj1 (by omega) (by omega) hr (by omega)
      refine fin _ _ e1 (A.app (Ext.row A.1 (by rw [cd_len]; omega) (kd t k) _ 0 0 ?_))
      unfold shO
      rw [if_pos rfl]
    · obtain ⟨hk, a, j, p, q, haN, ha, hj, hj1, hj2, hp, hq, hp1, hp2, hq1, hq2, hpv, hqv⟩ := hk
      rw [em_10 hT h1 h2 h4 hf hk hj hj1 (by omega) hp hq, ha]
      obtain ⟨e1, e2⟩ := cd_10 (d := d) (b := b) hf hk ha hj hp hq (by omega) (by omega) (by omega)
      rw [e2] at hb
      have A := ih0 p b r hp1 (by omega) (by omega) hr (by omega)
      have B := ih0 q (b + ln t d p) (em t d r p 0) hq1 (by omega) (by omega) (by rw [A.1, cd_len]) (by omega)
      refine fin _ _ e1 (A.app ?_)
      rw [cd_len]
      exact B.app (Ext.row B.1 (by rw [cd_len]; omega) 10 _ 0 0 rfl)
    · obtain ⟨hk, i, j, hi, hj, hi1, hi2, hj1, hj2⟩ := hk
      rw [em_11 hT h1 h2 h4 hf hk hi hj]
      obtain ⟨e1, e2⟩ := cd_11 (d := d) (b := b) hf hk hi hj (by omega) (by omega)
      rw [e2] at hb
      have A := ih1 i b r hi1 (by omega) (by omega) hr (by omega)
      have eA : (cd t d i b ++ dr t i).length = ln t d i + dl t i := by rw [List.length_append, cd_len, dr_len]
      have B := ih1 j (b + (ln t d i + dl t i)) (em t d r i 1) hj1 (by omega) (by omega) (by rw [A.1, eA]) (by omega)
      refine fin _ _ (e1.trans (List.append_assoc _ _ _).symm) (A.app ?_)
      rw [eA]
      exact B
    · obtain ⟨hk | hk, i, j, hi, hj, hi1, hi2, hj1, hj2, hiv⟩ := hk
      · rw [em_12 hT h1 h2 h4 hf hk hi hj]
        obtain ⟨e1, e2⟩ := cd_12 (d := d) (b := b) hf hk hi hj (by omega) (by omega)
        rw [e2] at hb
        have A := ih0 i b r hi1 (by omega) (by omega) hr (by omega)
        have A1 := A.1
        rw [cd_len] at A1
        have J := Ext.row (t := t) (r := em t d r i 0) A1 (by omega) 12 0 0 0 rfl
        have B := ih1 j (b + (ln t d i + 1)) (G_X1_addRow (em t d r i 0) 12 0 0) hj1 (by omega) (by omega) (by rw [J.1]; rfl) (by omega)
        have C : Ext t r b (cd t d i b ++ (12, 0, 0) :: (cd t d j (b + (ln t d i + 1)) ++ dr t j)) (em t d (G_X1_addRow (em t d r i 0) 12 0 0) j 1) := by
          refine A.app ?_
          rw [cd_len]
          exact J.app (by rw [show b + ln t d i + ([(12, 0, 0)] : List Row).length = b + (ln t d i + 1) from rfl]; exact B)
        have hlen : (cd t d i b ++ ((12, 0, 0) : Row) :: (cd t d j (b + (ln t d i + 1)) ++ dr t j)).length = ln t d i + 1 + (ln t d j + dl t j) := by
          simp only [List.length_append, List.length_cons, cd_len, dr_len]; omega
        have C1 := C.1
        rw [hlen] at C1
        rw [C1, A1]
        exact fin _ _ e1 (C.aim (by rw [cd_len]) (by rw [hlen]; omega) (by omega))
      · rw [em_13 hT h1 h2 h4 hf hk hi hj]
        obtain ⟨e1, e2⟩ := cd_13 (d := d) (b := b) hf hk hi hj (by omega) (by omega)
        rw [e2] at hb
        have A := ih0 i b r hi1 (by omega) (by omega) hr (by omega)
        have A1 := A.1
        rw [cd_len] at A1
        have J := Ext.row (t := t) (r := em t d r i 0) A1 (by omega) 13 0 0 0 rfl
        have B := ih1 j (b + (ln t d i + 1)) (G_X1_addRow (em t d r i 0) 13 0 0) hj1 (by omega) (by omega) (by rw [J.1]; rfl) (by omega)
        have eB : (cd t d j (b + (ln t d i + 1)) ++ dr t j).length = ln t d j + dl t j := by rw [List.length_append, cd_len, dr_len]
        have B1 := B.1
        rw [eB] at B1
        have E := Ext.row (t := t) (r := em t d (G_X1_addRow (em t d r i 0) 13 0 0) j 1) B1 (by omega) 14 (lN (b + (ln t d i + 1))) 0 0 rfl
        have e14 : ((em t d r i 0).1 + 1).toInt64 = lN (b + (ln t d i + 1)) := by
          rw [A1, nI_1, nI_l (by omega)]
          rfl
        rw [e14]
        have C : Ext t r b (cd t d i b ++ (13, 0, 0) :: (cd t d j (b + (ln t d i + 1)) ++ (dr t j ++ [(14, lN (b + (ln t d i + 1)), 0)]))) (G_X1_addRow (em t d (G_X1_addRow (em t d r i 0) 13 0 0) j 1) 14 (lN (b + (ln t d i + 1))) 0) := by
          have E2 : Ext t (G_X1_addRow (em t d r i 0) 13 0 0) (b + (ln t d i + 1)) (cd t d j (b + (ln t d i + 1)) ++ (dr t j ++ [(14, lN (b + (ln t d i + 1)), 0)])) (G_X1_addRow (em t d (G_X1_addRow (em t d r i 0) 13 0 0) j 1) 14 (lN (b + (ln t d i + 1))) 0) := by
            rw [← List.append_assoc]
            exact B.app (by rw [eB]; exact E)
          refine A.app ?_
          rw [cd_len]
          exact J.app (by rw [show b + ln t d i + ([(13, 0, 0)] : List Row).length = b + (ln t d i + 1) from rfl]; exact E2)
        have hlen : (cd t d i b ++ ((13, 0, 0) : Row) :: (cd t d j (b + (ln t d i + 1)) ++ (dr t j ++ [(14, lN (b + (ln t d i + 1)), 0)]))).length = ln t d i + 1 + (ln t d j + dl t j) + 1 := by
          simp only [List.length_append, List.length_cons, List.length_nil, cd_len, dr_len]; omega
        have C1 := C.1
        rw [hlen] at C1
        rw [C1, A1]
        exact fin _ _ e1 (C.aim (by rw [cd_len]) (by rw [hlen]; omega) (by omega))
    · obtain ⟨⟨hk1, hk2⟩, i, j, hi, hj, hi1, hi2, hj1, hj2, hiv, hjv⟩ := hk
      rw [em_r hT h1 h2 h4 hf hk1 hk2 hi hj]
      obtain ⟨e1, e2⟩ := cd_r (d := d) (b := b) hf hk1 hk2 hi hj (by omega) (by omega)
      rw [e2] at hb
      have A := ih0 i b r hi1 (by omega) (by omega) hr (by omega)
      have B := ih0 j (b + ln t d i) (em t d r i 0) hj1 (by omega) (by omega) (by rw [A.1, cd_len]) (by omega)
      refine fin _ _ e1 (A.app ?_)
      rw [cd_len]
      exact B.app (Ext.row B.1 (by rw [cd_len]; omega) (kd t k) 0 (nI k) _ rfl)
