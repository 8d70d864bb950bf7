/-! a node's task lays its rows, or the loop ends for want of room -/
section TM
variable {mt : MT} {mr0 : MR} {mq0 : MQS} {n0 : Int32} {fm : Nat}
def Tm (mt : MT) (mr0 : MR) (mq0 : MQS) (n0 : Int32) (fm : Nat) (tl : List Tk) (ol : List Nat) (z : ZM) (b : Nat) (l : List Row) : Prop :=
  (b + l.length ≤ 400 → ∃ z', GoM mt mr0 mq0 n0 fm z z' ∧ mqI tl ol z'.2 ∧ MEx mt z.1 b l z'.1) ∧ (400 < b + l.length → EnM mt mr0 mq0 n0 fm z)
theorem Tm.seq {tl1 tl2 : List Tk} {ol1 ol2 : List Nat} {z : ZM} {b : Nat} {l1 l2 : List Row} (h1 : Tm mt mr0 mq0 n0 fm tl1 ol1 z b l1)
    (h2 : ∀ z', mqI tl1 ol1 z'.2 → z'.1.1 = nI (b + l1.length) → b + l1.length ≤ 400 → Tm mt mr0 mq0 n0 fm tl2 ol2 z' (b + l1.length) l2) : Tm mt mr0 mq0 n0 fm tl2 ol2 z b (l1 ++ l2) := by
  by_cases hb : b + l1.length ≤ 400
  · obtain ⟨z1, g1, q1, e1⟩ := h1.1 hb
    have T := h2 z1 q1 e1.1 hb
    refine ⟨fun h => ?_, fun h => ?_⟩
    · rw [List.length_append] at h
      obtain ⟨z2, g2, q2, e2⟩ := T.1 (by omega)
      exact ⟨z2, g1.trans g2, q2, e1.app e2⟩
    · rw [List.length_append] at h
      exact g1.end (T.2 (by omega))
  · refine ⟨fun h => ?_, fun h => h1.2 (by omega)⟩
    rw [List.length_append] at h
    omega
theorem Tm.pre {tl : List Tk} {ol : List Nat} {z z1 : ZM} {b : Nat} {l : List Row} (h : GoM mt mr0 mq0 n0 fm z z1) (e : z1.1 = z.1) (T : Tm mt mr0 mq0 n0 fm tl ol z1 b l) : Tm mt mr0 mq0 n0 fm tl ol z b l := by
  refine ⟨fun hb => ?_, fun hb => h.end (T.2 hb)⟩
  obtain ⟨z2, g2, q2, e2⟩ := T.1 hb
  rw [e] at e2
  exact ⟨z2, h.trans g2, q2, e2⟩
/-- a row laid at once -/
theorem Tm.row0 {tl : List Tk} {ol : List Nat} {z : ZM} {b : Nat} {op : Int32} {v : Int64} {nn its : Int32} {mq : MQS} (g : GoM mt mr0 mq0 n0 fm z (G_X5_row z.1 op v its, mq)) (hq : mqI tl ol mq) (hr : z.1.1 = nI b) (hb : b ≤ 400) (hs : its = itO mt nn) : Tm mt mr0 mq0 n0 fm tl ol z b [(op, v, nn)] := by
  refine ⟨fun h => ⟨_, g, hq, MEx.row hr (by simp only [List.length_cons, List.length_nil] at h; omega) op v nn its hs⟩, fun h => g.end ?_⟩
  simp only [List.length_cons, List.length_nil] at h
  exact EnM.over (b := b + 1) (row_ok hr hb op v its).2 (by omega) (by omega)
theorem Tm.row {tl : List Tk} {ol : List Nat} {z : ZM} {b : Nat} {op : Int32} {v : Int64} {nn its : Int32} (h : mqI ((2, op, v, its) :: tl) ol z.2) (hl : tl.length < 3000) (hr : z.1.1 = nI b) (hb : b ≤ 400) (hs : its = itO mt nn) : Tm mt mr0 mq0 n0 fm tl ol z b [(op, v, nn)] := by
  obtain ⟨g, q⟩ := goM_row (mr0 := mr0) (mq0 := mq0) (n0 := n0) (fm := fm) (mt := mt) h hl hr hb
  exact Tm.row0 g q hr hb hs
theorem Tm.jump {tl : List Tk} {ol : List Nat} {z : ZM} {b : Nat} {op : Int32} {v : Int64} {i : Int32} (h : mqI ((3, op, v, i) :: tl) ol z.2) (hl : tl.length < 3000) (ho : ol.length < 500) (hr : z.1.1 = nI b) (hb : b ≤ 400) : Tm mt mr0 mq0 n0 fm tl (b :: ol) z b [(op, 0, 0)] := by
  obtain ⟨mq, g, q⟩ := goM_jump (mr0 := mr0) (mq0 := mq0) (n0 := n0) (fm := fm) (mt := mt) h hl ho hr hb
  exact Tm.row0 g q hr hb rfl
theorem Tm.node {tl tl' : List Tk} {ol : List Nat} {z : ZM} {b k : Nat} {l : List Row} (h : mqI ((0, 0, (nI k).toInt64, 0) :: tl) ol z.2) (hl : tl.length < 3000) (hr : z.1.1 = nI b) (hb : b ≤ 400) {mq' : MQS} (ho : OK_X5_laid mt z.1 (mqP z.2) (nI k)) (he : G_X5_laid mt z.1 (mqP z.2) (nI k) = (z.1, mq')) (T : Tm mt mr0 mq0 n0 fm tl' ol (z.1, mq') b l) : Tm mt mr0 mq0 n0 fm tl' ol z b l := by
  have g := goM_node (mr0 := mr0) (mq0 := mq0) (n0 := n0) (fm := fm) (mt := mt) h hl hr hb (by rw [nI_l32]; exact ho)
  rw [nI_l32, he] at g
  exact Tm.pre g rfl T
theorem Tm.leaf {tl : List Tk} {ol : List Nat} {z : ZM} {b k : Nat} {op : Int32} {v : Int64} (h : mqI ((0, 0, (nI k).toInt64, 0) :: tl) ol z.2) (hl : tl.length < 3000) (hr : z.1.1 = nI b) (hb : b ≤ 400) (ho : OK_X5_laid mt z.1 (mqP z.2) (nI k)) (he : G_X5_laid mt z.1 (mqP z.2) (nI k) = (G_X5_row z.1 op v 0, mqP z.2)) : Tm mt mr0 mq0 n0 fm tl ol z b [(op, v, 0)] := by
  have g := goM_node (mr0 := mr0) (mq0 := mq0) (n0 := n0) (fm := fm) (mt := mt) h hl hr hb (by rw [nI_l32]; exact ho)
  rw [nI_l32, he] at g
  exact Tm.row0 g (mqI_pop h hl).2.2.2.2 hr hb rfl
theorem made_node {N M : Nat} {c : CS} {t : TS} (hT : tOK N M c t) (hR : tRel M t mt) : ∀ (d k b : Nat) (tl : List Tk) (ol : List Nat) (z : ZM), 1 ≤ k → k ≤ M → k ≤ d → d ≤ 200 → mqI ((0, 0, (nI k).toInt64, 0) :: tl) ol z.2 → tl.length + 6 * d ≤ 2000 → ol.length + d ≤ 400 → z.1.1 = nI b → b ≤ 400 → Tm mt mr0 mq0 n0 fm tl ol z b (cd t d k b) := by
  have hM2 := hT.2.2.2.1
  intro d
  induction d with
  | zero => intro k b tl ol z h1 h2 h3; omega
  | succ d ih =>
    intro k b tl ol z h1 h2 h3 h4 hq hl ho hr hb
    have ihS : ∀ (j b : Nat) (tl : List Tk) (ol : List Nat) (z : ZM), 1 ≤ j → j ≤ M → j ≤ d → mqI ((1, 0, (nI j).toInt64, 0) :: tl) ol z.2 → tl.length + 1 + 6 * d ≤ 2000 → ol.length + d ≤ 400 → z.1.1 = nI b → b ≤ 400 → Tm mt mr0 mq0 n0 fm tl ol z b (cd t d j b ++ dr t j) := by
      intro j b tl ol z a1 a2 a3 a4 a5 a6 a7 a8
      obtain ⟨mq, g, q⟩ := goM_stm (mr0 := mr0) (mq0 := mq0) (n0 := n0) (fm := fm) (mt := mt) a4 (by omega) a7 a8 (by omega)
      have ek := (hR j a1 a2).1
      refine Tm.pre g rfl ?_
      unfold dr
      rw [ek] at q
      by_cases hv : isV t j
      · rw [if_neg (by rw [i32_le, show (9 : Int32).toInt = 9 by decide]; exact Int.not_le.mpr hv)] at q
        rw [if_pos hv]
        exact (ih j b _ _ (z.1, mq) a1 a2 a3 (by omega) q (by simp only [List.length_cons]; omega) a6 a7 a8).seq fun z' q' r' b' => Tm.row q' (by omega) r' b' rfl
      · rw [if_pos (by rw [i32_le, show (9 : Int32).toInt = 9 by decide]; exact Int.not_lt.mp hv)] at q
        rw [if_neg hv, List.append_nil]
        exact ih j b _ _ (z.1, mq) a1 a2 a3 (by omega) q (by omega) a6 a7 a8
    have hq0 := (mqI_pop hq (by omega)).2.2.2.2
    rcases hT.2.2.2.2 k h1 h2 with ⟨hf, hv⟩ | ⟨hf, hk | hk | hk | hk | hk | hk⟩
    · obtain ⟨e1, e2⟩ := cd_f (d := d) (b := b) hf
      rw [e1]
      obtain ⟨o, e⟩ := laid_f (mq := mqP z.2) hR h1 h2 hM2 hr hb hf
      exact Tm.leaf hq (by omega) hr hb o e
    · obtain ⟨hk, a, haN, ha⟩ := hk
      obtain ⟨e1, e2⟩ := cd_1 (d := d) (b := b) hf hk ha
      rw [e1]
      obtain ⟨o, e⟩ := laid_1 (mq := mqP z.2) hR h1 h2 hM2 hr hb hf hk
      rw [ha] at e
      exact Tm.leaf hq (by omega) hr hb o e
    · obtain ⟨hk, a, j, haN, ha, hj, hj1, hj2, hjv⟩ := hk
      obtain ⟨e1, e2⟩ := cd_2 (d := d) (b := b) hf hk ha hj (by omega)
      rw [e1]
      obtain ⟨o, mq', e, q⟩ := laid_2 (mr := z.1) hR h1 h2 hM2 hq0 (by omega) hf hk
      rw [ha, hj] at q
      refine Tm.node hq (by omega) hr hb o e ?_
      exact (ih j b _ _ (z.1, mq') hj1 (by omega) (by omega) (by omega) q (by simp only [List.length_cons]; omega) (by omega) hr hb).seq fun z' q' r' b' => Tm.row q' (by omega) r' b' rfl
    · obtain ⟨hk, a, j, p, q, haN, ha, hj, hj1, hj2, hp, hq', hp1, hp2, hq1, hq2, hpv, hqv⟩ := hk
      obtain ⟨e1, e2⟩ := cd_10 (d := d) (b := b) hf hk ha hj hp hq' (by omega) (by omega) (by omega)
      rw [e1]
      obtain ⟨o, mq', e, qq⟩ := laid_10 (mr := z.1) hR h1 h2 hM2 hq0 (by omega) hf hk hj hj1 (by omega)
      rw [ha, hp, hq'] at qq
      refine Tm.node hq (by omega) hr hb o e ?_
      refine (ih p b _ _ (z.1, mq') hp1 (by omega) (by omega) (by omega) qq (by simp only [List.length_cons]; omega) (by omega) hr hb).seq fun z1 q1 r1 b1 => ?_
      rw [cd_len] at r1 b1 ⊢
      exact (ih q (b + ln t d p) _ _ z1 hq1 (by omega) (by omega) (by omega) q1 (by simp only [List.length_cons]; omega) (by omega) r1 b1).seq fun z' q' r' b' => Tm.row q' (by omega) r' b' rfl
    · obtain ⟨hk, i, j, hi, hj, hi1, hi2, hj1, hj2⟩ := hk
      obtain ⟨e1, e2⟩ := cd_11 (d := d) (b := b) hf hk hi hj (by omega) (by omega)
      rw [e1, ← List.append_assoc]
      obtain ⟨o, mq', e, qq⟩ := laid_11 (mr := z.1) hR h1 h2 hM2 hq0 (by omega) hf hk
      rw [hi, hj] at qq
      refine Tm.node hq (by omega) hr hb o e ?_
      refine (ihS i b _ _ (z.1, mq') hi1 (by omega) (by omega) qq (by simp only [List.length_cons]; omega) (by omega) hr hb).seq fun z1 q1 r1 b1 => ?_
      have eA : (cd t d i b ++ dr t i).length = ln t d i + dl t i := by rw [List.length_append, cd_len, dr_len]
      rw [eA] at r1 b1 ⊢
      exact ihS j (b + (ln t d i + dl t i)) _ _ z1 hj1 (by omega) (by omega) q1 (by omega) (by omega) r1 b1
    · obtain ⟨hk, i, j, hi, hj, hi1, hi2, hj1, hj2, hiv⟩ := hk
      obtain ⟨o, mq', e, qq⟩ := laid_12 (mr := z.1) hR h1 h2 hM2 hq0 (by omega) hf hk
      rw [hi, hj] at qq
      refine Tm.node hq (by omega) hr hb o e ?_
      have T : Tm mt mr0 mq0 n0 fm (((if kd t k = 12 then 4 else 5), 0, 0, 0) :: tl) ((b + ln t d i) :: ol) (z.1, mq') b (cd t d i b ++ ([(kd t k, 0, 0)] ++ (cd t d j (b + (ln t d i + 1)) ++ dr t j))) := by
        refine (ih i b _ _ (z.1, mq') hi1 (by omega) (by omega) (by omega) qq (by simp only [List.length_cons]; omega) (by omega) hr hb).seq fun z1 q1 r1 b1 => ?_
        rw [cd_len] at r1 b1 ⊢
        refine (Tm.jump q1 (by simp only [List.length_cons]; omega) (by omega) r1 b1).seq fun z2 q2 r2 b2 => ?_
        simp only [List.length_cons, List.length_nil] at r2 b2 ⊢
        rw [show b + ln t d i + (0 + 1) = b + (ln t d i + 1) by omega] at r2 b2 ⊢
        exact ihS j (b + (ln t d i + 1)) _ _ z2 hj1 (by omega) (by omega) q2 (by simp only [List.length_cons]; omega) (by simp only [List.length_cons]; omega) r2 b2
      have eL : (cd t d i b ++ ([((kd t k, 0, 0) : Row)] ++ (cd t d j (b + (ln t d i + 1)) ++ dr t j))).length = ln t d i + 1 + (ln t d j + dl t j) := by
        simp only [List.length_append, List.length_cons, List.length_nil, cd_len, dr_len]; omega
      rcases hk with hk | hk
      · obtain ⟨e1, e2⟩ := cd_12 (d := d) (b := b) hf hk hi hj (by omega) (by omega)
        have eL2 : (cd t (d + 1) k b).length = ln t d i + 1 + (ln t d j + dl t j) := by rw [cd_len, e2]
        refine ⟨fun h => ?_, fun h => T.2 (by rw [eL]; rw [eL2] at h; exact h)⟩
        rw [eL2] at h
        obtain ⟨z1, g1, q1, x1⟩ := T.1 (by rw [eL]; exact h)
        have r1 := x1.1
        rw [eL] at r1
        rw [if_pos hk] at q1
        obtain ⟨mq2, g2, q2⟩ := goM_end (mr0 := mr0) (mq0 := mq0) (n0 := n0) (fm := fm) (mt := mt) q1 (by omega) (by omega) r1 h (by omega)
        refine ⟨_, g1.trans g2, q2, ?_⟩
        rw [e1, ← hk]
        exact MEx.aim x1 (by rw [cd_len])
      · obtain ⟨e1, e2⟩ := cd_13 (d := d) (b := b) hf hk hi hj (by omega) (by omega)
        have eL2 : (cd t (d + 1) k b).length = ln t d i + 1 + (ln t d j + dl t j) + 1 := by rw [cd_len, e2]
        by_cases hB : b + (ln t d i + 1 + (ln t d j + dl t j)) ≤ 400
        · obtain ⟨z1, g1, q1, x1⟩ := T.1 (by rw [eL]; exact hB)
          have r1 := x1.1
          rw [eL] at r1
          rw [if_neg (by rw [hk]; decide)] at q1
          obtain ⟨mq2, g2, q2⟩ := goM_loop (mr0 := mr0) (mq0 := mq0) (n0 := n0) (fm := fm) (mt := mt) q1 (by omega) (by omega) r1 hB (by omega)
          refine ⟨fun h => ?_, fun h => ?_⟩
          · rw [eL2] at h
            refine ⟨_, g1.trans g2, q2, ?_⟩
            have x2 := MEx.row (mt := mt) r1 (by omega) 14 (lN (b + ln t d i + 1)) 0 0 rfl
            have x3 : MEx mt z.1 b ((cd t d i b ++ ([(kd t k, 0, 0)] ++ (cd t d j (b + (ln t d i + 1)) ++ dr t j))) ++ [(14, lN (b + ln t d i + 1), 0)]) (G_X5_row z1.1 14 (lN (b + ln t d i + 1)) 0) := x1.app (by rw [eL]; exact x2)
            have e3 : (cd t d i b ++ ([((kd t k, 0, 0) : Row)] ++ (cd t d j (b + (ln t d i + 1)) ++ dr t j))) ++ [(14, lN (b + ln t d i + 1), 0)] = cd t d i b ++ (kd t k, 0, 0) :: (cd t d j (b + (ln t d i + 1)) ++ (dr t j ++ [(14, lN (b + (ln t d i + 1)), 0)])) := by
              simp only [List.append_assoc, List.cons_append, List.nil_append]
              rfl
            rw [e3] at x3
            rw [e1, ← hk]
            exact MEx.aim x3 (by rw [cd_len])
          · rw [eL2] at h
            refine (g1.trans g2).end (EnM.over (b := b + (ln t d i + 1 + (ln t d j + dl t j)) + 1) (row_ok r1 hB 14 _ 0).2 (by omega) (by omega))
        · refine ⟨fun h => ?_, fun h => T.2 (by rw [eL]; omega)⟩
          rw [eL2] at h
          omega
    · obtain ⟨⟨hk1, hk2⟩, i, j, hi, hj, hi1, hi2, hj1, hj2, hiv, hjv⟩ := hk
      obtain ⟨e1, e2⟩ := cd_r (d := d) (b := b) hf hk1 hk2 hi hj (by omega) (by omega)
      rw [e1]
      obtain ⟨o, mq', e, qq⟩ := laid_r (mr := z.1) hR h1 h2 hM2 hq0 (by omega) hf hk1 hk2
      rw [hi, hj] at qq
      refine Tm.node hq (by omega) hr hb o e ?_
      refine (ih i b _ _ (z.1, mq') hi1 (by omega) (by omega) (by omega) qq (by simp only [List.length_cons]; omega) (by omega) hr hb).seq fun z1 q1 r1 b1 => ?_
      rw [cd_len] at r1 b1 ⊢
      exact (ih j (b + ln t d i) _ _ z1 hj1 (by omega) (by omega) (by omega) q1 (by simp only [List.length_cons]; omega) (by omega) r1 b1).seq fun z' q' r' b' => Tm.row q' (by omega) r' b' rfl
end TM
theorem LM_fm {mt : MT} {mr0 : MR} {mq0 : MQS} {n0 : Int32} (f1 f2 : Nat) : ∀ (fu : Nat) (a : MR) (q : MQS), G_X5_made_L24 mt mr0 mq0 n0 f1 fu a q = G_X5_made_L24 mt mr0 mq0 n0 f2 fu a q := by
  intro fu
  induction fu with
  | zero => intro a q; rfl
  | succ fu ih =>
    intro a q
    rw [G_X5_made_L24, G_X5_made_L24]
    simp only [ih]
theorem OM_fm {mt : MT} {mr0 : MR} {mq0 : MQS} {n0 : Int32} (f1 f2 : Nat) : ∀ (fu : Nat) (a : MR) (q : MQS), OK_X5_made_L24 mt mr0 mq0 n0 f1 fu a q = OK_X5_made_L24 mt mr0 mq0 n0 f2 fu a q := by
  intro fu
  induction fu with
  | zero => intro a q; rfl
  | succ fu ih =>
    intro a q
    rw [OK_X5_made_L24, OK_X5_made_L24]
    simp only [ih]
/-- made: the rows when there is room for them, else no -/
theorem made_is {N M : Nat} {c : CS} {t : TS} {mt : MT} (hT : tOK N M c t) (hR : tRel M t mt) {k : Nat} (h1 : 1 ≤ k) (h2 : k ≤ M) (mr : MR) (mq : MQS) :
    ∃ fm, OK_X5_made mt mr mq (nI k) fm ∧ (400 < ln t 200 k → (G_X5_made mt mr mq (nI k) fm).1 = 0) ∧ (ln t 200 k ≤ 400 → (G_X5_made mt mr mq (nI k) fm).1 = 1 ∧ MEx mt mr 0 (cd t 200 k 0) (G_X5_made mt mr mq (nI k) fm).2.1) := by
  have hM2 := hT.2.2.2.1
  have q0 : mqI [] [] ((0 : Int32), mq.2.1, mq.2.2.1, mq.2.2.2.1, mq.2.2.2.2.1, (0 : Int32), mq.2.2.2.2.2.2) := ⟨rfl, trivial, rfl, trivial⟩
  obtain ⟨o1, q1⟩ := mqI_push q0 (by simp only [List.length_nil]; omega) 0 0 (nI k).toInt64 0
  have T := made_node (mr0 := mr) (mq0 := mq) (n0 := nI k) (fm := 0) hT hR 200 k 0 [] [] (((0 : Int32), mr.2.1, mr.2.2.1, mr.2.2.2), _) h1 h2 (by omega) (by omega) q1 (by simp only [List.length_nil]; omega) (by simp only [List.length_nil]; omega) rfl (by omega)
  unfold Tm at T
  rw [cd_len, Nat.zero_add] at T
  by_cases hl : ln t 200 k ≤ 400
  · obtain ⟨z', ⟨n, g⟩, q2, x⟩ := T.1 hl
    obtain ⟨a1, a2⟩ := g 1
    have e0 : z'.2.1 ≤ 0 := by rw [q2.1]; decide
    have e4 := not400 x.1 (by rw [cd_len]; omega)
    have b1 : OM mt mr mq (nI k) 0 1 z' := by
      unfold OM
      rw [OK_X5_made_L24, if_pos e0, if_neg e4]
      trivial
    have b2 : LM mt mr mq (nI k) 0 1 z' = (1, z'.1, z'.2) := by
      unfold LM
      rw [G_X5_made_L24, if_pos e0, if_neg e4]
    have c1 := a1 b1
    rw [b2] at a2
    unfold OM at c1
    unfold LM at a2
    have a3 : G_X5_made mt mr mq (nI k) (1 + n) = (1, z'.1, z'.2) := by
      unfold G_X5_made
      rw [LM_fm (1 + n) 0]
      exact a2
    refine ⟨1 + n, ⟨o1, by rw [OM_fm (1 + n) 0]; exact c1⟩, fun h => absurd hl (by omega), fun _ => ?_⟩
    rw [a3]
    exact ⟨rfl, x⟩
  · obtain ⟨n, r, q, g⟩ := T.2 (by omega)
    obtain ⟨a1, a2⟩ := g 0
    unfold OM at a1
    unfold LM at a2
    have a3 : G_X5_made mt mr mq (nI k) (0 + n) = (0, r, q) := by
      unfold G_X5_made
      rw [LM_fm (0 + n) 0]
      exact a2
    refine ⟨0 + n, ⟨o1, by rw [OM_fm (0 + n) 0]; exact a1⟩, fun _ => ?_, fun h => absurd h hl⟩
    rw [a3]
