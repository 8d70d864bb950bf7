/-! cells alike -/
theorem cR_cells {N : Nat} {c : CS} {mc : MC} (h : cR N c mc) (n : Int32) : G_X0_has c n = G_X5_isCell mc n := by
  unfold G_X0_has G_X5_isCell
  rw [h.1, h.2.1]
theorem cR_add {N : Nat} {c : CS} {mc : MC} (h : cR N c mc) (hN : N < 40) {u d p : Nat} (hu : u ≤ 2) (hd1 : 1 ≤ d) (hd9 : d ≤ 9) (hp : p + szN u d ≤ 64) :
    cR (N + 1) (nI N + 1, upd c.2.1 N (nI u), upd c.2.2.1 N (nI d), upd c.2.2.2 N (nI p)) (nI N + 1, upd mc.2.1 N (nI u), upd mc.2.2.1 N (nI d), upd mc.2.2.2.1 N (nI (szN u d)), upd mc.2.2.2.2 N (nI p)) := by
  refine ⟨nI_1 N, nI_1 N, by omega, fun a ha => ?_⟩
  by_cases e : a = N
  · subst e
    exact ⟨u, d, p, hu, hd1, hd9, hp, pk_us, pk_us, pk_us, pk_us, pk_us, pk_us, pk_us⟩
  · obtain ⟨u', d', p', a1, a2, a3, a4, a5, a6, a7, a8, a9, a10, a11⟩ := h.2.2.2 a (by omega)
    exact ⟨u', d', p', a1, a2, a3, a4, (pk_un e).trans a5, (pk_un e).trans a6, (pk_un e).trans a7, (pk_un e).trans a8, (pk_un e).trans a9, (pk_un e).trans a10, (pk_un e).trans a11⟩
theorem cell_is {N : Nat} {c : CS} {mc : MC} (me : ME) (h : cR N c mc) (u d p : Int32) :
    OK_X5_cell me mc u d p ∧ (G_X4_cell c u d p).1 = (G_X5_cell me mc u d p).1 ∧ (G_X5_cell me mc u d p).2.1 = (0, me.2.1, me.2.2) ∧ ∃ N', N ≤ N' ∧ cR N' (G_X4_cell c u d p).2 (G_X5_cell me mc u d p).2.2 := by
  have hN := h.2.2.1
  unfold OK_X5_cell G_X4_cell G_X0_add G_X5_cell
  by_cases h1 : u < 0
  · simp only [if_pos h1]
    exact ⟨trivial, trivial, trivial, N, Nat.le_refl _, h⟩
  by_cases h2 : 2 < u
  · simp only [if_neg h1, if_pos h2]
    exact ⟨trivial, trivial, trivial, N, Nat.le_refl _, h⟩
  by_cases h3 : d < 1
  · simp only [if_neg h1, if_neg h2, if_pos h3]
    exact ⟨trivial, trivial, trivial, N, Nat.le_refl _, h⟩
  by_cases h4 : ¬ d ≤ 9
  · simp only [if_neg h1, if_neg h2, if_neg h3, if_neg h4]
    exact ⟨trivial, trivial, trivial, N, Nat.le_refl _, h⟩
  have h4 := Decidable.not_not.mp h4
  simp only [if_neg h1, if_neg h2, if_neg h3, if_pos h4]
  have t2 : (2 : Int32).toInt = 2 := by decide
  have t1 : (1 : Int32).toInt = 1 := by decide
  have t9 : (9 : Int32).toInt = 9 := by decide
  rw [i32_lt, i0] at h1
  rw [i32_lt, t2] at h2
  rw [i32_lt, t1] at h3
  rw [i32_le, t9] at h4
  obtain ⟨u, hu, rfl⟩ : ∃ u' : Nat, u' ≤ 2 ∧ u = nI u' := ⟨u.toInt.toNat, by omega, i32_of (by omega) (by omega)⟩
  rw [nI_toInt (by omega)] at h1 h2
  obtain ⟨d, hd, rfl⟩ : ∃ d' : Nat, d' ≤ 9 ∧ d = nI d' := ⟨d.toInt.toNat, by omega, i32_of (by omega) (by omega)⟩
  rw [nI_toInt (by omega)] at h3 h4
  have hsz := szN_r (u := u) (d := d) (by omega) hd
  have key : ∀ S : Int32, S = nI (szN u d) → (if p < 0 then True else if p ≤ 64 - S then (if mc.1 = 40 then True else vp_in mc.1 40 ∧ vp_in mc.1 40 ∧ vp_in mc.1 40 ∧ vp_in mc.1 40 ∧ True) else True) ∧
      (if p < 0 then ((-4 : Int32), c) else if p ≤ 64 - G_X0_sizeFor (nI u) (nI d) then if c.1 < 40 then (c.1 + 1 - 1, c.1 + 1, upd c.2.1 c.1.toNatClampNeg (nI u), upd c.2.2.1 c.1.toNatClampNeg (nI d), upd c.2.2.2 c.1.toNatClampNeg p) else (-1, c) else (-4, c)).1 = (if p < 0 then ((-4 : Int32), ((0, me.2.1, me.2.2) : ME), mc) else if p ≤ 64 - S then if mc.1 = 40 then (-1, (0, me.2.1, me.2.2), mc) else (mc.1 + 1 - 1, (0, me.2.1, me.2.2), mc.1 + 1, upd mc.2.1 mc.1.toNatClampNeg (nI u), upd mc.2.2.1 mc.1.toNatClampNeg (nI d), upd mc.2.2.2.1 mc.1.toNatClampNeg S, upd mc.2.2.2.2 mc.1.toNatClampNeg p) else (-4, (0, me.2.1, me.2.2), mc)).1 ∧
      (if p < 0 then ((-4 : Int32), ((0, me.2.1, me.2.2) : ME), mc) else if p ≤ 64 - S then if mc.1 = 40 then (-1, (0, me.2.1, me.2.2), mc) else (mc.1 + 1 - 1, (0, me.2.1, me.2.2), mc.1 + 1, upd mc.2.1 mc.1.toNatClampNeg (nI u), upd mc.2.2.1 mc.1.toNatClampNeg (nI d), upd mc.2.2.2.1 mc.1.toNatClampNeg S, upd mc.2.2.2.2 mc.1.toNatClampNeg p) else (-4, (0, me.2.1, me.2.2), mc)).2.1 = (0, me.2.1, me.2.2) ∧
      ∃ N', N ≤ N' ∧ cR N' (if p < 0 then ((-4 : Int32), c) else if p ≤ 64 - G_X0_sizeFor (nI u) (nI d) then if c.1 < 40 then (c.1 + 1 - 1, c.1 + 1, upd c.2.1 c.1.toNatClampNeg (nI u), upd c.2.2.1 c.1.toNatClampNeg (nI d), upd c.2.2.2 c.1.toNatClampNeg p) else (-1, c) else (-4, c)).2 (if p < 0 then ((-4 : Int32), ((0, me.2.1, me.2.2) : ME), mc) else if p ≤ 64 - S then if mc.1 = 40 then (-1, (0, me.2.1, me.2.2), mc) else (mc.1 + 1 - 1, (0, me.2.1, me.2.2), mc.1 + 1, upd mc.2.1 mc.1.toNatClampNeg (nI u), upd mc.2.2.1 mc.1.toNatClampNeg (nI d), upd mc.2.2.2.1 mc.1.toNatClampNeg S, upd mc.2.2.2.2 mc.1.toNatClampNeg p) else (-4, (0, me.2.1, me.2.2), mc)).2.2 := by
    intro S hS
    subst hS
    rw [sz_is hu hd]
    by_cases h5 : p < 0
    · simp only [if_pos h5]
      exact ⟨trivial, trivial, trivial, N, Nat.le_refl _, h⟩
    · simp only [if_neg h5]
      by_cases h6 : p ≤ 64 - nI (szN u d)
      · simp only [if_pos h6]
        have e64 : (64 : Int32) - nI (szN u d) = nI (64 - szN u d) := nI_sub (a := 64) (by omega)
        rw [e64, i32_le, nI_toInt (by omega)] at h6
        rw [i32_lt, i0] at h5
        obtain ⟨p, hp, rfl⟩ : ∃ p' : Nat, p' + szN u d ≤ 64 ∧ p = nI p' := ⟨p.toInt.toNat, by omega, i32_of (by omega) (by omega)⟩
        by_cases h7 : N = 40
        · have e1 : ¬ c.1 < 40 := by rw [h.1, h7]; decide
          have e2 : mc.1 = 40 := by rw [h.2.1, h7]; rfl
          simp only [if_neg e1, if_pos e2]
          exact ⟨trivial, trivial, trivial, N, Nat.le_refl _, h⟩
        · have e1 : c.1 < 40 := by rw [h.1]; exact nI_lt (b := 40) (by omega) (by omega)
          have e2 : ¬ mc.1 = 40 := by
            rw [h.2.1]
            intro q
            exact h7 ((nI_eq (b := 40) (by omega) (by omega)).mp q)
          simp only [if_pos e1, if_neg e2]
          rw [h.1, h.2.1, nI_clamp (by omega)]
          have hv : vp_in (nI N) 40 := vp_in_nI (by omega) (by omega)
          exact ⟨⟨hv, hv, hv, hv, trivial⟩, rfl, trivial, N + 1, by omega, cR_add h (by omega) hu (by omega) hd hp⟩
      · simp only [if_neg h6]
        exact ⟨trivial, trivial, trivial, N, Nat.le_refl _, h⟩
  have e1 : (nI u = 1) ↔ u = 1 := nI_eq (b := 1) (by omega) (by omega)
  have e0 : (nI u = 0) ↔ u = 0 := nI_eq (b := 0) (by omega) (by omega)
  by_cases u0 : u = 0
  · simp only [if_pos (e0.mpr u0)]
    exact key (nI d) (by unfold szN; rw [if_neg (by omega), if_neg (by omega)])
  · simp only [if_neg (fun q => u0 (e0.mp q))]
    by_cases u1 : u = 1
    · simp only [if_pos (e1.mpr u1)]
      exact key _ (by
        show nI d / nI 2 + 1 = _
        rw [nI_div (by omega) (by omega), nI_1]
        unfold szN
        rw [if_neg (by omega), if_pos u1])
    · simp only [if_neg (fun q => u1 (e1.mp q))]
      exact key 4 (by unfold szN; rw [if_pos (by omega)]; rfl)
/-! how many rows: no matter how deep -/
theorem ln_d {N M : Nat} {c : CS} {t : TS} (hT : tOK N M c t) : ∀ (k d d' : Nat), 1 ≤ k → k ≤ M → k ≤ d → k ≤ d' → ln t d k = ln t d' k := by
  have hM2 := hT.2.2.2.1
  intro k
  induction k using Nat.strongRecOn with
  | ind k ih =>
    intro d d' h1 h2 h3 h4
    obtain ⟨d, rfl⟩ : ∃ e, d = e + 1 := ⟨d - 1, by omega⟩
    obtain ⟨d', rfl⟩ : ∃ e, d' = e + 1 := ⟨d' - 1, by omega⟩
    rcases hT.2.2.2.2 k h1 h2 with ⟨hf, hv⟩ | ⟨hf, hk | hk | hk | hk | hk | hk⟩
    · rw [(cd_f (b := 0) hf).2, (cd_f (b := 0) hf).2]
    · obtain ⟨hk, a, haN, ha⟩ := hk
      rw [(cd_1 (b := 0) hf hk ha).2, (cd_1 (b := 0) hf hk ha).2]
    · obtain ⟨hk, a, j, haN, ha, hj, hj1, hj2, hjv⟩ := hk
      rw [(cd_2 (b := 0) hf hk ha hj (by omega)).2, (cd_2 (b := 0) hf hk ha hj (by omega)).2, ih j (by omega) d d' (by omega) (by omega) (by omega) (by omega)]
    · obtain ⟨hk, a, j, p, q, haN, ha, hj, hj1, hj2, hp, hq, hp1, hp2, hq1, hq2, hpv, hqv⟩ := hk
      rw [(cd_10 (b := 0) hf hk ha hj hp hq (by omega) (by omega) (by omega)).2, (cd_10 (b := 0) hf hk ha hj hp hq (by omega) (by omega) (by omega)).2, ih p (by omega) d d' (by omega) (by omega) (by omega) (by omega), ih q (by omega) d d' (by omega) (by omega) (by omega) (by omega)]
    · obtain ⟨hk, i, j, hi, hj, hi1, hi2, hj1, hj2⟩ := hk
      rw [(cd_11 (b := 0) hf hk hi hj (by omega) (by omega)).2, (cd_11 (b := 0) hf hk hi hj (by omega) (by omega)).2, ih i (by omega) d d' (by omega) (by omega) (by omega) (by omega), ih j (by omega) d d' (by omega) (by omega) (by omega) (by omega)]
    · obtain ⟨hk | hk, i, j, hi, hj, hi1, hi2, hj1, hj2, hiv⟩ := hk
      · rw [(cd_12 (b := 0) hf hk hi hj (by omega) (by omega)).2, (cd_12 (b := 0) hf hk hi hj (by omega) (by omega)).2, ih i (by omega) d d' (by omega) (by omega) (by omega) (by omega), ih j (by omega) d d' (by omega) (by omega) (by omega) (by omega)]
      · rw [(cd_13 (b := 0) hf hk hi hj (by omega) (by omega)).2, (cd_13 (b := 0) hf hk hi hj (by omega) (by omega)).2, ih i (by omega) d d' (by omega) (by omega) (by omega) (by omega), ih j (by omega) d d' (by omega) (by omega) (by omega) (by omega)]
    · obtain ⟨⟨hk1, hk2⟩, i, j, hi, hj, hi1, hi2, hj1, hj2, hiv, hjv⟩ := hk
      rw [(cd_r (b := 0) hf hk1 hk2 hi hj (by omega) (by omega)).2, (cd_r (b := 0) hf hk1 hk2 hi hj (by omega) (by omega)).2, ih i (by omega) d d' (by omega) (by omega) (by omega) (by omega), ih j (by omega) d d' (by omega) (by omega) (by omega) (by omega)]
/-- nodes 1..M are the same -/
def agr (M : Nat) (t t' : TS) : Prop := ∀ j, 1 ≤ j → j ≤ M → kd t' j = kd t j ∧ fa t' j = fa t j ∧ sb t' j = sb t j ∧ fo t' j = fo t j
theorem agr_dl {M : Nat} {t t' : TS} (h : agr M t t') {j : Nat} (h1 : 1 ≤ j) (h2 : j ≤ M) : dl t' j = dl t j := by
  unfold dl isV
  rw [(h j h1 h2).1]
theorem ln_c {N M : Nat} {c : CS} {t t' : TS} (hT : tOK N M c t) (hA : agr M t t') : ∀ (d k : Nat), 1 ≤ k → k ≤ M → k ≤ d → ln t' d k = ln t d k := by
  have hM2 := hT.2.2.2.1
  intro d
  induction d with
  | zero => intro k h1 h2 h3; omega
  | succ d ih =>
    intro k h1 h2 h3
    obtain ⟨e1, e2, e3, e4⟩ := hA k h1 h2
    rcases hT.2.2.2.2 k h1 h2 with ⟨hf, hv⟩ | ⟨hf, hk | hk | hk | hk | hk | hk⟩
    · rw [(cd_f (b := 0) hf).2, (cd_f (b := 0) (e4.trans hf)).2]
    · obtain ⟨hk, a, haN, ha⟩ := hk
      rw [(cd_1 (b := 0) hf hk ha).2, (cd_1 (b := 0) (e4.trans hf) (e1.trans hk) (e2.trans ha)).2]
    · obtain ⟨hk, a, j, haN, ha, hj, hj1, hj2, hjv⟩ := hk
      rw [(cd_2 (b := 0) hf hk ha hj (by omega)).2, (cd_2 (b := 0) (e4.trans hf) (by rw [e1]; exact hk) (e2.trans ha) (e3.trans hj) (by omega)).2, ih j (by omega) (by omega) (by omega)]
    · obtain ⟨hk, a, j, p, q, haN, ha, hj, hj1, hj2, hp, hq, hp1, hp2, hq1, hq2, hpv, hqv⟩ := hk
      obtain ⟨f1, f2, f3, f4⟩ := hA j hj1 (by omega)
      rw [(cd_10 (b := 0) hf hk ha hj hp hq (by omega) (by omega) (by omega)).2, (cd_10 (b := 0) (e4.trans hf) (e1.trans hk) (e2.trans ha) (e3.trans hj) (f2.trans hp) (f3.trans hq) (by omega) (by omega) (by omega)).2, ih p (by omega) (by omega) (by omega), ih q (by omega) (by omega) (by omega)]
    · obtain ⟨hk, i, j, hi, hj, hi1, hi2, hj1, hj2⟩ := hk
      rw [(cd_11 (b := 0) hf hk hi hj (by omega) (by omega)).2, (cd_11 (b := 0) (e4.trans hf) (e1.trans hk) (e2.trans hi) (e3.trans hj) (by omega) (by omega)).2, ih i (by omega) (by omega) (by omega), ih j (by omega) (by omega) (by omega), agr_dl hA hi1 (by omega), agr_dl hA hj1 (by omega)]
    · obtain ⟨hk | hk, i, j, hi, hj, hi1, hi2, hj1, hj2, hiv⟩ := hk
      · rw [(cd_12 (b := 0) hf hk hi hj (by omega) (by omega)).2, (cd_12 (b := 0) (e4.trans hf) (e1.trans hk) (e2.trans hi) (e3.trans hj) (by omega) (by omega)).2, ih i (by omega) (by omega) (by omega), ih j (by omega) (by omega) (by omega), agr_dl hA hj1 (by omega)]
      · rw [(cd_13 (b := 0) hf hk hi hj (by omega) (by omega)).2, (cd_13 (b := 0) (e4.trans hf) (e1.trans hk) (e2.trans hi) (e3.trans hj) (by omega) (by omega)).2, ih i (by omega) (by omega) (by omega), ih j (by omega) (by omega) (by omega), agr_dl hA hj1 (by omega)]
    · obtain ⟨⟨hk1, hk2⟩, i, j, hi, hj, hi1, hi2, hj1, hj2, hiv, hjv⟩ := hk
      rw [(cd_r (b := 0) hf hk1 hk2 hi hj (by omega) (by omega)).2, (cd_r (b := 0) (e4.trans hf) (by rw [e1]; exact hk1) (by rw [e1]; exact hk2) (e2.trans hi) (e3.trans hj) (by omega) (by omega)).2, ih i (by omega) (by omega) (by omega), ih j (by omega) (by omega) (by omega)]
