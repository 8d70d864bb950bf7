/-! storing in a cell -/
def oK (o : Nat) (mb mb' : AI) : Prop := ∀ i, (i < o ∨ o + 64 ≤ i) → mb' i = mb i
theorem lN_div {a b : Nat} (ha : a < 2 ^ 63) (hb : b < 2 ^ 62) (h0 : 0 < b) : lN a / lN b = lN (a / b) := by
  apply Int64.toInt_inj.mp
  have h : a / b ≤ a := Nat.div_le_self _ _
  rw [Int64.toInt_div_of_ne_right _ _ (by
    intro e
    have := congrArg Int64.toInt e
    rw [pf_lI (by omega)] at this
    have : (-1 : Int64).toInt = -1 := by decide
    omega), pf_lI ha, pf_lI (by omega), pf_lI (by omega), Int.tdiv_eq_ediv_of_nonneg (by omega)]
  exact (Int.natCast_ediv a b).symm
theorem lN_dig {a : Nat} (ha : a < 2 ^ 62) : lN a - lN a / 10 * 10 = lN (a % 10) := by
  show lN a - lN a / lN 10 * lN 10 = _
  rw [lN_div (by omega) (by omega) (by omega), lN_mul, lN_sub (by omega)]
  congr 1
  omega
theorem ten_is {d : Nat} (hd : d ≤ 9) : ∀ (k i fu : Nat) (T : Int64), i + k = d → k + 1 ≤ fu → OK_X5_ten_L4 (nI d) fu T (nI i) ∧ G_X5_ten_L4 (nI d) fu T (nI i) = T * lN (10 ^ k) := by
  intro k
  induction k with
  | zero =>
    intro i fu T hi hf
    obtain ⟨f, rfl⟩ : ∃ f, fu = f + 1 := ⟨fu - 1, by omega⟩
    rw [OK_X5_ten_L4, G_X5_ten_L4, if_pos (nI_le (by omega) (by omega)), if_pos (nI_le (by omega) (by omega))]
    exact ⟨trivial, (Int64.mul_one T).symm⟩
  | succ k ih =>
    intro i fu T hi hf
    obtain ⟨f, rfl⟩ : ∃ f, fu = f + 1 := ⟨fu - 1, by omega⟩
    rw [OK_X5_ten_L4, G_X5_ten_L4, if_neg (nI_ge (by omega) (by omega)), if_neg (nI_ge (by omega) (by omega)), nI_1]
    obtain ⟨o, e⟩ := ih (i + 1) f (T * 10) (by omega) (by omega)
    refine ⟨o, e.trans ?_⟩
    rw [Int64.mul_assoc]
    congr 1
    show lN 10 * lN (10 ^ k) = _
    rw [lN_mul, Nat.pow_succ, Nat.mul_comm]
theorem tdiv_nn (a : Int) (m n : Nat) : (a.tdiv (m : Int)).tdiv (n : Int) = a.tdiv ((m * n : Nat) : Int) := by
  have e : ∀ x y : Nat, (x : Int).tdiv (y : Int) = ((x / y : Nat) : Int) := fun _ _ => rfl
  obtain ⟨k, h⟩ := Int.eq_nat_or_neg a
  cases h with
  | inl h => rw [h, e, e, e, Nat.div_div_eq_div_mul]
  | inr h => rw [h, Int.neg_tdiv, Int.neg_tdiv, Int.neg_tdiv, e, e, e, Nat.div_div_eq_div_mul]
theorem lN_ne {x : Nat} (h : x < 2 ^ 62) : lN x ≠ -1 := fun e => by
  have := congrArg Int64.toInt e
  rw [pf_lI (by omega)] at this
  have : (-1 : Int64).toInt = -1 := by decide
  omega
theorem l_div2 (v : Int64) {a b : Nat} (ha : a < 2 ^ 62) (hb : b < 2 ^ 62) (hc : a * b < 2 ^ 62) : v / lN a / lN b = v / lN (a * b) := by
  apply Int64.toInt_inj.mp
  rw [Int64.toInt_div_of_ne_right _ _ (lN_ne hb), Int64.toInt_div_of_ne_right _ _ (lN_ne ha), Int64.toInt_div_of_ne_right _ _ (lN_ne hc), pf_lI (a := a) (Nat.lt_trans ha (by decide)), pf_lI (a := b) (Nat.lt_trans hb (by decide)), pf_lI (a := a * b) (Nat.lt_trans hc (by decide)), tdiv_nn]
theorem l_mid (v a b : Int64) : v - a + (a - b) = v - b := by
  rw [Int64.sub_eq_add_neg a b, ← Int64.add_assoc, Int64.sub_add_cancel, ← Int64.sub_eq_add_neg]
theorem p10_r {d : Nat} (hd : d ≤ 9) : 1 ≤ 10 ^ d ∧ 10 ^ d ≤ 1000000000 := ⟨Nat.one_le_pow _ _ (by omega), Nat.pow_le_pow_right (by omega) hd⟩
def wD (v : Int64) (d : Nat) : Int64 := v - v / lN (10 ^ d) * lN (10 ^ d)
theorem low_is {d : Nat} (hd : d ≤ 9) (v : Int64) : ∀ (k i fu : Nat) (K R U : Int64), i + k = d → k + 1 ≤ fu → U = lN (10 ^ i) → R = v / lN (10 ^ i) → K = v - R * U → G_X0_lowestDigits_L11 v (nI d) fu K R U (nI i) = wD v d := by
  intro k
  induction k with
  | zero =>
    intro i fu K R U hi hf hU hR hK
    obtain ⟨f, rfl⟩ : ∃ f, fu = f + 1 := ⟨fu - 1, by omega⟩
    have e : i = d := hi
    rw [G_X0_lowestDigits_L11, if_pos (nI_le (by omega) (by omega)), hK, hR, hU, e]
    rfl
  | succ k ih =>
    intro i fu K R U hi hf hU hR hK
    obtain ⟨f, rfl⟩ : ∃ f, fu = f + 1 := ⟨fu - 1, by omega⟩
    have e9 : ¬ (9 : Int32) ≤ nI i := nI_ge (b := 9) (by omega) (by omega)
    have hq := (p10_r (d := i) (by omega)).2
    have e1 : 10 ^ i * 10 = 10 ^ (i + 1) := by rw [Nat.pow_succ]
    rw [G_X0_lowestDigits_L11, if_neg (nI_ge (by omega) (by omega)), if_neg e9, nI_1]
    refine ih (i + 1) f _ _ _ (by omega) (by omega) ?_ ?_ ?_
    · rw [hU, ← e1]
      exact lN_mul (10 ^ i) 10
    · rw [hR, ← e1]
      exact l_div2 v (b := 10) (by omega) (by omega) (by omega)
    · rw [hK, Int64.sub_mul, Int64.mul_assoc (R / 10) 10 U, Int64.mul_comm 10 U]
      exact l_mid _ _ _
theorem wD_ten {d : Nat} (hd : d ≤ 9) : OK_X5_ten (nI d) ∧ G_X5_ten (nI d) = lN (10 ^ d) := by
  obtain ⟨o, e⟩ := ten_is hd d 0 12 1 (by omega) (by omega)
  exact ⟨o, e.trans (Int64.one_mul _)⟩
theorem wD_low {d : Nat} (hd : d ≤ 9) (v : Int64) : G_X0_lowestDigits v (nI d) = wD v d :=
  low_is hd v d 0 20 0 v 1 (by omega) (by omega) rfl (Int64.div_one (a := v)).symm (by rw [Int64.mul_one, Int64.sub_self])
theorem wD_r {d : Nat} (hd : d ≤ 9) (v : Int64) : -(10 ^ d : Nat) < (wD v d).toInt ∧ (wD v d).toInt < (10 ^ d : Nat) := by
  obtain ⟨h1, h2⟩ := p10_r hd
  have eT : (lN (10 ^ d)).toInt = ((10 ^ d : Nat) : Int) := pf_lI (by omega)
  have ne : lN (10 ^ d) ≠ -1 := fun e => by
    have := congrArg Int64.toInt e
    rw [eT] at this
    have : (-1 : Int64).toInt = -1 := by decide
    omega
  have b1 : v.toInt.tmod ((10 ^ d : Nat) : Int) < ((10 ^ d : Nat) : Int) := Int.tmod_lt_of_pos _ (by omega)
  have b2 : -((10 ^ d : Nat) : Int) < v.toInt.tmod ((10 ^ d : Nat) : Int) := Int.lt_tmod_of_pos _ (by omega)
  have e : (wD v d).toInt = v.toInt.tmod ((10 ^ d : Nat) : Int) := by
    unfold wD
    rw [Int64.toInt_sub, Int64.toInt_mul, Int64.toInt_div_of_ne_right _ _ ne, eT, Int.sub_bmod_bmod]
    have : v.toInt - v.toInt.tdiv ((10 ^ d : Nat) : Int) * ((10 ^ d : Nat) : Int) = v.toInt.tmod ((10 ^ d : Nat) : Int) := by
      have := Int.tdiv_mul_add_tmod v.toInt ((10 ^ d : Nat) : Int)
      omega
    rw [this]
    exact Int.bmod_eq_of_le (by omega) (by omega)
  rw [e]
  exact ⟨b2, b1⟩
/-- the size of a number kept -/
theorem wD_abs {d : Nat} (hd : d ≤ 9) (v : Int64) : (0 ≤ lg_cmp (wD v d) 0 → ∃ R, R < 10 ^ d ∧ wD v d = lN R) ∧ (¬ 0 ≤ lg_cmp (wD v d) 0 → ∃ R, R < 10 ^ d ∧ -(wD v d) = lN R) := by
  obtain ⟨b2, b1⟩ := wD_r hd v
  obtain ⟨h1, h2⟩ := p10_r hd
  have e0 : (0 : Int64).toInt = 0 := by decide
  refine ⟨fun h => ?_, fun h => ?_⟩
  · rw [lg_cmp_ge, Int64.le_iff_toInt_le, e0] at h
    refine ⟨(wD v d).toInt.toNat, by omega, Int64.toInt_inj.mp ?_⟩
    rw [pf_lI (by omega)]
    omega
  · rw [lg_cmp_ge, Int64.le_iff_toInt_le, e0] at h
    refine ⟨(-(wD v d).toInt).toNat, by omega, Int64.toInt_inj.mp ?_⟩
    rw [pf_lI (by omega), Int64.toInt_neg, Int.bmod_eq_of_le (by omega) (by omega)]
    omega
section WR
variable {mb mbv : AI} {σ : Nat} {f : AI} {mc : MC} {n : Int32} {v : Int64}
theorem lay_is (h : bR mbv (64 * σ) f) (ho : oK (64 * σ) mb mbv) (hs : σ ≤ 1) {j : Nat} (hj : j < 64) {y y' : Int32} (hy : y = y') : OK_X5_lay mbv (nI σ) (nI j) y ∧ bR (G_X5_lay mbv (nI σ) (nI j) y) (64 * σ) (upd f j (vp_nar .byte y'.toInt8.toInt32)) ∧ oK (64 * σ) mb (G_X5_lay mbv (nI σ) (nI j) y) := by
  subst hy
  unfold OK_X5_lay G_X5_lay
  rw [off_is, nI_clamp (by omega)]
  refine ⟨⟨vp_in_nI (by omega) (by omega), trivial⟩, fun i hi => ?_, fun i hi => ?_⟩
  · by_cases e : i = j
    · subst e
      rw [pk_us, pk_us]
    · rw [pk_un (by omega), pk_un e]
      exact h i hi
  · rw [pk_un (by omega)]
    exact ho i hi
theorem pm1 {p : Nat} (h : p < 2 ^ 30) : nI (p + 0) - (1 : Int32) < nI p := by
  have t1 := nI_toInt (n := p) (by omega)
  have t2 : (1 : Int32).toInt = 1 := by decide
  show nI p - 1 < nI p
  rw [i32_lt, i32_sub (by rw [t1, t2]; omega) (by rw [t1, t2]; omega), t1, t2]
  omega
theorem idx_1 (k : Nat) : nI k + (-1 : Int32) = nI k - 1 := (Int32.sub_eq_add_neg (nI k) 1).symm
theorem sgn_byte (r : Int64) (sg : Int32) : (48 : Int32) + (r - r / 10 * 10).toInt32 + sg = ((48 : Int64) + (r - r / 10 * 10) + sg.toInt64).toInt32 := by
  rw [Int64.toInt32_add, Int64.toInt32_add, Int32.toInt32_toInt64]
  rfl
theorem store_z (hs : σ ≤ 1) {x : SS} {p d : Nat} {v' wv : Int64} (hp : p + d ≤ 64) (hd : d ≤ 9) : ∀ (k f1 f2 : Nat) (R : Int64) (mbv : AI) (xv : SS), k < d → k + 1 ≤ f1 → k + 1 ≤ f2 → bR mbv (64 * σ) xv.1 → oK (64 * σ) mb mbv →
    OK_X5_store_L100 mb mc (nI σ) n (nI p) v f2 (nI d) wv R (nI k - 1) mbv ∧ bR (G_X5_store_L100 mb mc (nI σ) n (nI p) v f2 (nI d) wv R (nI k - 1) mbv) (64 * σ) (G_X0_writeZoned_L45 x (nI p) (nI d) v' f1 R 0 (nI (p + k) - 1) xv).1 ∧ oK (64 * σ) mb (G_X5_store_L100 mb mc (nI σ) n (nI p) v f2 (nI d) wv R (nI k - 1) mbv) := by
  intro k
  induction k with
  | zero =>
    intro f1 f2 R mbv xv hk h1 h2 hb ho
    obtain ⟨f1, rfl⟩ : ∃ f, f1 = f + 1 := ⟨f1 - 1, by omega⟩
    obtain ⟨f2, rfl⟩ : ∃ f, f2 = f + 1 := ⟨f2 - 1, by omega⟩
    have e1 : nI 0 - (1 : Int32) < 0 := by decide
    have e2 : nI (p + 0) - (1 : Int32) < nI p := pm1 (by omega)
    rw [OK_X5_store_L100, G_X5_store_L100, G_X0_writeZoned_L45, if_pos e1, if_pos e1, if_pos e2]
    exact ⟨trivial, hb, ho⟩
  | succ k ih =>
    intro f1 f2 R mbv xv hk h1 h2 hb ho
    obtain ⟨f1, rfl⟩ : ∃ f, f1 = f + 1 := ⟨f1 - 1, by omega⟩
    obtain ⟨f2, rfl⟩ : ∃ f, f2 = f + 1 := ⟨f2 - 1, by omega⟩
    have n1 : ¬ nI k = nI d - 1 := by
      have e : nI d - (1 : Int32) = nI (d - 1) := nI_sub (b := 1) (by omega)
      rw [e, nI_eq (by omega) (by omega)]
      omega
    obtain ⟨l1, l2, l3⟩ := lay_is (mb := mb) hb ho hs (j := p + k) (by omega) (sgn_byte R 0)
    obtain ⟨q1, q2, q3⟩ := ih f1 f2 (R / 10) _ (upd xv.1 (p + k) (vp_nar .byte ((((48 : Int64) + (R - R / 10 * 10)) + (0 : Int32).toInt64).toInt32.toInt8.toInt32)), xv.2.1, xv.2.2) (by omega) (by omega) (by omega) l2 l3
    rw [OK_X5_store_L100, G_X5_store_L100, G_X0_writeZoned_L45, nI_pred, ← Nat.add_assoc, nI_pred, if_neg (nI_pos (by omega)), if_neg (nI_pos (by omega)), if_neg n1, if_neg n1, nI_add p k, if_neg (nI_nlt (by omega) (by omega)), nI_clamp (by omega), idx_1, idx_1]
    exact ⟨⟨l1, q1⟩, q2, q3⟩
theorem store_z1 (hs : σ ≤ 1) {x : SS} {p d : Nat} {v' wv : Int64} (hp : p + d ≤ 64) (hd1 : 1 ≤ d) (hd : d ≤ 9) (R : Int64) (hb : bR mb (64 * σ) x.1) (sg : Int32) (hsg : sg = if 0 ≤ lg_cmp wv 0 then 0 else 64) :
    OK_X5_store_L100 mb mc (nI σ) n (nI p) v 12 (nI d) wv R (nI d - 1) mb ∧ bR (G_X5_store_L100 mb mc (nI σ) n (nI p) v 12 (nI d) wv R (nI d - 1) mb) (64 * σ) (G_X0_writeZoned_L45 x (nI p) (nI d) v' 70 R sg (nI (p + d) - 1) x).1 ∧ oK (64 * σ) mb (G_X5_store_L100 mb mc (nI σ) n (nI p) v 12 (nI d) wv R (nI d - 1) mb) := by
  obtain ⟨k, rfl⟩ : ∃ k, d = k + 1 := ⟨d - 1, by omega⟩
  have e1 : nI k = nI (k + 1) - 1 := (nI_pred k).symm
  obtain ⟨l1, l2, l3⟩ := lay_is (mb := mb) hb (fun i _ => rfl) hs (j := p + k) (by omega) (sgn_byte R sg)
  obtain ⟨q1, q2, q3⟩ := store_z (v := v) (n := n) (mc := mc) (x := x) (v' := v') (wv := wv) hs hp hd k 69 11 (R / 10) _ (upd x.1 (p + k) (vp_nar .byte ((((48 : Int64) + (R - R / 10 * 10)) + sg.toInt64).toInt32.toInt8.toInt32)), x.2.1, x.2.2) (by omega) (by omega) (by omega) l2 l3
  rw [OK_X5_store_L100, G_X5_store_L100, G_X0_writeZoned_L45, nI_pred, ← Nat.add_assoc, nI_pred, if_neg (nI_pos (by omega)), if_neg (nI_pos (by omega)), if_pos rfl, if_pos rfl, nI_add p k, if_neg (nI_nlt (by omega) (by omega)), nI_clamp (by omega), idx_1, idx_1]
  by_cases h0 : 0 ≤ lg_cmp wv 0
  · rw [if_pos h0] at hsg
    subst hsg
    rw [if_pos h0, if_pos h0]
    exact ⟨⟨l1, q1⟩, q2, q3⟩
  · rw [if_neg h0] at hsg
    subst hsg
    rw [if_neg h0, if_neg h0]
    exact ⟨⟨l1, q1⟩, q2, q3⟩
/-- digits as halves of bytes -/
def enc : Nat → Nat → Nat
  | 0, _ => 0
  | k + 1, R => R % 10 + 16 * enc k (R / 10)
theorem enc_lt : ∀ (k R : Nat), enc k R < 16 ^ k := by
  intro k
  induction k with
  | zero => intro R; show 0 < 1; omega
  | succ k ih =>
    intro R
    have := ih (R / 10)
    show R % 10 + 16 * enc k (R / 10) < _
    rw [Nat.pow_succ]
    omega
theorem enc_0 : ∀ k : Nat, enc k 0 = 0 := by
  intro k
  induction k with
  | zero => rfl
  | succ k ih =>
    show 0 % 10 + 16 * enc k (0 / 10) = 0
    rw [show 0 / 10 = 0 from rfl, ih]
theorem enc_more (e : Nat) : ∀ (k R : Nat), R < 10 ^ k → enc (k + e) R = enc k R := by
  intro k
  induction k with
  | zero =>
    intro R h
    have : R = 0 := by have : R < 1 := h; omega
    subst this
    rw [enc_0]
    rfl
  | succ k ih =>
    intro R h
    rw [Nat.add_right_comm]
    show R % 10 + 16 * enc (k + e) (R / 10) = R % 10 + 16 * enc k (R / 10)
    rw [ih (R / 10) (by rw [Nat.pow_succ] at h; omega)]
theorem store_p0 {d : Nat} (hd : d ≤ 9) {p : Int32} (hn : vp_in n 40) : ∀ (k i fu R A U : Nat), i + k = d → k + 1 ≤ fu → R < 2 ^ 62 →
    (OK_X5_store_L243 mb mc (nI σ) n p v 12 (lN (A + U * enc k R)) (mc.2.2.2.1 n.toNatClampNeg - 1) mb → OK_X5_store_L190 mb mc (nI σ) n p v fu (nI d) (lN R) (lN A) (lN U) (nI i)) ∧ G_X5_store_L190 mb mc (nI σ) n p v fu (nI d) (lN R) (lN A) (lN U) (nI i) = G_X5_store_L243 mb mc (nI σ) n p v 12 (lN (A + U * enc k R)) (mc.2.2.2.1 n.toNatClampNeg - 1) mb := by
  intro k
  induction k with
  | zero =>
    intro i fu R A U hi hf hR
    obtain ⟨f, rfl⟩ : ∃ f, fu = f + 1 := ⟨fu - 1, by omega⟩
    rw [OK_X5_store_L190, G_X5_store_L190, if_pos (nI_le (by omega) (by omega)), if_pos (nI_le (by omega) (by omega))]
    exact ⟨fun h => ⟨hn, h⟩, rfl⟩
  | succ k ih =>
    intro i fu R A U hi hf hR
    obtain ⟨f, rfl⟩ : ∃ f, fu = f + 1 := ⟨fu - 1, by omega⟩
    have hR' : R / 10 ≤ R := Nat.div_le_self _ _
    have e1 : lN R / 10 = lN (R / 10) := lN_div (b := 10) (by omega) (by omega) (by omega)
    have e2 : lN A + lN U * (lN R - lN R / 10 * 10) = lN (A + U * (R % 10)) := by rw [lN_dig hR, lN_mul, lN_add]
    have e3 : lN U * 16 = lN (U * 16) := lN_mul U 16
    have e4 : A + U * (R % 10) + U * 16 * enc k (R / 10) = A + U * enc (k + 1) R := by
      show _ = A + U * (R % 10 + 16 * enc k (R / 10))
      rw [Nat.mul_add, Nat.mul_assoc, Nat.add_assoc]
    have := ih (i + 1) f (R / 10) (A + U * (R % 10)) (U * 16) (by omega) (by omega) (by omega)
    rw [e4] at this
    rw [OK_X5_store_L190, G_X5_store_L190, if_neg (nI_ge (by omega) (by omega)), if_neg (nI_ge (by omega) (by omega)), e2, e1, e3, nI_1]
    exact this
theorem pk_byte : ∀ a, a < 10 → ∀ T, T < 16 → (nI a <<< ((4 : Int32) &&& 31) ||| nI T) = nI (16 * a + T) := by decide +kernel
theorem store_p (hs : σ ≤ 1) {x : SS} {p d z : Nat} {v' : Int64} (hp : p + z ≤ 64) : ∀ (k f1 f2 m R T A : Nat) (mbv : AI) (xv : SS), k ≤ z → k + 1 ≤ f1 → k + 1 ≤ f2 → 2 * k ≤ m → A = T + 16 * enc m R → T < 16 → R < 2 ^ 60 → A < 2 ^ 61 → bR mbv (64 * σ) xv.1 → oK (64 * σ) mb mbv →
    OK_X5_store_L243 mb mc (nI σ) n (nI p) v f2 (lN A) (nI k - 1) mbv ∧ bR (G_X5_store_L243 mb mc (nI σ) n (nI p) v f2 (lN A) (nI k - 1) mbv) (64 * σ) (G_X0_writePacked_L55 x (nI p) (nI d) v' f1 (lN R) (nI T) (nI (p + k) - 1) xv).1 ∧ oK (64 * σ) mb (G_X5_store_L243 mb mc (nI σ) n (nI p) v f2 (lN A) (nI k - 1) mbv) := by
  intro k
  induction k with
  | zero =>
    intro f1 f2 m R T A mbv xv hk h1 h2 hm hA hT hR hA2 hb ho
    obtain ⟨f1, rfl⟩ : ∃ f, f1 = f + 1 := ⟨f1 - 1, by omega⟩
    obtain ⟨f2, rfl⟩ : ∃ f, f2 = f + 1 := ⟨f2 - 1, by omega⟩
    have e1 : nI 0 - (1 : Int32) < 0 := by decide
    have e2 : nI (p + 0) - (1 : Int32) < nI p := pm1 (by omega)
    rw [OK_X5_store_L243, G_X5_store_L243, G_X0_writePacked_L55, if_pos e1, if_pos e1, if_pos e2]
    exact ⟨trivial, hb, ho⟩
  | succ k ih =>
    intro f1 f2 m R T A mbv xv hk h1 h2 hm hA hT hR hA2 hb ho
    obtain ⟨f1, rfl⟩ : ∃ f, f1 = f + 1 := ⟨f1 - 1, by omega⟩
    obtain ⟨f2, rfl⟩ : ∃ f, f2 = f + 1 := ⟨f2 - 1, by omega⟩
    obtain ⟨m, rfl⟩ : ∃ m', m = m' + 1 + 1 := ⟨m - 2, by omega⟩
    have hen : enc (m + 1 + 1) R = R % 10 + 16 * (R / 10 % 10 + 16 * enc m (R / 10 / 10)) := rfl
    rw [hen] at hA
    have hR1 : R / 10 ≤ R := Nat.div_le_self _ _
    have a1 : lN A &&& 255 = lN (A % 256) := g_mask (a := A) (s := 8) (p := 256) (by decide) (by omega) (by omega)
    have a2 : lN A >>> ((8 : Int32).toInt64 &&& 63) = lN (A / 256) := pf_shr (d := 8) (by decide) (by omega)
    have a3 : lN R - lN R / 10 * 10 = lN (R % 10) := lN_dig (by omega)
    have a4 : lN R / 10 = lN (R / 10) := lN_div (b := 10) (by omega) (by omega) (by omega)
    have a5 : lN R / 100 = lN (R / 10 / 10) := by
      rw [Nat.div_div_eq_div_mul]
      exact lN_div (b := 100) (by omega) (by omega) (by omega)
    have a6 : lN R / 10 - lN R / 10 / 10 * 10 = lN (R / 10 % 10) := by
      rw [a4]
      exact lN_dig (by omega)
    have hy : (lN A &&& 255).toInt32 = ((lN R - lN R / 10 * 10).toInt32 <<< ((4 : Int32) &&& 31) ||| nI T) := by
      rw [a1, a3, lN_i, lN_i, pk_byte _ (Nat.mod_lt _ (by omega)) T hT]
      congr 1
      omega
    obtain ⟨l1, l2, l3⟩ := lay_is (mb := mb) hb ho hs (j := p + k) (by omega) hy
    obtain ⟨q1, q2, q3⟩ := ih f1 f2 m (R / 10 / 10) (R / 10 % 10) (A / 256) _ (upd xv.1 (p + k) (vp_nar .byte (((lN R - lN R / 10 * 10).toInt32 <<< ((4 : Int32) &&& 31) ||| nI T).toInt8.toInt32)), xv.2.1, xv.2.2) (by omega) (by omega) (by omega) (by omega) (by omega) (by omega) (by omega) (by omega) l2 l3
    rw [OK_X5_store_L243, G_X5_store_L243, G_X0_writePacked_L55, nI_pred, ← Nat.add_assoc, nI_pred, if_neg (nI_pos (by omega)), if_neg (nI_pos (by omega)), nI_add p k, if_neg (nI_nlt (by omega) (by omega)), nI_clamp (by omega), idx_1, idx_1, a2, a5, a6, lN_i]
    exact ⟨⟨l1, q1⟩, q2, q3⟩
theorem s64 {w D : Int64} {d : Nat} (hD : (D.toBitVec.smod 64).toNat = d) : (w >>> D).toInt = w.toInt / 2 ^ d := by
  have e : (w >>> D).toInt = w.toInt >>> d := by
    rw [← hD]
    exact BitVec.toInt_sshiftRight ..
  rw [e, Int.shiftRight_eq_div_pow]
  rfl
theorem s32 (x : Int32) : (x >>> ((8 : Int32) &&& 31)).toInt = x.toInt / 256 := by
  have e : (x >>> ((8 : Int32) &&& 31)).toInt = x.toInt >>> 8 := by
    have hD : (((8 : Int32) &&& 31).toBitVec.smod 32).toNat = 8 := by decide
    rw [← hD]
    exact BitVec.toInt_sshiftRight ..
  rw [e, Int.shiftRight_eq_div_pow]
  rfl
theorem store_b (hs : σ ≤ 1) {x : SS} {p : Nat} {w : Int64} (hw1 : -1000000000 < w.toInt) (hw2 : w.toInt < 1000000000) (hp : p + 4 ≤ 64) (hb : bR mb (64 * σ) x.1) :
    OK_X5_store_L49 mb mc (nI σ) n (nI p) v 6 w 0 mb ∧ bR (G_X5_store_L49 mb mc (nI σ) n (nI p) v 6 w 0 mb) (64 * σ) (G_X0_writeBinary_L19 x (nI p) w.toInt32 10 w.toInt32 (nI p + 4 - 1) x).1 ∧ oK (64 * σ) mb (G_X5_store_L49 mb mc (nI σ) n (nI p) v 6 w 0 mb) := by
  have e0 : w.toInt32.toInt = w.toInt := i64_32 (by omega) (by omega)
  have y3 : (w >>> (((24 : Int32) - (8 : Int32) * nI 3).toInt64 &&& 63)).toInt32 = w.toInt32 := Int32.toInt_inj.mp (by
    have t := s64 (w := w) (D := ((24 : Int32) - (8 : Int32) * nI 3).toInt64 &&& 63) (d := 0) (by decide)
    rw [i64_32 (by rw [t]; omega) (by rw [t]; omega), t, e0]
    omega)
  have y2 : (w >>> (((24 : Int32) - (8 : Int32) * nI 2).toInt64 &&& 63)).toInt32 = w.toInt32 >>> ((8 : Int32) &&& 31) := Int32.toInt_inj.mp (by
    have t := s64 (w := w) (D := ((24 : Int32) - (8 : Int32) * nI 2).toInt64 &&& 63) (d := 8) (by decide)
    rw [i64_32 (by rw [t]; omega) (by rw [t]; omega), t, s32, e0]
    omega)
  have y1 : (w >>> (((24 : Int32) - (8 : Int32) * nI 1).toInt64 &&& 63)).toInt32 = w.toInt32 >>> ((8 : Int32) &&& 31) >>> ((8 : Int32) &&& 31) := Int32.toInt_inj.mp (by
    have t := s64 (w := w) (D := ((24 : Int32) - (8 : Int32) * nI 1).toInt64 &&& 63) (d := 16) (by decide)
    rw [i64_32 (by rw [t]; omega) (by rw [t]; omega), t, s32, s32, e0]
    omega)
  have y0 : (w >>> (((24 : Int32) - (8 : Int32) * nI 0).toInt64 &&& 63)).toInt32 = w.toInt32 >>> ((8 : Int32) &&& 31) >>> ((8 : Int32) &&& 31) >>> ((8 : Int32) &&& 31) := Int32.toInt_inj.mp (by
    have t := s64 (w := w) (D := ((24 : Int32) - (8 : Int32) * nI 0).toInt64 &&& 63) (d := 24) (by decide)
    rw [i64_32 (by rw [t]; omega) (by rw [t]; omega), t, s32, s32, s32, e0]
    omega)
  obtain ⟨o0, l0, k0⟩ := lay_is (mb := mb) hb (fun i _ => rfl) hs (j := p + 0) (by omega) y0
  obtain ⟨o1, l1, k1⟩ := lay_is (mb := mb) l0 k0 hs (j := p + 1) (by omega) y1
  obtain ⟨o2, l2, k2⟩ := lay_is (mb := mb) l1 k1 hs (j := p + 2) (by omega) y2
  obtain ⟨o3, l3, k3⟩ := lay_is (mb := mb) l2 k2 hs (j := p + 3) (by omega) y3
  have c0 : ¬ (4 : Int32) ≤ nI 0 := by decide
  have c1 : ¬ (4 : Int32) ≤ nI 1 := by decide
  have c2 : ¬ (4 : Int32) ≤ nI 2 := by decide
  have c3 : ¬ (4 : Int32) ≤ nI 3 := by decide
  have c4 : (4 : Int32) ≤ nI 4 := by decide
  have eM : OK_X5_store_L49 mb mc (nI σ) n (nI p) v 6 w (nI 0) mb ∧ G_X5_store_L49 mb mc (nI σ) n (nI p) v 6 w (nI 0) mb = G_X5_lay (G_X5_lay (G_X5_lay (G_X5_lay mb (nI σ) (nI (p + 0)) (w >>> (((24 : Int32) - (8 : Int32) * nI 0).toInt64 &&& 63)).toInt32) (nI σ) (nI (p + 1)) (w >>> (((24 : Int32) - (8 : Int32) * nI 1).toInt64 &&& 63)).toInt32) (nI σ) (nI (p + 2)) (w >>> (((24 : Int32) - (8 : Int32) * nI 2).toInt64 &&& 63)).toInt32) (nI σ) (nI (p + 3)) (w >>> (((24 : Int32) - (8 : Int32) * nI 3).toInt64 &&& 63)).toInt32 := by
    rw [OK_X5_store_L49, G_X5_store_L49, if_neg c0, if_neg c0, nI_1, nI_add]
    rw [OK_X5_store_L49, G_X5_store_L49, if_neg c1, if_neg c1, nI_1, nI_add]
    rw [OK_X5_store_L49, G_X5_store_L49, if_neg c2, if_neg c2, nI_1, nI_add]
    rw [OK_X5_store_L49, G_X5_store_L49, if_neg c3, if_neg c3, nI_1, nI_add]
    rw [OK_X5_store_L49, G_X5_store_L49, if_pos c4, if_pos c4]
    exact ⟨⟨o0, o1, o2, o3, trivial⟩, rfl⟩
  have e4 : nI p + (4 : Int32) - 1 = nI (p + 3) := by
    rw [show nI p + (4 : Int32) = nI (p + 4) from nI_add p 4]
    exact nI_pred (p + 3)
  have m3 : nI (p + 3) + (-1 : Int32) = nI (p + 2) := (idx_1 _).trans (nI_pred (p + 2))
  have m2 : nI (p + 2) + (-1 : Int32) = nI (p + 1) := (idx_1 _).trans (nI_pred (p + 1))
  have m1 : nI (p + 1) + (-1 : Int32) = nI p := (idx_1 _).trans (nI_pred p)
  have m0 : nI p + (-1 : Int32) < nI p := by
    rw [idx_1]
    exact pm1 (by omega)
  have eC : (G_X0_writeBinary_L19 x (nI p) w.toInt32 10 w.toInt32 (nI (p + 3)) x).1 = upd (upd (upd (upd x.1 (p + 3) (vp_nar .byte w.toInt32.toInt8.toInt32)) (p + 2) (vp_nar .byte (w.toInt32 >>> ((8 : Int32) &&& 31)).toInt8.toInt32)) (p + 1) (vp_nar .byte (w.toInt32 >>> ((8 : Int32) &&& 31) >>> ((8 : Int32) &&& 31)).toInt8.toInt32)) p (vp_nar .byte (w.toInt32 >>> ((8 : Int32) &&& 31) >>> ((8 : Int32) &&& 31) >>> ((8 : Int32) &&& 31)).toInt8.toInt32) := by
    rw [G_X0_writeBinary_L19, if_neg (nI_nlt (by omega) (by omega)), nI_clamp (by omega), m3]
    rw [G_X0_writeBinary_L19, if_neg (nI_nlt (by omega) (by omega)), nI_clamp (by omega), m2]
    rw [G_X0_writeBinary_L19, if_neg (nI_nlt (by omega) (by omega)), nI_clamp (by omega), m1]
    rw [G_X0_writeBinary_L19, if_neg (nI_nlt (by omega) (by omega)), nI_clamp (by omega)]
    rw [G_X0_writeBinary_L19, if_pos m0]
  obtain ⟨eM1, eM2⟩ := eM
  refine ⟨eM1, ?_, ?_⟩
  · show bR (G_X5_store_L49 mb mc (nI σ) n (nI p) v 6 w (nI 0) mb) _ _
    rw [eM2, e4, eC]
    intro i hi
    rw [l3 i hi]
    by_cases i3 : i = p + 3
    · subst i3
      rw [pk_us, pk_un (by omega), pk_un (by omega), pk_un (by omega), pk_us]
    · rw [pk_un i3]
      by_cases i2 : i = p + 2
      · subst i2
        rw [pk_us, pk_un (by omega), pk_un (by omega), pk_us]
      · rw [pk_un i2]
        by_cases i1 : i = p + 1
        · subst i1
          rw [pk_us, pk_un (by omega), pk_us]
        · rw [pk_un i1]
          by_cases i0 : i = p
          · subst i0
            rw [pk_us]
            exact pk_us
          · rw [pk_un i0, pk_un i1, pk_un i2, pk_un i3]
            exact pk_un i0
  · show oK _ _ (G_X5_store_L49 mb mc (nI σ) n (nI p) v 6 w (nI 0) mb)
    rw [eM2]
    exact k3
end WR
