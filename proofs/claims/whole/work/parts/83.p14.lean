/-! the reference's kept rows -/
theorem keepL {mk : MK} {mr : MR} {n : Nat} (hn : n ≤ 400) (gd : Int32) : ∀ (j i fu : Nat) (mkv : MK), i + j = n → j + 1 ≤ fu → mkv.1 = nI n → (∀ k, k < i → mkv.2.1 k = mr.2.1 k ∧ mkv.2.2.1 k = mr.2.2.1 k ∧ mkv.2.2.2 k = mr.2.2.2 k) →
    OK_X5_keep_L18 mk mr gd fu (nI i) mkv ∧ ∃ mk', G_X5_keep_L18 mk mr gd fu (nI i) mkv = (if gd = 0 then -1 else mr.1, mk') ∧ mk'.1 = nI n ∧ ∀ k, k < n → mk'.2.1 k = mr.2.1 k ∧ mk'.2.2.1 k = mr.2.2.1 k ∧ mk'.2.2.2 k = mr.2.2.2 k := by
  intro j
  induction j with
  | zero =>
    intro i fu mkv hi hf h1 h2
    obtain ⟨f, rfl⟩ : ∃ f, fu = f + 1 := ⟨fu - 1, by omega⟩
    have hle : mkv.1 ≤ nI i := by rw [h1]; exact nI_le (by omega) (by omega)
    rw [OK_X5_keep_L18, G_X5_keep_L18, if_pos hle, if_pos hle]
    refine ⟨by split <;> trivial, mkv, by split <;> rfl, h1, fun k hk => h2 k (by omega)⟩
  | succ j ih =>
    intro i fu mkv hi hf h1 h2
    obtain ⟨f, rfl⟩ : ∃ f, fu = f + 1 := ⟨fu - 1, by omega⟩
    have hle : ¬ mkv.1 ≤ nI i := by rw [h1]; exact nI_ge (by omega) (by omega)
    have hv : vp_in (nI i) 401 := vp_in_nI (by omega) (by omega)
    rw [OK_X5_keep_L18, G_X5_keep_L18, if_neg hle, if_neg hle, nI_1, nI_clamp (by omega)]
    obtain ⟨o, mk', e, q1, q2⟩ := ih (i + 1) f (mkv.1, upd mkv.2.1 i (mr.2.1 i), upd mkv.2.2.1 i (mr.2.2.1 i), vp_updL mkv.2.2.2 i (mr.2.2.2 i)) (by omega) (by omega) h1 (fun k hk => by
      by_cases hki : k = i
      · subst hki
        exact ⟨pk_us, pk_us, pk_uLs⟩
      · obtain ⟨a, b, d⟩ := h2 k (by omega)
        exact ⟨(pk_un hki).trans a, (pk_un hki).trans b, (pk_uLn hki).trans d⟩)
    exact ⟨⟨hv, hv, hv, hv, hv, hv, o⟩, mk', e, q1, q2⟩
theorem keep1 {mk : MK} {mr : MR} {n : Nat} (hn : n ≤ 400) (hr : mr.1 = nI n) {gd : Int32} (hg : ¬ gd = 0) : OK_X5_keep mk mr gd ∧ ∃ mk', G_X5_keep mk mr gd = (nI n, mk') ∧ mk'.1 = nI n ∧ ∀ k, k < n → mk'.2.1 k = mr.2.1 k ∧ mk'.2.2.1 k = mr.2.2.1 k ∧ mk'.2.2.2 k = mr.2.2.2 k := by
  unfold OK_X5_keep G_X5_keep
  rw [if_neg hg, if_neg hg]
  obtain ⟨o, mk', e, q⟩ := keepL (mk := mk) (mr := mr) hn gd n 0 402 (mr.1, mk.2.1, mk.2.2.1, mk.2.2.2) (by omega) (by omega) hr (fun k hk => absurd hk (by omega))
  rw [if_neg hg, hr] at e
  exact ⟨o, mk', by rw [← hr] at e ⊢; exact e, q⟩
theorem keep0 {mk : MK} {mr : MR} : OK_X5_keep mk mr 0 ∧ ∃ mk', G_X5_keep mk mr 0 = (-1, mk') ∧ mk'.1 = nI 0 := by
  unfold OK_X5_keep G_X5_keep
  rw [if_pos rfl, if_pos rfl]
  obtain ⟨o, mk', e, q, -⟩ := keepL (mk := mk) (mr := mr) (n := 0) (by omega) 0 0 0 402 (0, mk.2.1, mk.2.2.1, mk.2.2.2) (by omega) (by omega) rfl (fun k hk => absurd hk (by omega))
  exact ⟨o, mk', e, q⟩
/-! cells -/
def szN (u d : Nat) : Nat := if u = 2 then 4 else if u = 1 then d / 2 + 1 else d
def CR1 (c : CS) (mc : MC) (a u d p : Nat) : Prop := u ≤ 2 ∧ 1 ≤ d ∧ d ≤ 9 ∧ p + szN u d ≤ 64 ∧ c.2.1 a = nI u ∧ c.2.2.1 a = nI d ∧ c.2.2.2 a = nI p ∧ mc.2.1 a = nI u ∧ mc.2.2.1 a = nI d ∧ mc.2.2.2.1 a = nI (szN u d) ∧ mc.2.2.2.2 a = nI p
section CR
variable {c : CS} {mc : MC} {a u d p : Nat}
theorem CR1.u2 (h : CR1 c mc a u d p) : u ≤ 2 := h.1
theorem CR1.d1 (h : CR1 c mc a u d p) : 1 ≤ d := h.2.1
theorem CR1.d9 (h : CR1 c mc a u d p) : d ≤ 9 := h.2.2.1
theorem CR1.p6 (h : CR1 c mc a u d p) : p + szN u d ≤ 64 := h.2.2.2.1
theorem CR1.cu (h : CR1 c mc a u d p) : c.2.1 a = nI u := h.2.2.2.2.1
theorem CR1.cd (h : CR1 c mc a u d p) : c.2.2.1 a = nI d := h.2.2.2.2.2.1
theorem CR1.cp (h : CR1 c mc a u d p) : c.2.2.2 a = nI p := h.2.2.2.2.2.2.1
theorem CR1.mu (h : CR1 c mc a u d p) : mc.2.1 a = nI u := h.2.2.2.2.2.2.2.1
theorem CR1.md (h : CR1 c mc a u d p) : mc.2.2.1 a = nI d := h.2.2.2.2.2.2.2.2.1
theorem CR1.ms (h : CR1 c mc a u d p) : mc.2.2.2.1 a = nI (szN u d) := h.2.2.2.2.2.2.2.2.2.1
theorem CR1.mp (h : CR1 c mc a u d p) : mc.2.2.2.2 a = nI p := h.2.2.2.2.2.2.2.2.2.2
end CR
def cR (N : Nat) (c : CS) (mc : MC) : Prop := c.1 = nI N ∧ mc.1 = nI N ∧ N ≤ 40 ∧ ∀ a, a < N → ∃ u d p, CR1 c mc a u d p
theorem szN_r {u d : Nat} (hd : 1 ≤ d) (h9 : d ≤ 9) : 1 ≤ szN u d ∧ szN u d ≤ 9 := by
  unfold szN
  repeat' split
  all_goals omega
theorem nI_div {a b : Nat} (ha : a < 2 ^ 31) (hb : b < 2 ^ 31) : nI a / nI b = nI (a / b) := by
  apply Int32.toInt_inj.mp
  have h : a / b ≤ a := Nat.div_le_self _ _
  rw [Int32.toInt_div_of_ne_right _ _ (by
    intro e
    have := congrArg Int32.toInt e
    rw [nI_toInt hb] at this
    have : (-1 : Int32).toInt = -1 := by decide
    omega), nI_toInt ha, nI_toInt hb, nI_toInt (by omega), Int.tdiv_eq_ediv_of_nonneg (by omega)]
  exact (Int.natCast_ediv a b).symm
theorem nI_mul (a b : Nat) : nI a * nI b = nI (a * b) := (Int32.ofNat_mul a b).symm
theorem nI_sub {a b : Nat} (h : b ≤ a) : nI a - nI b = nI (a - b) := by
  have : nI a = nI (a - b) + nI b := by rw [nI_add]; congr 1; omega
  rw [this, Int32.add_sub_cancel]
theorem sz_is {u d : Nat} (h2 : u ≤ 2) (hd : d ≤ 9) : G_X0_sizeFor (nI u) (nI d) = nI (szN u d) := by
  unfold G_X0_sizeFor szN
  have e2 : (nI u = 2) ↔ u = 2 := nI_eq (b := 2) (by omega) (by omega)
  have e1 : (nI u = 1) ↔ u = 1 := nI_eq (b := 1) (by omega) (by omega)
  by_cases h : u = 2
  · rw [if_pos (e2.mpr h), if_pos h]; rfl
  · rw [if_neg (fun q => h (e2.mp q)), if_neg h]
    by_cases h' : u = 1
    · rw [if_pos (e1.mpr h'), if_pos h']
      show nI d / nI 2 + 1 = _
      rw [nI_div (by omega) (by omega), nI_1]
    · rw [if_neg (fun q => h' (e1.mp q)), if_neg h']
theorem cR_has {N : Nat} {c : CS} {mc : MC} (h : cR N c mc) {a : Nat} (ha : a < N) : ¬ G_X0_has c (nI a) = 0 := by
  unfold G_X0_has
  have := h.2.2.1
  rw [h.1, if_neg (nI_pos (by omega)), if_neg (nI_ge ha (by omega))]
  decide
theorem mul_r {z : Int} {s : Nat} (h1 : -64 ≤ z) (h2 : z ≤ 64) (hs : s ≤ 9) : -576 ≤ z * (s : Int) ∧ z * (s : Int) ≤ 576 := by
  have : s = 0 ∨ s = 1 ∨ s = 2 ∨ s = 3 ∨ s = 4 ∨ s = 5 ∨ s = 6 ∨ s = 7 ∨ s = 8 ∨ s = 9 := by omega
  rcases this with rfl | rfl | rfl | rfl | rfl | rfl | rfl | rfl | rfl | rfl <;> omega
theorem i64_add {x y : Int64} (h1 : -9223372036854775808 ≤ x.toInt + y.toInt) (h2 : x.toInt + y.toInt < 9223372036854775808) : (x + y).toInt = x.toInt + y.toInt := by
  rw [Int64.toInt_add]
  exact Int.bmod_eq_of_le (by omega) (by omega)
theorem i64_mul {x y : Int64} (h1 : -9223372036854775808 ≤ x.toInt * y.toInt) (h2 : x.toInt * y.toInt < 9223372036854775808) : (x * y).toInt = x.toInt * y.toInt := by
  rw [Int64.toInt_mul]
  exact Int.bmod_eq_of_le (by omega) (by omega)
theorem i32_mul {x y : Int32} (h1 : -2147483648 ≤ x.toInt * y.toInt) (h2 : x.toInt * y.toInt < 2147483648) : (x * y).toInt = x.toInt * y.toInt := by
  rw [Int32.toInt_mul]
  exact Int.bmod_eq_of_le (by omega) (by omega)
theorem i64_32 {x : Int64} (h1 : -2147483648 ≤ x.toInt) (h2 : x.toInt < 2147483648) : x.toInt32.toInt = x.toInt := by
  rw [Int64.toInt_toInt32]
  exact Int.bmod_eq_of_le (by omega) (by omega)
theorem i32_of {x : Int32} {n : Nat} (h : x.toInt = n) (hn : n < 2 ^ 31) : x = nI n := Int32.toInt_inj.mp (by rw [h, nI_toInt hn])
theorem place_is {N : Nat} {c : CS} {mc : MC} (h : cR N c mc) {a u d p : Nat} (ha : a < N) (hc : CR1 c mc a u d p) (z : Int64) : OK_X5_placeOf mc (nI a) z ∧ G_X5_placeOf mc (nI a) z = G_X0_placeBehind c (nI a) z ∧ (G_X0_placeBehind c (nI a) z = -1 ∨ ∃ q, q + szN u d ≤ 64 ∧ G_X0_placeBehind c (nI a) z = nI q) := by
  have hN := h.2.2.1
  have hs := szN_r (u := u) hc.d1 hc.d9
  have hp := hc.p6
  have hv : vp_in (nI a) 40 := vp_in_nI (by omega) (by omega)
  have em : (-64 : Int64).toInt = -64 := by decide
  have e6 : (64 : Int64).toInt = 64 := by decide
  have e0 : (0 : Int64).toInt = 0 := by decide
  unfold OK_X5_placeOf G_X5_placeOf G_X0_placeBehind
  rw [if_neg (cR_has h ha), nI_clamp (by omega), hc.cu, hc.cd, hc.cp, hc.ms, hc.mp, sz_is hc.u2 hc.d9]
  by_cases h1 : lg_cmp z (-64) < 0
  · rw [if_pos h1, if_pos h1, if_pos h1]
    exact ⟨trivial, rfl, Or.inl rfl⟩
  · rw [if_neg h1, if_neg h1, if_neg h1]
    rw [lg_cmp_lt, Int64.lt_iff_toInt_lt, em] at h1
    by_cases h2 : lg_cmp z 64 ≤ 0
    · rw [if_pos h2, if_pos h2, if_pos h2]
      rw [lg_cmp_le, Int64.le_iff_toInt_le, e6] at h2
      have hz := mul_r (z := z.toInt) (s := szN u d) (by omega) h2 (by omega)
      have t1 : (lN p + z * lN (szN u d)).toInt = (p : Int) + z.toInt * (szN u d : Int) := by
        have t : (z * lN (szN u d)).toInt = z.toInt * (szN u d : Int) := by
          rw [i64_mul, lN_toInt (by omega)] <;> rw [lN_toInt (by omega)] <;> omega
        rw [i64_add, t, lN_toInt (by omega)] <;> rw [t, lN_toInt (by omega)] <;> omega
      have t2 : (nI p + z.toInt32 * nI (szN u d)).toInt = (p : Int) + z.toInt * (szN u d : Int) := by
        have t0 : z.toInt32.toInt = z.toInt := i64_32 (by omega) (by omega)
        have t : (z.toInt32 * nI (szN u d)).toInt = z.toInt * (szN u d : Int) := by
          rw [i32_mul, nI_toInt (by omega), t0] <;> rw [nI_toInt (by omega), t0] <;> omega
        rw [i32_add, t, nI_toInt (by omega)] <;> rw [t, nI_toInt (by omega)] <;> omega
      have t3 : ((64 : Int32) - nI (szN u d)) = nI (64 - szN u d) := nI_sub (a := 64) (by omega)
      rw [nI_l (by omega), nI_l (by omega), t3, nI_l (by omega)]
      by_cases h3 : (p : Int) + z.toInt * (szN u d : Int) < 0
      · have a1 : lg_cmp (lN p + z * lN (szN u d)) 0 < 0 := by rw [lg_cmp_lt, Int64.lt_iff_toInt_lt, t1, e0]; exact h3
        have a2 : (nI p + z.toInt32 * nI (szN u d)) < 0 := by rw [i32_lt, t2, i0]; exact h3
        rw [if_pos a1, if_pos a1, if_pos a2]
        exact ⟨⟨hv, hv, trivial⟩, rfl, Or.inl rfl⟩
      · have a1 : ¬ lg_cmp (lN p + z * lN (szN u d)) 0 < 0 := by rw [lg_cmp_lt, Int64.lt_iff_toInt_lt, t1, e0]; exact h3
        have a2 : ¬ (nI p + z.toInt32 * nI (szN u d)) < 0 := by rw [i32_lt, t2, i0]; exact h3
        rw [if_neg a1, if_neg a1, if_neg a2]
        by_cases h4 : (p : Int) + z.toInt * (szN u d : Int) ≤ ((64 - szN u d : Nat) : Int)
        · have b1 : lg_cmp (lN p + z * lN (szN u d)) (lN (64 - szN u d)) ≤ 0 := by rw [lg_cmp_le, Int64.le_iff_toInt_le, t1, lN_toInt (by omega)]; exact h4
          have b2 : (nI p + z.toInt32 * nI (szN u d)) ≤ nI (64 - szN u d) := by rw [i32_le, t2, nI_toInt (by omega)]; exact h4
          rw [if_pos b1, if_pos b1, if_pos b2]
          have e : (lN p + z * lN (szN u d)).toInt32 = nI p + z.toInt32 * nI (szN u d) := Int32.toInt_inj.mp (by rw [i64_32, t1, t2] <;> rw [t1] <;> omega)
          obtain ⟨q, hq⟩ : ∃ q : Nat, (p : Int) + z.toInt * (szN u d : Int) = q := ⟨((p : Int) + z.toInt * (szN u d : Int)).toNat, by omega⟩
          exact ⟨⟨hv, hv, hv, trivial⟩, e, Or.inr ⟨q, by omega, i32_of (t2.trans hq) (by omega)⟩⟩
        · have b1 : ¬ lg_cmp (lN p + z * lN (szN u d)) (lN (64 - szN u d)) ≤ 0 := by rw [lg_cmp_le, Int64.le_iff_toInt_le, t1, lN_toInt (by omega)]; exact h4
          have b2 : ¬ (nI p + z.toInt32 * nI (szN u d)) ≤ nI (64 - szN u d) := by rw [i32_le, t2, nI_toInt (by omega)]; exact h4
          rw [if_neg b1, if_neg b1, if_neg b2]
          exact ⟨⟨hv, hv, hv, trivial⟩, rfl, Or.inl rfl⟩
    · rw [if_neg h2, if_neg h2, if_neg h2]
      exact ⟨trivial, rfl, Or.inl rfl⟩
/-- at 0 the place is the cell's own -/
theorem place_0 {N : Nat} {c : CS} {mc : MC} (h : cR N c mc) {a u d p : Nat} (ha : a < N) (hc : CR1 c mc a u d p) : G_X0_placeBehind c (nI a) 0 = nI p := by
  have hN := h.2.2.1
  have hs := szN_r (u := u) hc.d1 hc.d9
  have hp := hc.p6
  unfold G_X0_placeBehind
  have e : nI p + (0 : Int64).toInt32 * nI (szN u d) = nI p := by
    show nI p + nI 0 * nI (szN u d) = nI p
    rw [nI_mul, nI_add, Nat.zero_mul, Nat.add_zero]
  have t3 : ((64 : Int32) - nI (szN u d)) = nI (64 - szN u d) := nI_sub (a := 64) (by omega)
  rw [if_neg (cR_has h ha), nI_clamp (by omega), hc.cu, hc.cd, hc.cp, sz_is hc.u2 hc.d9, e, t3, if_neg (by decide), if_pos (by decide), if_neg (nI_pos (by omega)), if_pos (nI_le (by omega) (by omega))]
