/-! reading a cell -/
def bR (mb : AI) (o : Nat) (f : AI) : Prop := ∀ i, i < 64 → mb (o + i) = f i
section RD
variable {mb : AI} {σ : Nat} {x : SS} {mc : MC} {n : Int32}
theorem off_is (σ j : Nat) : (64 : Int32) * nI σ + nI j = nI (64 * σ + j) := by
  show nI 64 * nI σ + nI j = _
  rw [nI_mul, nI_add]
theorem oct_is (h : bR mb (64 * σ) x.1) (hs : σ ≤ 1) {j : Nat} (hj : j < 64) : OK_X5_octet mb (nI σ) (nI j) ∧ G_X5_octet mb (nI σ) (nI j) = x.1 j &&& 255 := by
  unfold OK_X5_octet G_X5_octet
  rw [off_is, nI_clamp (by omega), h j hj]
  exact ⟨⟨vp_in_nI (by omega) (by omega), trivial⟩, rfl⟩
theorem and_15 (v : Int32) : v &&& 255 &&& 15 = v &&& 15 := by
  rw [Int32.and_assoc]
  rfl
theorem and_64 (v : Int32) : v &&& 255 &&& 64 = v &&& 64 := by
  rw [Int32.and_assoc]
  rfl
theorem pd1 {p d : Nat} (hd : 1 ≤ d) : nI p + nI d - 1 = nI (p + d - 1) := by
  rw [nI_add]
  exact nI_sub (b := 1) (by omega)
theorem read_z (h : bR mb (64 * σ) x.1) (hs : σ ≤ 1) {p d : Nat} (hd : 1 ≤ d) (hp : p + d ≤ 64) : ∀ (k i f1 f2 : Nat) (nu : Int64), i + k = d → k + 1 ≤ f1 → k + 1 ≤ f2 →
    OK_X5_read_L77 mb mc (nI σ) n (nI p) f2 (nI d) nu (nI i) ∧ G_X5_read_L77 mb mc (nI σ) n (nI p) f2 (nI d) nu (nI i) = G_X0_readZoned_L16 x (nI p) (nI d) f1 nu (nI (p + i)) := by
  intro k
  induction k with
  | zero =>
    intro i f1 f2 nu hi h1 h2
    obtain ⟨f1, rfl⟩ : ∃ f, f1 = f + 1 := ⟨f1 - 1, by omega⟩
    obtain ⟨f2, rfl⟩ : ∃ f, f2 = f + 1 := ⟨f2 - 1, by omega⟩
    obtain ⟨o1, o2⟩ := oct_is (x := x) h hs (j := p + d - 1) (by omega)
    rw [OK_X5_read_L77, G_X5_read_L77, G_X0_readZoned_L16, if_pos (nI_le (by omega) (by omega)), if_pos (nI_le (by omega) (by omega)), pd1 hd, o2, nI_add, if_pos (nI_le (by omega) (by omega)), nI_clamp (by omega), and_64, Int64.zero_sub]
    exact ⟨⟨o1, by split <;> trivial⟩, rfl⟩
  | succ k ih =>
    intro i f1 f2 nu hi h1 h2
    obtain ⟨f1, rfl⟩ : ∃ f, f1 = f + 1 := ⟨f1 - 1, by omega⟩
    obtain ⟨f2, rfl⟩ : ∃ f, f2 = f + 1 := ⟨f2 - 1, by omega⟩
    obtain ⟨o1, o2⟩ := oct_is (x := x) h hs (j := p + i) (by omega)
    obtain ⟨q1, q2⟩ := ih (i + 1) f1 f2 (nu * 10 + ((x.1 (p + i) &&& 15) - (x.1 (p + i) &&& 15) / 10 * 10).toInt64) (by omega) (by omega) (by omega)
    rw [OK_X5_read_L77, G_X5_read_L77, G_X0_readZoned_L16, if_neg (nI_ge (by omega) (by omega)), if_neg (nI_ge (by omega) (by omega)), nI_add p i, o2, nI_add p d, if_neg (nI_ge (by omega) (by omega)), nI_clamp (by omega), and_15, Int64.mul_comm 10 nu, nI_1, nI_1]
    exact ⟨⟨o1, q1⟩, q2⟩
theorem i_mod2 {i : Nat} (h : i < 2 ^ 30) : nI i - nI i / 2 * 2 = nI (i % 2) := by
  show nI i - nI i / nI 2 * nI 2 = _
  rw [nI_div (by omega) (by omega), nI_mul, nI_sub (by omega)]
  congr 1
  omega
theorem half_is (h : bR mb (64 * σ) x.1) (hs : σ ≤ 1) {p i : Nat} (hi : p + i / 2 < 64) : OK_X5_half mb (nI σ) (nI p) (nI i) ∧ G_X5_half mb (nI σ) (nI p) (nI i) = if i % 2 = 0 then (x.1 (p + i / 2) &&& 255) >>> ((4 : Int32) &&& 31) else x.1 (p + i / 2) &&& 255 &&& 15 := by
  obtain ⟨o1, o2⟩ := oct_is (x := x) h hs hi
  have e : nI p + nI i / 2 = nI (p + i / 2) := by
    show nI p + nI i / nI 2 = _
    rw [nI_div (by omega) (by omega), nI_add]
  unfold OK_X5_half G_X5_half
  rw [i_mod2 (by omega), e, o2]
  by_cases hm : i % 2 = 0
  · rw [if_pos hm, hm, if_pos (show nI 0 = 0 from rfl), if_pos (show nI 0 = 0 from rfl)]
    exact ⟨⟨o1, trivial⟩, rfl⟩
  · have hm1 : i % 2 = 1 := by omega
    rw [hm1, if_neg (show ¬ nI 1 = 0 by decide), if_neg (show ¬ nI 1 = 0 by decide), if_neg (show ¬ 1 = 0 by decide)]
    exact ⟨⟨o1, trivial⟩, rfl⟩
theorem read_p (h : bR mb (64 * σ) x.1) (hs : σ ≤ 1) {p d z : Nat} (hz : 1 ≤ z) (hp : p + z ≤ 64) : ∀ (k i f1 f2 : Nat) (nu : Int64), i + k = 2 * z - 1 → k + 1 ≤ f1 → k + 1 ≤ f2 →
    OK_X5_read_L161 mb mc (nI σ) n (nI p) f2 nu (nI (2 * z - 1)) (nI i) ∧ G_X5_read_L161 mb mc (nI σ) n (nI p) f2 nu (nI (2 * z - 1)) (nI i) = G_X0_readPacked_L44 x (nI p) (nI d) f1 (nI z) nu (nI (2 * z - 1)) (nI i) := by
  intro k
  induction k with
  | zero =>
    intro i f1 f2 nu hi h1 h2
    obtain ⟨f1, rfl⟩ : ∃ f, f1 = f + 1 := ⟨f1 - 1, by omega⟩
    obtain ⟨f2, rfl⟩ : ∃ f, f2 = f + 1 := ⟨f2 - 1, by omega⟩
    obtain ⟨o1, o2⟩ := half_is (x := x) h hs (p := p) (i := 2 * z - 1) (by omega)
    rw [if_neg (by omega), show p + (2 * z - 1) / 2 = p + z - 1 by omega, and_15] at o2
    rw [OK_X5_read_L161, G_X5_read_L161, G_X0_readPacked_L44, if_pos (nI_le (by omega) (by omega)), if_pos (nI_le (by omega) (by omega)), if_pos (nI_le (by omega) (by omega)), o2, pd1 hz, nI_clamp (by omega), Int64.zero_sub]
    exact ⟨⟨o1, by split <;> trivial⟩, rfl⟩
  | succ k ih =>
    intro i f1 f2 nu hi h1 h2
    obtain ⟨f1, rfl⟩ : ∃ f, f1 = f + 1 := ⟨f1 - 1, by omega⟩
    obtain ⟨f2, rfl⟩ : ∃ f, f2 = f + 1 := ⟨f2 - 1, by omega⟩
    obtain ⟨o1, o2⟩ := half_is (x := x) h hs (p := p) (i := i) (by omega)
    have e : nI p + nI i / 2 = nI (p + i / 2) := by
      show nI p + nI i / nI 2 = _
      rw [nI_div (by omega) (by omega), nI_add]
    rw [OK_X5_read_L161, G_X5_read_L161, G_X0_readPacked_L44, if_neg (nI_ge (by omega) (by omega)), if_neg (nI_ge (by omega) (by omega)), if_neg (nI_ge (by omega) (by omega)), o2, i_mod2 (by omega), e, nI_clamp (by omega), nI_1, Int64.mul_comm 10 nu]
    by_cases hm : i % 2 = 0
    · rw [if_pos hm, hm, if_pos (show nI 0 = 0 from rfl)]
      obtain ⟨q1, q2⟩ := ih (i + 1) f1 f2 (nu * 10 + (((x.1 (p + i / 2) &&& 255) >>> ((4 : Int32) &&& 31)) - ((x.1 (p + i / 2) &&& 255) >>> ((4 : Int32) &&& 31)) / 10 * 10).toInt64) (by omega) (by omega) (by omega)
      exact ⟨⟨o1, q1⟩, q2⟩
    · have hm1 : i % 2 = 1 := by omega
      rw [if_neg hm, hm1, if_neg (show ¬ nI 1 = 0 by decide)]
      obtain ⟨q1, q2⟩ := ih (i + 1) f1 f2 (nu * 10 + ((x.1 (p + i / 2) &&& 255 &&& 15) - (x.1 (p + i / 2) &&& 255 &&& 15) / 10 * 10).toInt64) (by omega) (by omega) (by omega)
      exact ⟨⟨o1, q1⟩, q2⟩
theorem shl_or (x y : Int32) : (x ||| y) <<< ((8 : Int32) &&& 31) = x <<< ((8 : Int32) &&& 31) ||| y <<< ((8 : Int32) &&& 31) := b_ext fun i hi => by
  rw [b_or, b_shl8 _ hi, b_shl8 _ hi, b_shl8 _ hi, b_or]
  cases decide (8 ≤ i) <;> rfl
theorem shl_88 (x : Int32) : (x <<< ((8 : Int32) &&& 31)) <<< ((8 : Int32) &&& 31) = x <<< ((16 : Int32) &&& 31) := b_ext fun i hi => by
  rw [b_shl8 _ hi, b_shl8 _ (by omega), b_shl16 _ hi, Nat.sub_sub, ← Bool.and_assoc]
  congr 1
  by_cases h : 16 ≤ i
  · rw [decide_eq_true (show 8 ≤ i by omega), decide_eq_true (show 8 ≤ i - 8 by omega), decide_eq_true h]; rfl
  · rw [decide_eq_false (show ¬ 8 ≤ i - 8 by omega), decide_eq_false h, Bool.and_false]
theorem shl_168 (x : Int32) : (x <<< ((16 : Int32) &&& 31)) <<< ((8 : Int32) &&& 31) = x <<< ((24 : Int32) &&& 31) := b_ext fun i hi => by
  rw [b_shl8 _ hi, b_shl16 _ (by omega), b_shl24 _ hi, Nat.sub_sub, ← Bool.and_assoc]
  congr 1
  by_cases h : 24 ≤ i
  · rw [decide_eq_true (show 8 ≤ i by omega), decide_eq_true (show 16 ≤ i - 8 by omega), decide_eq_true h]; rfl
  · rw [decide_eq_false (show ¬ 16 ≤ i - 8 by omega), decide_eq_false h, Bool.and_false]
theorem bin4 (a b c d : Int32) : (((((0 : Int32) <<< ((8 : Int32) &&& 31) ||| a) <<< ((8 : Int32) &&& 31) ||| b) <<< ((8 : Int32) &&& 31) ||| c) <<< ((8 : Int32) &&& 31) ||| d) = a <<< ((24 : Int32) &&& 31) ||| b <<< ((16 : Int32) &&& 31) ||| c <<< ((8 : Int32) &&& 31) ||| d := by
  rw [show (0 : Int32) <<< ((8 : Int32) &&& 31) = 0 by decide, Int32.zero_or, shl_or, shl_or, shl_88, shl_or, shl_168, shl_88]
theorem read_b (h : bR mb (64 * σ) x.1) (hs : σ ≤ 1) {p : Nat} (hp : p + 4 ≤ 64) : G_X0_readBinary_L15 x (nI p) 10 0 (nI p) = ((((G_X5_octet mb (nI σ) (nI p)) <<< ((24 : Int32) &&& 31) ||| (G_X5_octet mb (nI σ) (nI (p + 1))) <<< ((16 : Int32) &&& 31)) ||| (G_X5_octet mb (nI σ) (nI (p + 2))) <<< ((8 : Int32) &&& 31)) ||| (G_X5_octet mb (nI σ) (nI (p + 3)))).toInt64 := by
  have e4 : nI p + 4 = nI (p + 4) := nI_add p 4
  rw [(oct_is (x := x) h hs (j := p) (by omega)).2, (oct_is (x := x) h hs (j := p + 1) (by omega)).2, (oct_is (x := x) h hs (j := p + 2) (by omega)).2, (oct_is (x := x) h hs (j := p + 3) (by omega)).2]
  rw [G_X0_readBinary_L15, e4, if_neg (nI_ge (by omega) (by omega)), nI_clamp (by omega), nI_1]
  rw [G_X0_readBinary_L15, e4, if_neg (nI_ge (by omega) (by omega)), nI_clamp (by omega), nI_1]
  rw [G_X0_readBinary_L15, e4, if_neg (nI_ge (by omega) (by omega)), nI_clamp (by omega), nI_1]
  rw [G_X0_readBinary_L15, e4, if_neg (nI_ge (by omega) (by omega)), nI_clamp (by omega), nI_1]
  rw [G_X0_readBinary_L15, e4, if_pos (nI_le (by omega) (by omega)), bin4]
theorem inside_is {p z : Nat} (hz : 1 ≤ z) (hp : p + z ≤ 64) : ¬ G_X0_isInside (nI p) (nI z) = 0 := by
  unfold G_X0_isInside
  have e : (64 : Int32) - nI z = nI (64 - z) := nI_sub (a := 64) (by omega)
  rw [if_neg (nI_pos (by omega)), if_neg (show ¬ nI z < 1 from nI_nlt (b := 1) hz (by omega)), if_neg (show ¬ 64 < nI z from nI_nlt (a := 64) (by omega) (by omega)), e, if_neg (nI_nlt (by omega) (by omega))]
  decide
theorem read_is {N : Nat} {c : CS} (h : cR N c mc) {a u d p q : Nat} (ha : a < N) (hc : CR1 c mc a u d p) (hb : bR mb (64 * σ) x.1) (hs : σ ≤ 1) (hq : q + szN u d ≤ 64) : OK_X5_read mb mc (nI σ) (nI a) (nI q) ∧ G_X5_read mb mc (nI σ) (nI a) (nI q) = G_X0_read c x (nI a) (nI q) := by
  have hN := h.2.2.1
  have hv : vp_in (nI a) 40 := vp_in_nI (by omega) (by omega)
  have hd := hc.d1
  have h9 := hc.d9
  have hu := hc.u2
  unfold OK_X5_read G_X5_read G_X0_read
  rw [if_neg (cR_has h ha), nI_clamp (by omega), hc.cu, hc.cd, hc.mu, hc.md, hc.ms]
  have e2 : (nI u = 2) ↔ u = 2 := nI_eq (b := 2) (by omega) (by omega)
  have e1 : (nI u = 1) ↔ u = 1 := nI_eq (b := 1) (by omega) (by omega)
  have e0 : (nI u = 0) ↔ u = 0 := nI_eq (b := 0) (by omega) (by omega)
  by_cases h2 : u = 2
  · have hz : szN u d = 4 := by unfold szN; rw [if_pos h2]
    rw [hz] at hq
    rw [if_pos (e2.mpr h2), if_pos (e2.mpr h2), if_pos (e2.mpr h2)]
    have a1 : nI q + 1 = nI (q + 1) := nI_1 q
    have a2 : nI q + 2 = nI (q + 2) := nI_add q 2
    have a3 : nI q + 3 = nI (q + 3) := nI_add q 3
    rw [a1, a2, a3]
    unfold G_X0_readBinary
    rw [if_neg (show ¬ G_X0_isInside (nI q) 4 = 0 from inside_is (p := q) (z := 4) (by omega) (by omega)), read_b hb hs (by omega)]
    exact ⟨⟨hv, hv, (oct_is hb hs (by omega)).1, (oct_is hb hs (by omega)).1, (oct_is hb hs (by omega)).1, (oct_is hb hs (by omega)).1, trivial⟩, rfl⟩
  · rw [if_neg (fun z => h2 (e2.mp z)), if_neg (fun z => h2 (e2.mp z)), if_neg (fun z => h2 (e2.mp z))]
    by_cases h1 : u = 1
    · have hz : szN u d = d / 2 + 1 := by unfold szN; rw [if_neg h2, if_pos h1]
      rw [hz] at hq ⊢
      have n0 : ¬ nI u = 0 := fun z => by have := e0.mp z; omega
      rw [if_neg n0, if_neg n0, if_pos (e1.mpr h1)]
      have hsz : G_X0_sizeFor 1 (nI d) = nI (d / 2 + 1) := by
        have := sz_is (u := 1) (d := d) (by omega) h9
        exact this
      unfold G_X0_readPacked
      have t1 : (2 : Int32) * nI (d / 2 + 1) - 1 = nI (2 * (d / 2 + 1) - 1) := by
        show nI 2 * nI (d / 2 + 1) - nI 1 = _
        rw [nI_mul, nI_sub (by omega)]
      have t2 : nI (d / 2 + 1) * (2 : Int32) - 1 = nI (2 * (d / 2 + 1) - 1) := by
        show nI (d / 2 + 1) * nI 2 - nI 1 = _
        rw [nI_mul, nI_sub (by omega), Nat.mul_comm]
      have t3 : nI (2 * (d / 2 + 1) - 1) - nI d = nI (2 * (d / 2 + 1) - 1 - d) := nI_sub (by omega)
      rw [hsz, if_neg (inside_is (by omega) (by omega)), t1, t2, t3, i_mod2 (by omega)]
      by_cases hm : d % 2 = 0
      · rw [hm, if_pos (show nI 0 = 0 from rfl), show 2 * (d / 2 + 1) - 1 - d = 1 by omega]
        obtain ⟨o1, o2⟩ := read_p (mc := mc) (n := nI a) (d := d) hb hs (z := d / 2 + 1) (p := q) (by omega) (by omega) (2 * (d / 2 + 1) - 1 - 1) 1 140 12 0 (by omega) (by omega) (by omega)
        exact ⟨⟨hv, hv, hv, hv, o1⟩, o2⟩
      · have hm1 : d % 2 = 1 := by omega
        rw [hm1, if_neg (show ¬ nI 1 = 0 by decide), show 2 * (d / 2 + 1) - 1 - d = 0 by omega]
        obtain ⟨o1, o2⟩ := read_p (mc := mc) (n := nI a) (d := d) hb hs (z := d / 2 + 1) (p := q) (by omega) (by omega) (2 * (d / 2 + 1) - 1) 0 140 12 0 (by omega) (by omega) (by omega)
        exact ⟨⟨hv, hv, hv, hv, o1⟩, o2⟩
    · have hz : szN u d = d := by unfold szN; rw [if_neg h2, if_neg h1]
      rw [hz] at hq
      have n0 : nI u = 0 := e0.mpr (by omega)
      rw [if_pos n0, if_pos n0, if_neg (fun z => h1 (e1.mp z))]
      unfold G_X0_readZoned
      rw [if_neg (inside_is (by omega) (by omega))]
      obtain ⟨o1, o2⟩ := read_z (mc := mc) (n := nI a) hb hs (p := q) hd hq d 0 70 12 0 (by omega) (by omega) (by omega)
      exact ⟨⟨hv, hv, hv, o1⟩, o2⟩
end RD
