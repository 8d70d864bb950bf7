section SIM3
variable {Z : Type} {N M : Nat} {c : CS} {t : TS} {code : List Row} {Cfg : Nat → Stk → SS → Nat → Z → Prop} {Go : Z → Z → Prop} {En : Z → SS → Prop}
theorem Tt.via {z z1 : Z} {m m1 L L1 pc : Nat} {x x1 x2 : SS} {st : Stk} (hM : Mach N c code Cfg Go En) (g : Go z z1) (h : Tt Cfg Go En z1 m1 x1 L1 pc st x2) (hn : cn x ≤ cn x1) (hp : m1 + 401 * (1001 - cn x1) + L1 ≤ m + 401 * (1001 - cn x) + L) : Tt Cfg Go En z m x L pc st x2 := by
  refine ⟨fun h0 => ?_, fun h0 => hM.2.2.1 _ _ _ g (h.2 h0)⟩
  obtain ⟨z2, m2, g2, c2, o2, n2, p2⟩ := h.1 h0
  exact ⟨z2, m2, hM.2.1 _ _ _ g g2, c2, o2, by omega, by omega⟩
theorem loop_raised (wk : SS → Int64 × SS) (f : Nat) (tm i : Int64) (y : SS) (h : ¬ y.2.1 = 0) : G_X3_walk_L285 wk f tm i y = (0, y) := by
  cases f with
  | zero => rfl
  | succ f =>
    rw [G_X3_walk_L285]
    by_cases hq : 0 ≤ lg_cmp i tm
    · rw [if_pos hq]
    · rw [if_neg hq, if_neg h]
theorem i64_sub {x y : Int64} (h1 : -9223372036854775808 ≤ x.toInt - y.toInt) (h2 : x.toInt - y.toInt < 9223372036854775808) : (x - y).toInt = x.toInt - y.toInt := by
  rw [Int64.toInt_sub]
  exact Int.bmod_eq_of_le (by omega) (by omega)
theorem tm_cond {v : Int64} {i : Nat} (hv : 1 ≤ v.toInt) (hi : i ≤ 1000) : (0 ≤ lg_cmp (lN i) (if (1001 : Int64) < v then 1001 else v)) ↔ (v - lN i).toInt ≤ 0 := by
  have e : (1001 : Int64).toInt = 1001 := by decide
  have hb : v.toInt < 9223372036854775808 := Int64.toInt_lt v
  rw [lg_cmp_ge, Int64.le_iff_toInt_le, lN_toInt (by omega), i64_sub (by rw [lN_toInt (by omega)]; omega) (by rw [lN_toInt (by omega)]; omega), lN_toInt (by omega)]
  split
  · rename_i h
    rw [Int64.lt_iff_toInt_lt, e] at h
    rw [e]
    omega
  · omega
theorem lN_subs (v : Int64) (i : Nat) : v - lN i - 1 = v - lN (i + 1) := by
  rw [← lN_1, Int64.sub_sub]
theorem sim_loop (hM : Mach N c code Cfg Go En) {d : Nat} (ih : SimAt M c t code Cfg Go En d) {j b1 : Nat} {st : Stk} {v : Int64} (hj1 : 1 ≤ j) (hj2 : j ≤ M) (hj3 : j ≤ d) (hd : d ≤ 200) (hs : Seg code b1 (cd t d j b1 ++ dr t j)) (hA : code[b1 + (ln t d j + dl t j)]? = some (14, lN b1, 0)) (hb : b1 + (ln t d j + dl t j) + 1 ≤ 400) (hl : st.length + 1 + d ≤ 200) (hv : 1 ≤ v.toInt) :
    ∀ (f i : Nat) (y : SS) (m : Nat) (z : Z), 1 ≤ i → i ≤ 1000 → i ≤ cn y → 1001 - i < f → y.2.1 = 0 → xOK y → m + 401 * (1001 - cn y) + 1 ≤ 999999 → Cfg (b1 + (ln t d j + dl t j)) ((false, v - lN i) :: st) y m z →
      Tt Cfg Go En z m y 1 (b1 + (ln t d j + dl t j) + 1) st (G_X3_walk_L285 (fun y => ev c t d y j) f (if (1001 : Int64) < v then 1001 else v) (lN i) y).2 := by
  intro f
  induction f with
  | zero => intro i y m z h1 h2 h3 h4; omega
  | succ f ihf =>
    intro i y m z h1 h2 h3 h4 hy ho hm hc
    have hcy := cn_le ho
    rw [G_X3_walk_L285]
    have R := (hM.2.2.2 _ y m z hy ho (by omega)).2.2.2.2.2.2.2.1 st b1 (v - lN i) 0 hA (by omega) (by omega) hc
    by_cases hq : (v - lN i).toInt ≤ 0
    · rw [if_pos ((tm_cond hv h2).mpr hq)]
      exact Tt.one (R.1 hq) (fun _ => ⟨ho, Nat.le_refl _⟩)
    · rw [if_neg (fun q => hq ((tm_cond hv h2).mp q)), if_pos hy]
      have R2 := R.2 hq
      rw [lN_subs] at R2
      by_cases hr : (G_X2_countOne y).2.1 = 0
      · obtain ⟨o1, n1⟩ := co_ok hy ho hr
        obtain ⟨z1, g1, c1⟩ := R2.1 hr
        have hc1 := cn_le o1
        refine Tt.via (L1 := ln t d j + dl t j + 1) (x1 := G_X2_countOne y) (m1 := m + 1) hM g1 ?_ (by omega) (by omega)
        have B := simS (m := m + 1) (st := (false, v - lN (i + 1)) :: st) hM ih hj1 hj2 hj3 hd hs (by omega) (by simp only [List.length_cons]; omega) hr o1 (by omega) c1
        refine Tt.seq hM B (fun h0 z2 m2 c2 o2 p2 => ?_) (fun h => ?_) rfl
        · have hB := B.1 h0
          obtain ⟨z3, m3, -, -, o3, n3, -⟩ := hB
          have hc2 := cn_le o2
          rw [lN_1]
          exact ihf (i + 1) _ m2 z2 (by omega) (by omega) (by omega) (by omega) h0 o2 (by omega) c2
        · show (G_X3_walk_L285 _ f _ _ (ev c t d (G_X2_countOne y) j).2).2 = _
          rw [loop_raised _ _ _ _ _ h]
      · have e : ev c t d (G_X2_countOne y) j = (0, G_X2_countOne y) := ev_raised hr
        rw [e, loop_raised _ _ _ _ _ hr]
        exact ⟨fun h0 => absurd h0 hr, fun _ => R2.2 hr⟩
theorem sim_13 (hM : Mach N c code Cfg Go En) (hT : tOK N M c t) {d k b : Nat} (ih : SimAt M c t code Cfg Go En d) {st : Stk} {x : SS} {m : Nat} {z : Z} (h1 : 1 ≤ k) (h2 : k ≤ M) (h3 : k ≤ d + 1) (h4 : d + 1 ≤ 200) (hs : Seg code b (cd t (d + 1) k b)) (hb : b + ln t (d + 1) k ≤ 400) (hl : st.length + (d + 1) ≤ 200) (hx : x.2.1 = 0) (ho : xOK x) (hm : m + 401 * (1001 - cn x) + ln t (d + 1) k ≤ 999999) (hc : Cfg b st x m z) (hf : fo t k = 0) (hk : kd t k = 13) {i j : Nat} (hi : fa t k = nI i) (hj : sb t k = nI j) (hi1 : 1 ≤ i) (hi2 : i < k) (hj1 : 1 ≤ j) (hj2 : j < k) (hiv : isV t i) :
    Tt Cfg Go En z m x (ln t (d + 1) k) (b + ln t (d + 1) k) (psh t k (ev c t (d + 1) x k).1 st) (ev c t (d + 1) x k).2 := by
  have hM2 := hT.2.2.2.1
  obtain ⟨e1, e2⟩ := cd_13 (d := d) (b := b) hf hk hi hj (by omega) (by omega)
  rw [e1] at hs
  rw [e2] at hb hm ⊢
  have hv : ¬ isV t k := by show ¬ (kd t k).toInt < 9; rw [hk]; decide
  rw [ev_k13 hT h1 h2 h4 hx hf hk hi hj, show ∀ v, psh t k v st = st from fun v => if_neg hv]
  have A := ih i b st x m z hi1 (by omega) (by omega) (by omega) hs.left (by omega) (by omega) hx ho (by omega) hc
  rw [show ∀ v, psh t i v st = (true, v) :: st from fun v => if_pos hiv] at A
  have hs2 := hs.right (cd_len t d i b)
  refine Tt.seq (L1 := ln t d i) (L2 := 1 + (ln t d j + dl t j) + 1) hM A (fun h0 z1 m1 c1 o1 p1 => ?_) (fun h => ?_) (by omega)
  · have hs3 := hs2.tail
    rw [show b + ln t d i + 1 = b + (ln t d i + 1) by omega, ← List.append_assoc] at hs3
    have hA := (hs3.right (n := ln t d j + dl t j) (by rw [List.length_append, cd_len, dr_len])).head
    have R := (hM.2.2.2 (b + ln t d i) _ m1 z1 h0 o1 (by omega)).2.2.2.2.2.2.1 st _ _ 0 hs2.head (by omega) (by omega) c1
    have hcx := cn_le o1
    generalize ev c t d x i = w at *
    obtain ⟨v, x1⟩ := w
    dsimp only at *
    rw [G_X3_walk_L285]
    by_cases hq : v.toInt ≤ 0
    · have e0 : 0 ≤ lg_cmp 0 (if (1001 : Int64) < v then 1001 else v) := by
        rw [lg_cmp_ge, Int64.le_iff_toInt_le, show (0 : Int64).toInt = 0 by decide]
        split
        · rename_i h
          rw [Int64.lt_iff_toInt_lt, show (1001 : Int64).toInt = 1001 by decide] at h
          omega
        · exact hq
      rw [if_pos e0]
      show Tt Cfg Go En z1 m1 x1 (1 + (ln t d j + dl t j) + 1) _ st x1
      have T1 := Tt.one (x := x1) (R.1 hq) (fun _ => ⟨o1, Nat.le_refl _⟩)
      obtain ⟨z2, m2, g2, c2, o2, n2, p2⟩ := T1.1 h0
      exact ⟨fun _ => ⟨z2, m2, g2, c2, o2, n2, by omega⟩, T1.2⟩
    · have e0 : ¬ 0 ≤ lg_cmp 0 (if (1001 : Int64) < v then 1001 else v) := by
        rw [lg_cmp_ge, Int64.le_iff_toInt_le, show (0 : Int64).toInt = 0 by decide]
        split
        · rw [show (1001 : Int64).toInt = 1001 by decide]; omega
        · omega
      rw [if_neg e0, if_pos h0]
      have R2 := R.2 hq
      rw [show v - 1 = v - lN 1 from rfl] at R2
      by_cases hr : (G_X2_countOne x1).2.1 = 0
      · obtain ⟨o2, n2⟩ := co_ok h0 o1 hr
        have hc2 := cn_le o2
        obtain ⟨z2, g2, c2⟩ := R2.1 hr
        rw [show b + ln t d i + 1 = b + (ln t d i + 1) by omega] at c2
        refine Tt.via (L1 := ln t d j + dl t j + 1) (x1 := G_X2_countOne x1) (m1 := m1 + 1) hM g2 ?_ (by omega) (by omega)
        have B := simS (m := m1 + 1) (st := (false, v - lN 1) :: st) hM ih hj1 (by omega) (by omega) (by omega) hs3.left (by omega) (by simp only [List.length_cons]; omega) hr o2 (by omega) c2
        refine Tt.seq hM B (fun h0' z3 m3 c3 o3 p3 => ?_) (fun h => ?_) rfl
        · obtain ⟨z4, m4, -, -, -, n4, -⟩ := B.1 h0'
          have hc3 := cn_le o3
          have S := sim_loop (st := st) (v := v) hM ih hj1 (by omega) (by omega) (by omega) hs3.left hA (by omega) (by omega) (by omega) 1002 1 _ m3 z3 (by omega) (by omega) (by omega) (by omega) h0' o3 (by omega) c3
          rw [show b + (ln t d i + 1 + (ln t d j + dl t j) + 1) = b + (ln t d i + 1) + (ln t d j + dl t j) + 1 by omega]
          exact S
        · show (G_X3_walk_L285 _ _ _ _ (ev c t d (G_X2_countOne x1) j).2).2 = _
          rw [loop_raised _ _ _ _ _ h]
      · have e : ev c t d (G_X2_countOne x1) j = (0, G_X2_countOne x1) := ev_raised hr
        rw [e, loop_raised _ _ _ _ _ hr]
        exact ⟨fun h0 => absurd h0 hr, fun _ => R2.2 hr⟩
  · rw [loop_raised _ _ _ _ _ h]
theorem sim (hM : Mach N c code Cfg Go En) (hT : tOK N M c t) : ∀ d, SimAt M c t code Cfg Go En d := by
  intro d
  induction d with
  | zero => intro k b st x m z h1 h2 h3; omega
  | succ d ih =>
    intro k b st x m z h1 h2 h3 h4 hs hb hl hx ho hm hc
    rcases hT.2.2.2.2 k h1 h2 with ⟨hf, hv⟩ | ⟨hf, hk | hk | hk | hk | hk | hk⟩
    · exact sim_f hM hT h1 h2 h4 hs hl hx ho hm hc hf hv
    · obtain ⟨hk, a, haN, ha⟩ := hk
      exact sim_1 hM hT h1 h2 h4 hs hl hx ho hm hc hf hk haN ha
    · obtain ⟨hk | hk, a, j, haN, ha, hj, hj1, hj2, hjv⟩ := hk
      · exact sim_2 hM hT ih h1 h2 h3 h4 hs hb hl hx ho hm hc hf hk haN ha hj hj1 hj2 hjv
      · exact sim_9 hM hT ih h1 h2 h3 h4 hs hb hl hx ho hm hc hf hk haN ha hj hj1 hj2 hjv
    · obtain ⟨hk, a, j, p, q, haN, ha, hj, hj1, hj2, hp, hq, hp1, hp2, hq1, hq2, hpv, hqv⟩ := hk
      exact sim_10 hM hT ih h1 h2 h3 h4 hs hb hl hx ho hm hc hf hk haN ha hj hj1 hj2 hp hq hp1 hp2 hq1 hq2 hpv hqv
    · obtain ⟨hk, i, j, hi, hj, hi1, hi2, hj1, hj2⟩ := hk
      exact sim_11 hM hT ih h1 h2 h3 h4 hs hb hl hx ho hm hc hf hk hi hj hi1 hi2 hj1 hj2
    · obtain ⟨hk | hk, i, j, hi, hj, hi1, hi2, hj1, hj2, hiv⟩ := hk
      · exact sim_12 hM hT ih h1 h2 h3 h4 hs hb hl hx ho hm hc hf hk hi hj hi1 hi2 hj1 hj2 hiv
      · exact sim_13 hM hT ih h1 h2 h3 h4 hs hb hl hx ho hm hc hf hk hi hj hi1 hi2 hj1 hj2 hiv
    · obtain ⟨⟨hk1, hk2⟩, i, j, hi, hj, hi1, hi2, hj1, hj2, hiv, hjv⟩ := hk
      exact sim_r hM hT ih h1 h2 h3 h4 hs hb hl hx ho hm hc hf hk1 hk2 hi hj hi1 hi2 hj1 hj2 hiv hjv
end SIM3
