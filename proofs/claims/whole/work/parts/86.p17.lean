theorem store_is {N : Nat} {c : CS} {mc : MC} {mb : AI} {σ : Nat} {x : SS} (h : cR N c mc) {a u d p q : Nat} (ha : a < N) (hc : CR1 c mc a u d p) (hb : bR mb (64 * σ) x.1) (hs : σ ≤ 1) (hq : q + szN u d ≤ 64) (v : Int64) :
    OK_X5_store mb mc (nI σ) (nI a) (nI q) v ∧ bR (G_X5_store mb mc (nI σ) (nI a) (nI q) v) (64 * σ) (G_X0_write c x (nI a) (nI q) v).1 ∧ oK (64 * σ) mb (G_X5_store mb mc (nI σ) (nI a) (nI q) v) := by
  have hN := h.2.2.1
  have hv : vp_in (nI a) 40 := vp_in_nI (by omega) (by omega)
  have hd := hc.d1
  have h9 := hc.d9
  have hu := hc.u2
  obtain ⟨t1, t2⟩ := wD_ten h9
  obtain ⟨p1, p2⟩ := p10_r h9
  have t0 : ¬ lN (10 ^ d) = 0 := fun e => by
    have := congrArg Int64.toInt e
    rw [pf_lI (by omega)] at this
    have : (0 : Int64).toInt = 0 := by decide
    omega
  have eD : v - v / lN (10 ^ d) * lN (10 ^ d) = wD v d := rfl
  have e2 : (nI u = 2) ↔ u = 2 := nI_eq (b := 2) (by omega) (by omega)
  have e1 : (nI u = 1) ↔ u = 1 := nI_eq (b := 1) (by omega) (by omega)
  have e0 : (nI u = 0) ↔ u = 0 := nI_eq (b := 0) (by omega) (by omega)
  obtain ⟨r1, r2⟩ := wD_r h9 v
  obtain ⟨ab1, ab2⟩ := wD_abs h9 v
  unfold OK_X5_store G_X5_store G_X0_write
  rw [if_neg (cR_has h ha), nI_clamp (by omega), hc.cu, hc.cd, hc.mu, hc.md, t2, eD, wD_low h9]
  by_cases h2 : u = 2
  · have hz : szN u d = 4 := by unfold szN; rw [if_pos h2]
    rw [hz] at hq
    have w2 := e2.mpr h2
    have S := store_b (mb := mb) (mc := mc) (n := nI a) (v := v) hs (x := x) (p := q) (w := wD v d) (by omega) (by omega) (by omega) hb
    have eW : G_X0_writeBinary x (nI q) (wD v d).toInt32 = G_X0_writeBinary_L19 x (nI q) (wD v d).toInt32 10 (wD v d).toInt32 (nI q + 4 - 1) x := by
      unfold G_X0_writeBinary
      rw [if_neg (show ¬ G_X0_isInside (nI q) 4 = 0 from inside_is (p := q) (z := 4) (by omega) (by omega))]
    rw [if_pos w2, if_pos w2, if_pos w2, if_pos w2, if_pos w2, eW]
    by_cases hg : 0 ≤ lg_cmp (wD v d) 0
    · rw [if_pos hg, if_pos hg]
      exact ⟨⟨hv, t1, t0, hv, S.1⟩, S.2⟩
    · rw [if_neg hg, if_neg hg]
      exact ⟨⟨hv, t1, t0, hv, S.1⟩, S.2⟩
  · have w2 : ¬ nI u = 2 := fun z => h2 (e2.mp z)
    rw [if_neg w2, if_neg w2, if_neg w2, if_neg w2, if_neg w2]
    by_cases h1 : u = 1
    · have hz : szN u d = d / 2 + 1 := by unfold szN; rw [if_neg h2, if_pos h1]
      rw [hz] at hq
      have n0 : ¬ nI u = 0 := fun z => by have := e0.mp z; omega
      have hsz : G_X0_sizeFor 1 (nI d) = nI (d / 2 + 1) := by
        have := sz_is (u := 1) (d := d) (by omega) h9
        exact this
      rw [if_neg n0, if_neg n0, if_neg n0, if_neg n0, if_pos (e1.mpr h1)]
      unfold G_X0_writePacked
      rw [hsz, if_neg (inside_is (by omega) (by omega)), nI_add q, Int64.zero_sub]
      have key : ∀ (R T : Nat), R < 10 ^ d → T < 16 → OK_X5_store_L190 mb mc (nI σ) (nI a) (nI q) v 12 (nI d) (lN R) (lN T) (lN 16) (nI 0) ∧ bR (G_X5_store_L190 mb mc (nI σ) (nI a) (nI q) v 12 (nI d) (lN R) (lN T) (lN 16) (nI 0)) (64 * σ) (G_X0_writePacked_L55 x (nI q) (nI d) (wD v d) 70 (lN R) (nI T) (nI (q + (d / 2 + 1)) - 1) x).1 ∧ oK (64 * σ) mb (G_X5_store_L190 mb mc (nI σ) (nI a) (nI q) v 12 (nI d) (lN R) (lN T) (lN 16) (nI 0)) := fun R T hR hT => by
        obtain ⟨k1, k2⟩ := store_p0 (mb := mb) (mc := mc) (σ := σ) (v := v) (n := nI a) (p := nI q) h9 hv d 0 12 R T 16 (by omega) (by omega) (by omega)
        have hE := enc_lt d R
        have hP : 16 ^ d ≤ 16 ^ 9 := Nat.pow_le_pow_right (by omega) h9
        have hP9 : 16 ^ 9 = 68719476736 := by decide
        have S := store_p (mb := mb) (mc := mc) (n := nI a) (v := v) hs (x := x) (p := q) (d := d) (z := d / 2 + 1) (v' := wD v d) hq (d / 2 + 1) 70 12 (d + 20) R T (T + 16 * enc d R) mb x (by omega) (by omega) (by omega) (by omega) (by rw [enc_more 20 d R hR]) hT (by omega) (by omega) hb (fun i _ => rfl)
        have ems : mc.2.2.2.1 (nI a).toNatClampNeg - 1 = nI (d / 2 + 1) - 1 := by rw [nI_clamp (by omega), hc.ms, hz]
        rw [ems] at k1 k2
        rw [k2]
        exact ⟨k1 S.1, S.2⟩
      by_cases hg : 0 ≤ lg_cmp (wD v d) 0
      · obtain ⟨R, hR, eR⟩ := ab1 hg
        have K := key R 12 hR (by omega)
        rw [if_pos hg, if_pos hg, if_pos hg, if_pos hg, if_pos hg, if_pos hg]
        rw [← eR] at K
        exact ⟨⟨hv, t1, t0, hv, hv, K.1⟩, K.2⟩
      · obtain ⟨R, hR, eR⟩ := ab2 hg
        have K := key R 13 hR (by omega)
        rw [if_neg hg, if_neg hg, if_neg hg, if_neg hg, if_neg hg, if_neg hg]
        rw [← eR] at K
        exact ⟨⟨hv, t1, t0, hv, hv, K.1⟩, K.2⟩
    · have hz : szN u d = d := by unfold szN; rw [if_neg h2, if_neg h1]
      rw [hz] at hq
      have n0 : nI u = 0 := e0.mpr (by omega)
      rw [if_pos n0, if_pos n0, if_pos n0, if_pos n0, if_neg (fun z => h1 (e1.mp z))]
      unfold G_X0_writeZoned
      rw [if_neg (inside_is (by omega) (by omega)), nI_add q, Int64.zero_sub]
      by_cases hg : 0 ≤ lg_cmp (wD v d) 0
      · have S := store_z1 (mb := mb) (mc := mc) (n := nI a) (v := v) hs (x := x) (p := q) (d := d) (v' := wD v d) (wv := wD v d) hq hd h9 (wD v d) hb 0 (by rw [if_pos hg])
        rw [if_pos hg, if_pos hg, if_pos hg, if_pos hg]
        exact ⟨⟨hv, t1, t0, hv, hv, S.1⟩, S.2⟩
      · have S := store_z1 (mb := mb) (mc := mc) (n := nI a) (v := v) hs (x := x) (p := q) (d := d) (v' := wD v d) (wv := wD v d) hq hd h9 (-(wD v d)) hb 64 (by rw [if_neg hg])
        rw [if_neg hg, if_neg hg, if_neg hg, if_neg hg]
        exact ⟨⟨hv, t1, t0, hv, hv, S.1⟩, S.2⟩
/-! bytes stay bytes -/
theorem nar_nar (y : Int32) : narrow .byte (.int (vp_nar .byte y)) = .int (vp_nar .byte y) := by
  rw [vp_nar_byte]
  show Value.int (y.toInt8.toInt32.toInt8.toInt32) = _
  rw [Int8.toInt8_toInt32]
theorem okB_upd {f : AI} (h : okB f) (k : Nat) (y : Int32) : okB (upd f k (vp_nar .byte y)) := fun j => by
  by_cases e : j = k
  · subst e
    rw [pk_us]
    exact nar_nar y
  · rw [pk_un e]
    exact h j
theorem wZ_B {x : SS} {p n : Int32} {v : Int64} (hx : okB x.1) : ∀ (fu : Nat) (rs : Int64) (sg i : Int32) (xv : SS), okB xv.1 → okB (G_X0_writeZoned_L45 x p n v fu rs sg i xv).1 := by
  intro fu
  induction fu with
  | zero => intro rs sg i xv h; exact hx
  | succ fu ih =>
    intro rs sg i xv h
    unfold G_X0_writeZoned_L45
    split
    · exact h
    · exact ih _ _ _ _ (okB_upd h _ _)
theorem wP_B {x : SS} {p n : Int32} {v : Int64} (hx : okB x.1) : ∀ (fu : Nat) (rs : Int64) (rt i : Int32) (xv : SS), okB xv.1 → okB (G_X0_writePacked_L55 x p n v fu rs rt i xv).1 := by
  intro fu
  induction fu with
  | zero => intro rs rt i xv h; exact hx
  | succ fu ih =>
    intro rs rt i xv h
    unfold G_X0_writePacked_L55
    split
    · exact h
    · exact ih _ _ _ _ (okB_upd h _ _)
theorem wB_B {x : SS} {p : Int32} {v : Int32} (hx : okB x.1) : ∀ (fu : Nat) (rs : Int32) (i : Int32) (xv : SS), okB xv.1 → okB (G_X0_writeBinary_L19 x p v fu rs i xv).1 := by
  intro fu
  induction fu with
  | zero => intro rs i xv h; exact hx
  | succ fu ih =>
    intro rs i xv h
    unfold G_X0_writeBinary_L19
    split
    · exact h
    · exact ih _ _ _ (okB_upd h _ _)
theorem wr_B {c : CS} {x : SS} (n p : Int32) (v : Int64) (hx : okB x.1) : okB (G_X0_write c x n p v).1 := by
  unfold G_X0_write
  split
  · exact hx
  · split
    · unfold G_X0_writeBinary
      split
      · exact hx
      · exact wB_B hx _ _ _ _ hx
    · split
      · unfold G_X0_writePacked
        split
        · exact hx
        · repeat' split
          all_goals exact wP_B hx _ _ _ _ _ hx
      · unfold G_X0_writeZoned
        split
        · exact hx
        · repeat' split
          all_goals exact wZ_B hx _ _ _ _ _ hx
theorem co_B {x : SS} (hx : okB x.1) : okB (G_X2_countOne x).1 := by
  unfold G_X2_countOne
  repeat' split
  all_goals exact hx
theorem ld_B {c : CS} {x : SS} (n : Int32) (z : Int64) (hx : okB x.1) : okB (G_X2_load c x n z).2.1 := by
  unfold G_X2_load
  repeat' split
  all_goals exact hx
theorem rs_B {x : SS} (a : Int32) (y z : Int64) (hx : okB x.1) : okB (G_X2_result x a y z).2.1 := by
  unfold G_X2_result
  repeat' split
  all_goals exact hx
theorem sv_B {c : CS} {x : SS} (n : Int32) (z v : Int64) (hx : okB x.1) : okB (G_X2_save c x n z v).1 := by
  unfold G_X2_save
  split
  · split
    · exact hx
    · split
      · exact wr_B _ _ _ (co_B hx)
      · exact co_B hx
  · exact hx
theorem wl_B {F : SS → Int64 × SS} (hF : ∀ y, okB y.1 → okB (F y).2.1) : ∀ (fu : Nat) (tm i : Int64) (x : SS), okB x.1 → okB (G_X3_walk_L285 F fu tm i x).2.1 := by
  intro fu
  induction fu with
  | zero => intro tm i x h; exact h
  | succ fu ih =>
    intro tm i x h
    unfold G_X3_walk_L285
    repeat' split
    all_goals first | exact h | exact ih _ _ _ (hF _ (co_B h))
theorem ite_B {p : Prop} [Decidable p] {A B : Int64 × SS} (h1 : p → okB A.2.1) (h2 : ¬ p → okB B.2.1) : okB (if p then A else B).2.1 := by
  by_cases h : p
  · rw [if_pos h]
    exact h1 h
  · rw [if_neg h]
    exact h2 h
theorem walk_B {c : CS} {t : TS} : ∀ (d : Nat) (x : SS) (n dp : Int32), okB x.1 → okB (G_X3_walk c t d x n dp).2.1 := by
  intro d
  induction d with
  | zero => intro x n dp h; exact h
  | succ d ih =>
    intro x n dp h
    rw [G_X3_walk]
    refine ite_B (fun _ => h) (fun _ => ite_B (fun _ => h) (fun _ => ite_B (fun _ => ite_B (fun _ => ?_) (fun _ => h)) (fun _ => h)))
    refine ite_B (fun _ => ld_B _ _ h) (fun _ => ite_B (fun _ => ld_B _ _ (ih _ _ _ h)) (fun _ => ite_B (fun _ => sv_B _ _ _ (ih _ _ _ h)) (fun _ => ite_B (fun _ => sv_B _ _ _ (ih _ _ _ (ih _ _ _ h))) (fun _ => ite_B (fun _ => ih _ _ _ (ih _ _ _ h)) (fun _ => ite_B (fun _ => ite_B (fun _ => ih _ _ _ h) (fun _ => ih _ _ _ (ih _ _ _ h))) (fun _ => ite_B (fun _ => ?_) (fun _ => ?_)))))))
    · exact wl_B (fun y hy => ih _ _ _ hy) _ _ _ _ (ih _ _ _ h)
    · exact rs_B _ _ _ (ih _ _ _ (ih _ _ _ h))
theorem walkAll_B {c : CS} {t : TS} {x : SS} {n : Int32} (h : okB x.1) : okB (G_X3_walkAll c t x n).1 := walk_B _ _ _ _ h
