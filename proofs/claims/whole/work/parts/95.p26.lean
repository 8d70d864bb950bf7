/-! the storages -/
theorem ite_Q {Q : SS → Prop} {p : Prop} [Decidable p] {A B : Int64 × SS} (h1 : p → Q A.2) (h2 : ¬ p → Q B.2) : Q (if p then A else B).2 := by
  by_cases h : p
  · rw [if_pos h]
    exact h1 h
  · rw [if_neg h]
    exact h2 h
theorem wl_Q {Q : SS → Prop} {F : SS → Int64 × SS} (hC : ∀ y, Q y → Q (G_X2_countOne y)) (hF : ∀ y, Q y → Q (F y).2) : ∀ (fu : Nat) (tm i : Int64) (x : SS), Q x → Q (G_X3_walk_L285 F fu tm i x).2 := by
  intro fu
  induction fu with
  | zero => intro tm i x h; exact h
  | succ fu ih =>
    intro tm i x h
    rw [G_X3_walk_L285]
    exact ite_Q (fun _ => h) (fun _ => ite_Q (fun _ => ih _ _ _ (hF _ (hC _ h))) (fun _ => h))
theorem walk_Q {c : CS} {t : TS} {Q : SS → Prop} (hC : ∀ y, Q y → Q (G_X2_countOne y)) (hL : ∀ y n z, Q y → Q (G_X2_load c y n z).2) (hS : ∀ y n z v, Q y → Q (G_X2_save c y n z v)) (hR : ∀ y a z v, Q y → Q (G_X2_result y a z v).2) : ∀ (d : Nat) (x : SS) (n dp : Int32), Q x → Q (G_X3_walk c t d x n dp).2 := by
  intro d
  induction d with
  | zero => intro x n dp h; exact h
  | succ d ih =>
    intro x n dp h
    rw [G_X3_walk]
    refine ite_Q (fun _ => h) (fun _ => ite_Q (fun _ => h) (fun _ => ite_Q (fun _ => ite_Q (fun _ => ?_) (fun _ => h)) (fun _ => h)))
    refine ite_Q (fun _ => hL _ _ _ h) (fun _ => ite_Q (fun _ => hL _ _ _ (ih _ _ _ h)) (fun _ => ite_Q (fun _ => hS _ _ _ _ (ih _ _ _ h)) (fun _ => ite_Q (fun _ => hS _ _ _ _ (ih _ _ _ (ih _ _ _ h))) (fun _ => ite_Q (fun _ => ih _ _ _ (ih _ _ _ h)) (fun _ => ite_Q (fun _ => ite_Q (fun _ => ih _ _ _ h) (fun _ => ih _ _ _ (ih _ _ _ h))) (fun _ => ite_Q (fun _ => ?_) (fun _ => ?_)))))))
    · exact wl_Q hC (fun y hy => ih _ _ _ hy) _ _ _ _ (ih _ _ _ h)
    · exact hR _ _ _ _ (ih _ _ _ (ih _ _ _ h))
/-- a raise is never less than 0 -/
theorem walk_0 {c : CS} {t : TS} {x : SS} {n : Int32} : 0 ≤ (G_X3_walkAll c t x n).2.1.toInt := by
  have hC : ∀ y : SS, 0 ≤ y.2.1.toInt → 0 ≤ (G_X2_countOne y).2.1.toInt := fun y h => by
    unfold G_X2_countOne
    by_cases h1 : y.2.1 = 0
    · rw [if_pos h1]
      by_cases h2 : y.2.2 + 1 ≤ 1000
      · rw [if_pos h2]
        exact h
      · rw [if_neg h2]
        show 0 ≤ (3 : Int32).toInt
        decide
    · rw [if_neg h1]
      exact h
  refine walk_Q (Q := fun y => 0 ≤ y.2.1.toInt) hC (fun y n z h => ?_) (fun y n z v h => ?_) (fun y a z v h => ?_) 200 (G_X2_begin x) n 1 (by show 0 ≤ (0 : Int32).toInt; decide)
  · unfold G_X2_load
    exact ite_Q (Q := fun y => 0 ≤ y.2.1.toInt) (fun _ => ite_Q (Q := fun y => 0 ≤ y.2.1.toInt) (fun _ => by show 0 ≤ (1 : Int32).toInt; decide) (fun _ => h)) (fun _ => h)
  · unfold G_X2_save
    by_cases h1 : y.2.1 = 0
    · rw [if_pos h1]
      by_cases h2 : G_X0_placeBehind c n z = -1
      · rw [if_pos h2]
        show 0 ≤ (1 : Int32).toInt
        decide
      · rw [if_neg h2]
        by_cases h3 : (G_X2_countOne y).2.1 = 0
        · rw [if_pos h3, wr_2]
          exact hC y h
        · rw [if_neg h3]
          exact hC y h
    · rw [if_neg h1]
      exact h
  · unfold G_X2_result
    exact ite_Q (Q := fun y => 0 ≤ y.2.1.toInt) (fun _ => ite_Q (Q := fun y => 0 ≤ y.2.1.toInt) (fun _ => ite_Q (Q := fun y => 0 ≤ y.2.1.toInt) (fun _ => by show 0 ≤ (2 : Int32).toInt; decide) (fun _ => h)) (fun _ => h)) (fun _ => h)
/-! stepping leaves the rows -/
def rK (r r' : RS) : Prop := r'.1 = r.1 ∧ r'.2.1 = r.2.1 ∧ r'.2.2.1 = r.2.2.1 ∧ r'.2.2.2.1 = r.2.2.2.1
theorem rK.refl (r : RS) : rK r r := ⟨rfl, rfl, rfl, rfl⟩
theorem rK.trans {a b d : RS} (h1 : rK a b) (h2 : rK b d) : rK a d := ⟨h2.1.trans h1.1, h2.2.1.trans h1.2.1, h2.2.2.1.trans h1.2.2.1, h2.2.2.2.trans h1.2.2.2⟩
theorem push_K (r : RS) (v : Int64) : rK r (G_X1_push r v) := by
  unfold G_X1_push
  by_cases h1 : r.2.2.2.2.2 < 0
  · rw [if_pos h1]; exact rK.refl r
  · rw [if_neg h1]
    by_cases h2 : 201 ≤ r.2.2.2.2.2
    · rw [if_pos h2]; exact rK.refl r
    · rw [if_neg h2]; exact ⟨rfl, rfl, rfl, rfl⟩
theorem pop_K (r : RS) : rK r (G_X1_pop r).2 := by
  unfold G_X1_pop
  by_cases h1 : r.2.2.2.2.2 < 1
  · rw [if_pos h1]; exact rK.refl r
  · rw [if_neg h1]
    by_cases h2 : r.2.2.2.2.2 ≤ 201
    · rw [if_pos h2]; exact ⟨rfl, rfl, rfl, rfl⟩
    · rw [if_neg h2]; exact rK.refl r
theorem next_K (r : RS) (x : SS) (a b : Int32) : rK r (G_X1_nextTime r x a b).2.1 := by
  unfold G_X1_nextTime
  by_cases h : 0 < lg_cmp (G_X1_pop r).1 0
  · rw [if_pos h]; exact (pop_K r).trans (push_K _ _)
  · rw [if_neg h]; exact pop_K r
theorem ite_K {r : RS} {p : Prop} [Decidable p] {A B : Int32 × RS × SS} (h1 : rK r A.2.1) (h2 : rK r B.2.1) : rK r (if p then A else B).2.1 := by
  by_cases h : p
  · rw [if_pos h]; exact h1
  · rw [if_neg h]; exact h2
theorem step_K (c : CS) (r : RS) (x : SS) (n : Int32) : rK r (G_X1_step c r x n).2.1 := by
  unfold G_X1_step
  exact ite_K (push_K _ _) (ite_K (push_K _ _) (ite_K ((pop_K r).trans (push_K _ _)) (ite_K (pop_K r) (ite_K ((pop_K r).trans (pop_K _)) (ite_K (ite_K (pop_K r) (pop_K r)) (ite_K (next_K _ _ _ _) (ite_K (next_K _ _ _ _) (ite_K (pop_K r) (((pop_K r).trans (pop_K _)).trans (push_K _ _))))))))))
theorem stepAll_K (c : CS) (r : RS) (x : SS) : rK r (G_X1_stepAll c r x).1 := by
  have key : ∀ (fu : Nat) (rw_ st : Int32) (rv : RS) (xv : SS), rK r rv → rK r (G_X1_stepAll_L13 c r x fu rw_ st rv xv).1 := by
    intro fu
    induction fu with
    | zero => intro rw_ st rv xv h; exact rK.refl r
    | succ fu ih =>
      intro rw_ st rv xv h
      rw [G_X1_stepAll_L13]
      by_cases h1 : 1000000 ≤ st
      · rw [if_pos h1]; exact h
      · rw [if_neg h1]
        by_cases h2 : G_X1_has rv rw_ = 0
        · rw [if_pos h2]; exact h
        · rw [if_neg h2]
          by_cases h3 : xv.2.1 = 0
          · rw [if_pos h3]; exact ih _ _ _ _ (h.trans (step_K c rv xv rw_))
          · rw [if_neg h3]; exact h
  exact key 1000001 0 0 _ _ ⟨rfl, rfl, rfl, rfl⟩
theorem kR_K {r r' : RS} {mk : MK} (h : kR r mk) (hk : rK r r') : kR r' mk := by
  obtain ⟨n, hn, h1, h2, h3⟩ := h
  obtain ⟨k1, k2, k3, k4⟩ := hk
  exact ⟨n, hn, k1.trans h1, h2, fun i hi => by rw [k2, k3, k4]; exact h3 i hi⟩
/-! the walk looks at 64 bytes -/
theorem step_walk2 {N M : Nat} {c : CS} {t : TS} {mb : AI} {mc : MC} {mr : MR} {mv : MV} {σ : Nat} (hT : tOK N M c t) (hR : cR N c mc) {k : Nat} (h1 : 1 ≤ k) (h2 : k ≤ M) (hm : mrI (cd t 200 k 0) mr) (hl : ln t 200 k ≤ 400) (hs : σ ≤ 1) (x : SS) (hb : bR mb (64 * σ) x.1) :
    ∃ n mb' mv', (∀ fu, LZ mb mc mr mv σ 0 (fu + n) (0, 0, 0, 0, mb, mv) = ((G_X3_walkAll c t x (nI k)).2.1, mb', mv')) ∧ bR mb' (64 * σ) (G_X3_walkAll c t x (nI k)).1 := by
  have hb0 : (G_X2_begin x).2.1 = 0 := rfl
  have ho : xOK (G_X2_begin x) := ⟨by show 0 ≤ (0 : Int32).toInt; decide, by show (0 : Int32).toInt ≤ 1000; decide⟩
  have hc0 : cn (G_X2_begin x) = 0 := rfl
  have S := sim (machM (mb := mb) (mv := mv) (fs := 0) hR hm hs) hT 200 k 0 [] (G_X2_begin x) 0 (0, 0, 0, 0, mb, mv) h1 h2 (by have := hT.2.2.2.1; omega) (by omega) (fun i q hq => by rw [Nat.zero_add]; exact hq) (by omega) (by simp only [List.length_nil]; omega) hb0 ho (by rw [hc0]; omega) ⟨rfl, rfl, rfl, rfl, hb, fun i _ => rfl, trivial⟩
  have e : (ev c t 200 (G_X2_begin x) k).2 = G_X3_walkAll c t x (nI k) := rfl
  rw [e] at S
  by_cases hz : (G_X3_walkAll c t x (nI k)).2.1 = 0
  · obtain ⟨z, m, ⟨n, g⟩, hc, o, -, hp⟩ := S.1 hz
    obtain ⟨q1, q2, q3, q4, q5, q6, q7⟩ := hc
    have hend : mr.1 ≤ nI z.2.2.2.1 := by
      rw [hm.1, q4, cd_len]
      exact nI_le (by omega) (by omega)
    refine ⟨1 + n, z.2.2.2.2.1, z.2.2.2.2.2, fun fu => ?_, q5⟩
    rw [← Nat.add_assoc, (g (fu + 1)).2, hz]
    unfold LZ
    rw [G_X5_step_L10, if_pos hend]
  · obtain ⟨n, mb', q', g, r1, r2⟩ := S.2 hz
    exact ⟨n, mb', q', fun fu => (g fu).2, r1⟩
theorem walk_cong {N M : Nat} {c : CS} {t : TS} {mc : MC} {mr : MR} (hT : tOK N M c t) (hR : cR N c mc) {k : Nat} (h1 : 1 ≤ k) (h2 : k ≤ M) (hm : mrI (cd t 200 k 0) mr) (hl : ln t 200 k ≤ 400) {x y : SS} (hxy : ∀ i, i < 64 → x.1 i = y.1 i) :
    (G_X3_walkAll c t x (nI k)).2.1 = (G_X3_walkAll c t y (nI k)).2.1 ∧ ∀ i, i < 64 → (G_X3_walkAll c t x (nI k)).1 i = (G_X3_walkAll c t y (nI k)).1 i := by
  obtain ⟨n1, b1, v1, e1, r1⟩ := step_walk2 (mb := x.1) (mv := (fun _ => 0, fun _ => 0)) (σ := 0) hT hR h1 h2 hm hl (by omega) x (fun i _ => by rw [Nat.mul_zero, Nat.zero_add])
  obtain ⟨n2, b2, v2, e2, r2⟩ := step_walk2 (mb := x.1) (mv := (fun _ => 0, fun _ => 0)) (σ := 0) hT hR h1 h2 hm hl (by omega) y (fun i hi => by rw [Nat.mul_zero, Nat.zero_add]; exact hxy i hi)
  have a1 := e1 n2
  have a2 := e2 n1
  rw [Nat.add_comm n2 n1] at a1
  have E := a1.symm.trans a2
  injection E with E1 E2
  injection E2 with E2 E3
  refine ⟨E1, fun i hi => ?_⟩
  rw [← r1 i hi, ← r2 i hi, E2]
/-! the storages alike -/
def sR (s : Nat → SS) (mb : AI) (me : ME) : Prop := bR mb 0 (s 0).1 ∧ bR mb 64 (s 1).1 ∧ okB (s 0).1 ∧ okB (s 1).1 ∧ okB mb ∧ me.2.1 = (s 0).2.1 ∧ me.2.2 = (s 1).2.1
theorem okB_of {mb mb' : AI} {o : Nat} {f : AI} (h1 : bR mb' o f) (h2 : oK o mb mb') (h3 : okB f) (h4 : okB mb) : okB mb' := fun j => by
  by_cases hj : j < o ∨ o + 64 ≤ j
  · rw [h2 j hj]
    exact h4 j
  · have := h1 (j - o) (by omega)
    rw [show o + (j - o) = j by omega] at this
    rw [this]
    exact h3 _
section RUN
variable {N M : Nat} {c : CS} {t : TS} {mc : MC} {mt : MT} {r : RS} {mk : MK} {s : Nat → SS} {mb : AI} {me : ME}
theorem mrI_of {mr0 mr : MR} {code : List Row} (h : MEx mt mr0 0 code mr) (hl : code.length ≤ 400) : mrI code mr := by
  refine ⟨?_, hl, fun i q hq => ?_⟩
  · have := h.1
    rw [Nat.zero_add] at this
    exact this
  · obtain ⟨b1, b2, b3⟩ := h.2.2 i q hq
    rw [Nat.zero_add] at b1 b2
    exact ⟨b1, b2⟩
theorem rvI_of {r0 r : RS} {code : List Row} (h : Ext t r0 0 code r) (hl : code.length ≤ 400) : rvI code [] (r.1, r.2.1, r.2.2.1, r.2.2.2.1, r.2.2.2.2.1, 0) := by
  refine ⟨?_, hl, fun i q hq => ?_, rfl, trivial⟩
  · have := h.1
    rw [Nat.zero_add] at this
    exact this
  · obtain ⟨b1, b2, b3⟩ := h.2.2.1 i q hq
    rw [Nat.zero_add] at b1 b2
    exact ⟨b1, b2⟩
theorem out_is {x : Int32} (h : 0 ≤ x.toInt) : (x ≤ 0 ∧ x = 0) ∨ (¬ x ≤ 0 ∧ ¬ x = 0) := by
  by_cases e : x = 0
  · exact Or.inl ⟨by rw [e]; decide, e⟩
  · refine Or.inr ⟨?_, e⟩
    rw [i32_le, i0]
    intro q
    exact e (i32_of (n := 0) (by omega) (by omega))
theorem sR_0 (hs : sR s mb me) {x : SS} {mb' : AI} {z : Int32} (hb : bR mb' 0 x.1) (ho : oK 0 mb mb') (hx : okB x.1) : sR (va_up s 0 x) mb' (z, x.2.1, me.2.2) := by
  obtain ⟨b0, b1, o0, o1, om, m0, m1⟩ := hs
  refine ⟨by rw [va_up_self]; exact hb, ?_, by rw [va_up_self]; exact hx, ?_, okB_of hb ho hx om, by rw [va_up_self], ?_⟩
  · rw [va_up_ne _ _ (by decide)]
    intro i hi
    rw [ho (64 + i) (by omega)]
    exact b1 i hi
  · rw [va_up_ne _ _ (by decide)]
    exact o1
  · rw [va_up_ne _ _ (by decide)]
    exact m1
theorem sR_1 (hs : sR s mb me) {x : SS} {mb' : AI} {z : Int32} (hb : bR mb' 64 x.1) (ho : oK 64 mb mb') (hx : okB x.1) : sR (va_up s 1 x) mb' (z, me.2.1, x.2.1) := by
  obtain ⟨b0, b1, o0, o1, om, m0, m1⟩ := hs
  refine ⟨?_, by rw [va_up_self]; exact hb, ?_, by rw [va_up_self]; exact hx, okB_of hb ho hx om, ?_, by rw [va_up_self]⟩
  · rw [va_up_ne _ _ (by decide)]
    intro i hi
    rw [ho (0 + i) (by omega)]
    exact b0 i hi
  · rw [va_up_ne _ _ (by decide)]
    exact o0
  · rw [va_up_ne _ _ (by decide)]
    exact m0
theorem sR_me (hs : sR s mb me) (z : Int32) : sR s mb (z, me.2.1, me.2.2) := hs
theorem run_is (hTR : tR N M c t mt) (hC : cR N c mc) (hk : kR r mk) (hs : sR s mb me) (mr : MR) (mq : MQS) (mv : MV) (f n : Int32) : ∃ fm fs, OK_X5_run me mb mc mt mk mr mq mv f n fm fs ∧ (G_X4_run c t r s f n).1 = (G_X5_run me mb mc mt mk mr mq mv f n fm fs).1 ∧ kR (G_X4_run c t r s f n).2.1 (G_X5_run me mb mc mt mk mr mq mv f n fm fs).2.2.2.1 ∧ sR (G_X4_run c t r s f n).2.2 (G_X5_run me mb mc mt mk mr mq mv f n fm fs).2.2.1 (G_X5_run me mb mc mt mk mr mq mv f n fm fs).2.1 := by
  have hTR' := hTR
  obtain ⟨hT, hm, hR, h0, hd, hr⟩ := hTR
  have hM2 := hT.2.2.2.1
  have he := has_eq hT.2.2.1 hm n
  have t400 : (400 : Int32).toInt = 400 := by decide
  by_cases hn : G_X3_has t n = 0
  · have hn' : G_X5_isNode mt n = 0 := he.symm.trans hn
    refine ⟨0, 0, ?_⟩
    have e5 : G_X5_run me mb mc mt mk mr mq mv f n 0 0 = (0, (0, me.2.1, me.2.2), mb, mk, mr, mq, mv) := by
      unfold G_X5_run
      rw [if_pos hn']
    have e4 : G_X4_run c t r s f n = (0, r, s) := by
      unfold G_X4_run
      rw [build_n hTR' hn]
      by_cases hf : f = 0
      · rw [if_pos hf, if_pos hn]
      · rw [if_neg hf]
        exact if_neg (show ¬ (0 : Int32) ≤ -2 by decide)
    rw [e4, e5]
    refine ⟨?_, rfl, hk, sR_me hs 0⟩
    unfold OK_X5_run
    rw [if_pos hn']
    trivial
  · have hn' : ¬ G_X5_isNode mt n = 0 := fun q => hn (he.trans q)
    obtain ⟨k, h1, h2, rfl⟩ := has_nat hT.2.2.1 hM2 hn
    obtain ⟨fm, o, m0, m1⟩ := made_is hT hR h1 h2 mr mq
    by_cases hl : ln t 200 k ≤ 400
    · obtain ⟨g1, gX⟩ := m1 hl
      have gne : ¬ (G_X5_made mt mr mq (nI k) fm).1 = 0 := by rw [g1]; decide
      have hmr := mrI_of gX (by rw [cd_len]; exact hl)
      by_cases hf : f = 0
      · have ro : G_X3_rowsOf t (nI k) ≤ 400 := by
          unfold G_X3_rowsOf
          rw [if_neg (nat_has hT.2.2.1 hM2 h1 h2), nI_clamp (by omega), hr k h1 h2]
          exact nI_le (b := 400) (by omega) (by omega)
        obtain ⟨fs, mb', mv', so, se, sb1, sb2⟩ := step_walk (mv := mv) (σ := 0) hT hC h1 h2 hmr hl (by omega) (s 0) (by rw [Nat.mul_zero]; exact hs.1)
        have so : OK_X5_step mb mc (G_X5_made mt mr mq (nI k) fm).2.1 mv 0 fs := so
        have se : G_X5_step mb mc (G_X5_made mt mr mq (nI k) fm).2.1 mv 0 fs = _ := se
        rw [Nat.mul_zero] at sb1 sb2
        have e4 : G_X4_run c t r s f (nI k) = (G_X2_outcome (G_X3_walkAll c t (s 0) (nI k)), r, va_up s 0 (G_X3_walkAll c t (s 0) (nI k))) := by
          unfold G_X4_run
          rw [if_pos hf, if_neg hn, if_pos ro, va_up_self]
        refine ⟨fm, fs, ?_⟩
        have S := sR_0 (z := 0) hs sb1 sb2 (walkAll_B hs.2.2.1)
        rcases out_is (walk_0 (c := c) (t := t) (x := s 0) (n := nI k)) with ⟨w1, w2⟩ | ⟨w1, w2⟩
        · have e5 : G_X5_run me mb mc mt mk mr mq mv f (nI k) fm fs = (1, (0, (G_X3_walkAll c t (s 0) (nI k)).2.1, me.2.2), mb', mk, (G_X5_made mt mr mq (nI k) fm).2.1, (G_X5_made mt mr mq (nI k) fm).2.2, mv') := by
            unfold G_X5_run
            rw [if_neg hn', if_pos hf, if_neg gne, se]
            simp only [if_pos hf, if_pos w1]
          rw [e4, e5]
          refine ⟨?_, ?_, hk, S⟩
          · unfold OK_X5_run
            rw [if_neg hn', if_pos hf, if_neg gne]
            simp only [if_pos hf]
            exact ⟨o, so, itt⟩
          · show G_X2_outcome (G_X3_walkAll c t (s 0) (nI k)) = 1
            unfold G_X2_outcome
            rw [if_pos w2]
        · have e5 : G_X5_run me mb mc mt mk mr mq mv f (nI k) fm fs = (2, (0, (G_X3_walkAll c t (s 0) (nI k)).2.1, me.2.2), mb', mk, (G_X5_made mt mr mq (nI k) fm).2.1, (G_X5_made mt mr mq (nI k) fm).2.2, mv') := by
            unfold G_X5_run
            rw [if_neg hn', if_pos hf, if_neg gne, se]
            simp only [if_pos hf, if_neg w1]
          rw [e4, e5]
          refine ⟨?_, ?_, hk, S⟩
          · unfold OK_X5_run
            rw [if_neg hn', if_pos hf, if_neg gne]
            simp only [if_pos hf]
            exact ⟨o, so, itt⟩
          · show G_X2_outcome (G_X3_walkAll c t (s 0) (nI k)) = 2
            unfold G_X2_outcome
            rw [if_neg w2]
      · obtain ⟨r', eb, E⟩ := build_1 hTR' h1 h2 hl r
        have gX1 := gX.1
        rw [cd_len, Nat.zero_add] at gX1
        obtain ⟨ok, mk', ek, k1, k2⟩ := keep1 (mk := mk) (mr := (G_X5_made mt mr mq (nI k) fm).2.1) hl gX1 gne
        have K : kR r' mk' := kR_of hTR' (cd_rows hT 200 k 0 h1 h2 (by omega)) (by rw [cd_len]; exact hl) E gX (by rw [cd_len]; exact k1) (by rw [cd_len]; exact k2)
        have K := kR_K K (stepAll_K c r' (s 1))
        have W := stepAll_walk hT h1 h2 (rvI_of E (by rw [cd_len]; exact hl)) hl (s 1)
        obtain ⟨fs, mb', mv', so, se, sb1, sb2⟩ := step_walk (mv := mv) (σ := 1) hT hC h1 h2 hmr hl (by omega) (s 1) (by rw [Nat.mul_one]; exact hs.2.1)
        have so : OK_X5_step mb mc (G_X5_made mt mr mq (nI k) fm).2.1 mv 1 fs := so
        have se : G_X5_step mb mc (G_X5_made mt mr mq (nI k) fm).2.1 mv 1 fs = _ := se
        rw [Nat.mul_one] at sb1 sb2
        have e4 : G_X4_run c t r s f (nI k) = (G_X2_outcome (G_X3_walkAll c t (s 1) (nI k)), (G_X1_stepAll c r' (s 1)).1, va_up s 1 (G_X3_walkAll c t (s 1) (nI k))) := by
          unfold G_X4_run
          rw [if_neg hf, eb, if_pos (show (0 : Int32) ≤ nI (ln t 200 k) from nI_pos' (by omega)), va_up_self, W]
        refine ⟨fm, fs, ?_⟩
        have S := sR_1 (z := 0) hs sb1 sb2 (walkAll_B hs.2.2.2.1)
        have OKR : OK_X5_run me mb mc mt mk mr mq mv f (nI k) fm fs := by
          unfold OK_X5_run
          rw [if_neg hn', if_neg hf, if_neg gne]
          simp only [if_neg hf]
          exact ⟨o, ok, so, itt⟩
        rcases out_is (walk_0 (c := c) (t := t) (x := s 1) (n := nI k)) with ⟨w1, w2⟩ | ⟨w1, w2⟩
        · have e5 : G_X5_run me mb mc mt mk mr mq mv f (nI k) fm fs = (1, (0, me.2.1, (G_X3_walkAll c t (s 1) (nI k)).2.1), mb', mk', (G_X5_made mt mr mq (nI k) fm).2.1, (G_X5_made mt mr mq (nI k) fm).2.2, mv') := by
            unfold G_X5_run
            rw [if_neg hn', if_neg hf, if_neg gne, se, ek]
            simp only [if_neg hf, if_pos w1]
          rw [e4, e5]
          refine ⟨OKR, ?_, K, S⟩
          show G_X2_outcome (G_X3_walkAll c t (s 1) (nI k)) = 1
          unfold G_X2_outcome
          rw [if_pos w2]
        · have e5 : G_X5_run me mb mc mt mk mr mq mv f (nI k) fm fs = (2, (0, me.2.1, (G_X3_walkAll c t (s 1) (nI k)).2.1), mb', mk', (G_X5_made mt mr mq (nI k) fm).2.1, (G_X5_made mt mr mq (nI k) fm).2.2, mv') := by
            unfold G_X5_run
            rw [if_neg hn', if_neg hf, if_neg gne, se, ek]
            simp only [if_neg hf, if_neg w1]
          rw [e4, e5]
          refine ⟨OKR, ?_, K, S⟩
          show G_X2_outcome (G_X3_walkAll c t (s 1) (nI k)) = 2
          unfold G_X2_outcome
          rw [if_neg w2]
    · have g0 := m0 (by omega)
      obtain ⟨b1, b2⟩ := build_0 hTR' h1 h2 hl r
      refine ⟨fm, 0, ?_⟩
      by_cases hf : f = 0
      · have e4 : G_X4_run c t r s f (nI k) = (0, r, s) := by
          unfold G_X4_run
          rw [if_pos hf, if_neg hn, if_neg b2]
        have e5 : G_X5_run me mb mc mt mk mr mq mv f (nI k) fm 0 = (0, (0, me.2.1, me.2.2), mb, mk, (G_X5_made mt mr mq (nI k) fm).2.1, (G_X5_made mt mr mq (nI k) fm).2.2, mv) := by
          unfold G_X5_run
          rw [if_neg hn', if_pos hf, if_pos g0]
        rw [e4, e5]
        refine ⟨?_, rfl, hk, sR_me hs 0⟩
        unfold OK_X5_run
        rw [if_neg hn', if_pos hf, if_pos g0]
        exact ⟨o, trivial⟩
      · obtain ⟨ok, mk', ek, k1⟩ := keep0 (mk := mk) (mr := (G_X5_made mt mr mq (nI k) fm).2.1)
        have e4 : G_X4_run c t r s f (nI k) = (0, (0, r.2.1, r.2.2.1, r.2.2.2.1, r.2.2.2.2.1, r.2.2.2.2.2), s) := by
          unfold G_X4_run
          rw [if_neg hf, b1]
          exact if_neg (show ¬ (0 : Int32) ≤ -1 by decide)
        have e5 : G_X5_run me mb mc mt mk mr mq mv f (nI k) fm 0 = (0, (0, me.2.1, me.2.2), mb, mk', (G_X5_made mt mr mq (nI k) fm).2.1, (G_X5_made mt mr mq (nI k) fm).2.2, mv) := by
          unfold G_X5_run
          rw [if_neg hn', if_neg hf, if_pos g0, g0, ek]
        rw [e4, e5]
        refine ⟨?_, rfl, kR_0 rfl k1, sR_me hs 0⟩
        unfold OK_X5_run
        rw [if_neg hn', if_neg hf, if_pos g0, g0]
        exact ⟨o, ok, trivial⟩
end RUN
