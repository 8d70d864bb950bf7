section SAME
variable {N M : Nat} {c : CS} {t : TS} {mc : MC} {mt : MT} {r : RS} {mk : MK} {s : Nat → SS} {mb : AI} {me : ME}
theorem like_L {s : Nat → SS} (h1 : ∀ i, i < 64 → (s 2).1 i = (s 3).1 i) (h2 : (s 2).2.1 = (s 3).2.1) : ∀ (e i fu : Nat), i + e = 64 → e + 1 ≤ fu → G_X2_isLike_2_L2 s fu (nI i) = 1 := by
  intro e
  induction e with
  | zero =>
    intro i fu hi hf
    obtain ⟨f, rfl⟩ : ∃ f, fu = f + 1 := ⟨fu - 1, by omega⟩
    have : i = 64 := by omega
    subst this
    rw [G_X2_isLike_2_L2, if_pos (show (64 : Int32) ≤ nI 64 by decide), if_pos h2]
  | succ e ih =>
    intro i fu hi hf
    obtain ⟨f, rfl⟩ : ∃ f, fu = f + 1 := ⟨fu - 1, by omega⟩
    rw [G_X2_isLike_2_L2, if_neg (show ¬ (64 : Int32) ≤ nI i from nI_ge (b := 64) (by omega) (by omega)), nI_clamp (by omega), if_pos (h1 i (by omega)), nI_1]
    exact ih (i + 1) f (by omega) (by omega)
theorem cpy_lt (f g : AI) {i : Nat} (h : i < 64) : va_cpy f g 0 0 64 i = f i := by
  unfold va_cpy
  rw [if_pos ⟨Nat.zero_le _, by omega⟩, Nat.zero_add, Nat.sub_zero]
theorem same_is (hTR : tR N M c t mt) (hC : cR N c mc) (hk : kR r mk) (hs : sR s mb me) (mr : MR) (mq : MQS) (n : Int32) : ∃ fm, OK_X5_same me mt mk mr mq n fm ∧ (G_X4_same c t r s n).1 = (G_X5_same me mt mk mr mq n fm).1 ∧ (G_X5_same me mt mk mr mq n fm).2.1 = (0, me.2.1, me.2.2) ∧ kR (G_X4_same c t r s n).2.1 (G_X5_same me mt mk mr mq n fm).2.2.1 ∧ (G_X4_same c t r s n).2.2 0 = s 0 ∧ (G_X4_same c t r s n).2.2 1 = s 1 := by
  have hTR' := hTR
  obtain ⟨hT, hm, hR, h0, hd, hr⟩ := hTR
  have hM2 := hT.2.2.2.1
  have he := has_eq hT.2.2.1 hm n
  by_cases hn : G_X3_has t n = 0
  · have hn' : G_X5_isNode mt n = 0 := he.symm.trans hn
    refine ⟨0, ?_⟩
    have e5 : G_X5_same me mt mk mr mq n 0 = (0, (0, me.2.1, me.2.2), mk, mr, mq) := by
      unfold G_X5_same
      rw [if_pos hn']
    have e4 : G_X4_same c t r s n = (0, r, s) := by
      unfold G_X4_same
      rw [build_n hTR' hn]
      exact if_neg (show ¬ (0 : Int32) ≤ -2 by decide)
    rw [e4, e5]
    refine ⟨?_, rfl, rfl, hk, rfl, rfl⟩
    unfold OK_X5_same
    rw [if_pos hn']
    trivial
  · have hn' : ¬ G_X5_isNode mt n = 0 := fun q => hn (he.trans q)
    obtain ⟨k, h1, h2, rfl⟩ := has_nat hT.2.2.1 hM2 hn
    obtain ⟨fm, o, m0, m1⟩ := made_is hT hR h1 h2 mr mq
    refine ⟨fm, ?_⟩
    by_cases hl : ln t 200 k ≤ 400
    · obtain ⟨g1, gX⟩ := m1 hl
      have gne : ¬ (G_X5_made mt mr mq (nI k) fm).1 = 0 := by rw [g1]; decide
      have hmr := mrI_of gX (by rw [cd_len]; exact hl)
      obtain ⟨r', eb, E⟩ := build_1 hTR' h1 h2 hl r
      have gX1 := gX.1
      rw [cd_len, Nat.zero_add] at gX1
      obtain ⟨ok, mk', ek, k1, k2⟩ := keep1 (mk := mk) (mr := (G_X5_made mt mr mq (nI k) fm).2.1) hl gX1 gne
      have K : kR r' mk' := kR_of hTR' (cd_rows hT 200 k 0 h1 h2 (by omega)) (by rw [cd_len]; exact hl) E gX (by rw [cd_len]; exact k1) (by rw [cd_len]; exact k2)
      have x2 : (G_X2_copyFrom_3 (G_X2_copyFrom_2 s)) 2 = (va_cpy (s 0).1 (s 2).1 0 0 64, (s 2).2) := by
        unfold G_X2_copyFrom_3 G_X2_copyFrom_2
        rw [va_up_ne _ _ (by decide), va_up_self]
      have x3 : (G_X2_copyFrom_3 (G_X2_copyFrom_2 s)) 3 = (va_cpy (s 0).1 (s 3).1 0 0 64, (s 3).2) := by
        unfold G_X2_copyFrom_3 G_X2_copyFrom_2
        rw [va_up_self, va_up_ne _ _ (by decide), va_up_ne _ _ (by decide)]
      have x0 : ∀ j, j < 2 → (G_X2_copyFrom_3 (G_X2_copyFrom_2 s)) j = s j := fun j hj => by
        unfold G_X2_copyFrom_3 G_X2_copyFrom_2
        rw [va_up_ne _ _ (by omega), va_up_ne _ _ (by omega)]
      have W := stepAll_walk hT h1 h2 (rvI_of E (by rw [cd_len]; exact hl)) hl ((G_X2_copyFrom_3 (G_X2_copyFrom_2 s)) 3)
      have K := kR_K K (stepAll_K c r' ((G_X2_copyFrom_3 (G_X2_copyFrom_2 s)) 3))
      have C := walk_cong hT hC h1 h2 hmr hl (x := (G_X2_copyFrom_3 (G_X2_copyFrom_2 s)) 2) (y := (G_X2_copyFrom_3 (G_X2_copyFrom_2 s)) 3) (fun i hi => by
        rw [x2, x3]
        show va_cpy (s 0).1 (s 2).1 0 0 64 i = va_cpy (s 0).1 (s 3).1 0 0 64 i
        rw [cpy_lt _ _ hi, cpy_lt _ _ hi])
      have e4 : G_X4_same c t r s (nI k) = (1, (G_X1_stepAll c r' ((G_X2_copyFrom_3 (G_X2_copyFrom_2 s)) 3)).1, va_up (va_up (G_X2_copyFrom_3 (G_X2_copyFrom_2 s)) 2 (G_X3_walkAll c t ((G_X2_copyFrom_3 (G_X2_copyFrom_2 s)) 2) (nI k))) 3 (G_X3_walkAll c t ((G_X2_copyFrom_3 (G_X2_copyFrom_2 s)) 3) (nI k))) := by
        unfold G_X4_same
        rw [eb, if_pos (show (0 : Int32) ≤ (nI (ln t 200 k), r').1 from nI_pos' (by omega)), va_up_ne _ _ (show (3 : Nat) ≠ 2 by decide), W]
        have L : G_X2_isLike_2 (va_up (va_up (G_X2_copyFrom_3 (G_X2_copyFrom_2 s)) 2 (G_X3_walkAll c t ((G_X2_copyFrom_3 (G_X2_copyFrom_2 s)) 2) (nI k))) 3 (G_X3_walkAll c t ((G_X2_copyFrom_3 (G_X2_copyFrom_2 s)) 3) (nI k))) = 1 := by
          refine like_L (fun i hi => ?_) ?_ 64 0 70 (by omega) (by omega)
          · rw [va_up_ne _ _ (show (2 : Nat) ≠ 3 by decide), va_up_self, va_up_self]
            exact C.2 i hi
          · rw [va_up_ne _ _ (show (2 : Nat) ≠ 3 by decide), va_up_self, va_up_self]
            exact C.1
        rw [L]
      have e5 : G_X5_same me mt mk mr mq (nI k) fm = (1, (0, me.2.1, me.2.2), mk', (G_X5_made mt mr mq (nI k) fm).2.1, (G_X5_made mt mr mq (nI k) fm).2.2) := by
        unfold G_X5_same
        rw [if_neg hn', ek, g1]
      rw [e4, e5]
      refine ⟨?_, rfl, rfl, K, ?_, ?_⟩
      · unfold OK_X5_same
        rw [if_neg hn']
        exact ⟨o, ok, trivial⟩
      · dsimp only
        rw [va_up_ne _ _ (by decide), va_up_ne _ _ (by decide), x0 0 (by omega)]
      · dsimp only
        rw [va_up_ne _ _ (by decide), va_up_ne _ _ (by decide), x0 1 (by omega)]
    · have g0 := m0 (by omega)
      obtain ⟨b1, b2⟩ := build_0 hTR' h1 h2 hl r
      obtain ⟨ok, mk', ek, k1⟩ := keep0 (mk := mk) (mr := (G_X5_made mt mr mq (nI k) fm).2.1)
      have e4 : G_X4_same c t r s (nI k) = (0, (0, r.2.1, r.2.2.1, r.2.2.2.1, r.2.2.2.2.1, r.2.2.2.2.2), s) := by
        unfold G_X4_same
        rw [b1]
        exact if_neg (show ¬ (0 : Int32) ≤ -1 by decide)
      have e5 : G_X5_same me mt mk mr mq (nI k) fm = (0, (0, me.2.1, me.2.2), mk', (G_X5_made mt mr mq (nI k) fm).2.1, (G_X5_made mt mr mq (nI k) fm).2.2) := by
        unfold G_X5_same
        rw [if_neg hn', g0, ek]
      rw [e4, e5]
      refine ⟨?_, rfl, rfl, kR_0 rfl k1, rfl, rfl⟩
      unfold OK_X5_same
      rw [if_neg hn', g0]
      exact ⟨o, ok, trivial⟩
theorem put_is (hs : sR s mb me) (p v : Int32) : OK_X5_put me mb p v ∧ (G_X4_put s p v).1 = (G_X5_put me mb p v).1 ∧ sR (G_X4_put s p v).2 (G_X5_put me mb p v).2.2 (G_X5_put me mb p v).2.1 := by
  have t64 : (64 : Int32).toInt = 64 := by decide
  unfold OK_X5_put G_X5_put
  by_cases h : G_X2_holds p = 0
  · have e4 : G_X4_put s p v = (-4, s) := by
      unfold G_X4_put
      rw [if_pos h]
    rw [e4]
    unfold G_X2_holds at h
    by_cases q1 : p < 0
    · simp only [if_pos q1]
      exact ⟨trivial, trivial, sR_me hs 0⟩
    · rw [if_neg q1] at h
      by_cases q2 : 64 ≤ p
      · have q3 : ¬ p < 64 := by rw [i32_lt, t64]; rw [i32_le, t64] at q2; omega
        simp only [if_neg q1, if_neg q3]
        exact ⟨trivial, trivial, sR_me hs 0⟩
      · rw [if_neg q2] at h
        exact absurd h (by decide)
  · have hh := h
    unfold G_X2_holds at hh
    by_cases q1 : p < 0
    · rw [if_pos q1] at hh
      exact absurd rfl hh
    · rw [if_neg q1] at hh
      by_cases q2 : 64 ≤ p
      · rw [if_pos q2] at hh
        exact absurd rfl hh
      · have q3 : p < 64 := by rw [i32_lt, t64]; rw [i32_le, t64] at q2; omega
        have q1' := q1
        have q3' := q3
        rw [i32_lt, i0] at q1'
        rw [i32_lt, t64] at q3'
        obtain ⟨j, hj, rfl⟩ : ∃ j : Nat, j < 64 ∧ p = nI j := ⟨p.toInt.toNat, by omega, i32_of (by omega) (by omega)⟩
        have e64 : nI j + 64 = nI (j + 64) := nI_add j 64
        simp only [if_neg q1, if_pos q3]
        rw [e64, nI_clamp (by omega), nI_clamp (by omega)]
        have e4 : G_X4_put s (nI j) v = (1, va_up (va_up s 0 (upd (s 0).1 j (vp_nar .byte v), (s 0).2.1, (s 0).2.2)) 1 (upd (s 1).1 j (vp_nar .byte v), (s 1).2.1, (s 1).2.2)) := by
          unfold G_X4_put
          rw [if_neg h, va_up_ne _ _ (show (1 : Nat) ≠ 0 by decide)]
          unfold G_X2_setByte
          rw [if_neg h, if_neg h, nI_clamp (by omega)]
        rw [e4]
        obtain ⟨b0, b1, o0, o1, om, m0, m1⟩ := hs
        refine ⟨⟨vp_in_nI (by omega) (by omega), vp_in_nI (by omega) (by omega), trivial⟩, rfl, ?_⟩
        show sR (va_up (va_up s 0 (upd (s 0).1 j (vp_nar .byte v), (s 0).2.1, (s 0).2.2)) 1 (upd (s 1).1 j (vp_nar .byte v), (s 1).2.1, (s 1).2.2)) (upd (upd mb j (vp_nar .byte v)) (j + 64) (vp_nar .byte v)) (0, me.2.1, me.2.2)
        refine ⟨?_, ?_, ?_, ?_, okB_upd (okB_upd om _ _) _ _, ?_, ?_⟩
        · rw [va_up_ne _ _ (by decide), va_up_self]
          intro i hi
          rw [Nat.zero_add, pk_un (by omega)]
          by_cases e : i = j
          · subst e
            rw [pk_us]
            exact pk_us.symm
          · rw [pk_un e]
            have := b0 i hi
            rw [Nat.zero_add] at this
            rw [this]
            exact (pk_un e).symm
        · rw [va_up_self]
          intro i hi
          by_cases e : i = j
          · subst e
            rw [Nat.add_comm 64 i, pk_us]
            exact pk_us.symm
          · rw [pk_un (by omega), pk_un (by omega), b1 i hi]
            exact (pk_un e).symm
        · rw [va_up_ne _ _ (by decide), va_up_self]
          exact okB_upd o0 _ _
        · rw [va_up_self]
          exact okB_upd o1 _ _
        · rw [va_up_ne _ _ (by decide), va_up_self]
          exact m0
        · rw [va_up_self]
          exact m1
theorem raised_is (hs : sR s mb me) (f : Int32) : G_X4_raised s f = (G_X5_raised me f).1 ∧ (G_X5_raised me f).2 = (0, me.2.1, me.2.2) := by
  obtain ⟨-, -, -, -, -, m0, m1⟩ := hs
  unfold G_X4_raised G_X5_raised
  by_cases h : f = 0
  · rw [if_pos h, if_pos h]
    exact ⟨m0.symm, rfl⟩
  · rw [if_neg h, if_neg h]
    exact ⟨m1.symm, rfl⟩
theorem at_is (hs : sR s mb me) (f p : Int32) : OK_X5_at me mb f p ∧ (G_X2_holds p = 0 → G_X5_at me mb f p = (0, (1, me.2.1, me.2.2))) ∧ (¬ G_X2_holds p = 0 → G_X5_at me mb f p = ((if f = 0 then (s 0).1 p.toNatClampNeg else (s 1).1 p.toNatClampNeg), (0, me.2.1, me.2.2))) := by
  have t64 : (64 : Int32).toInt = 64 := by decide
  have z1 : ¬ (1 : Int32) ≤ 0 := by decide
  have z0 : (0 : Int32) ≤ 0 := by decide
  unfold OK_X5_at G_X5_at G_X2_holds
  by_cases q1 : p < 0
  · simp only [if_pos q1, if_neg z1]
    exact ⟨trivial, fun _ => trivial, fun h => absurd trivial h⟩
  · by_cases q2 : 64 ≤ p
    · simp only [if_neg q1, if_pos q2, if_neg z1]
      exact ⟨trivial, fun _ => trivial, fun h => absurd trivial h⟩
    · simp only [if_neg q1, if_neg q2, if_pos z0]
      rw [i32_lt, i0] at q1
      rw [i32_le, t64] at q2
      obtain ⟨j, hj, rfl⟩ : ∃ j : Nat, j < 64 ∧ p = nI j := ⟨p.toInt.toNat, by omega, i32_of (by omega) (by omega)⟩
      have e0 : nI j + 0 = nI j := nI_add j 0
      have e64 : nI j + 64 = nI (j + 64) := nI_add j 64
      rw [e0, e64, nI_clamp (by omega), nI_clamp (by omega)]
      obtain ⟨b0, b1, o0, o1, om, m0, m1⟩ := hs
      have a0 := b0 j hj
      have a1 := b1 j hj
      rw [Nat.zero_add] at a0
      rw [Nat.add_comm] at a1
      refine ⟨?_, fun h => absurd h (by decide), fun _ => ?_⟩
      · exact itp (fun _ => ⟨vp_in_nI (by omega) (by omega), trivial⟩) (fun _ => ⟨vp_in_nI (by omega) (by omega), trivial⟩)
      · by_cases hf : f = 0
        · rw [if_pos hf, if_pos hf, a0]
        · rw [if_neg hf, if_neg hf, a1]
end SAME
