/-! the law's loop -/
theorem lw_next {L j : Nat} (hL : L ≤ 2048) (hj : j ≤ L) (h : ¬ Int32.ofNat L - 4 < nI j) : j + 4 ≤ L := by
  have e4 : (4 : Int32).toInt = 4 := by decide
  have e1 : (Int32.ofNat L).toInt = (L : Int) := nI_toInt (n := L) (by omega)
  have e2 : (nI j).toInt = (j : Int) := nI_toInt (by omega)
  rw [i32_lt, i32_sub (by rw [e1, e4]; omega) (by rw [e1, e4]; omega), e1, e2, e4] at h
  omega
theorem lw_in {L j k : Nat} {v : Int32} (hL : L ≤ 2048) (hv : v = nI k) (h : j + k < L) : vp_in (nI j + v) L := by
  subst hv
  rw [nI_add]
  exact vp_in_nI h (by omega)
set_option maxHeartbeats 4000000 in
set_option maxRecDepth 100000 in
theorem law_loop {p : Program} {l : Launch} {e : Env} {s : State} {m : MethodId} {below : List Frame} {meth : Method} {c : Code} {b L : Nat} {xs : Nat → Int32} {D : va_G} {ty : Nat → ClassId} {u1 u2 : Nat → Nat} {qo : Nat} (hfl : l.flags = pinnedFlags ++ [noTraceFlag]) (hL : L ≤ 2048) (C0 : lw_At p s m meth c b L xs) (hK : wK (D, ty, u1) s) (hF : LF s D ty u1 u2 qo) :
    ∀ (n j : Nat) (x4 : Int32), j ≤ L → L + 1 ≤ j + n → x4 = nI j → ∀ (cS : CS) (tS : TS) (rS : RS) (sS : Nat → SS) (me : ME) (mb : AI) (mc : MC) (mt : MT) (mk : MK) (mr : MR) (mq : MQS) (mv : MV) (f : AL) (H : Heap) (locs : List Loc) (ls : Array Slot), LI s D ty u1 u2 qo cS tS rS sS me mb mc mt mk mr mq mv f H locs → Rel cS tS rS sS me mb mc mt mk → lv_has ls 7 [(0, .ref b), (1, .ref (u1 0)), (2, .ref (u2 0)), (3, .ref qo), (4, .int x4)] →
      W p l e room_1 s m #[Value.ref b] below meth c H locs (60 + j) (30000 + 6 * j) (lw_Z below #[Value.ref b] s) (F0 m 23 ls []) := by
  intro n
  induction n with
  | zero =>
    intro j x4 h1 h2
    exact absurd h2 (by omega)
  | succ n ih =>
    intro j x4 hj hjn ex4 cS tS rS sS me mb mc mt mk mr mq mv f H locs ls hI hR hl
    obtain ⟨hx, hb, hr, hml, hown, hts, hX, hbl, hlocks, hgv⟩ := id C0
    have hbA : ¬ lwA s b := Nat.not_le.mpr hbl
    refine lv_iload hx hb dL_law_23 (lv_at hl 4 rfl) ?_
    refine lv_aload_n hx hb dL_law_25 rfl (lv_at hl 0 rfl) ?_
    refine va_slen hx hb hX hbl hbA hI.2.2.2 dL_law_26 ?_
    refine lv_iconst (v := 4) hx hb dL_law_27 (by decide) ?_
    refine lv_isub hx hb dL_law_28 ?_
    refine lv_icmp_gt (tgt := 554) hx hb dL_law_29 (by decide) (fun _ => ?_) (fun h => ?_)
    · refine lv_iconst (v := 1) hx hb dL_law_554 (by decide) ?_
      refine va_forget (fun q hq => hI.2.2.2.2.2 q hq) ?_
      refine W.widen (k := 601024) (n := 7293034) (by omega) (by omega) ?_
      exact lw_ret hx hb hr hlocks dL_law_555
    · have hlt : j + 4 ≤ L := lw_next hL hj (by rw [← ex4]; exact h)
      have h0 : vp_in x4 L := by rw [ex4]; exact vp_in_nI (by omega) (by omega)
      have h1 : vp_in (x4 + 1) L := by rw [ex4]; exact lw_in (k := 1) hL (by decide) (by omega)
      have h2 : vp_in (x4 + 2) L := by rw [ex4]; exact lw_in (k := 2) hL (by decide) (by omega)
      have h3 : vp_in (x4 + 3) L := by rw [ex4]; exact lw_in (k := 3) hL (by decide) (by omega)
      have hC : (60 + j) + 4 ≤ room_1.cells ∧ (30000 + 6 * j) + 24 ≤ room_1.slots := ⟨Nat.le_trans (show 60 + j + 4 ≤ 601024 by omega) (Nat.le_of_ble_eq_true rfl), Nat.le_trans (show 30000 + 6 * j + 24 ≤ 7293034 by omega) (Nat.le_of_ble_eq_true rfl)⟩
      have kk : Nx p l e s m below meth c b D ty u1 u2 qo x4 (60 + j) (30000 + 6 * j) := by
        intro cS tS rS sS me mb mc mt mk mr mq mv f H locs ls hI hR hl
        obtain ⟨x5, ex5⟩ : ∃ y : Int32, y = x4 + 4 := ⟨_, rfl⟩
        refine lv_iinc (v := x5) (lv' := [(4, .int x5), (0, .ref b), (1, .ref (u1 0)), (2, .ref (u2 0)), (3, .ref qo)]) hx hb dL_law_548 hl (k := 4) rfl (by rw [ex5]; rfl) (by decide) rfl (fun ls hl => ?_)
        refine lv_goto (tgt := 23) hx hb dL_law_551 (by decide) ?_
        refine W.widen (k := 60 + (j + 4)) (n := 30000 + 6 * (j + 4)) (by omega) (by omega) ?_
        exact ih (j + 4) x5 hlt (by omega) (by rw [ex5, ex4]; exact nI_add j 4) _ _ _ _ _ _ _ _ _ _ _ _ _ _ _ _ hI hR (lv_sub hl [1, 2, 3, 4, 0] rfl)
      refine lv_aload_n hx hb dL_law_32 rfl (lv_at hl 0 rfl) ?_
      refine lv_iload hx hb dL_law_33 (lv_at hl 4 rfl) ?_
      refine va_sld hx hb hX hbl hbA hI.2.2.2 h0 dL_law_35 ?_
      refine lv_bipush (v := 15) hx hb dL_law_36 (by decide) ?_
      refine lv_iand hx hb dL_law_38 ?_
      refine lv_topi (fun z ez => ?_)
      by_cases z0 : z.toInt = 0
      · exact xTabK (tgt := 96) hx hb dL_law_39 z0 (by decide) (k_cell C0 hK hF hI hR hl h1 h2 h3 hC kk)
      by_cases z1 : z.toInt = 1
      · exact xTabK (tgt := 145) hx hb dL_law_39 z1 (by decide) (k_node C0 hK hF hI hR hl h1 h2 h3 hC kk)
      by_cases z2 : z.toInt = 2
      · exact xTabK (tgt := 194) hx hb dL_law_39 z2 (by decide) (k_make C0 hK hF hI hR hl h1 h2 h3 hC kk)
      by_cases z3 : z.toInt = 3
      · exact xTabK (tgt := 219) hx hb dL_law_39 z3 (by decide) (k_code C0 hK hF hI hR hl h1 h2 h3 hC kk)
      by_cases z4 : z.toInt = 4
      · exact xTabK (tgt := 256) hx hb dL_law_39 z4 (by decide) (k_run C0 hK hF hI hR hl h1 h2 h3 hC kk)
      by_cases z5 : z.toInt = 5
      · exact xTabK (tgt := 309) hx hb dL_law_39 z5 (by decide) (k_at hfl C0 hK hF hI hR hl h1 h2 hC kk)
      by_cases z6 : z.toInt = 6
      · exact xTabK (tgt := 393) hx hb dL_law_39 z6 (by decide) (k_put C0 hK hF hI hR hl h1 h2 h3 hC kk)
      by_cases z7 : z.toInt = 7
      · exact xTabK (tgt := 432) hx hb dL_law_39 z7 (by decide) (k_fast C0 hK hF hI hR hl h1 h2 h3 hC kk)
      by_cases z8 : z.toInt = 8
      · exact xTabK (tgt := 457) hx hb dL_law_39 z8 (by decide) (k_point C0 hK hF hI hR hl h1 h2 h3 hC kk)
      by_cases z9 : z.toInt = 9
      · exact xTabK (tgt := 482) hx hb dL_law_39 z9 (by decide) (k_raised C0 hK hF hI hR hl h1 h2 h3 hC kk)
      by_cases z10 : z.toInt = 10
      · exact xTabK (tgt := 523) hx hb dL_law_39 z10 (by decide) (k_same C0 hK hF hI hR hl h1 h2 h3 hC kk)
      refine xTabD (tgt := 548) hx hb dL_law_39 (xCons z0 (xCons z1 (xCons z2 (xCons z3 (xCons z4 (xCons z5 (xCons z6 (xCons z7 (xCons z8 (xCons z9 (xCons z10 xNil))))))))))) (by decide) (by decide) ?_
      exact W.widen (Nat.le_add_right _ _) (Nat.le_add_right _ _) (kk _ _ _ _ _ _ _ _ _ _ _ _ _ _ _ _ hI hR hl)
