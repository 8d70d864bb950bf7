/-! at: the byte, or an exception -/
set_option maxRecDepth 20000 in
theorem iw_X4_at_X4 : ∀ w ∈ wsX40, w ∈ wsX4_at := by decide +kernel
theorem ba_is {x : SS} {p : Int32} (h : ¬ G_X2_holds p = 0) : G_X2_byteAt x p = x.1 p.toNatClampNeg := by
  unfold G_X2_byteAt
  rw [if_neg h]
set_option maxHeartbeats 4000000 in
set_option maxRecDepth 100000 in
theorem c_X4_at (l : Launch) (w : WG) (c : CS) (t : TS) (r : RS) (s : Nat → SS) (cd p : Int32) (hh : ¬ G_X2_holds p = 0) (hb0 : okB (s 0).1) (hb1 : okB (s 1).1) : Met l yX4_at wsX4_at { frames := 2, cells := 0, slots := 0, locals := 42 } (va_Pc [.ref (w.2.2 0), .int cd, .int p] (wPK w (wC w c t r s))) (xR (some (.int (if cd = 0 then (s 0).1 p.toNatClampNeg else (s 1).1 p.toNatClampNeg)))) 0 0 xNo := by
  have k0 := c_X2_byteAt l w c t r s 0 (by decide) (s 0) p hb0
  have k1 := c_X2_byteAt l w c t r s 1 (by decide) (s 1) p hb1
  rw [va_up_id, ba_is hh] at k0 k1
  refine xOf (cc := cX4_at) (maxL := 3) (ret := some .byte) (lv := [(0, .ref (w.2.2 0)), (1, .int cd), (2, .int p)]) (by decide) rfl (Nat.le_of_ble_eq_true rfl) rfl ?_
  intro pP eE S mM below meth C hx hb hr hml hts hown hlk hnm hw ls hl
  obtain ⟨hP, hK⟩ := hw
  have hP : va_P w.1 vwCl (wC w c t r s) S.heap := hP
  refine lv_iload_n hx hb dX4_at_0 rfl (lv_at hl 2 rfl) ?_
  refine xR_i (va_runS (As := [.int p]) (rest := []) ⟨hx, hb, hml, hown, hts⟩ (c_X2_holds l w c t r s p) (va_cwS 1 hts gX4_at_X2_holds rfl rfl rfl ds_X2_holds ⟨Nat.le_of_ble_eq_true rfl, Nat.le_of_ble_eq_true rfl⟩) (wPre hP hK) rfl rfl hl.1 rfl (lv_room (Nat.le_of_ble_eq_true rfl)) dX4_at_1 ⟨Nat.zero_le _, Nat.zero_le _⟩) ?_
  refine lv_if_ne (tgt := 15) hx hb dX4_at_4 (by decide) (fun b1 => ?_) (fun b1 => absurd b1 hh)
  refine lv_iload_n hx hb dX4_at_15 rfl (lv_at hl 1 rfl) ?_
  refine lv_if_eq (tgt := 30) hx hb dX4_at_16 (by decide) (fun b2 => ?_) (fun b2 => ?_)
  · refine lv_aload_n hx hb dX4_at_30 rfl (lv_at hl 0 rfl) ?_
    refine va_get (D := w.1) (ci := 5) (v := .ref (w.2.2 18)) (C := RX4) (T := TX4) (N := 7) hx hb hts iw_X4_at_X4 hown hK.1 hP 0 rfl rfl 3 (by decide) (hts (.fieldLink RX4 37 "ProcedureCode" "walked" "LProcedureCode$Storage;") (by decide +kernel)) (fun _ h9 => h9) rfl dX4_at_31 ?_
    refine lv_iload_n hx hb dX4_at_34 rfl (lv_at hl 2 rfl) ?_
    refine xR_i (va_runV (As := [.int p]) (rest := []) ⟨hx, hb, hml, hown, hts⟩ k0 (cwV 1 hts gX4_at_X2_byteAt rfl rfl rfl (by decide +kernel) ⟨Nat.le_of_ble_eq_true rfl, Nat.le_of_ble_eq_true rfl⟩) (wPreV hP hK (ci := 3) (q0 := 18) rfl rfl) rfl rfl hl.1 rfl (lv_room (Nat.le_of_ble_eq_true rfl)) dX4_at_35 ⟨Nat.zero_le _, Nat.zero_le _⟩) ?_
    exact xR_zret (ty := .byte) hx hb hr hlk (hb0 _) (by rw [if_pos b2]) dX4_at_38
  · refine lv_aload_n hx hb dX4_at_19 rfl (lv_at hl 0 rfl) ?_
    refine va_get (D := w.1) (ci := 5) (v := .ref (w.2.2 20)) (C := RX4) (T := TX4) (N := 7) hx hb hts iw_X4_at_X4 hown hK.1 hP 0 rfl rfl 4 (by decide) (hts (.fieldLink RX4 41 "ProcedureCode" "stepped" "LProcedureCode$Storage;") (by decide +kernel)) (fun _ h9 => h9) rfl dX4_at_20 ?_
    refine lv_iload_n hx hb dX4_at_23 rfl (lv_at hl 2 rfl) ?_
    refine xR_i (va_runV (As := [.int p]) (rest := []) ⟨hx, hb, hml, hown, hts⟩ k1 (cwV 1 hts gX4_at_X2_byteAt rfl rfl rfl (by decide +kernel) ⟨Nat.le_of_ble_eq_true rfl, Nat.le_of_ble_eq_true rfl⟩) (wPreV hP hK (ci := 3) (q0 := 20) rfl rfl) rfl rfl hl.1 rfl (lv_room (Nat.le_of_ble_eq_true rfl)) dX4_at_24 ⟨Nat.zero_le _, Nat.zero_le _⟩) ?_
    refine lv_goto (tgt := 38) hx hb dX4_at_27 (by decide) ?_
    exact xR_zret (ty := .byte) hx hb hr hlk (hb1 _) (by rw [if_neg b2]) dX4_at_38
