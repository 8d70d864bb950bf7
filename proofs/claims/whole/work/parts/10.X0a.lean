set_option maxRecDepth 20000 in
theorem iw_X0_has_X0 : ∀ w ∈ wsX00, w ∈ wsX0_has := by decide +kernel
set_option maxRecDepth 20000 in
theorem fl_X0_has_21 : Cond.fieldLink RX0 21 "ProcedureCode$Cells" "count" "I" ∈ wsX0_has := by decide +kernel
def G_X0_has (c : CS) (n : Int32) : Int32 := if n < 0 then ((0 : Int32)) else (if c.1 ≤ n then ((0 : Int32)) else ((1 : Int32)))
set_option maxHeartbeats 4000000 in
set_option maxRecDepth 100000 in
theorem c_X0_has (l : Launch) (w : WG) (c : CS) (t : TS) (r : RS) (s : Nat → SS) (n : Int32) : Met l yX0_has wsX0_has { frames := 0, cells := 0, slots := 0, locals := 0 } (va_Pc [.ref (w.2.2 1), .int n] (wPK w (wC w c t r s))) (xR (some (.int (G_X0_has c n)))) 0 0 xNo := by
  refine xOf (cc := cX0_has) (maxL := 2) (ret := (some .boolean)) (lv := [(0, .ref (w.2.2 1)), (1, .int n)]) (by decide) rfl (Nat.le_of_ble_eq_true rfl) rfl ?_
  intro pP eE S mM below meth C hx hb hr hml hts hown hlk hnm hw ls hl
  obtain ⟨hP, hK⟩ := hw
  refine lv_iload_n hx hb dX0_has_0 rfl (lv_at hl 1 rfl) ?_
  refine lv_if_lt (tgt := 16) hx hb dX0_has_1 (by decide) (fun b1 => ?_) (fun b1 => ?_)
  ·
    refine lv_iconst (v := 0) hx hb dX0_has_16 (by decide) ?_
    exact xR_zret hx hb hr hlk rfl (Eq.trans rfl (if_pos b1)) dX0_has_17
  ·
    refine lv_iload_n hx hb dX0_has_4 rfl (lv_at hl 1 rfl) ?_
    refine lv_aload_n hx hb dX0_has_5 rfl (lv_at hl 0 rfl) ?_
    refine va_get (D := w.1) (ci := 1) (v := .int c.1) (C := RX0) (T := TX0) (N := 4) hx hb hts iw_X0_has_X0 hown hK.1 hP 1 rfl rfl 3 (by decide) (hts _ fl_X0_has_21) (fun _ h9 => h9) rfl dX0_has_6 ?_
    refine lv_icmp_ge (tgt := 16) hx hb dX0_has_9 (by decide) (fun b2 => ?_) (fun b2 => ?_)
    ·
      refine lv_iconst (v := 0) hx hb dX0_has_16 (by decide) ?_
      exact xR_zret hx hb hr hlk rfl (Eq.trans (Eq.trans rfl (if_neg b1)) (if_pos b2)) dX0_has_17
    ·
      refine lv_iconst (v := 1) hx hb dX0_has_12 (by decide) ?_
      refine lv_goto (tgt := 17) hx hb dX0_has_13 (by decide) ?_
      exact xR_zret hx hb hr hlk rfl (Eq.trans (Eq.trans rfl (if_neg b1)) (if_neg b2)) dX0_has_17
def G_X0_sizeFor  (u : Int32) (d : Int32) : Int32 := if u = (2 : Int32) then ((4 : Int32)) else (if u = (1 : Int32) then ((d / (2 : Int32)) + (1 : Int32)) else (d))
set_option maxHeartbeats 4000000 in
set_option maxRecDepth 100000 in
theorem c_X0_sizeFor (l : Launch) (w : WG) (c : CS) (t : TS) (r : RS) (s : Nat → SS) (u : Int32) (d : Int32) : Met l yX0_sizeFor wsX0_sizeFor { frames := 0, cells := 0, slots := 0, locals := 0 } (va_Pc [.int u, .int d] (wPK w (wC w c t r s))) (xR (some (.int (G_X0_sizeFor u d)))) 0 0 xNo := by
  refine xOf (cc := cX0_sizeFor) (maxL := 2) (ret := (some .int)) (lv := [(0, .int u), (1, .int d)]) (by decide) rfl (Nat.le_of_ble_eq_true rfl) rfl ?_
  intro pP eE S mM below meth C hx hb hr hml hts hown hlk hnm hw ls hl
  obtain ⟨hP, hK⟩ := hw
  refine lv_iload_n hx hb dX0_sizeFor_0 rfl (lv_at hl 0 rfl) ?_
  refine lv_iconst (v := 2) hx hb dX0_sizeFor_1 (by decide) ?_
  refine lv_icmp_ne (tgt := 7) hx hb dX0_sizeFor_2 (by decide) (fun b1 => ?_) (fun b1 => ?_)
  ·
    refine lv_iload_n hx hb dX0_sizeFor_7 rfl (lv_at hl 0 rfl) ?_
    refine lv_iconst (v := 1) hx hb dX0_sizeFor_8 (by decide) ?_
    refine lv_icmp_ne (tgt := 20) hx hb dX0_sizeFor_9 (by decide) (fun b2 => ?_) (fun b2 => ?_)
    ·
      refine lv_iload_n hx hb dX0_sizeFor_20 rfl (lv_at hl 1 rfl) ?_
      exact xR_iret hx hb hr hlk  (Eq.trans (Eq.trans rfl (if_neg b1)) (if_neg b2)) dX0_sizeFor_21
    ·
      refine lv_iload_n hx hb dX0_sizeFor_12 rfl (lv_at hl 1 rfl) ?_
      refine lv_iconst (v := 2) hx hb dX0_sizeFor_13 (by decide) ?_
      refine lv_idiv hx hb dX0_sizeFor_14 (by decide) ?_
      refine lv_iconst (v := 1) hx hb dX0_sizeFor_15 (by decide) ?_
      refine lv_iadd hx hb dX0_sizeFor_16 ?_
      refine lv_goto (tgt := 21) hx hb dX0_sizeFor_17 (by decide) ?_
      exact xR_iret hx hb hr hlk  (Eq.trans (Eq.trans rfl (if_neg b1)) (if_pos b2)) dX0_sizeFor_21
  ·
    refine lv_iconst (v := 4) hx hb dX0_sizeFor_5 (by decide) ?_
    exact xR_iret hx hb hr hlk  (Eq.trans rfl (if_pos b1)) dX0_sizeFor_6
set_option maxRecDepth 20000 in
theorem dv_X0_has : yX0_has.cls = RX0 ∧ yX0_has.cls ≠ "java/lang/invoke/MethodHandle" ∧ yX0_has.cls ≠ "java/lang/invoke/VarHandle" ∧ (parseMethodDescriptor yX0_has.desc).map (fun d => d.parameters.length) = some 1 := by decide +kernel
set_option maxRecDepth 20000 in
theorem iw_X0_surelyWithin_X0 : ∀ w ∈ wsX00, w ∈ wsX0_surelyWithin := by decide +kernel
set_option maxRecDepth 20000 in
theorem fl_X0_surelyWithin_9 : Cond.fieldLink RX0 9 "ProcedureCode$Cells" "usages" "[I" ∈ wsX0_surelyWithin := by decide +kernel
set_option maxRecDepth 20000 in
theorem fl_X0_surelyWithin_15 : Cond.fieldLink RX0 15 "ProcedureCode$Cells" "digits" "[I" ∈ wsX0_surelyWithin := by decide +kernel
def G_X0_surelyWithin (c : CS) (n : Int32) : Int32 := if (G_X0_has c n) = 0 then ((0 : Int32)) else (if (c.2.1 n.toNatClampNeg) = (2 : Int32) then ((10 : Int32)) else (c.2.2.1 n.toNatClampNeg))
def OK_X0_surelyWithin (c : CS) (n : Int32) : Prop := if (G_X0_has c n) = 0 then (True) else ((vp_in n 40) ∧ (if (c.2.1 n.toNatClampNeg) = (2 : Int32) then (True) else ((vp_in n 40) ∧ (True))))
set_option maxHeartbeats 4000000 in
set_option maxRecDepth 100000 in
theorem c_X0_surelyWithin (l : Launch) (w : WG) (c : CS) (t : TS) (r : RS) (s : Nat → SS) (n : Int32) (hok : OK_X0_surelyWithin c n) : Met l yX0_surelyWithin wsX0_surelyWithin { frames := 1, cells := 0, slots := 0, locals := 21 } (va_Pc [.ref (w.2.2 1), .int n] (wPK w (wC w c t r s))) (xR (some (.int (G_X0_surelyWithin c n)))) 0 0 xNo := by
  refine xOf (cc := cX0_surelyWithin) (maxL := 2) (ret := (some .int)) (lv := [(0, .ref (w.2.2 1)), (1, .int n)]) (by decide) rfl (Nat.le_of_ble_eq_true rfl) rfl ?_
  intro pP eE S mM below meth C hx hb hr hml hts hown hlk hnm hw ls hl
  obtain ⟨hP, hK⟩ := hw
  refine lv_aload_n hx hb dX0_surelyWithin_0 rfl (lv_at hl 0 rfl) ?_
  refine lv_iload_n hx hb dX0_surelyWithin_1 rfl (lv_at hl 1 rfl) ?_
  refine xR_i (va_runV (As := [.int n]) (rest := []) ⟨hx, hb, hml, hown, hts⟩ (c_X0_has l w c t r s n ) (cwV 1 hts gX0_surelyWithin_X0_has rfl rfl rfl dv_X0_has ⟨Nat.le_of_ble_eq_true rfl, Nat.le_of_ble_eq_true rfl⟩) (wPreV hP hK (ci := 1) (q0 := 1) rfl rfl) rfl rfl hl.1 rfl (lv_room (Nat.le_of_ble_eq_true rfl)) dX0_surelyWithin_2 ⟨Nat.zero_le _, Nat.zero_le _⟩) ?_
  refine lv_if_ne (tgt := 10) hx hb dX0_surelyWithin_5 (by decide) (fun b1 => ?_) (fun b1 => ?_)
  ·
    have k2 := Eq.mp (if_neg b1) hok
    refine lv_aload_n hx hb dX0_surelyWithin_10 rfl (lv_at hl 0 rfl) ?_
    refine va_get (D := w.1) (ci := 1) (v := .ref (w.2.2 2)) (C := RX0) (T := TX0) (N := 4) hx hb hts iw_X0_surelyWithin_X0 hown hK.1 hP 1 rfl rfl 0 (by decide) (hts _ fl_X0_surelyWithin_9) (fun _ h9 => h9) rfl dX0_surelyWithin_11 ?_
    refine lv_iload_n hx hb dX0_surelyWithin_14 rfl (lv_at hl 1 rfl) ?_
    have o3 := k2.1
    have k4 := k2.2
    refine va_iald hx hb hK.1 hP 2 0 rfl rfl o3 dX0_surelyWithin_15 ?_
    refine lv_iconst (v := 2) hx hb dX0_surelyWithin_16 (by decide) ?_
    refine lv_icmp_ne (tgt := 25) hx hb dX0_surelyWithin_17 (by decide) (fun b5 => ?_) (fun b5 => ?_)
    ·
      have k6 := Eq.mp (if_neg b5) k4
      refine lv_aload_n hx hb dX0_surelyWithin_25 rfl (lv_at hl 0 rfl) ?_
      refine va_get (D := w.1) (ci := 1) (v := .ref (w.2.2 3)) (C := RX0) (T := TX0) (N := 4) hx hb hts iw_X0_surelyWithin_X0 hown hK.1 hP 1 rfl rfl 1 (by decide) (hts _ fl_X0_surelyWithin_15) (fun _ h9 => h9) rfl dX0_surelyWithin_26 ?_
      refine lv_iload_n hx hb dX0_surelyWithin_29 rfl (lv_at hl 1 rfl) ?_
      have o7 := k6.1
      have k8 := k6.2
      refine va_iald hx hb hK.1 hP 3 0 rfl rfl o7 dX0_surelyWithin_30 ?_
      exact xR_iret hx hb hr hlk  (Eq.trans (Eq.trans rfl (if_neg b1)) (if_neg b5)) dX0_surelyWithin_31
    ·
      have k9 := Eq.mp (if_pos b5) k4
      refine lv_bipush (v := 10) hx hb dX0_surelyWithin_20 (by decide) ?_
      refine lv_goto (tgt := 31) hx hb dX0_surelyWithin_22 (by decide) ?_
      exact xR_iret hx hb hr hlk  (Eq.trans (Eq.trans rfl (if_neg b1)) (if_pos b5)) dX0_surelyWithin_31
  ·
    have k10 := Eq.mp (if_pos b1) hok
    refine lv_iconst (v := 0) hx hb dX0_surelyWithin_8 (by decide) ?_
    exact xR_iret hx hb hr hlk  (Eq.trans rfl (if_pos b1)) dX0_surelyWithin_9
set_option maxRecDepth 20000 in
theorem mw_X0_placeBehind_k33 : Cond.constantLong RX0 33 (-64) ∈ wsX0_placeBehind := by decide +kernel
set_option maxRecDepth 20000 in
theorem mw_X0_placeBehind_k35 : Cond.constantLong RX0 35 (64) ∈ wsX0_placeBehind := by decide +kernel
set_option maxRecDepth 20000 in
theorem iw_X0_placeBehind_X0 : ∀ w ∈ wsX00, w ∈ wsX0_placeBehind := by decide +kernel
set_option maxRecDepth 20000 in
theorem fl_X0_placeBehind_9 : Cond.fieldLink RX0 9 "ProcedureCode$Cells" "usages" "[I" ∈ wsX0_placeBehind := by decide +kernel
set_option maxRecDepth 20000 in
theorem fl_X0_placeBehind_15 : Cond.fieldLink RX0 15 "ProcedureCode$Cells" "digits" "[I" ∈ wsX0_placeBehind := by decide +kernel
set_option maxRecDepth 20000 in
theorem ds_X0_sizeFor : yX0_sizeFor.cls ≠ "java/lang/invoke/MethodHandle" ∧ yX0_sizeFor.cls ≠ "java/lang/invoke/VarHandle" ∧ (parseMethodDescriptor yX0_sizeFor.desc).map (fun d => d.parameters.length) = some 2 := by decide +kernel
set_option maxRecDepth 20000 in
theorem fl_X0_placeBehind_18 : Cond.fieldLink RX0 18 "ProcedureCode$Cells" "places" "[I" ∈ wsX0_placeBehind := by decide +kernel
def G_X0_placeBehind (c : CS) (n : Int32) (z : Int64) : Int32 := if (G_X0_has c n) = 0 then ((-1 : Int32)) else (if (lg_cmp z (-64 : Int64)) < 0 then ((-1 : Int32)) else (if (lg_cmp z (64 : Int64)) ≤ 0 then (if ((c.2.2.2 n.toNatClampNeg) + (z.toInt32 * (G_X0_sizeFor (c.2.1 n.toNatClampNeg) (c.2.2.1 n.toNatClampNeg)))) < 0 then ((-1 : Int32)) else (if ((c.2.2.2 n.toNatClampNeg) + (z.toInt32 * (G_X0_sizeFor (c.2.1 n.toNatClampNeg) (c.2.2.1 n.toNatClampNeg)))) ≤ ((64 : Int32) - (G_X0_sizeFor (c.2.1 n.toNatClampNeg) (c.2.2.1 n.toNatClampNeg))) then ((c.2.2.2 n.toNatClampNeg) + (z.toInt32 * (G_X0_sizeFor (c.2.1 n.toNatClampNeg) (c.2.2.1 n.toNatClampNeg)))) else ((-1 : Int32)))) else ((-1 : Int32))))
def OK_X0_placeBehind (c : CS) (n : Int32) (z : Int64) : Prop := if (G_X0_has c n) = 0 then (True) else (if (lg_cmp z (-64 : Int64)) < 0 then (True) else (if (lg_cmp z (64 : Int64)) ≤ 0 then ((vp_in n 40) ∧ ((vp_in n 40) ∧ ((vp_in n 40) ∧ (if ((c.2.2.2 n.toNatClampNeg) + (z.toInt32 * (G_X0_sizeFor (c.2.1 n.toNatClampNeg) (c.2.2.1 n.toNatClampNeg)))) < 0 then (True) else (if ((c.2.2.2 n.toNatClampNeg) + (z.toInt32 * (G_X0_sizeFor (c.2.1 n.toNatClampNeg) (c.2.2.1 n.toNatClampNeg)))) ≤ ((64 : Int32) - (G_X0_sizeFor (c.2.1 n.toNatClampNeg) (c.2.2.1 n.toNatClampNeg))) then (True) else (True)))))) else (True)))
set_option maxHeartbeats 4000000 in
set_option maxRecDepth 100000 in
theorem c_X0_placeBehind (l : Launch) (w : WG) (c : CS) (t : TS) (r : RS) (s : Nat → SS) (n : Int32) (z : Int64) (hok : OK_X0_placeBehind c n z) : Met l yX0_placeBehind wsX0_placeBehind { frames := 1, cells := 0, slots := 0, locals := 21 } (va_Pc [.ref (w.2.2 1), .int n, .long z] (wPK w (wC w c t r s))) (xR (some (.int (G_X0_placeBehind c n z)))) 0 0 xNo := by
  refine xOf (cc := cX0_placeBehind) (maxL := 6) (ret := (some .int)) (lv := [(0, .ref (w.2.2 1)), (1, .int n), (2, .long z)]) (by decide) rfl (Nat.le_of_ble_eq_true rfl) rfl ?_
  intro pP eE S mM below meth C hx hb hr hml hts hown hlk hnm hw ls hl
  obtain ⟨hP, hK⟩ := hw
  refine lv_aload_n hx hb dX0_placeBehind_0 rfl (lv_at hl 0 rfl) ?_
  refine lv_iload_n hx hb dX0_placeBehind_1 rfl (lv_at hl 1 rfl) ?_
  refine xR_i (va_runV (As := [.int n]) (rest := []) ⟨hx, hb, hml, hown, hts⟩ (c_X0_has l w c t r s n ) (cwV 1 hts gX0_placeBehind_X0_has rfl rfl rfl dv_X0_has ⟨Nat.le_of_ble_eq_true rfl, Nat.le_of_ble_eq_true rfl⟩) (wPreV hP hK (ci := 1) (q0 := 1) rfl rfl) rfl rfl hl.1 rfl (lv_room (Nat.le_of_ble_eq_true rfl)) dX0_placeBehind_2 ⟨Nat.zero_le _, Nat.zero_le _⟩) ?_
  refine lv_if_eq (tgt := 24) hx hb dX0_placeBehind_5 (by decide) (fun b1 => ?_) (fun b1 => ?_)
  ·
    have k2 := Eq.mp (if_pos b1) hok
    refine lv_iconst (v := -1) hx hb dX0_placeBehind_24 (by decide) ?_
    exact xR_iret hx hb hr hlk  (Eq.trans rfl (if_pos b1)) dX0_placeBehind_25
  ·
    have k3 := Eq.mp (if_neg b1) hok
    refine lv_lload_n hx hb dX0_placeBehind_8 rfl (lv_at hl 2 rfl) ?_
    refine lv_ldc2 (v := -64) hx hb hown (hts _ mw_X0_placeBehind_k33) dX0_placeBehind_9 ?_
    refine W.lcmp hx hb dX0_placeBehind_12 ?_
    refine lv_if_lt (tgt := 24) hx hb dX0_placeBehind_13 (by decide) (fun b4 => ?_) (fun b4 => ?_)
    ·
      have k5 := Eq.mp (if_pos b4) k3
      refine lv_iconst (v := -1) hx hb dX0_placeBehind_24 (by decide) ?_
      exact xR_iret hx hb hr hlk  (Eq.trans (Eq.trans rfl (if_neg b1)) (if_pos b4)) dX0_placeBehind_25
    ·
      have k6 := Eq.mp (if_neg b4) k3
      refine lv_lload_n hx hb dX0_placeBehind_16 rfl (lv_at hl 2 rfl) ?_
      refine lv_ldc2 (v := 64) hx hb hown (hts _ mw_X0_placeBehind_k35) dX0_placeBehind_17 ?_
      refine W.lcmp hx hb dX0_placeBehind_20 ?_
      refine lv_if_le (tgt := 26) hx hb dX0_placeBehind_21 (by decide) (fun b7 => ?_) (fun b7 => ?_)
      ·
        have k8 := Eq.mp (if_pos b7) k6
        refine lv_aload_n hx hb dX0_placeBehind_26 rfl (lv_at hl 0 rfl) ?_
        refine va_get (D := w.1) (ci := 1) (v := .ref (w.2.2 2)) (C := RX0) (T := TX0) (N := 4) hx hb hts iw_X0_placeBehind_X0 hown hK.1 hP 1 rfl rfl 0 (by decide) (hts _ fl_X0_placeBehind_9) (fun _ h9 => h9) rfl dX0_placeBehind_27 ?_
        refine lv_iload_n hx hb dX0_placeBehind_30 rfl (lv_at hl 1 rfl) ?_
        have o9 := k8.1
        have k10 := k8.2
        refine va_iald hx hb hK.1 hP 2 0 rfl rfl o9 dX0_placeBehind_31 ?_
        refine lv_aload_n hx hb dX0_placeBehind_32 rfl (lv_at hl 0 rfl) ?_
        refine va_get (D := w.1) (ci := 1) (v := .ref (w.2.2 3)) (C := RX0) (T := TX0) (N := 4) hx hb hts iw_X0_placeBehind_X0 hown hK.1 hP 1 rfl rfl 1 (by decide) (hts _ fl_X0_placeBehind_15) (fun _ h9 => h9) rfl dX0_placeBehind_33 ?_
        refine lv_iload_n hx hb dX0_placeBehind_36 rfl (lv_at hl 1 rfl) ?_
        have o11 := k10.1
        have k12 := k10.2
        refine va_iald hx hb hK.1 hP 3 0 rfl rfl o11 dX0_placeBehind_37 ?_
        refine xR_i (va_runS (As := [.int (c.2.1 n.toNatClampNeg), .int (c.2.2.1 n.toNatClampNeg)]) (rest := []) ⟨hx, hb, hml, hown, hts⟩ (c_X0_sizeFor l w c t r s (c.2.1 n.toNatClampNeg) (c.2.2.1 n.toNatClampNeg) ) (va_cwS 2 hts gX0_placeBehind_X0_sizeFor rfl rfl rfl ds_X0_sizeFor ⟨Nat.le_of_ble_eq_true rfl, Nat.le_of_ble_eq_true rfl⟩) (wPre hP hK) rfl rfl hl.1 rfl (lv_room (Nat.le_of_ble_eq_true rfl)) dX0_placeBehind_38 ⟨Nat.zero_le _, Nat.zero_le _⟩) ?_
        refine lv_istore (lv' := [(4, .int (G_X0_sizeFor (c.2.1 n.toNatClampNeg) (c.2.2.1 n.toNatClampNeg))), (0, .ref (w.2.2 1)), (1, .int n), (2, .long z)]) hx hb dX0_placeBehind_41 hl (by decide) rfl (fun ls hl => ?_)
        refine lv_aload_n hx hb dX0_placeBehind_43 rfl (lv_at hl 1 rfl) ?_
        refine va_get (D := w.1) (ci := 1) (v := .ref (w.2.2 4)) (C := RX0) (T := TX0) (N := 4) hx hb hts iw_X0_placeBehind_X0 hown hK.1 hP 1 rfl rfl 2 (by decide) (hts _ fl_X0_placeBehind_18) (fun _ h9 => h9) rfl dX0_placeBehind_44 ?_
        refine lv_iload_n hx hb dX0_placeBehind_47 rfl (lv_at hl 2 rfl) ?_
        have o13 := k12.1
        have k14 := k12.2
        refine va_iald hx hb hK.1 hP 4 0 rfl rfl o13 dX0_placeBehind_48 ?_
        refine lv_lload_n hx hb dX0_placeBehind_49 rfl (lv_at hl 3 rfl) ?_
        refine lv_l2i hx hb dX0_placeBehind_50 rfl ?_
        refine lv_iload hx hb dX0_placeBehind_51 (lv_at hl 0 rfl) ?_
        refine lv_imul hx hb dX0_placeBehind_53 ?_
        refine lv_iadd hx hb dX0_placeBehind_54 ?_
        refine lv_istore (lv' := [(5, .int ((c.2.2.2 n.toNatClampNeg) + (z.toInt32 * (G_X0_sizeFor (c.2.1 n.toNatClampNeg) (c.2.2.1 n.toNatClampNeg))))), (4, .int (G_X0_sizeFor (c.2.1 n.toNatClampNeg) (c.2.2.1 n.toNatClampNeg))), (0, .ref (w.2.2 1)), (1, .int n), (2, .long z)]) hx hb dX0_placeBehind_55 hl (by decide) rfl (fun ls hl => ?_)
        refine lv_iload hx hb dX0_placeBehind_57 (lv_at hl 0 rfl) ?_
        refine lv_if_lt (tgt := 72) hx hb dX0_placeBehind_59 (by decide) (fun b15 => ?_) (fun b15 => ?_)
        ·
          have k16 := Eq.mp (if_pos b15) k14
          refine lv_iconst (v := -1) hx hb dX0_placeBehind_72 (by decide) ?_
          refine lv_goto (tgt := 78) hx hb dX0_placeBehind_73 (by decide) ?_
          exact xR_iret hx hb hr hlk  (Eq.trans (Eq.trans (Eq.trans (Eq.trans rfl (if_neg b1)) (if_neg b4)) (if_pos b7)) (if_pos b15)) dX0_placeBehind_78
        ·
          have k17 := Eq.mp (if_neg b15) k14
          refine lv_iload hx hb dX0_placeBehind_62 (lv_at hl 0 rfl) ?_
          refine lv_bipush (v := 64) hx hb dX0_placeBehind_64 (by decide) ?_
          refine lv_iload hx hb dX0_placeBehind_66 (lv_at hl 1 rfl) ?_
          refine lv_isub hx hb dX0_placeBehind_68 ?_
          refine lv_icmp_le (tgt := 76) hx hb dX0_placeBehind_69 (by decide) (fun b18 => ?_) (fun b18 => ?_)
          ·
            have k19 := Eq.mp (if_pos b18) k17
            refine lv_iload hx hb dX0_placeBehind_76 (lv_at hl 0 rfl) ?_
            exact xR_iret hx hb hr hlk  (Eq.trans (Eq.trans (Eq.trans (Eq.trans (Eq.trans rfl (if_neg b1)) (if_neg b4)) (if_pos b7)) (if_neg b15)) (if_pos b18)) dX0_placeBehind_78
          ·
            have k20 := Eq.mp (if_neg b18) k17
            refine lv_iconst (v := -1) hx hb dX0_placeBehind_72 (by decide) ?_
            refine lv_goto (tgt := 78) hx hb dX0_placeBehind_73 (by decide) ?_
            exact xR_iret hx hb hr hlk  (Eq.trans (Eq.trans (Eq.trans (Eq.trans (Eq.trans rfl (if_neg b1)) (if_neg b4)) (if_pos b7)) (if_neg b15)) (if_neg b18)) dX0_placeBehind_78
      ·
        have k21 := Eq.mp (if_neg b7) k6
        refine lv_iconst (v := -1) hx hb dX0_placeBehind_24 (by decide) ?_
        exact xR_iret hx hb hr hlk  (Eq.trans (Eq.trans (Eq.trans rfl (if_neg b1)) (if_neg b4)) (if_neg b7)) dX0_placeBehind_25
def G_X0_isInside  (p : Int32) (n : Int32) : Int32 := if p < 0 then ((0 : Int32)) else (if n < (1 : Int32) then ((0 : Int32)) else (if (64 : Int32) < n then ((0 : Int32)) else (if ((64 : Int32) - n) < p then ((0 : Int32)) else ((1 : Int32)))))
set_option maxHeartbeats 4000000 in
set_option maxRecDepth 100000 in
theorem c_X0_isInside (l : Launch) (w : WG) (c : CS) (t : TS) (r : RS) (s : Nat → SS) (k : Nat) (hk : k < 4) (x : SS) (p : Int32) (n : Int32) : Met l yX0_isInside wsX0_isInside { frames := 0, cells := 0, slots := 0, locals := 0 } (va_Pc [.ref (w.2.2 (19 + 2 * k)), .int p, .int n] (wPK w (wC w c t r (va_up s k x)))) (xR (some (.int (G_X0_isInside p n)))) 0 0 xNo := by
  refine xOf (cc := cX0_isInside) (maxL := 3) (ret := (some .boolean)) (lv := [(0, .ref (w.2.2 (19 + 2 * k))), (1, .int p), (2, .int n)]) (by decide) rfl (Nat.le_of_ble_eq_true rfl) rfl ?_
  intro pP eE S mM below meth C hx hb hr hml hts hown hlk hnm hw ls hl
  obtain ⟨hP, hK⟩ := hw
  refine lv_iload_n hx hb dX0_isInside_0 rfl (lv_at hl 1 rfl) ?_
  refine lv_if_lt (tgt := 27) hx hb dX0_isInside_1 (by decide) (fun b1 => ?_) (fun b1 => ?_)
  ·
    refine lv_iconst (v := 0) hx hb dX0_isInside_27 (by decide) ?_
    exact xR_zret hx hb hr hlk rfl (Eq.trans rfl (if_pos b1)) dX0_isInside_28
  ·
    refine lv_iload_n hx hb dX0_isInside_4 rfl (lv_at hl 2 rfl) ?_
    refine lv_iconst (v := 1) hx hb dX0_isInside_5 (by decide) ?_
    refine lv_icmp_lt (tgt := 27) hx hb dX0_isInside_6 (by decide) (fun b2 => ?_) (fun b2 => ?_)
    ·
      refine lv_iconst (v := 0) hx hb dX0_isInside_27 (by decide) ?_
      exact xR_zret hx hb hr hlk rfl (Eq.trans (Eq.trans rfl (if_neg b1)) (if_pos b2)) dX0_isInside_28
    ·
      refine lv_iload_n hx hb dX0_isInside_9 rfl (lv_at hl 2 rfl) ?_
      refine lv_aload_n hx hb dX0_isInside_10 rfl (lv_at hl 0 rfl) ?_
      refine va_alen hx hb hK.1 hP (19 + 2 * k) 1 (wC_bx hk) rfl (v := 64) rfl dX0_isInside_11 ?_
      refine lv_icmp_gt (tgt := 27) hx hb dX0_isInside_12 (by decide) (fun b3 => ?_) (fun b3 => ?_)
      ·
        refine lv_iconst (v := 0) hx hb dX0_isInside_27 (by decide) ?_
        exact xR_zret hx hb hr hlk rfl (Eq.trans (Eq.trans (Eq.trans rfl (if_neg b1)) (if_neg b2)) (if_pos b3)) dX0_isInside_28
      ·
        refine lv_iload_n hx hb dX0_isInside_15 rfl (lv_at hl 1 rfl) ?_
        refine lv_aload_n hx hb dX0_isInside_16 rfl (lv_at hl 0 rfl) ?_
        refine va_alen hx hb hK.1 hP (19 + 2 * k) 1 (wC_bx hk) rfl (v := 64) rfl dX0_isInside_17 ?_
        refine lv_iload_n hx hb dX0_isInside_18 rfl (lv_at hl 2 rfl) ?_
        refine lv_isub hx hb dX0_isInside_19 ?_
        refine lv_icmp_gt (tgt := 27) hx hb dX0_isInside_20 (by decide) (fun b4 => ?_) (fun b4 => ?_)
        ·
          refine lv_iconst (v := 0) hx hb dX0_isInside_27 (by decide) ?_
          exact xR_zret hx hb hr hlk rfl (Eq.trans (Eq.trans (Eq.trans (Eq.trans rfl (if_neg b1)) (if_neg b2)) (if_neg b3)) (if_pos b4)) dX0_isInside_28
        ·
          refine lv_iconst (v := 1) hx hb dX0_isInside_23 (by decide) ?_
          refine lv_goto (tgt := 28) hx hb dX0_isInside_24 (by decide) ?_
          exact xR_zret hx hb hr hlk rfl (Eq.trans (Eq.trans (Eq.trans (Eq.trans rfl (if_neg b1)) (if_neg b2)) (if_neg b3)) (if_neg b4)) dX0_isInside_28
set_option maxRecDepth 20000 in
theorem mw_X0_lowestDigits_k63 : Cond.constantLong RX0 63 (10) ∈ wsX0_lowestDigits := by decide +kernel
def G_X0_lowestDigits_L11  (v : Int64) (n : Int32) : Nat → Int64 → Int64 → Int64 → Int32 → Int64
  | 0, _, _, _, _ => 0
  | fu + 1, kp, rs, un, i => if n ≤ i then (kp) else (if (9 : Int32) ≤ i then (kp) else (G_X0_lowestDigits_L11 v n fu (kp + ((rs - rs / (10 : Int64) * (10 : Int64)) * un)) (rs / (10 : Int64)) (un * (10 : Int64)) (i + (1 : Int32))))
def OK_X0_lowestDigits_L11  (v : Int64) (n : Int32) : Nat → Int64 → Int64 → Int64 → Int32 → Prop
  | 0, _, _, _, _ => False
  | fu + 1, kp, rs, un, i => if n ≤ i then (True) else (if (9 : Int32) ≤ i then (True) else (OK_X0_lowestDigits_L11 v n fu (kp + ((rs - rs / (10 : Int64) * (10 : Int64)) * un)) (rs / (10 : Int64)) (un * (10 : Int64)) (i + (1 : Int32))))
def G_X0_lowestDigits  (v : Int64) (n : Int32) : Int64 := G_X0_lowestDigits_L11 v n 20 (0 : Int64) v (1 : Int64) (0 : Int32)
def OK_X0_lowestDigits  (v : Int64) (n : Int32) : Prop := OK_X0_lowestDigits_L11 v n 20 (0 : Int64) v (1 : Int64) (0 : Int32)
set_option maxHeartbeats 4000000 in
set_option maxRecDepth 100000 in
theorem L_X0_lowestDigits_L11 (l : Launch) (w : WG) (c : CS) (t : TS) (r : RS) (s : Nat → SS) (v : Int64) (n : Int32) {pP : Program} {eE : Env} {S : State} {mM : MethodId} {below : List Frame} {meth : Method} {C : Code} (hx : pP.tables.exec = Jvm.exec) (hb : C.code = cX0_lowestDigits) (hr : meth.sig.returnType = (some .long)) (hml : C.maxLocals = 10) (hts : ∀ q9 ∈ wsX0_lowestDigits, q9.before ([.long v, .int n] : List Value).toArray S = true) (hown : S.vm.findClass yX0_lowestDigits.cls = some mM.cls) (hlk : meth.locks = false) (hK : wK w S) (g : Int64) :
    ∀ (fu : Nat) (kp : Int64) (rs : Int64) (un : Int64) (i : Int32), va_P w.1 vwCl (wC w c t r s) S.heap → OK_X0_lowestDigits_L11 v n fu kp rs un i → g = G_X0_lowestDigits_L11 v n fu kp rs un i → ∀ ls : Array Slot, lv_has ls 10 [(0, .long v), (2, .int n), (3, .long kp), (5, .long rs), (7, .long un), (9, .int i)] → W pP l eE { frames := 0, cells := 0, slots := 0, locals := 0 } S mM ([.long v, .int n] : List Value).toArray below meth C S.heap [] 0 0 (MQ below (xR (some (.long g))) ([.long v, .int n] : List Value).toArray S 0 0 xNo) (F0 mM 11 ls []) := by
  intro fu
  induction fu with
  | zero =>
    intro kp rs un i hP hok hg ls hl
    exact hok.elim
  | succ fu ih =>
    intro kp rs un i hP hok hg ls hl
    refine lv_iload hx hb dX0_lowestDigits_11 (lv_at hl 5 rfl) ?_
    refine lv_iload_n hx hb dX0_lowestDigits_13 rfl (lv_at hl 1 rfl) ?_
    refine lv_icmp_ge (tgt := 58) hx hb dX0_lowestDigits_14 (by decide) (fun b1 => ?_) (fun b1 => ?_)
    ·
      have k2 := Eq.mp (if_pos b1) hok
      refine lv_lload_n hx hb dX0_lowestDigits_58 rfl (lv_at hl 2 rfl) ?_
      exact xR_lret hx hb hr hlk  (Eq.trans hg (if_pos b1)) dX0_lowestDigits_59
    ·
      have k3 := Eq.mp (if_neg b1) hok
      refine lv_iload hx hb dX0_lowestDigits_17 (lv_at hl 5 rfl) ?_
      refine lv_bipush (v := 9) hx hb dX0_lowestDigits_19 (by decide) ?_
      refine lv_icmp_ge (tgt := 58) hx hb dX0_lowestDigits_21 (by decide) (fun b4 => ?_) (fun b4 => ?_)
      ·
        have k5 := Eq.mp (if_pos b4) k3
        refine lv_lload_n hx hb dX0_lowestDigits_58 rfl (lv_at hl 2 rfl) ?_
        exact xR_lret hx hb hr hlk  (Eq.trans (Eq.trans hg (if_neg b1)) (if_pos b4)) dX0_lowestDigits_59
      ·
        have k6 := Eq.mp (if_neg b4) k3
        refine lv_lload_n hx hb dX0_lowestDigits_24 rfl (lv_at hl 2 rfl) ?_
        refine lv_lload hx hb dX0_lowestDigits_25 (lv_at hl 3 rfl) ?_
        refine lv_ldc2 (v := 10) hx hb hown (hts _ mw_X0_lowestDigits_k63) dX0_lowestDigits_27 ?_
        refine lv_lrem hx hb dX0_lowestDigits_30 (by decide) ?_
        refine lv_lload hx hb dX0_lowestDigits_31 (lv_at hl 4 rfl) ?_
        refine lv_lmul hx hb dX0_lowestDigits_33 ?_
        refine lv_ladd hx hb dX0_lowestDigits_34 ?_
        refine lv_lstore_n (lv' := [(3, .long (kp + ((rs - rs / (10 : Int64) * (10 : Int64)) * un))), (0, .long v), (2, .int n), (5, .long rs), (7, .long un), (9, .int i)]) hx hb dX0_lowestDigits_35 rfl hl (by decide) rfl (fun ls hl => ?_)
        refine lv_lload hx hb dX0_lowestDigits_36 (lv_at hl 3 rfl) ?_
        refine lv_ldc2 (v := 10) hx hb hown (hts _ mw_X0_lowestDigits_k63) dX0_lowestDigits_38 ?_
        refine lv_ldiv hx hb dX0_lowestDigits_41 (by decide) ?_
        refine lv_lstore (lv' := [(5, .long (rs / (10 : Int64))), (3, .long (kp + ((rs - rs / (10 : Int64) * (10 : Int64)) * un))), (0, .long v), (2, .int n), (7, .long un), (9, .int i)]) hx hb dX0_lowestDigits_42 hl (by decide) rfl (fun ls hl => ?_)
        refine lv_lload hx hb dX0_lowestDigits_44 (lv_at hl 4 rfl) ?_
        refine lv_ldc2 (v := 10) hx hb hown (hts _ mw_X0_lowestDigits_k63) dX0_lowestDigits_46 ?_
        refine lv_lmul hx hb dX0_lowestDigits_49 ?_
        refine lv_lstore (lv' := [(7, .long (un * (10 : Int64))), (5, .long (rs / (10 : Int64))), (3, .long (kp + ((rs - rs / (10 : Int64) * (10 : Int64)) * un))), (0, .long v), (2, .int n), (9, .int i)]) hx hb dX0_lowestDigits_50 hl (by decide) rfl (fun ls hl => ?_)
        refine lv_iinc (v := i + (1 : Int32)) (lv' := [(9, .int (i + (1 : Int32))), (7, .long (un * (10 : Int64))), (5, .long (rs / (10 : Int64))), (3, .long (kp + ((rs - rs / (10 : Int64) * (10 : Int64)) * un))), (0, .long v), (2, .int n)]) hx hb dX0_lowestDigits_52 hl (k := 5) rfl rfl (by decide) rfl (fun ls hl => ?_)
        refine lv_goto (tgt := 11) hx hb dX0_lowestDigits_55 (by decide) ?_
        exact ih (kp + ((rs - rs / (10 : Int64) * (10 : Int64)) * un)) (rs / (10 : Int64)) (un * (10 : Int64)) (i + (1 : Int32)) hP k6 (Eq.trans (Eq.trans hg (if_neg b1)) (if_neg b4)) ls (lv_sub hl [4, 5, 3, 2, 1, 0] rfl)
set_option maxHeartbeats 4000000 in
set_option maxRecDepth 100000 in
theorem c_X0_lowestDigits (l : Launch) (w : WG) (c : CS) (t : TS) (r : RS) (s : Nat → SS) (v : Int64) (n : Int32) (hok : OK_X0_lowestDigits v n) : Met l yX0_lowestDigits wsX0_lowestDigits { frames := 0, cells := 0, slots := 0, locals := 0 } (va_Pc [.long v, .int n] (wPK w (wC w c t r s))) (xR (some (.long (G_X0_lowestDigits v n)))) 0 0 xNo := by
  refine xOf (cc := cX0_lowestDigits) (maxL := 10) (ret := (some .long)) (lv := [(0, .long v), (2, .int n)]) (by decide) rfl (Nat.le_of_ble_eq_true rfl) rfl ?_
  intro pP eE S mM below meth C hx hb hr hml hts hown hlk hnm hw ls hl
  obtain ⟨hP, hK⟩ := hw
  refine lv_lconst (v := 0) hx hb dX0_lowestDigits_0 (by decide) ?_
  refine lv_lstore_n (lv' := [(3, .long (0 : Int64)), (0, .long v), (2, .int n)]) hx hb dX0_lowestDigits_1 rfl hl (by decide) rfl (fun ls hl => ?_)
  refine lv_lload_n hx hb dX0_lowestDigits_2 rfl (lv_at hl 1 rfl) ?_
  refine lv_lstore (lv' := [(5, .long v), (3, .long (0 : Int64)), (0, .long v), (2, .int n)]) hx hb dX0_lowestDigits_3 hl (by decide) rfl (fun ls hl => ?_)
  refine lv_lconst (v := 1) hx hb dX0_lowestDigits_5 (by decide) ?_
  refine lv_lstore (lv' := [(7, .long (1 : Int64)), (5, .long v), (3, .long (0 : Int64)), (0, .long v), (2, .int n)]) hx hb dX0_lowestDigits_6 hl (by decide) rfl (fun ls hl => ?_)
  refine lv_iconst (v := 0) hx hb dX0_lowestDigits_8 (by decide) ?_
  refine lv_istore (lv' := [(9, .int (0 : Int32)), (7, .long (1 : Int64)), (5, .long v), (3, .long (0 : Int64)), (0, .long v), (2, .int n)]) hx hb dX0_lowestDigits_9 hl (by decide) rfl (fun ls hl => ?_)
  exact L_X0_lowestDigits_L11 l w c t r s v n  hx hb hr hml hts hown hlk hK _ 20 (0 : Int64) v (1 : Int64) (0 : Int32) hP hok rfl ls (lv_sub hl [4, 5, 3, 2, 1, 0] rfl)
set_option maxRecDepth 20000 in
theorem mw_X0_readZoned_k63 : Cond.constantLong RX0 63 (10) ∈ wsX0_readZoned := by decide +kernel
set_option maxRecDepth 20000 in
theorem ds_X0_isInside : yX0_isInside.cls ≠ "java/lang/invoke/MethodHandle" ∧ yX0_isInside.cls ≠ "java/lang/invoke/VarHandle" ∧ (parseMethodDescriptor yX0_isInside.desc).map (fun d => d.parameters.length) = some 3 := by decide +kernel
def G_X0_readZoned_L16 (x : SS) (p : Int32) (n : Int32) : Nat → Int64 → Int32 → Int64
  | 0, _, _ => 0
  | fu + 1, nu, i => if (p + n) ≤ i then (if ((x.1 ((p + n) - (1 : Int32)).toNatClampNeg) &&& (64 : Int32)) = 0 then (nu) else (-nu)) else (G_X0_readZoned_L16 x p n fu ((nu * (10 : Int64)) + ((((x.1 i.toNatClampNeg) &&& (15 : Int32)) - ((x.1 i.toNatClampNeg) &&& (15 : Int32)) / (10 : Int32) * (10 : Int32)).toInt64)) (i + (1 : Int32)))
def OK_X0_readZoned_L16 (x : SS) (p : Int32) (n : Int32) : Nat → Int64 → Int32 → Prop
  | 0, _, _ => False
  | fu + 1, nu, i => if (p + n) ≤ i then ((vp_in ((p + n) - (1 : Int32)) 64) ∧ (if ((x.1 ((p + n) - (1 : Int32)).toNatClampNeg) &&& (64 : Int32)) = 0 then (True) else (True))) else ((vp_in i 64) ∧ (OK_X0_readZoned_L16 x p n fu ((nu * (10 : Int64)) + ((((x.1 i.toNatClampNeg) &&& (15 : Int32)) - ((x.1 i.toNatClampNeg) &&& (15 : Int32)) / (10 : Int32) * (10 : Int32)).toInt64)) (i + (1 : Int32))))
def G_X0_readZoned (x : SS) (p : Int32) (n : Int32) : Int64 := if (G_X0_isInside p n) = 0 then ((0 : Int64)) else (G_X0_readZoned_L16 x p n 70 (0 : Int64) p)
def OK_X0_readZoned (x : SS) (p : Int32) (n : Int32) : Prop := if (G_X0_isInside p n) = 0 then (True) else (OK_X0_readZoned_L16 x p n 70 (0 : Int64) p)
set_option maxHeartbeats 4000000 in
set_option maxRecDepth 100000 in
theorem L_X0_readZoned_L16 (l : Launch) (w : WG) (c : CS) (t : TS) (r : RS) (s : Nat → SS) (k : Nat) (hk : k < 4) (x : SS) (p : Int32) (n : Int32) {pP : Program} {eE : Env} {S : State} {mM : MethodId} {below : List Frame} {meth : Method} {C : Code} (hx : pP.tables.exec = Jvm.exec) (hb : C.code = cX0_readZoned) (hr : meth.sig.returnType = (some .long)) (hml : C.maxLocals = 6) (hts : ∀ q9 ∈ wsX0_readZoned, q9.before ([.ref (w.2.2 (19 + 2 * k)), .int p, .int n] : List Value).toArray S = true) (hown : S.vm.findClass yX0_readZoned.cls = some mM.cls) (hlk : meth.locks = false) (hK : wK w S) (g : Int64) :
    ∀ (fu : Nat) (nu : Int64) (i : Int32), va_P w.1 vwCl (wC w c t r (va_up s k x)) S.heap → OK_X0_readZoned_L16 x p n fu nu i → g = G_X0_readZoned_L16 x p n fu nu i → ∀ ls : Array Slot, lv_has ls 6 [(0, .ref (w.2.2 (19 + 2 * k))), (1, .int p), (2, .int n), (3, .long nu), (5, .int i)] → W pP l eE { frames := 1, cells := 0, slots := 0, locals := 22 } S mM ([.ref (w.2.2 (19 + 2 * k)), .int p, .int n] : List Value).toArray below meth C S.heap [] 0 0 (MQ below (xR (some (.long g))) ([.ref (w.2.2 (19 + 2 * k)), .int p, .int n] : List Value).toArray S 0 0 xNo) (F0 mM 16 ls []) := by
  intro fu
  induction fu with
  | zero =>
    intro nu i hP hok hg ls hl
    exact hok.elim
  | succ fu ih =>
    intro nu i hP hok hg ls hl
    refine lv_iload hx hb dX0_readZoned_16 (lv_at hl 4 rfl) ?_
    refine lv_iload_n hx hb dX0_readZoned_18 rfl (lv_at hl 1 rfl) ?_
    refine lv_iload_n hx hb dX0_readZoned_19 rfl (lv_at hl 2 rfl) ?_
    refine lv_iadd hx hb dX0_readZoned_20 ?_
    refine lv_icmp_ge (tgt := 48) hx hb dX0_readZoned_21 (by decide) (fun b1 => ?_) (fun b1 => ?_)
    ·
      have k2 := Eq.mp (if_pos b1) hok
      refine lv_aload_n hx hb dX0_readZoned_48 rfl (lv_at hl 0 rfl) ?_
      refine lv_iload_n hx hb dX0_readZoned_49 rfl (lv_at hl 1 rfl) ?_
      refine lv_iload_n hx hb dX0_readZoned_50 rfl (lv_at hl 2 rfl) ?_
      refine lv_iadd hx hb dX0_readZoned_51 ?_
      refine lv_iconst (v := 1) hx hb dX0_readZoned_52 (by decide) ?_
      refine lv_isub hx hb dX0_readZoned_53 ?_
      have o3 := k2.1
      have k4 := k2.2
      refine va_bald hx hb hK.1 hP (19 + 2 * k) 1 (wC_bx hk) rfl o3 dX0_readZoned_54 ?_
      refine lv_bipush (v := 64) hx hb dX0_readZoned_55 (by decide) ?_
      refine lv_iand hx hb dX0_readZoned_57 ?_
      refine lv_if_eq (tgt := 66) hx hb dX0_readZoned_58 (by decide) (fun b5 => ?_) (fun b5 => ?_)
      ·
        have k6 := Eq.mp (if_pos b5) k4
        refine lv_lload_n hx hb dX0_readZoned_66 rfl (lv_at hl 3 rfl) ?_
        exact xR_lret hx hb hr hlk  (Eq.trans (Eq.trans hg (if_pos b1)) (if_pos b5)) dX0_readZoned_67
      ·
        have k7 := Eq.mp (if_neg b5) k4
        refine lv_lload_n hx hb dX0_readZoned_61 rfl (lv_at hl 3 rfl) ?_
        refine lv_lneg hx hb dX0_readZoned_62 ?_
        refine lv_goto (tgt := 67) hx hb dX0_readZoned_63 (by decide) ?_
        exact xR_lret hx hb hr hlk  (Eq.trans (Eq.trans hg (if_pos b1)) (if_neg b5)) dX0_readZoned_67
    ·
      have k8 := Eq.mp (if_neg b1) hok
      refine lv_lload_n hx hb dX0_readZoned_24 rfl (lv_at hl 3 rfl) ?_
      refine lv_ldc2 (v := 10) hx hb hown (hts _ mw_X0_readZoned_k63) dX0_readZoned_25 ?_
      refine lv_lmul hx hb dX0_readZoned_28 ?_
      refine lv_aload_n hx hb dX0_readZoned_29 rfl (lv_at hl 0 rfl) ?_
      refine lv_iload hx hb dX0_readZoned_30 (lv_at hl 4 rfl) ?_
      have o9 := k8.1
      have k10 := k8.2
      refine va_bald hx hb hK.1 hP (19 + 2 * k) 1 (wC_bx hk) rfl o9 dX0_readZoned_32 ?_
      refine lv_bipush (v := 15) hx hb dX0_readZoned_33 (by decide) ?_
      refine lv_iand hx hb dX0_readZoned_35 ?_
      refine lv_bipush (v := 10) hx hb dX0_readZoned_36 (by decide) ?_
      refine lv_irem hx hb dX0_readZoned_38 (by decide) ?_
      refine lv_i2l hx hb dX0_readZoned_39 rfl ?_
      refine lv_ladd hx hb dX0_readZoned_40 ?_
      refine lv_lstore_n (lv' := [(3, .long ((nu * (10 : Int64)) + ((((x.1 i.toNatClampNeg) &&& (15 : Int32)) - ((x.1 i.toNatClampNeg) &&& (15 : Int32)) / (10 : Int32) * (10 : Int32)).toInt64))), (0, .ref (w.2.2 (19 + 2 * k))), (1, .int p), (2, .int n), (5, .int i)]) hx hb dX0_readZoned_41 rfl hl (by decide) rfl (fun ls hl => ?_)
      refine lv_iinc (v := i + (1 : Int32)) (lv' := [(5, .int (i + (1 : Int32))), (3, .long ((nu * (10 : Int64)) + ((((x.1 i.toNatClampNeg) &&& (15 : Int32)) - ((x.1 i.toNatClampNeg) &&& (15 : Int32)) / (10 : Int32) * (10 : Int32)).toInt64))), (0, .ref (w.2.2 (19 + 2 * k))), (1, .int p), (2, .int n)]) hx hb dX0_readZoned_42 hl (k := 4) rfl rfl (by decide) rfl (fun ls hl => ?_)
      refine lv_goto (tgt := 16) hx hb dX0_readZoned_45 (by decide) ?_
      exact ih ((nu * (10 : Int64)) + ((((x.1 i.toNatClampNeg) &&& (15 : Int32)) - ((x.1 i.toNatClampNeg) &&& (15 : Int32)) / (10 : Int32) * (10 : Int32)).toInt64)) (i + (1 : Int32)) hP k10 (Eq.trans hg (if_neg b1)) ls (lv_sub hl [2, 3, 4, 1, 0] rfl)
set_option maxHeartbeats 4000000 in
set_option maxRecDepth 100000 in
theorem c_X0_readZoned (l : Launch) (w : WG) (c : CS) (t : TS) (r : RS) (s : Nat → SS) (k : Nat) (hk : k < 4) (x : SS) (p : Int32) (n : Int32) (hok : OK_X0_readZoned x p n) : Met l yX0_readZoned wsX0_readZoned { frames := 1, cells := 0, slots := 0, locals := 22 } (va_Pc [.ref (w.2.2 (19 + 2 * k)), .int p, .int n] (wPK w (wC w c t r (va_up s k x)))) (xR (some (.long (G_X0_readZoned x p n)))) 0 0 xNo := by
  refine xOf (cc := cX0_readZoned) (maxL := 6) (ret := (some .long)) (lv := [(0, .ref (w.2.2 (19 + 2 * k))), (1, .int p), (2, .int n)]) (by decide) rfl (Nat.le_of_ble_eq_true rfl) rfl ?_
  intro pP eE S mM below meth C hx hb hr hml hts hown hlk hnm hw ls hl
  obtain ⟨hP, hK⟩ := hw
  refine lv_aload_n hx hb dX0_readZoned_0 rfl (lv_at hl 0 rfl) ?_
  refine lv_iload_n hx hb dX0_readZoned_1 rfl (lv_at hl 1 rfl) ?_
  refine lv_iload_n hx hb dX0_readZoned_2 rfl (lv_at hl 2 rfl) ?_
  refine xR_i (va_runS (As := [.ref (w.2.2 (19 + 2 * k)), .int p, .int n]) (rest := []) ⟨hx, hb, hml, hown, hts⟩ (c_X0_isInside l w c t r s k hk x p n ) (va_cwS 3 hts gX0_readZoned_X0_isInside rfl rfl rfl ds_X0_isInside ⟨Nat.le_of_ble_eq_true rfl, Nat.le_of_ble_eq_true rfl⟩) (wPre hP hK) rfl rfl hl.1 rfl (lv_room (Nat.le_of_ble_eq_true rfl)) dX0_readZoned_3 ⟨Nat.zero_le _, Nat.zero_le _⟩) ?_
  refine lv_if_ne (tgt := 11) hx hb dX0_readZoned_6 (by decide) (fun b1 => ?_) (fun b1 => ?_)
  ·
    have k2 := Eq.mp (if_neg b1) hok
    refine lv_lconst (v := 0) hx hb dX0_readZoned_11 (by decide) ?_
    refine lv_lstore_n (lv' := [(3, .long (0 : Int64)), (0, .ref (w.2.2 (19 + 2 * k))), (1, .int p), (2, .int n)]) hx hb dX0_readZoned_12 rfl hl (by decide) rfl (fun ls hl => ?_)
    refine lv_iload_n hx hb dX0_readZoned_13 rfl (lv_at hl 2 rfl) ?_
    refine lv_istore (lv' := [(5, .int p), (3, .long (0 : Int64)), (0, .ref (w.2.2 (19 + 2 * k))), (1, .int p), (2, .int n)]) hx hb dX0_readZoned_14 hl (by decide) rfl (fun ls hl => ?_)
    exact L_X0_readZoned_L16 l w c t r s k hk x p n  hx hb hr hml hts hown hlk hK _ 70 (0 : Int64) p hP k2 (Eq.trans rfl (if_neg b1)) ls (lv_sub hl [2, 3, 4, 1, 0] rfl)
  ·
    have k3 := Eq.mp (if_pos b1) hok
    refine lv_lconst (v := 0) hx hb dX0_readZoned_9 (by decide) ?_
    exact xR_lret hx hb hr hlk  (Eq.trans rfl (if_pos b1)) dX0_readZoned_10
set_option maxRecDepth 20000 in
theorem mw_X0_readPacked_k63 : Cond.constantLong RX0 63 (10) ∈ wsX0_readPacked := by decide +kernel
def G_X0_readPacked_L44 (x : SS) (p : Int32) (n : Int32) : Nat → Int32 → Int64 → Int32 → Int32 → Int64
  | 0, _, _, _, _ => 0
  | fu + 1, sz, nu, sg, i => if sg ≤ i then (if ((x.1 ((p + sz) - (1 : Int32)).toNatClampNeg) &&& (15 : Int32)) = (13 : Int32) then (-nu) else (nu)) else (if (i - i / (2 : Int32) * (2 : Int32)) = 0 then (G_X0_readPacked_L44 x p n fu sz ((nu * (10 : Int64)) + (((((x.1 (p + (i / (2 : Int32))).toNatClampNeg) &&& (255 : Int32)) >>> ((4 : Int32) &&& 31)) - (((x.1 (p + (i / (2 : Int32))).toNatClampNeg) &&& (255 : Int32)) >>> ((4 : Int32) &&& 31)) / (10 : Int32) * (10 : Int32)).toInt64)) sg (i + (1 : Int32))) else (G_X0_readPacked_L44 x p n fu sz ((nu * (10 : Int64)) + (((((x.1 (p + (i / (2 : Int32))).toNatClampNeg) &&& (255 : Int32)) &&& (15 : Int32)) - (((x.1 (p + (i / (2 : Int32))).toNatClampNeg) &&& (255 : Int32)) &&& (15 : Int32)) / (10 : Int32) * (10 : Int32)).toInt64)) sg (i + (1 : Int32))))
def OK_X0_readPacked_L44 (x : SS) (p : Int32) (n : Int32) : Nat → Int32 → Int64 → Int32 → Int32 → Prop
  | 0, _, _, _, _ => False
  | fu + 1, sz, nu, sg, i => if sg ≤ i then ((vp_in ((p + sz) - (1 : Int32)) 64) ∧ (if ((x.1 ((p + sz) - (1 : Int32)).toNatClampNeg) &&& (15 : Int32)) = (13 : Int32) then (True) else (True))) else ((vp_in (p + (i / (2 : Int32))) 64) ∧ (if (i - i / (2 : Int32) * (2 : Int32)) = 0 then (OK_X0_readPacked_L44 x p n fu sz ((nu * (10 : Int64)) + (((((x.1 (p + (i / (2 : Int32))).toNatClampNeg) &&& (255 : Int32)) >>> ((4 : Int32) &&& 31)) - (((x.1 (p + (i / (2 : Int32))).toNatClampNeg) &&& (255 : Int32)) >>> ((4 : Int32) &&& 31)) / (10 : Int32) * (10 : Int32)).toInt64)) sg (i + (1 : Int32))) else (OK_X0_readPacked_L44 x p n fu sz ((nu * (10 : Int64)) + (((((x.1 (p + (i / (2 : Int32))).toNatClampNeg) &&& (255 : Int32)) &&& (15 : Int32)) - (((x.1 (p + (i / (2 : Int32))).toNatClampNeg) &&& (255 : Int32)) &&& (15 : Int32)) / (10 : Int32) * (10 : Int32)).toInt64)) sg (i + (1 : Int32)))))
def G_X0_readPacked (x : SS) (p : Int32) (n : Int32) : Int64 := if (G_X0_isInside p (G_X0_sizeFor (1 : Int32) n)) = 0 then ((0 : Int64)) else (if (n - n / (2 : Int32) * (2 : Int32)) = 0 then (G_X0_readPacked_L44 x p n 140 (G_X0_sizeFor (1 : Int32) n) (0 : Int64) (((G_X0_sizeFor (1 : Int32) n) * (2 : Int32)) - (1 : Int32)) (1 : Int32)) else (G_X0_readPacked_L44 x p n 140 (G_X0_sizeFor (1 : Int32) n) (0 : Int64) (((G_X0_sizeFor (1 : Int32) n) * (2 : Int32)) - (1 : Int32)) (0 : Int32)))
def OK_X0_readPacked (x : SS) (p : Int32) (n : Int32) : Prop := if (G_X0_isInside p (G_X0_sizeFor (1 : Int32) n)) = 0 then (True) else (if (n - n / (2 : Int32) * (2 : Int32)) = 0 then (OK_X0_readPacked_L44 x p n 140 (G_X0_sizeFor (1 : Int32) n) (0 : Int64) (((G_X0_sizeFor (1 : Int32) n) * (2 : Int32)) - (1 : Int32)) (1 : Int32)) else (OK_X0_readPacked_L44 x p n 140 (G_X0_sizeFor (1 : Int32) n) (0 : Int64) (((G_X0_sizeFor (1 : Int32) n) * (2 : Int32)) - (1 : Int32)) (0 : Int32)))
set_option maxHeartbeats 4000000 in
set_option maxRecDepth 100000 in
theorem L_X0_readPacked_L44 (l : Launch) (w : WG) (c : CS) (t : TS) (r : RS) (s : Nat → SS) (k : Nat) (hk : k < 4) (x : SS) (p : Int32) (n : Int32) {pP : Program} {eE : Env} {S : State} {mM : MethodId} {below : List Frame} {meth : Method} {C : Code} (hx : pP.tables.exec = Jvm.exec) (hb : C.code = cX0_readPacked) (hr : meth.sig.returnType = (some .long)) (hml : C.maxLocals = 11) (hts : ∀ q9 ∈ wsX0_readPacked, q9.before ([.ref (w.2.2 (19 + 2 * k)), .int p, .int n] : List Value).toArray S = true) (hown : S.vm.findClass yX0_readPacked.cls = some mM.cls) (hlk : meth.locks = false) (hK : wK w S) (g : Int64) :
    ∀ (fu : Nat) (sz : Int32) (nu : Int64) (sg : Int32) (i : Int32), va_P w.1 vwCl (wC w c t r (va_up s k x)) S.heap → OK_X0_readPacked_L44 x p n fu sz nu sg i → g = G_X0_readPacked_L44 x p n fu sz nu sg i → ∀ ls : Array Slot, lv_has ls 11 [(0, .ref (w.2.2 (19 + 2 * k))), (1, .int p), (2, .int n), (3, .int sz), (4, .long nu), (7, .int sg), (8, .int i)] → W pP l eE { frames := 1, cells := 0, slots := 0, locals := 22 } S mM ([.ref (w.2.2 (19 + 2 * k)), .int p, .int n] : List Value).toArray below meth C S.heap [] 0 0 (MQ below (xR (some (.long g))) ([.ref (w.2.2 (19 + 2 * k)), .int p, .int n] : List Value).toArray S 0 0 xNo) (F0 mM 44 ls []) := by
  intro fu
  induction fu with
  | zero =>
    intro sz nu sg i hP hok hg ls hl
    exact hok.elim
  | succ fu ih =>
    intro sz nu sg i hP hok hg ls hl
    refine lv_iload hx hb dX0_readPacked_44 (lv_at hl 6 rfl) ?_
    refine lv_iload hx hb dX0_readPacked_46 (lv_at hl 5 rfl) ?_
    refine lv_icmp_ge (tgt := 107) hx hb dX0_readPacked_48 (by decide) (fun b1 => ?_) (fun b1 => ?_)
    ·
      have k2 := Eq.mp (if_pos b1) hok
      refine lv_aload_n hx hb dX0_readPacked_107 rfl (lv_at hl 0 rfl) ?_
      refine lv_iload_n hx hb dX0_readPacked_108 rfl (lv_at hl 1 rfl) ?_
      refine lv_iload_n hx hb dX0_readPacked_109 rfl (lv_at hl 3 rfl) ?_
      refine lv_iadd hx hb dX0_readPacked_110 ?_
      refine lv_iconst (v := 1) hx hb dX0_readPacked_111 (by decide) ?_
      refine lv_isub hx hb dX0_readPacked_112 ?_
      have o3 := k2.1
      have k4 := k2.2
      refine va_bald hx hb hK.1 hP (19 + 2 * k) 1 (wC_bx hk) rfl o3 dX0_readPacked_113 ?_
      refine lv_bipush (v := 15) hx hb dX0_readPacked_114 (by decide) ?_
      refine lv_iand hx hb dX0_readPacked_116 ?_
      refine lv_bipush (v := 13) hx hb dX0_readPacked_117 (by decide) ?_
      refine lv_icmp_ne (tgt := 128) hx hb dX0_readPacked_119 (by decide) (fun b5 => ?_) (fun b5 => ?_)
      ·
        have k6 := Eq.mp (if_neg b5) k4
        refine lv_lload hx hb dX0_readPacked_128 (lv_at hl 4 rfl) ?_
        exact xR_lret hx hb hr hlk  (Eq.trans (Eq.trans hg (if_pos b1)) (if_neg b5)) dX0_readPacked_130
      ·
        have k7 := Eq.mp (if_pos b5) k4
        refine lv_lload hx hb dX0_readPacked_122 (lv_at hl 4 rfl) ?_
        refine lv_lneg hx hb dX0_readPacked_124 ?_
        refine lv_goto (tgt := 130) hx hb dX0_readPacked_125 (by decide) ?_
        exact xR_lret hx hb hr hlk  (Eq.trans (Eq.trans hg (if_pos b1)) (if_pos b5)) dX0_readPacked_130
    ·
      have k8 := Eq.mp (if_neg b1) hok
      refine lv_aload_n hx hb dX0_readPacked_51 rfl (lv_at hl 0 rfl) ?_
      refine lv_iload_n hx hb dX0_readPacked_52 rfl (lv_at hl 1 rfl) ?_
      refine lv_iload hx hb dX0_readPacked_53 (lv_at hl 6 rfl) ?_
      refine lv_iconst (v := 2) hx hb dX0_readPacked_55 (by decide) ?_
      refine lv_idiv hx hb dX0_readPacked_56 (by decide) ?_
      refine lv_iadd hx hb dX0_readPacked_57 ?_
      have o9 := k8.1
      have k10 := k8.2
      refine va_bald hx hb hK.1 hP (19 + 2 * k) 1 (wC_bx hk) rfl o9 dX0_readPacked_58 ?_
      refine lv_sipush (v := 255) hx hb dX0_readPacked_59 (by decide) ?_
      refine lv_iand hx hb dX0_readPacked_62 ?_
      refine lv_istore (lv' := [(9, .int ((x.1 (p + (i / (2 : Int32))).toNatClampNeg) &&& (255 : Int32))), (0, .ref (w.2.2 (19 + 2 * k))), (1, .int p), (2, .int n), (3, .int sz), (4, .long nu), (7, .int sg), (8, .int i)]) hx hb dX0_readPacked_63 hl (by decide) rfl (fun ls hl => ?_)
      refine lv_iload hx hb dX0_readPacked_65 (lv_at hl 7 rfl) ?_
      refine lv_iconst (v := 2) hx hb dX0_readPacked_67 (by decide) ?_
      refine lv_irem hx hb dX0_readPacked_68 (by decide) ?_
      refine lv_if_ne (tgt := 79) hx hb dX0_readPacked_69 (by decide) (fun b11 => ?_) (fun b11 => ?_)
      ·
        have k12 := Eq.mp (if_neg b11) k10
        refine lv_iload hx hb dX0_readPacked_79 (lv_at hl 0 rfl) ?_
        refine lv_bipush (v := 15) hx hb dX0_readPacked_81 (by decide) ?_
        refine lv_iand hx hb dX0_readPacked_83 ?_
        refine lv_istore (lv' := [(10, .int (((x.1 (p + (i / (2 : Int32))).toNatClampNeg) &&& (255 : Int32)) &&& (15 : Int32))), (9, .int ((x.1 (p + (i / (2 : Int32))).toNatClampNeg) &&& (255 : Int32))), (0, .ref (w.2.2 (19 + 2 * k))), (1, .int p), (2, .int n), (3, .int sz), (4, .long nu), (7, .int sg), (8, .int i)]) hx hb dX0_readPacked_84 hl (by decide) rfl (fun ls hl => ?_)
        refine lv_lload hx hb dX0_readPacked_86 (lv_at hl 6 rfl) ?_
        refine lv_ldc2 (v := 10) hx hb hown (hts _ mw_X0_readPacked_k63) dX0_readPacked_88 ?_
        refine lv_lmul hx hb dX0_readPacked_91 ?_
        refine lv_iload hx hb dX0_readPacked_92 (lv_at hl 0 rfl) ?_
        refine lv_bipush (v := 10) hx hb dX0_readPacked_94 (by decide) ?_
        refine lv_irem hx hb dX0_readPacked_96 (by decide) ?_
        refine lv_i2l hx hb dX0_readPacked_97 rfl ?_
        refine lv_ladd hx hb dX0_readPacked_98 ?_
        refine lv_lstore (lv' := [(4, .long ((nu * (10 : Int64)) + (((((x.1 (p + (i / (2 : Int32))).toNatClampNeg) &&& (255 : Int32)) &&& (15 : Int32)) - (((x.1 (p + (i / (2 : Int32))).toNatClampNeg) &&& (255 : Int32)) &&& (15 : Int32)) / (10 : Int32) * (10 : Int32)).toInt64))), (10, .int (((x.1 (p + (i / (2 : Int32))).toNatClampNeg) &&& (255 : Int32)) &&& (15 : Int32))), (9, .int ((x.1 (p + (i / (2 : Int32))).toNatClampNeg) &&& (255 : Int32))), (0, .ref (w.2.2 (19 + 2 * k))), (1, .int p), (2, .int n), (3, .int sz), (7, .int sg), (8, .int i)]) hx hb dX0_readPacked_99 hl (by decide) rfl (fun ls hl => ?_)
        refine lv_iinc (v := i + (1 : Int32)) (lv' := [(8, .int (i + (1 : Int32))), (4, .long ((nu * (10 : Int64)) + (((((x.1 (p + (i / (2 : Int32))).toNatClampNeg) &&& (255 : Int32)) &&& (15 : Int32)) - (((x.1 (p + (i / (2 : Int32))).toNatClampNeg) &&& (255 : Int32)) &&& (15 : Int32)) / (10 : Int32) * (10 : Int32)).toInt64))), (10, .int (((x.1 (p + (i / (2 : Int32))).toNatClampNeg) &&& (255 : Int32)) &&& (15 : Int32))), (9, .int ((x.1 (p + (i / (2 : Int32))).toNatClampNeg) &&& (255 : Int32))), (0, .ref (w.2.2 (19 + 2 * k))), (1, .int p), (2, .int n), (3, .int sz), (7, .int sg)]) hx hb dX0_readPacked_101 hl (k := 8) rfl rfl (by decide) rfl (fun ls hl => ?_)
        refine lv_goto (tgt := 44) hx hb dX0_readPacked_104 (by decide) ?_
        exact ih sz ((nu * (10 : Int64)) + (((((x.1 (p + (i / (2 : Int32))).toNatClampNeg) &&& (255 : Int32)) &&& (15 : Int32)) - (((x.1 (p + (i / (2 : Int32))).toNatClampNeg) &&& (255 : Int32)) &&& (15 : Int32)) / (10 : Int32) * (10 : Int32)).toInt64)) sg (i + (1 : Int32)) hP k12 (Eq.trans (Eq.trans hg (if_neg b1)) (if_neg b11)) ls (lv_sub hl [4, 5, 6, 7, 1, 8, 0] rfl)
      ·
        have k13 := Eq.mp (if_pos b11) k10
        refine lv_iload hx hb dX0_readPacked_72 (lv_at hl 0 rfl) ?_
        refine lv_iconst (v := 4) hx hb dX0_readPacked_74 (by decide) ?_
        refine lv_ishr hx hb dX0_readPacked_75 ?_
        refine lv_goto (tgt := 84) hx hb dX0_readPacked_76 (by decide) ?_
        refine lv_istore (lv' := [(10, .int (((x.1 (p + (i / (2 : Int32))).toNatClampNeg) &&& (255 : Int32)) >>> ((4 : Int32) &&& 31))), (9, .int ((x.1 (p + (i / (2 : Int32))).toNatClampNeg) &&& (255 : Int32))), (0, .ref (w.2.2 (19 + 2 * k))), (1, .int p), (2, .int n), (3, .int sz), (4, .long nu), (7, .int sg), (8, .int i)]) hx hb dX0_readPacked_84 hl (by decide) rfl (fun ls hl => ?_)
        refine lv_lload hx hb dX0_readPacked_86 (lv_at hl 6 rfl) ?_
        refine lv_ldc2 (v := 10) hx hb hown (hts _ mw_X0_readPacked_k63) dX0_readPacked_88 ?_
        refine lv_lmul hx hb dX0_readPacked_91 ?_
        refine lv_iload hx hb dX0_readPacked_92 (lv_at hl 0 rfl) ?_
        refine lv_bipush (v := 10) hx hb dX0_readPacked_94 (by decide) ?_
        refine lv_irem hx hb dX0_readPacked_96 (by decide) ?_
        refine lv_i2l hx hb dX0_readPacked_97 rfl ?_
        refine lv_ladd hx hb dX0_readPacked_98 ?_
        refine lv_lstore (lv' := [(4, .long ((nu * (10 : Int64)) + (((((x.1 (p + (i / (2 : Int32))).toNatClampNeg) &&& (255 : Int32)) >>> ((4 : Int32) &&& 31)) - (((x.1 (p + (i / (2 : Int32))).toNatClampNeg) &&& (255 : Int32)) >>> ((4 : Int32) &&& 31)) / (10 : Int32) * (10 : Int32)).toInt64))), (10, .int (((x.1 (p + (i / (2 : Int32))).toNatClampNeg) &&& (255 : Int32)) >>> ((4 : Int32) &&& 31))), (9, .int ((x.1 (p + (i / (2 : Int32))).toNatClampNeg) &&& (255 : Int32))), (0, .ref (w.2.2 (19 + 2 * k))), (1, .int p), (2, .int n), (3, .int sz), (7, .int sg), (8, .int i)]) hx hb dX0_readPacked_99 hl (by decide) rfl (fun ls hl => ?_)
        refine lv_iinc (v := i + (1 : Int32)) (lv' := [(8, .int (i + (1 : Int32))), (4, .long ((nu * (10 : Int64)) + (((((x.1 (p + (i / (2 : Int32))).toNatClampNeg) &&& (255 : Int32)) >>> ((4 : Int32) &&& 31)) - (((x.1 (p + (i / (2 : Int32))).toNatClampNeg) &&& (255 : Int32)) >>> ((4 : Int32) &&& 31)) / (10 : Int32) * (10 : Int32)).toInt64))), (10, .int (((x.1 (p + (i / (2 : Int32))).toNatClampNeg) &&& (255 : Int32)) >>> ((4 : Int32) &&& 31))), (9, .int ((x.1 (p + (i / (2 : Int32))).toNatClampNeg) &&& (255 : Int32))), (0, .ref (w.2.2 (19 + 2 * k))), (1, .int p), (2, .int n), (3, .int sz), (7, .int sg)]) hx hb dX0_readPacked_101 hl (k := 8) rfl rfl (by decide) rfl (fun ls hl => ?_)
        refine lv_goto (tgt := 44) hx hb dX0_readPacked_104 (by decide) ?_
        exact ih sz ((nu * (10 : Int64)) + (((((x.1 (p + (i / (2 : Int32))).toNatClampNeg) &&& (255 : Int32)) >>> ((4 : Int32) &&& 31)) - (((x.1 (p + (i / (2 : Int32))).toNatClampNeg) &&& (255 : Int32)) >>> ((4 : Int32) &&& 31)) / (10 : Int32) * (10 : Int32)).toInt64)) sg (i + (1 : Int32)) hP k13 (Eq.trans (Eq.trans hg (if_neg b1)) (if_pos b11)) ls (lv_sub hl [4, 5, 6, 7, 1, 8, 0] rfl)
set_option maxHeartbeats 4000000 in
set_option maxRecDepth 100000 in
theorem c_X0_readPacked (l : Launch) (w : WG) (c : CS) (t : TS) (r : RS) (s : Nat → SS) (k : Nat) (hk : k < 4) (x : SS) (p : Int32) (n : Int32) (hok : OK_X0_readPacked x p n) : Met l yX0_readPacked wsX0_readPacked { frames := 1, cells := 0, slots := 0, locals := 22 } (va_Pc [.ref (w.2.2 (19 + 2 * k)), .int p, .int n] (wPK w (wC w c t r (va_up s k x)))) (xR (some (.long (G_X0_readPacked x p n)))) 0 0 xNo := by
  refine xOf (cc := cX0_readPacked) (maxL := 11) (ret := (some .long)) (lv := [(0, .ref (w.2.2 (19 + 2 * k))), (1, .int p), (2, .int n)]) (by decide) rfl (Nat.le_of_ble_eq_true rfl) rfl ?_
  intro pP eE S mM below meth C hx hb hr hml hts hown hlk hnm hw ls hl
  obtain ⟨hP, hK⟩ := hw
  refine lv_iconst (v := 1) hx hb dX0_readPacked_0 (by decide) ?_
  refine lv_iload_n hx hb dX0_readPacked_1 rfl (lv_at hl 2 rfl) ?_
  refine xR_i (va_runS (As := [.int (1 : Int32), .int n]) (rest := []) ⟨hx, hb, hml, hown, hts⟩ (c_X0_sizeFor l w c t r (va_up s k x) (1 : Int32) n ) (va_cwS 2 hts gX0_readPacked_X0_sizeFor rfl rfl rfl ds_X0_sizeFor ⟨Nat.le_of_ble_eq_true rfl, Nat.le_of_ble_eq_true rfl⟩) (wPre hP hK) rfl rfl hl.1 rfl (lv_room (Nat.le_of_ble_eq_true rfl)) dX0_readPacked_2 ⟨Nat.zero_le _, Nat.zero_le _⟩) ?_
  refine lv_istore_n (lv' := [(3, .int (G_X0_sizeFor (1 : Int32) n)), (0, .ref (w.2.2 (19 + 2 * k))), (1, .int p), (2, .int n)]) hx hb dX0_readPacked_5 rfl hl (by decide) rfl (fun ls hl => ?_)
  refine lv_aload_n hx hb dX0_readPacked_6 rfl (lv_at hl 1 rfl) ?_
  refine lv_iload_n hx hb dX0_readPacked_7 rfl (lv_at hl 2 rfl) ?_
  refine lv_iload_n hx hb dX0_readPacked_8 rfl (lv_at hl 0 rfl) ?_
  refine xR_i (va_runS (As := [.ref (w.2.2 (19 + 2 * k)), .int p, .int (G_X0_sizeFor (1 : Int32) n)]) (rest := []) ⟨hx, hb, hml, hown, hts⟩ (c_X0_isInside l w c t r s k hk x p (G_X0_sizeFor (1 : Int32) n) ) (va_cwS 3 hts gX0_readPacked_X0_isInside rfl rfl rfl ds_X0_isInside ⟨Nat.le_of_ble_eq_true rfl, Nat.le_of_ble_eq_true rfl⟩) (wPre hP hK) rfl rfl hl.1 rfl (lv_room (Nat.le_of_ble_eq_true rfl)) dX0_readPacked_9 ⟨Nat.zero_le _, Nat.zero_le _⟩) ?_
  refine lv_if_ne (tgt := 17) hx hb dX0_readPacked_12 (by decide) (fun b1 => ?_) (fun b1 => ?_)
  ·
    have k2 := Eq.mp (if_neg b1) hok
    refine lv_lconst (v := 0) hx hb dX0_readPacked_17 (by decide) ?_
    refine lv_lstore (lv' := [(4, .long (0 : Int64)), (3, .int (G_X0_sizeFor (1 : Int32) n)), (0, .ref (w.2.2 (19 + 2 * k))), (1, .int p), (2, .int n)]) hx hb dX0_readPacked_18 hl (by decide) rfl (fun ls hl => ?_)
    refine lv_iload_n hx hb dX0_readPacked_20 rfl (lv_at hl 4 rfl) ?_
    refine lv_iconst (v := 2) hx hb dX0_readPacked_21 (by decide) ?_
    refine lv_irem hx hb dX0_readPacked_22 (by decide) ?_
    refine lv_if_ne (tgt := 30) hx hb dX0_readPacked_23 (by decide) (fun b3 => ?_) (fun b3 => ?_)
    ·
      have k4 := Eq.mp (if_neg b3) k2
      refine lv_iconst (v := 0) hx hb dX0_readPacked_30 (by decide) ?_
      refine lv_istore (lv' := [(6, .int (0 : Int32)), (4, .long (0 : Int64)), (3, .int (G_X0_sizeFor (1 : Int32) n)), (0, .ref (w.2.2 (19 + 2 * k))), (1, .int p), (2, .int n)]) hx hb dX0_readPacked_31 hl (by decide) rfl (fun ls hl => ?_)
      refine lv_iload_n hx hb dX0_readPacked_33 rfl (lv_at hl 2 rfl) ?_
      refine lv_iconst (v := 2) hx hb dX0_readPacked_34 (by decide) ?_
      refine lv_imul hx hb dX0_readPacked_35 ?_
      refine lv_iconst (v := 1) hx hb dX0_readPacked_36 (by decide) ?_
      refine lv_isub hx hb dX0_readPacked_37 ?_
      refine lv_istore (lv' := [(7, .int (((G_X0_sizeFor (1 : Int32) n) * (2 : Int32)) - (1 : Int32))), (6, .int (0 : Int32)), (4, .long (0 : Int64)), (3, .int (G_X0_sizeFor (1 : Int32) n)), (0, .ref (w.2.2 (19 + 2 * k))), (1, .int p), (2, .int n)]) hx hb dX0_readPacked_38 hl (by decide) rfl (fun ls hl => ?_)
      refine lv_iload hx hb dX0_readPacked_40 (lv_at hl 1 rfl) ?_
      refine lv_istore (lv' := [(8, .int (0 : Int32)), (7, .int (((G_X0_sizeFor (1 : Int32) n) * (2 : Int32)) - (1 : Int32))), (6, .int (0 : Int32)), (4, .long (0 : Int64)), (3, .int (G_X0_sizeFor (1 : Int32) n)), (0, .ref (w.2.2 (19 + 2 * k))), (1, .int p), (2, .int n)]) hx hb dX0_readPacked_42 hl (by decide) rfl (fun ls hl => ?_)
      exact L_X0_readPacked_L44 l w c t r s k hk x p n  hx hb hr hml hts hown hlk hK _ 140 (G_X0_sizeFor (1 : Int32) n) (0 : Int64) (((G_X0_sizeFor (1 : Int32) n) * (2 : Int32)) - (1 : Int32)) (0 : Int32) hP k4 (Eq.trans (Eq.trans rfl (if_neg b1)) (if_neg b3)) ls (lv_sub hl [5, 6, 7, 4, 3, 1, 0] rfl)
    ·
      have k5 := Eq.mp (if_pos b3) k2
      refine lv_iconst (v := 1) hx hb dX0_readPacked_26 (by decide) ?_
      refine lv_goto (tgt := 31) hx hb dX0_readPacked_27 (by decide) ?_
      refine lv_istore (lv' := [(6, .int (1 : Int32)), (4, .long (0 : Int64)), (3, .int (G_X0_sizeFor (1 : Int32) n)), (0, .ref (w.2.2 (19 + 2 * k))), (1, .int p), (2, .int n)]) hx hb dX0_readPacked_31 hl (by decide) rfl (fun ls hl => ?_)
      refine lv_iload_n hx hb dX0_readPacked_33 rfl (lv_at hl 2 rfl) ?_
      refine lv_iconst (v := 2) hx hb dX0_readPacked_34 (by decide) ?_
      refine lv_imul hx hb dX0_readPacked_35 ?_
      refine lv_iconst (v := 1) hx hb dX0_readPacked_36 (by decide) ?_
      refine lv_isub hx hb dX0_readPacked_37 ?_
      refine lv_istore (lv' := [(7, .int (((G_X0_sizeFor (1 : Int32) n) * (2 : Int32)) - (1 : Int32))), (6, .int (1 : Int32)), (4, .long (0 : Int64)), (3, .int (G_X0_sizeFor (1 : Int32) n)), (0, .ref (w.2.2 (19 + 2 * k))), (1, .int p), (2, .int n)]) hx hb dX0_readPacked_38 hl (by decide) rfl (fun ls hl => ?_)
      refine lv_iload hx hb dX0_readPacked_40 (lv_at hl 1 rfl) ?_
      refine lv_istore (lv' := [(8, .int (1 : Int32)), (7, .int (((G_X0_sizeFor (1 : Int32) n) * (2 : Int32)) - (1 : Int32))), (6, .int (1 : Int32)), (4, .long (0 : Int64)), (3, .int (G_X0_sizeFor (1 : Int32) n)), (0, .ref (w.2.2 (19 + 2 * k))), (1, .int p), (2, .int n)]) hx hb dX0_readPacked_42 hl (by decide) rfl (fun ls hl => ?_)
      exact L_X0_readPacked_L44 l w c t r s k hk x p n  hx hb hr hml hts hown hlk hK _ 140 (G_X0_sizeFor (1 : Int32) n) (0 : Int64) (((G_X0_sizeFor (1 : Int32) n) * (2 : Int32)) - (1 : Int32)) (1 : Int32) hP k5 (Eq.trans (Eq.trans rfl (if_neg b1)) (if_pos b3)) ls (lv_sub hl [5, 6, 7, 4, 3, 1, 0] rfl)
  ·
    have k6 := Eq.mp (if_pos b1) hok
    refine lv_lconst (v := 0) hx hb dX0_readPacked_15 (by decide) ?_
    exact xR_lret hx hb hr hlk  (Eq.trans rfl (if_pos b1)) dX0_readPacked_16
def G_X0_readBinary_L15 (x : SS) (p : Int32) : Nat → Int32 → Int32 → Int64
  | 0, _, _ => 0
  | fu + 1, nu, i => if (p + (4 : Int32)) ≤ i then (nu.toInt64) else (G_X0_readBinary_L15 x p fu ((nu <<< ((8 : Int32) &&& 31)) ||| ((x.1 i.toNatClampNeg) &&& (255 : Int32))) (i + (1 : Int32)))
def OK_X0_readBinary_L15 (x : SS) (p : Int32) : Nat → Int32 → Int32 → Prop
  | 0, _, _ => False
  | fu + 1, nu, i => if (p + (4 : Int32)) ≤ i then (True) else ((vp_in i 64) ∧ (OK_X0_readBinary_L15 x p fu ((nu <<< ((8 : Int32) &&& 31)) ||| ((x.1 i.toNatClampNeg) &&& (255 : Int32))) (i + (1 : Int32))))
def G_X0_readBinary (x : SS) (p : Int32) : Int64 := if (G_X0_isInside p (4 : Int32)) = 0 then ((0 : Int64)) else (G_X0_readBinary_L15 x p 10 (0 : Int32) p)
def OK_X0_readBinary (x : SS) (p : Int32) : Prop := if (G_X0_isInside p (4 : Int32)) = 0 then (True) else (OK_X0_readBinary_L15 x p 10 (0 : Int32) p)
set_option maxHeartbeats 4000000 in
set_option maxRecDepth 100000 in
theorem L_X0_readBinary_L15 (l : Launch) (w : WG) (c : CS) (t : TS) (r : RS) (s : Nat → SS) (k : Nat) (hk : k < 4) (x : SS) (p : Int32) {pP : Program} {eE : Env} {S : State} {mM : MethodId} {below : List Frame} {meth : Method} {C : Code} (hx : pP.tables.exec = Jvm.exec) (hb : C.code = cX0_readBinary) (hr : meth.sig.returnType = (some .long)) (hml : C.maxLocals = 4) (hts : ∀ q9 ∈ wsX0_readBinary, q9.before ([.ref (w.2.2 (19 + 2 * k)), .int p] : List Value).toArray S = true) (hown : S.vm.findClass yX0_readBinary.cls = some mM.cls) (hlk : meth.locks = false) (hK : wK w S) (g : Int64) :
    ∀ (fu : Nat) (nu : Int32) (i : Int32), va_P w.1 vwCl (wC w c t r (va_up s k x)) S.heap → OK_X0_readBinary_L15 x p fu nu i → g = G_X0_readBinary_L15 x p fu nu i → ∀ ls : Array Slot, lv_has ls 4 [(0, .ref (w.2.2 (19 + 2 * k))), (1, .int p), (2, .int nu), (3, .int i)] → W pP l eE { frames := 1, cells := 0, slots := 0, locals := 22 } S mM ([.ref (w.2.2 (19 + 2 * k)), .int p] : List Value).toArray below meth C S.heap [] 0 0 (MQ below (xR (some (.long g))) ([.ref (w.2.2 (19 + 2 * k)), .int p] : List Value).toArray S 0 0 xNo) (F0 mM 15 ls []) := by
  intro fu
  induction fu with
  | zero =>
    intro nu i hP hok hg ls hl
    exact hok.elim
  | succ fu ih =>
    intro nu i hP hok hg ls hl
    refine lv_iload_n hx hb dX0_readBinary_15 rfl (lv_at hl 3 rfl) ?_
    refine lv_iload_n hx hb dX0_readBinary_16 rfl (lv_at hl 1 rfl) ?_
    refine lv_iconst (v := 4) hx hb dX0_readBinary_17 (by decide) ?_
    refine lv_iadd hx hb dX0_readBinary_18 ?_
    refine lv_icmp_ge (tgt := 41) hx hb dX0_readBinary_19 (by decide) (fun b1 => ?_) (fun b1 => ?_)
    ·
      have k2 := Eq.mp (if_pos b1) hok
      refine lv_iload_n hx hb dX0_readBinary_41 rfl (lv_at hl 2 rfl) ?_
      refine lv_i2l hx hb dX0_readBinary_42 rfl ?_
      exact xR_lret hx hb hr hlk  (Eq.trans hg (if_pos b1)) dX0_readBinary_43
    ·
      have k3 := Eq.mp (if_neg b1) hok
      refine lv_iload_n hx hb dX0_readBinary_22 rfl (lv_at hl 2 rfl) ?_
      refine lv_bipush (v := 8) hx hb dX0_readBinary_23 (by decide) ?_
      refine lv_ishl hx hb dX0_readBinary_25 ?_
      refine lv_aload_n hx hb dX0_readBinary_26 rfl (lv_at hl 0 rfl) ?_
      refine lv_iload_n hx hb dX0_readBinary_27 rfl (lv_at hl 3 rfl) ?_
      have o4 := k3.1
      have k5 := k3.2
      refine va_bald hx hb hK.1 hP (19 + 2 * k) 1 (wC_bx hk) rfl o4 dX0_readBinary_28 ?_
      refine lv_sipush (v := 255) hx hb dX0_readBinary_29 (by decide) ?_
      refine lv_iand hx hb dX0_readBinary_32 ?_
      refine lv_ior hx hb dX0_readBinary_33 ?_
      refine lv_istore_n (lv' := [(2, .int ((nu <<< ((8 : Int32) &&& 31)) ||| ((x.1 i.toNatClampNeg) &&& (255 : Int32)))), (0, .ref (w.2.2 (19 + 2 * k))), (1, .int p), (3, .int i)]) hx hb dX0_readBinary_34 rfl hl (by decide) rfl (fun ls hl => ?_)
      refine lv_iinc (v := i + (1 : Int32)) (lv' := [(3, .int (i + (1 : Int32))), (2, .int ((nu <<< ((8 : Int32) &&& 31)) ||| ((x.1 i.toNatClampNeg) &&& (255 : Int32)))), (0, .ref (w.2.2 (19 + 2 * k))), (1, .int p)]) hx hb dX0_readBinary_35 hl (k := 3) rfl rfl (by decide) rfl (fun ls hl => ?_)
      refine lv_goto (tgt := 15) hx hb dX0_readBinary_38 (by decide) ?_
      exact ih ((nu <<< ((8 : Int32) &&& 31)) ||| ((x.1 i.toNatClampNeg) &&& (255 : Int32))) (i + (1 : Int32)) hP k5 (Eq.trans hg (if_neg b1)) ls (lv_sub hl [2, 3, 1, 0] rfl)
set_option maxHeartbeats 4000000 in
set_option maxRecDepth 100000 in
theorem c_X0_readBinary (l : Launch) (w : WG) (c : CS) (t : TS) (r : RS) (s : Nat → SS) (k : Nat) (hk : k < 4) (x : SS) (p : Int32) (hok : OK_X0_readBinary x p) : Met l yX0_readBinary wsX0_readBinary { frames := 1, cells := 0, slots := 0, locals := 22 } (va_Pc [.ref (w.2.2 (19 + 2 * k)), .int p] (wPK w (wC w c t r (va_up s k x)))) (xR (some (.long (G_X0_readBinary x p)))) 0 0 xNo := by
  refine xOf (cc := cX0_readBinary) (maxL := 4) (ret := (some .long)) (lv := [(0, .ref (w.2.2 (19 + 2 * k))), (1, .int p)]) (by decide) rfl (Nat.le_of_ble_eq_true rfl) rfl ?_
  intro pP eE S mM below meth C hx hb hr hml hts hown hlk hnm hw ls hl
  obtain ⟨hP, hK⟩ := hw
  refine lv_aload_n hx hb dX0_readBinary_0 rfl (lv_at hl 0 rfl) ?_
  refine lv_iload_n hx hb dX0_readBinary_1 rfl (lv_at hl 1 rfl) ?_
  refine lv_iconst (v := 4) hx hb dX0_readBinary_2 (by decide) ?_
  refine xR_i (va_runS (As := [.ref (w.2.2 (19 + 2 * k)), .int p, .int (4 : Int32)]) (rest := []) ⟨hx, hb, hml, hown, hts⟩ (c_X0_isInside l w c t r s k hk x p (4 : Int32) ) (va_cwS 3 hts gX0_readBinary_X0_isInside rfl rfl rfl ds_X0_isInside ⟨Nat.le_of_ble_eq_true rfl, Nat.le_of_ble_eq_true rfl⟩) (wPre hP hK) rfl rfl hl.1 rfl (lv_room (Nat.le_of_ble_eq_true rfl)) dX0_readBinary_3 ⟨Nat.zero_le _, Nat.zero_le _⟩) ?_
  refine lv_if_ne (tgt := 11) hx hb dX0_readBinary_6 (by decide) (fun b1 => ?_) (fun b1 => ?_)
  ·
    have k2 := Eq.mp (if_neg b1) hok
    refine lv_iconst (v := 0) hx hb dX0_readBinary_11 (by decide) ?_
    refine lv_istore_n (lv' := [(2, .int (0 : Int32)), (0, .ref (w.2.2 (19 + 2 * k))), (1, .int p)]) hx hb dX0_readBinary_12 rfl hl (by decide) rfl (fun ls hl => ?_)
    refine lv_iload_n hx hb dX0_readBinary_13 rfl (lv_at hl 2 rfl) ?_
    refine lv_istore_n (lv' := [(3, .int p), (2, .int (0 : Int32)), (0, .ref (w.2.2 (19 + 2 * k))), (1, .int p)]) hx hb dX0_readBinary_14 rfl hl (by decide) rfl (fun ls hl => ?_)
    exact L_X0_readBinary_L15 l w c t r s k hk x p  hx hb hr hml hts hown hlk hK _ 10 (0 : Int32) p hP k2 (Eq.trans rfl (if_neg b1)) ls (lv_sub hl [2, 3, 1, 0] rfl)
  ·
    have k3 := Eq.mp (if_pos b1) hok
    refine lv_lconst (v := 0) hx hb dX0_readBinary_9 (by decide) ?_
    exact xR_lret hx hb hr hlk  (Eq.trans rfl (if_pos b1)) dX0_readBinary_10
def okC (c : CS) : Prop := 0 ≤ c.1.toInt ∧ c.1.toInt ≤ 40
theorem G_X0_has_01 (c : CS) (n : Int32) : G_X0_has c n = 0 ∨ G_X0_has c n = 1 := by
  unfold G_X0_has
  split
  · exact Or.inl rfl
  · split
    · exact Or.inl rfl
    · exact Or.inr rfl
theorem G_X0_has_iff (c : CS) (n : Int32) : ¬ G_X0_has c n = 0 ↔ 0 ≤ n.toInt ∧ n.toInt < c.1.toInt := by
  unfold G_X0_has
  split
  · rename_i h
    rw [i32_lt, i0] at h
    exact ⟨fun q => absurd rfl q, fun q => by omega⟩
  · rename_i h
    rw [i32_lt, i0] at h
    split
    · rename_i h2
      rw [i32_le] at h2
      exact ⟨fun q => absurd rfl q, fun q => by omega⟩
    · rename_i h2
      rw [i32_le] at h2
      exact ⟨fun _ => by omega, fun _ => by decide⟩
theorem okC_in {c : CS} {n : Int32} (hc : okC c) (b : ¬ G_X0_has c n = 0) : vp_in n 40 := by
  obtain ⟨h1, h2⟩ := (G_X0_has_iff c n).mp b
  have h3 := hc.2
  exact vp_in_iff.mpr ⟨h1, by omega⟩
theorem okX0_surelyWithin {c : CS} {n : Int32} (hc : okC c) : OK_X0_surelyWithin c n := by
  unfold OK_X0_surelyWithin
  split
  · trivial
  · rename_i b
    refine ⟨okC_in hc b, ?_⟩
    split
    · trivial
    · exact ⟨okC_in hc b, trivial⟩
theorem okX0_placeBehind {c : CS} {n : Int32} {z : Int64} (hc : okC c) : OK_X0_placeBehind c n z := by
  unfold OK_X0_placeBehind
  split
  · trivial
  · rename_i b
    have h := okC_in hc b
    split
    · trivial
    · split
      · refine ⟨h, h, h, ?_⟩
        split
        · trivial
        · split <;> trivial
      · trivial
theorem G_X0_isInside_iff (p n : Int32) : ¬ G_X0_isInside p n = 0 ↔ 0 ≤ p.toInt ∧ 1 ≤ n.toInt ∧ n.toInt ≤ 64 ∧ p.toInt ≤ 64 - n.toInt := by
  have e1 : (1 : Int32).toInt = 1 := by decide
  have e64 : (64 : Int32).toInt = 64 := by decide
  unfold G_X0_isInside
  split
  · rename_i h
    rw [i32_lt, i0] at h
    exact ⟨fun q => absurd rfl q, fun q => by omega⟩
  · rename_i h
    rw [i32_lt, i0] at h
    split
    · rename_i h2
      rw [i32_lt, e1] at h2
      exact ⟨fun q => absurd rfl q, fun q => by omega⟩
    · rename_i h2
      rw [i32_lt, e1] at h2
      split
      · rename_i h3
        rw [i32_lt, e64] at h3
        exact ⟨fun q => absurd rfl q, fun q => by omega⟩
      · rename_i h3
        rw [i32_lt, e64] at h3
        split
        · rename_i h4
          rw [i32_lt, i32_sub (by omega) (by omega), e64] at h4
          exact ⟨fun q => absurd rfl q, fun q => by omega⟩
        · rename_i h4
          rw [i32_lt, i32_sub (by omega) (by omega), e64] at h4
          exact ⟨fun _ => by omega, fun _ => by decide⟩
theorem i32_inc {i : Int32} (h : i.toInt < 2147483647) : (i + (1 : Int32)).toInt = i.toInt + 1 := by
  have e1 : (1 : Int32).toInt = 1 := by decide
  have hm : -2147483648 ≤ i.toInt := Int32.le_toInt i
  rw [i32_add (by omega) (by omega), e1]
theorem i32_dec {i : Int32} (h : -2147483648 < i.toInt) : (i + (-1 : Int32)).toInt = i.toInt - 1 := by
  have e1 : (-1 : Int32).toInt = -1 := by decide
  have hm : i.toInt < 2147483648 := Int32.toInt_lt i
  rw [i32_add (by omega) (by omega), e1]
  omega
theorem okX0_readZonedL {x : SS} {p n : Int32} (h1 : 0 ≤ p.toInt) (h2 : 1 ≤ n.toInt) (h3 : p.toInt + n.toInt ≤ 64) : ∀ (fu : Nat) (nu : Int64) (i : Int32), p.toInt ≤ i.toInt → i.toInt ≤ p.toInt + n.toInt → p.toInt + n.toInt - i.toInt < fu → OK_X0_readZoned_L16 x p n fu nu i := by
  have e1 : (1 : Int32).toInt = 1 := by decide
  have ea : (p + n).toInt = p.toInt + n.toInt := i32_add (by omega) (by omega)
  intro fu
  induction fu with
  | zero => intro nu i a b d; omega
  | succ fu ih =>
    intro nu i a b d
    unfold OK_X0_readZoned_L16
    split
    · refine ⟨vp_in_iff.mpr ?_, by split <;> trivial⟩
      rw [i32_sub (by omega) (by omega), ea, e1]
      omega
    · rename_i h
      rw [i32_le, ea] at h
      refine ⟨vp_in_iff.mpr ⟨by omega, by omega⟩, ih _ _ ?_ ?_ ?_⟩ <;> rw [i32_inc (by omega)] <;> omega
theorem okX0_readZoned {x : SS} {p n : Int32} : OK_X0_readZoned x p n := by
  unfold OK_X0_readZoned
  split
  · trivial
  · rename_i b
    obtain ⟨h1, h2, h3, h4⟩ := (G_X0_isInside_iff p n).mp b
    exact okX0_readZonedL h1 h2 (by omega) 70 0 p (by omega) (by omega) (by omega)
theorem okX0_readBinaryL {x : SS} {p : Int32} (h1 : 0 ≤ p.toInt) (h3 : p.toInt ≤ 60) : ∀ (fu : Nat) (nu : Int32) (i : Int32), p.toInt ≤ i.toInt → i.toInt ≤ p.toInt + 4 → p.toInt + 4 - i.toInt < fu → OK_X0_readBinary_L15 x p fu nu i := by
  have e4 : (4 : Int32).toInt = 4 := by decide
  have ea : (p + (4 : Int32)).toInt = p.toInt + 4 := by rw [i32_add (by omega) (by omega), e4]
  intro fu
  induction fu with
  | zero => intro nu i a b d; omega
  | succ fu ih =>
    intro nu i a b d
    unfold OK_X0_readBinary_L15
    split
    · trivial
    · rename_i h
      rw [i32_le, ea] at h
      refine ⟨vp_in_iff.mpr ⟨by omega, by omega⟩, ih _ _ ?_ ?_ ?_⟩ <;> rw [i32_inc (by omega)] <;> omega
theorem okX0_readBinary {x : SS} {p : Int32} : OK_X0_readBinary x p := by
  unfold OK_X0_readBinary
  split
  · trivial
  · rename_i b
    obtain ⟨h1, h2, h3, h4⟩ := (G_X0_isInside_iff p 4).mp b
    have e4 : (4 : Int32).toInt = 4 := by decide
    exact okX0_readBinaryL h1 (by omega) 10 0 p (by omega) (by omega) (by omega)
theorem i32_half {i : Int32} (h0 : 0 ≤ i.toInt) : (i / (2 : Int32)).toInt = i.toInt / 2 := by
  have e2 : (2 : Int32).toInt = 2 := by decide
  rw [lg_idiv_nonneg h0 (by omega), e2]
theorem okX0_readPackedL {x : SS} {p n sz sg : Int32} (h1 : 0 ≤ p.toInt) (h2 : 1 ≤ sz.toInt) (h3 : p.toInt + sz.toInt ≤ 64) (h4 : sg.toInt = 2 * sz.toInt - 1) : ∀ (fu : Nat) (nu : Int64) (i : Int32), 0 ≤ i.toInt → i.toInt ≤ sg.toInt → sg.toInt - i.toInt < fu → OK_X0_readPacked_L44 x p n fu sz nu sg i := by
  have e1 : (1 : Int32).toInt = 1 := by decide
  have ea : (p + sz).toInt = p.toInt + sz.toInt := i32_add (by omega) (by omega)
  intro fu
  induction fu with
  | zero => intro nu i a b d; omega
  | succ fu ih =>
    intro nu i a b d
    unfold OK_X0_readPacked_L44
    split
    · refine ⟨vp_in_iff.mpr ?_, by split <;> trivial⟩
      rw [i32_sub (by omega) (by omega), ea, e1]
      omega
    · rename_i h
      rw [i32_le] at h
      refine ⟨vp_in_iff.mpr ?_, ?_⟩
      · rw [i32_add (by rw [i32_half a]; omega) (by rw [i32_half a]; omega), i32_half a]
        omega
      · split <;> refine ih _ _ ?_ ?_ ?_ <;> rw [i32_inc (by omega)] <;> omega
theorem okX0_readPacked {x : SS} {p n : Int32} : OK_X0_readPacked x p n := by
  unfold OK_X0_readPacked
  split
  · trivial
  · rename_i b
    obtain ⟨h1, h2, h3, h4⟩ := (G_X0_isInside_iff p _).mp b
    have e1 : (1 : Int32).toInt = 1 := by decide
    have e2 : (2 : Int32).toInt = 2 := by decide
    have eg : ((G_X0_sizeFor (1 : Int32) n) * (2 : Int32) - (1 : Int32)).toInt = 2 * (G_X0_sizeFor (1 : Int32) n).toInt - 1 := by
      have em : ((G_X0_sizeFor (1 : Int32) n) * (2 : Int32)).toInt = (G_X0_sizeFor (1 : Int32) n).toInt * 2 := by
        rw [Int32.toInt_mul, e2]
        exact Int.bmod_eq_of_le (by omega) (by omega)
      rw [i32_sub (by omega) (by omega), em, e1]
      omega
    have e0 := i0
    split
    · exact okX0_readPackedL h1 h2 (by omega) eg 140 0 1 (by omega) (by omega) (by omega)
    · exact okX0_readPackedL h1 h2 (by omega) eg 140 0 0 (by omega) (by omega) (by omega)
