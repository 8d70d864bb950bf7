set_option maxRecDepth 20000 in
theorem iw_X4_run_X4 : ∀ w ∈ wsX40, w ∈ wsX4_run := by decide +kernel
set_option maxRecDepth 20000 in
theorem fl_X4_run_21 : Cond.fieldLink RX4 21 "ProcedureCode" "tree" "LProcedureCode$Tree;" ∈ wsX4_run := by decide +kernel
set_option maxRecDepth 20000 in
theorem fl_X4_run_37 : Cond.fieldLink RX4 37 "ProcedureCode" "walked" "LProcedureCode$Storage;" ∈ wsX4_run := by decide +kernel
set_option maxRecDepth 20000 in
theorem dv_X3_walkAll : yX3_walkAll.cls = RX3 ∧ yX3_walkAll.cls ≠ "java/lang/invoke/MethodHandle" ∧ yX3_walkAll.cls ≠ "java/lang/invoke/VarHandle" ∧ (parseMethodDescriptor yX3_walkAll.desc).map (fun d => d.parameters.length) = some 2 := by decide +kernel
set_option maxRecDepth 20000 in
theorem dv_X2_outcome : yX2_outcome.cls = RX2 ∧ yX2_outcome.cls ≠ "java/lang/invoke/MethodHandle" ∧ yX2_outcome.cls ≠ "java/lang/invoke/VarHandle" ∧ (parseMethodDescriptor yX2_outcome.desc).map (fun d => d.parameters.length) = some 0 := by decide +kernel
set_option maxRecDepth 20000 in
theorem dv_X4_make : yX4_make.cls = RX4 ∧ yX4_make.cls ≠ "java/lang/invoke/MethodHandle" ∧ yX4_make.cls ≠ "java/lang/invoke/VarHandle" ∧ (parseMethodDescriptor yX4_make.desc).map (fun d => d.parameters.length) = some 1 := by decide +kernel
set_option maxRecDepth 20000 in
theorem fl_X4_run_30 : Cond.fieldLink RX4 30 "ProcedureCode" "rows" "LProcedureCode$Rows;" ∈ wsX4_run := by decide +kernel
set_option maxRecDepth 20000 in
theorem fl_X4_run_41 : Cond.fieldLink RX4 41 "ProcedureCode" "stepped" "LProcedureCode$Storage;" ∈ wsX4_run := by decide +kernel
set_option maxRecDepth 20000 in
theorem dv_X1_stepAll : yX1_stepAll.cls = RX1 ∧ yX1_stepAll.cls ≠ "java/lang/invoke/MethodHandle" ∧ yX1_stepAll.cls ≠ "java/lang/invoke/VarHandle" ∧ (parseMethodDescriptor yX1_stepAll.desc).map (fun d => d.parameters.length) = some 1 := by decide +kernel
def G_X4_run (c : CS) (t : TS) (r : RS) (s : Nat → SS) (cd : Int32) (n : Int32) : Int32 × RS × (Nat → SS) := if cd = 0 then (if (G_X3_has t n) = 0 then (((0 : Int32), r, s)) else (if (G_X3_rowsOf t n) ≤ (400 : Int32) then ((G_X2_outcome ((va_up s 0 (G_X3_walkAll c t (s 0) n)) 0), r, va_up s 0 (G_X3_walkAll c t (s 0) n))) else (((0 : Int32), r, s)))) else (if 0 ≤ ((G_X4_make t r n).1) then ((G_X2_outcome ((va_up s 1 ((G_X1_stepAll c ((G_X4_make t r n).2) (s 1)).2)) 1), (G_X1_stepAll c ((G_X4_make t r n).2) (s 1)).1, va_up s 1 ((G_X1_stepAll c ((G_X4_make t r n).2) (s 1)).2))) else (((0 : Int32), (G_X4_make t r n).2, s)))
set_option maxHeartbeats 4000000 in
set_option maxRecDepth 100000 in
theorem c_X4_run (l : Launch) (w : WG) (hA : wAp w 26) (c : CS) (t : TS) (r : RS) (s : Nat → SS) (cd : Int32) (n : Int32) (hc : okC c) (ht : okT t) (hq : okR r) : Met l yX4_run wsX4_run { frames := 206, cells := 0, slots := 0, locals := 6559 } (va_Pc [.ref (w.2.2 0), .int cd, .int n] (wPK w (wC w c t r s))) (xM (some (.int ((G_X4_run c t r s cd n).1))) (fun H => va_P w.1 vwCl (wC w c t ((G_X4_run c t r s cd n).2.1) ((G_X4_run c t r s cd n).2.2)) H) (wA w 26)) 0 0 (wA w 26) := by
  refine xOf (cc := cX4_run) (maxL := 3) (ret := (some .int)) (lv := [(0, .ref (w.2.2 0)), (1, .int cd), (2, .int n)]) (by decide) rfl (Nat.le_of_ble_eq_true rfl) rfl ?_
  intro pP eE S mM below meth C hx hb hr hml hts hown hlk hnm hw ls hl
  obtain ⟨hP, hK⟩ := hw
  have hS : va_S (wA w 26) S.heap S.heap [] := va_S.rf
  have hP : va_P w.1 vwCl (wC w c t r s) S.heap := hP
  refine lv_iload_n hx hb dX4_run_0 rfl (lv_at hl 1 rfl) ?_
  refine lv_if_eq (tgt := 33) hx hb dX4_run_1 (by decide) (fun b1 => ?_) (fun b1 => ?_)
  ·
    refine lv_aload_n hx hb dX4_run_33 rfl (lv_at hl 0 rfl) ?_
    refine va_get (D := w.1) (ci := 5) (v := .ref (w.2.2 5)) (C := RX4) (T := TX4) (N := 7) hx hb hts iw_X4_run_X4 hown hK.1 hP 0 rfl rfl 1 (by decide) (hts _ fl_X4_run_21) (fun _ h9 => h9) rfl dX4_run_34 ?_
    refine lv_iload_n hx hb dX4_run_37 rfl (lv_at hl 2 rfl) ?_
    refine xR_i (va_runV (As := [.int n]) (rest := []) ⟨hx, hb, hml, hown, hts⟩ (c_X3_has l w c t r s n ) (cwV 1 hts gX4_run_X3_has rfl rfl rfl dv_X3_has ⟨Nat.le_of_ble_eq_true rfl, Nat.le_of_ble_eq_true rfl⟩) (wPreV hP hK (ci := 4) (q0 := 5) rfl rfl) rfl rfl hl.1 rfl (lv_room (Nat.le_of_ble_eq_true rfl)) dX4_run_38 ⟨Nat.zero_le _, Nat.zero_le _⟩) ?_
    refine lv_if_eq (tgt := 58) hx hb dX4_run_41 (by decide) (fun b2 => ?_) (fun b2 => ?_)
    ·
      refine lv_iconst (v := 0) hx hb dX4_run_58 (by decide) ?_
      have e9 : G_X4_run c t r s cd n = ((0 : Int32), r, s) := Eq.trans (Eq.trans rfl (if_pos b1)) (if_pos b2)
      exact xM_iret hx hb hr hlk  hS (by rw [e9]) (by rw [e9]; exact hP) dX4_run_59
    ·
      refine lv_aload_n hx hb dX4_run_44 rfl (lv_at hl 0 rfl) ?_
      refine va_get (D := w.1) (ci := 5) (v := .ref (w.2.2 5)) (C := RX4) (T := TX4) (N := 7) hx hb hts iw_X4_run_X4 hown hK.1 hP 0 rfl rfl 1 (by decide) (hts _ fl_X4_run_21) (fun _ h9 => h9) rfl dX4_run_45 ?_
      refine lv_iload_n hx hb dX4_run_48 rfl (lv_at hl 2 rfl) ?_
      refine xR_i (va_runV (As := [.int n]) (rest := []) ⟨hx, hb, hml, hown, hts⟩ (c_X3_rowsOf l w c t r s n ht) (cwV 1 hts gX4_run_X3_rowsOf rfl rfl rfl dv_X3_rowsOf ⟨Nat.le_of_ble_eq_true rfl, Nat.le_of_ble_eq_true rfl⟩) (wPreV hP hK (ci := 4) (q0 := 5) rfl rfl) rfl rfl hl.1 rfl (lv_room (Nat.le_of_ble_eq_true rfl)) dX4_run_49 ⟨Nat.zero_le _, Nat.zero_le _⟩) ?_
      refine lv_sipush (v := 400) hx hb dX4_run_52 (by decide) ?_
      refine lv_icmp_le (tgt := 60) hx hb dX4_run_55 (by decide) (fun b3 => ?_) (fun b3 => ?_)
      ·
        refine lv_aload_n hx hb dX4_run_60 rfl (lv_at hl 0 rfl) ?_
        refine va_get (D := w.1) (ci := 5) (v := .ref (w.2.2 5)) (C := RX4) (T := TX4) (N := 7) hx hb hts iw_X4_run_X4 hown hK.1 hP 0 rfl rfl 1 (by decide) (hts _ fl_X4_run_21) (fun _ h9 => h9) rfl dX4_run_61 ?_
        refine lv_aload_n hx hb dX4_run_64 rfl (lv_at hl 0 rfl) ?_
        refine va_get (D := w.1) (ci := 5) (v := .ref (w.2.2 18)) (C := RX4) (T := TX4) (N := 7) hx hb hts iw_X4_run_X4 hown hK.1 hP 0 rfl rfl 3 (by decide) (hts _ fl_X4_run_37) (fun _ h9 => h9) rfl dX4_run_65 ?_
        refine lv_iload_n hx hb dX4_run_68 rfl (lv_at hl 2 rfl) ?_
        have hP : va_P w.1 vwCl (wC w c t r (va_up s 0 (s 0))) S.heap := by rw [va_up_id]; exact hP
        refine xM_v (va_runV (As := [.ref (w.2.2 18), .int n]) (rest := []) ⟨hx, hb, hml, hown, hts⟩ (c_X3_walkAll l w hA c t r s 0 (by decide) (s 0) n hc ht) (cwV 2 hts gX4_run_X3_walkAll rfl rfl rfl dv_X3_walkAll ⟨Nat.le_of_ble_eq_true rfl, Nat.le_of_ble_eq_true rfl⟩) (wPreV hP hK (ci := 4) (q0 := 5) rfl rfl) rfl rfl hl.1 rfl (lv_room (Nat.le_of_ble_eq_true rfl)) dX4_run_69 ⟨Nat.zero_le _, Nat.zero_le _⟩) hS (fun H locs hP hS => ?_)
        have hP : va_P w.1 vwCl (wC w c t r (va_up s 0 (G_X3_walkAll c t (s 0) n))) H := hP
        refine lv_aload_n hx hb dX4_run_72 rfl (lv_at hl 0 rfl) ?_
        refine va_get (D := w.1) (ci := 5) (v := .ref (w.2.2 18)) (C := RX4) (T := TX4) (N := 7) hx hb hts iw_X4_run_X4 hown hK.1 hP 0 rfl rfl 3 (by decide) (hts _ fl_X4_run_37) (fun _ h9 => h9) rfl dX4_run_73 ?_
        have hP : va_P w.1 vwCl (wC w c t r (va_up (va_up s 0 (G_X3_walkAll c t (s 0) n)) 0 ((va_up s 0 (G_X3_walkAll c t (s 0) n)) 0))) H := by rw [va_up_id]; exact hP
        refine xR_i (va_runV (As := []) (rest := []) ⟨hx, hb, hml, hown, hts⟩ (c_X2_outcome l w c t r (va_up s 0 (G_X3_walkAll c t (s 0) n)) 0 (by decide) ((va_up s 0 (G_X3_walkAll c t (s 0) n)) 0)  ) (cwV 0 hts gX4_run_X2_outcome rfl rfl rfl dv_X2_outcome ⟨Nat.le_of_ble_eq_true rfl, Nat.le_of_ble_eq_true rfl⟩) (wPreV hP hK (ci := 3) (q0 := (18 + 2 * 0)) rfl (wC_ox (by decide))) rfl rfl hl.1 rfl (lv_room (Nat.le_of_ble_eq_true rfl)) dX4_run_76 ⟨Nat.zero_le _, Nat.zero_le _⟩) ?_
        have e9 : G_X4_run c t r s cd n = (G_X2_outcome ((va_up s 0 (G_X3_walkAll c t (s 0) n)) 0), r, va_up s 0 (G_X3_walkAll c t (s 0) n)) := Eq.trans (Eq.trans (Eq.trans rfl (if_pos b1)) (if_neg b2)) (if_pos b3)
        exact xM_iret hx hb hr hlk  hS (by rw [e9]) (by rw [e9]; exact hP) dX4_run_79
      ·
        refine lv_iconst (v := 0) hx hb dX4_run_58 (by decide) ?_
        have e9 : G_X4_run c t r s cd n = ((0 : Int32), r, s) := Eq.trans (Eq.trans (Eq.trans rfl (if_pos b1)) (if_neg b2)) (if_neg b3)
        exact xM_iret hx hb hr hlk  hS (by rw [e9]) (by rw [e9]; exact hP) dX4_run_59
  ·
    refine lv_aload_n hx hb dX4_run_4 rfl (lv_at hl 0 rfl) ?_
    refine lv_iload_n hx hb dX4_run_5 rfl (lv_at hl 2 rfl) ?_
    refine xM_i (va_runV (As := [.int n]) (rest := []) ⟨hx, hb, hml, hown, hts⟩ (c_X4_make l w hA c t r s n ht) (cwV 1 hts gX4_run_X4_make rfl rfl rfl dv_X4_make ⟨Nat.le_of_ble_eq_true rfl, Nat.le_of_ble_eq_true rfl⟩) (wPreV hP hK (ci := 5) (q0 := 0) rfl rfl) rfl rfl hl.1 rfl (lv_room (Nat.le_of_ble_eq_true rfl)) dX4_run_6 ⟨Nat.zero_le _, Nat.zero_le _⟩) hS (fun H locs hP hS => ?_)
    have hP : va_P w.1 vwCl (wC w c t ((G_X4_make t r n).2) s) H := hP
    refine lv_if_ge (tgt := 14) hx hb dX4_run_9 (by decide) (fun b4 => ?_) (fun b4 => ?_)
    ·
      refine lv_aload_n hx hb dX4_run_14 rfl (lv_at hl 0 rfl) ?_
      refine va_get (D := w.1) (ci := 5) (v := .ref (w.2.2 13)) (C := RX4) (T := TX4) (N := 7) hx hb hts iw_X4_run_X4 hown hK.1 hP 0 rfl rfl 2 (by decide) (hts _ fl_X4_run_30) (fun _ h9 => h9) rfl dX4_run_15 ?_
      refine lv_aload_n hx hb dX4_run_18 rfl (lv_at hl 0 rfl) ?_
      refine va_get (D := w.1) (ci := 5) (v := .ref (w.2.2 20)) (C := RX4) (T := TX4) (N := 7) hx hb hts iw_X4_run_X4 hown hK.1 hP 0 rfl rfl 4 (by decide) (hts _ fl_X4_run_41) (fun _ h9 => h9) rfl dX4_run_19 ?_
      have hP : va_P w.1 vwCl (wC w c t ((G_X4_make t r n).2) (va_up s 1 (s 1))) H := by rw [va_up_id]; exact hP
      refine xM_v (va_runV (As := [.ref (w.2.2 20)]) (rest := []) ⟨hx, hb, hml, hown, hts⟩ (k_X1_stepAll l w hA c t ((G_X4_make t r n).2) s 1 (by decide) (s 1)  hc (okR_make hq)) (cwV 1 hts gX4_run_X1_stepAll rfl rfl rfl dv_X1_stepAll ⟨Nat.le_of_ble_eq_true rfl, Nat.le_of_ble_eq_true rfl⟩) (wPreV hP hK (ci := 2) (q0 := 13) rfl rfl) rfl rfl hl.1 rfl (lv_room (Nat.le_of_ble_eq_true rfl)) dX4_run_22 ⟨Nat.zero_le _, Nat.zero_le _⟩) hS (fun H locs hP hS => ?_)
      have hP : va_P w.1 vwCl (wC w c t ((G_X1_stepAll c ((G_X4_make t r n).2) (s 1)).1) (va_up s 1 ((G_X1_stepAll c ((G_X4_make t r n).2) (s 1)).2))) H := hP
      refine lv_aload_n hx hb dX4_run_25 rfl (lv_at hl 0 rfl) ?_
      refine va_get (D := w.1) (ci := 5) (v := .ref (w.2.2 20)) (C := RX4) (T := TX4) (N := 7) hx hb hts iw_X4_run_X4 hown hK.1 hP 0 rfl rfl 4 (by decide) (hts _ fl_X4_run_41) (fun _ h9 => h9) rfl dX4_run_26 ?_
      have hP : va_P w.1 vwCl (wC w c t ((G_X1_stepAll c ((G_X4_make t r n).2) (s 1)).1) (va_up (va_up s 1 ((G_X1_stepAll c ((G_X4_make t r n).2) (s 1)).2)) 1 ((va_up s 1 ((G_X1_stepAll c ((G_X4_make t r n).2) (s 1)).2)) 1))) H := by rw [va_up_id]; exact hP
      refine xR_i (va_runV (As := []) (rest := []) ⟨hx, hb, hml, hown, hts⟩ (c_X2_outcome l w c t ((G_X1_stepAll c ((G_X4_make t r n).2) (s 1)).1) (va_up s 1 ((G_X1_stepAll c ((G_X4_make t r n).2) (s 1)).2)) 1 (by decide) ((va_up s 1 ((G_X1_stepAll c ((G_X4_make t r n).2) (s 1)).2)) 1)  ) (cwV 0 hts gX4_run_X2_outcome rfl rfl rfl dv_X2_outcome ⟨Nat.le_of_ble_eq_true rfl, Nat.le_of_ble_eq_true rfl⟩) (wPreV hP hK (ci := 3) (q0 := (18 + 2 * 1)) rfl (wC_ox (by decide))) rfl rfl hl.1 rfl (lv_room (Nat.le_of_ble_eq_true rfl)) dX4_run_29 ⟨Nat.zero_le _, Nat.zero_le _⟩) ?_
      have e9 : G_X4_run c t r s cd n = (G_X2_outcome ((va_up s 1 ((G_X1_stepAll c ((G_X4_make t r n).2) (s 1)).2)) 1), (G_X1_stepAll c ((G_X4_make t r n).2) (s 1)).1, va_up s 1 ((G_X1_stepAll c ((G_X4_make t r n).2) (s 1)).2)) := Eq.trans (Eq.trans rfl (if_neg b1)) (if_pos b4)
      exact xM_iret hx hb hr hlk  hS (by rw [e9]) (by rw [e9]; exact hP) dX4_run_32
    ·
      refine lv_iconst (v := 0) hx hb dX4_run_12 (by decide) ?_
      have e9 : G_X4_run c t r s cd n = ((0 : Int32), (G_X4_make t r n).2, s) := Eq.trans (Eq.trans rfl (if_neg b1)) (if_neg b4)
      exact xM_iret hx hb hr hlk  hS (by rw [e9]) (by rw [e9]; exact hP) dX4_run_13
set_option maxRecDepth 20000 in
theorem iw_X4_same_X4 : ∀ w ∈ wsX40, w ∈ wsX4_same := by decide +kernel
set_option maxRecDepth 20000 in
theorem fl_X4_same_44 : Cond.fieldLink RX4 44 "ProcedureCode" "trialWalked" "LProcedureCode$Storage;" ∈ wsX4_same := by decide +kernel
set_option maxRecDepth 20000 in
theorem fl_X4_same_37 : Cond.fieldLink RX4 37 "ProcedureCode" "walked" "LProcedureCode$Storage;" ∈ wsX4_same := by decide +kernel
set_option maxRecDepth 20000 in
theorem dv_X2_copyFrom : yX2_copyFrom.cls = RX2 ∧ yX2_copyFrom.cls ≠ "java/lang/invoke/MethodHandle" ∧ yX2_copyFrom.cls ≠ "java/lang/invoke/VarHandle" ∧ (parseMethodDescriptor yX2_copyFrom.desc).map (fun d => d.parameters.length) = some 1 := by decide +kernel
set_option maxRecDepth 20000 in
theorem fl_X4_same_47 : Cond.fieldLink RX4 47 "ProcedureCode" "trialStepped" "LProcedureCode$Storage;" ∈ wsX4_same := by decide +kernel
set_option maxRecDepth 20000 in
theorem fl_X4_same_21 : Cond.fieldLink RX4 21 "ProcedureCode" "tree" "LProcedureCode$Tree;" ∈ wsX4_same := by decide +kernel
set_option maxRecDepth 20000 in
theorem fl_X4_same_30 : Cond.fieldLink RX4 30 "ProcedureCode" "rows" "LProcedureCode$Rows;" ∈ wsX4_same := by decide +kernel
set_option maxRecDepth 20000 in
theorem dv_X2_isLike : yX2_isLike.cls = RX2 ∧ yX2_isLike.cls ≠ "java/lang/invoke/MethodHandle" ∧ yX2_isLike.cls ≠ "java/lang/invoke/VarHandle" ∧ (parseMethodDescriptor yX2_isLike.desc).map (fun d => d.parameters.length) = some 1 := by decide +kernel
def G_X4_same (c : CS) (t : TS) (r : RS) (s : Nat → SS) (n : Int32) : Int32 × RS × (Nat → SS) := if 0 ≤ ((G_X4_make t r n).1) then ((G_X2_isLike_2 (va_up (va_up (G_X2_copyFrom_3 (G_X2_copyFrom_2 s)) 2 (G_X3_walkAll c t ((G_X2_copyFrom_3 (G_X2_copyFrom_2 s)) 2) n)) 3 ((G_X1_stepAll c ((G_X4_make t r n).2) ((va_up (G_X2_copyFrom_3 (G_X2_copyFrom_2 s)) 2 (G_X3_walkAll c t ((G_X2_copyFrom_3 (G_X2_copyFrom_2 s)) 2) n)) 3)).2)), (G_X1_stepAll c ((G_X4_make t r n).2) ((va_up (G_X2_copyFrom_3 (G_X2_copyFrom_2 s)) 2 (G_X3_walkAll c t ((G_X2_copyFrom_3 (G_X2_copyFrom_2 s)) 2) n)) 3)).1, va_up (va_up (G_X2_copyFrom_3 (G_X2_copyFrom_2 s)) 2 (G_X3_walkAll c t ((G_X2_copyFrom_3 (G_X2_copyFrom_2 s)) 2) n)) 3 ((G_X1_stepAll c ((G_X4_make t r n).2) ((va_up (G_X2_copyFrom_3 (G_X2_copyFrom_2 s)) 2 (G_X3_walkAll c t ((G_X2_copyFrom_3 (G_X2_copyFrom_2 s)) 2) n)) 3)).2))) else (((0 : Int32), (G_X4_make t r n).2, s))
set_option maxHeartbeats 4000000 in
set_option maxRecDepth 100000 in
theorem c_X4_same (l : Launch) (w : WG) (hA : wAp w 26) (c : CS) (t : TS) (r : RS) (s : Nat → SS) (n : Int32) (hc : okC c) (ht : okT t) (hq : okR r) (hby : okB (s 0).1) : Met l yX4_same wsX4_same { frames := 206, cells := 0, slots := 0, locals := 6559 } (va_Pc [.ref (w.2.2 0), .int n] (wPK w (wC w c t r s))) (xM (some (.int ((G_X4_same c t r s n).1))) (fun H => va_P w.1 vwCl (wC w c t ((G_X4_same c t r s n).2.1) ((G_X4_same c t r s n).2.2)) H) (wA w 26)) 0 0 (wA w 26) := by
  refine xOf (cc := cX4_same) (maxL := 2) (ret := (some .boolean)) (lv := [(0, .ref (w.2.2 0)), (1, .int n)]) (by decide) rfl (Nat.le_of_ble_eq_true rfl) rfl ?_
  intro pP eE S mM below meth C hx hb hr hml hts hown hlk hnm hw ls hl
  obtain ⟨hP, hK⟩ := hw
  have hS : va_S (wA w 26) S.heap S.heap [] := va_S.rf
  have hP : va_P w.1 vwCl (wC w c t r s) S.heap := hP
  refine lv_aload_n hx hb dX4_same_0 rfl (lv_at hl 0 rfl) ?_
  refine lv_iload_n hx hb dX4_same_1 rfl (lv_at hl 1 rfl) ?_
  refine xM_i (va_runV (As := [.int n]) (rest := []) ⟨hx, hb, hml, hown, hts⟩ (c_X4_make l w hA c t r s n ht) (cwV 1 hts gX4_same_X4_make rfl rfl rfl dv_X4_make ⟨Nat.le_of_ble_eq_true rfl, Nat.le_of_ble_eq_true rfl⟩) (wPreV hP hK (ci := 5) (q0 := 0) rfl rfl) rfl rfl hl.1 rfl (lv_room (Nat.le_of_ble_eq_true rfl)) dX4_same_2 ⟨Nat.zero_le _, Nat.zero_le _⟩) hS (fun H locs hP hS => ?_)
  have hP : va_P w.1 vwCl (wC w c t ((G_X4_make t r n).2) s) H := hP
  refine lv_if_ge (tgt := 10) hx hb dX4_same_5 (by decide) (fun b1 => ?_) (fun b1 => ?_)
  ·
    refine lv_aload_n hx hb dX4_same_10 rfl (lv_at hl 0 rfl) ?_
    refine va_get (D := w.1) (ci := 5) (v := .ref (w.2.2 22)) (C := RX4) (T := TX4) (N := 7) hx hb hts iw_X4_same_X4 hown hK.1 hP 0 rfl rfl 5 (by decide) (hts _ fl_X4_same_44) (fun _ h9 => h9) rfl dX4_same_11 ?_
    refine lv_aload_n hx hb dX4_same_14 rfl (lv_at hl 0 rfl) ?_
    refine va_get (D := w.1) (ci := 5) (v := .ref (w.2.2 18)) (C := RX4) (T := TX4) (N := 7) hx hb hts iw_X4_same_X4 hown hK.1 hP 0 rfl rfl 3 (by decide) (hts _ fl_X4_same_37) (fun _ h9 => h9) rfl dX4_same_15 ?_
    refine xM_v (va_runV (As := [.ref (w.2.2 18)]) (rest := []) ⟨hx, hb, hml, hown, hts⟩ (c_X2_copyFrom_2 l w hA c t ((G_X4_make t r n).2) s  hby) (cwV 1 hts gX4_same_X2_copyFrom rfl rfl rfl dv_X2_copyFrom ⟨Nat.le_of_ble_eq_true rfl, Nat.le_of_ble_eq_true rfl⟩) (wPreV hP hK (ci := 3) (q0 := 22) rfl rfl) rfl rfl hl.1 rfl (lv_room (Nat.le_of_ble_eq_true rfl)) dX4_same_18 ⟨Nat.zero_le _, Nat.zero_le _⟩) hS (fun H locs hP hS => ?_)
    have hP : va_P w.1 vwCl (wC w c t ((G_X4_make t r n).2) (G_X2_copyFrom_2 s)) H := hP
    refine lv_aload_n hx hb dX4_same_21 rfl (lv_at hl 0 rfl) ?_
    refine va_get (D := w.1) (ci := 5) (v := .ref (w.2.2 24)) (C := RX4) (T := TX4) (N := 7) hx hb hts iw_X4_same_X4 hown hK.1 hP 0 rfl rfl 6 (by decide) (hts _ fl_X4_same_47) (fun _ h9 => h9) rfl dX4_same_22 ?_
    refine lv_aload_n hx hb dX4_same_25 rfl (lv_at hl 0 rfl) ?_
    refine va_get (D := w.1) (ci := 5) (v := .ref (w.2.2 18)) (C := RX4) (T := TX4) (N := 7) hx hb hts iw_X4_same_X4 hown hK.1 hP 0 rfl rfl 3 (by decide) (hts _ fl_X4_same_37) (fun _ h9 => h9) rfl dX4_same_26 ?_
    refine xM_v (va_runV (As := [.ref (w.2.2 18)]) (rest := []) ⟨hx, hb, hml, hown, hts⟩ (c_X2_copyFrom_3 l w hA c t ((G_X4_make t r n).2) (G_X2_copyFrom_2 s)  hby) (cwV 1 hts gX4_same_X2_copyFrom rfl rfl rfl dv_X2_copyFrom ⟨Nat.le_of_ble_eq_true rfl, Nat.le_of_ble_eq_true rfl⟩) (wPreV hP hK (ci := 3) (q0 := 24) rfl rfl) rfl rfl hl.1 rfl (lv_room (Nat.le_of_ble_eq_true rfl)) dX4_same_29 ⟨Nat.zero_le _, Nat.zero_le _⟩) hS (fun H locs hP hS => ?_)
    have hP : va_P w.1 vwCl (wC w c t ((G_X4_make t r n).2) (G_X2_copyFrom_3 (G_X2_copyFrom_2 s))) H := hP
    refine lv_aload_n hx hb dX4_same_32 rfl (lv_at hl 0 rfl) ?_
    refine va_get (D := w.1) (ci := 5) (v := .ref (w.2.2 5)) (C := RX4) (T := TX4) (N := 7) hx hb hts iw_X4_same_X4 hown hK.1 hP 0 rfl rfl 1 (by decide) (hts _ fl_X4_same_21) (fun _ h9 => h9) rfl dX4_same_33 ?_
    refine lv_aload_n hx hb dX4_same_36 rfl (lv_at hl 0 rfl) ?_
    refine va_get (D := w.1) (ci := 5) (v := .ref (w.2.2 22)) (C := RX4) (T := TX4) (N := 7) hx hb hts iw_X4_same_X4 hown hK.1 hP 0 rfl rfl 5 (by decide) (hts _ fl_X4_same_44) (fun _ h9 => h9) rfl dX4_same_37 ?_
    refine lv_iload_n hx hb dX4_same_40 rfl (lv_at hl 1 rfl) ?_
    have hP : va_P w.1 vwCl (wC w c t ((G_X4_make t r n).2) (va_up (G_X2_copyFrom_3 (G_X2_copyFrom_2 s)) 2 ((G_X2_copyFrom_3 (G_X2_copyFrom_2 s)) 2))) H := by rw [va_up_id]; exact hP
    refine xM_v (va_runV (As := [.ref (w.2.2 22), .int n]) (rest := []) ⟨hx, hb, hml, hown, hts⟩ (c_X3_walkAll l w hA c t ((G_X4_make t r n).2) (G_X2_copyFrom_3 (G_X2_copyFrom_2 s)) 2 (by decide) ((G_X2_copyFrom_3 (G_X2_copyFrom_2 s)) 2) n hc ht) (cwV 2 hts gX4_same_X3_walkAll rfl rfl rfl dv_X3_walkAll ⟨Nat.le_of_ble_eq_true rfl, Nat.le_of_ble_eq_true rfl⟩) (wPreV hP hK (ci := 4) (q0 := 5) rfl rfl) rfl rfl hl.1 rfl (lv_room (Nat.le_of_ble_eq_true rfl)) dX4_same_41 ⟨Nat.zero_le _, Nat.zero_le _⟩) hS (fun H locs hP hS => ?_)
    have hP : va_P w.1 vwCl (wC w c t ((G_X4_make t r n).2) (va_up (G_X2_copyFrom_3 (G_X2_copyFrom_2 s)) 2 (G_X3_walkAll c t ((G_X2_copyFrom_3 (G_X2_copyFrom_2 s)) 2) n))) H := hP
    refine lv_aload_n hx hb dX4_same_44 rfl (lv_at hl 0 rfl) ?_
    refine va_get (D := w.1) (ci := 5) (v := .ref (w.2.2 13)) (C := RX4) (T := TX4) (N := 7) hx hb hts iw_X4_same_X4 hown hK.1 hP 0 rfl rfl 2 (by decide) (hts _ fl_X4_same_30) (fun _ h9 => h9) rfl dX4_same_45 ?_
    refine lv_aload_n hx hb dX4_same_48 rfl (lv_at hl 0 rfl) ?_
    refine va_get (D := w.1) (ci := 5) (v := .ref (w.2.2 24)) (C := RX4) (T := TX4) (N := 7) hx hb hts iw_X4_same_X4 hown hK.1 hP 0 rfl rfl 6 (by decide) (hts _ fl_X4_same_47) (fun _ h9 => h9) rfl dX4_same_49 ?_
    have hP : va_P w.1 vwCl (wC w c t ((G_X4_make t r n).2) (va_up (va_up (G_X2_copyFrom_3 (G_X2_copyFrom_2 s)) 2 (G_X3_walkAll c t ((G_X2_copyFrom_3 (G_X2_copyFrom_2 s)) 2) n)) 3 ((va_up (G_X2_copyFrom_3 (G_X2_copyFrom_2 s)) 2 (G_X3_walkAll c t ((G_X2_copyFrom_3 (G_X2_copyFrom_2 s)) 2) n)) 3))) H := by rw [va_up_id]; exact hP
    refine xM_v (va_runV (As := [.ref (w.2.2 24)]) (rest := []) ⟨hx, hb, hml, hown, hts⟩ (k_X1_stepAll l w hA c t ((G_X4_make t r n).2) (va_up (G_X2_copyFrom_3 (G_X2_copyFrom_2 s)) 2 (G_X3_walkAll c t ((G_X2_copyFrom_3 (G_X2_copyFrom_2 s)) 2) n)) 3 (by decide) ((va_up (G_X2_copyFrom_3 (G_X2_copyFrom_2 s)) 2 (G_X3_walkAll c t ((G_X2_copyFrom_3 (G_X2_copyFrom_2 s)) 2) n)) 3)  hc (okR_make hq)) (cwV 1 hts gX4_same_X1_stepAll rfl rfl rfl dv_X1_stepAll ⟨Nat.le_of_ble_eq_true rfl, Nat.le_of_ble_eq_true rfl⟩) (wPreV hP hK (ci := 2) (q0 := 13) rfl rfl) rfl rfl hl.1 rfl (lv_room (Nat.le_of_ble_eq_true rfl)) dX4_same_52 ⟨Nat.zero_le _, Nat.zero_le _⟩) hS (fun H locs hP hS => ?_)
    have hP : va_P w.1 vwCl (wC w c t ((G_X1_stepAll c ((G_X4_make t r n).2) ((va_up (G_X2_copyFrom_3 (G_X2_copyFrom_2 s)) 2 (G_X3_walkAll c t ((G_X2_copyFrom_3 (G_X2_copyFrom_2 s)) 2) n)) 3)).1) (va_up (va_up (G_X2_copyFrom_3 (G_X2_copyFrom_2 s)) 2 (G_X3_walkAll c t ((G_X2_copyFrom_3 (G_X2_copyFrom_2 s)) 2) n)) 3 ((G_X1_stepAll c ((G_X4_make t r n).2) ((va_up (G_X2_copyFrom_3 (G_X2_copyFrom_2 s)) 2 (G_X3_walkAll c t ((G_X2_copyFrom_3 (G_X2_copyFrom_2 s)) 2) n)) 3)).2))) H := hP
    refine lv_aload_n hx hb dX4_same_55 rfl (lv_at hl 0 rfl) ?_
    refine va_get (D := w.1) (ci := 5) (v := .ref (w.2.2 22)) (C := RX4) (T := TX4) (N := 7) hx hb hts iw_X4_same_X4 hown hK.1 hP 0 rfl rfl 5 (by decide) (hts _ fl_X4_same_44) (fun _ h9 => h9) rfl dX4_same_56 ?_
    refine lv_aload_n hx hb dX4_same_59 rfl (lv_at hl 0 rfl) ?_
    refine va_get (D := w.1) (ci := 5) (v := .ref (w.2.2 24)) (C := RX4) (T := TX4) (N := 7) hx hb hts iw_X4_same_X4 hown hK.1 hP 0 rfl rfl 6 (by decide) (hts _ fl_X4_same_47) (fun _ h9 => h9) rfl dX4_same_60 ?_
    refine xR_i (va_runV (As := [.ref (w.2.2 24)]) (rest := []) ⟨hx, hb, hml, hown, hts⟩ (k_X2_isLike_2 l w c t ((G_X1_stepAll c ((G_X4_make t r n).2) ((va_up (G_X2_copyFrom_3 (G_X2_copyFrom_2 s)) 2 (G_X3_walkAll c t ((G_X2_copyFrom_3 (G_X2_copyFrom_2 s)) 2) n)) 3)).1) (va_up (va_up (G_X2_copyFrom_3 (G_X2_copyFrom_2 s)) 2 (G_X3_walkAll c t ((G_X2_copyFrom_3 (G_X2_copyFrom_2 s)) 2) n)) 3 ((G_X1_stepAll c ((G_X4_make t r n).2) ((va_up (G_X2_copyFrom_3 (G_X2_copyFrom_2 s)) 2 (G_X3_walkAll c t ((G_X2_copyFrom_3 (G_X2_copyFrom_2 s)) 2) n)) 3)).2))  ) (cwV 1 hts gX4_same_X2_isLike rfl rfl rfl dv_X2_isLike ⟨Nat.le_of_ble_eq_true rfl, Nat.le_of_ble_eq_true rfl⟩) (wPreV hP hK (ci := 3) (q0 := 22) rfl rfl) rfl rfl hl.1 rfl (lv_room (Nat.le_of_ble_eq_true rfl)) dX4_same_63 ⟨Nat.zero_le _, Nat.zero_le _⟩) ?_
    have e9 : G_X4_same c t r s n = (G_X2_isLike_2 (va_up (va_up (G_X2_copyFrom_3 (G_X2_copyFrom_2 s)) 2 (G_X3_walkAll c t ((G_X2_copyFrom_3 (G_X2_copyFrom_2 s)) 2) n)) 3 ((G_X1_stepAll c ((G_X4_make t r n).2) ((va_up (G_X2_copyFrom_3 (G_X2_copyFrom_2 s)) 2 (G_X3_walkAll c t ((G_X2_copyFrom_3 (G_X2_copyFrom_2 s)) 2) n)) 3)).2)), (G_X1_stepAll c ((G_X4_make t r n).2) ((va_up (G_X2_copyFrom_3 (G_X2_copyFrom_2 s)) 2 (G_X3_walkAll c t ((G_X2_copyFrom_3 (G_X2_copyFrom_2 s)) 2) n)) 3)).1, va_up (va_up (G_X2_copyFrom_3 (G_X2_copyFrom_2 s)) 2 (G_X3_walkAll c t ((G_X2_copyFrom_3 (G_X2_copyFrom_2 s)) 2) n)) 3 ((G_X1_stepAll c ((G_X4_make t r n).2) ((va_up (G_X2_copyFrom_3 (G_X2_copyFrom_2 s)) 2 (G_X3_walkAll c t ((G_X2_copyFrom_3 (G_X2_copyFrom_2 s)) 2) n)) 3)).2)) := Eq.trans rfl (if_pos b1)
    exact xM_zret hx hb hr hlk (narZ (G_X2_isLike_01 _)) hS (by rw [e9]) (by rw [e9]; exact hP) dX4_same_66
  ·
    refine lv_iconst (v := 0) hx hb dX4_same_8 (by decide) ?_
    have e9 : G_X4_same c t r s n = ((0 : Int32), (G_X4_make t r n).2, s) := Eq.trans rfl (if_neg b1)
    exact xM_zret hx hb hr hlk rfl hS (by rw [e9]) (by rw [e9]; exact hP) dX4_same_9
