theorem dX5_raised_16 : decode cX5_raised 16 = .ok (.aload_n 0, 1) := by decide +kernel
theorem dX5_raised_17 : decode cX5_raised 17 = .ok (.getfield 200, 3) := by decide +kernel
theorem dX5_raised_20 : decode cX5_raised 20 = .ok (.ireturn, 1) := by decide +kernel
set_option maxRecDepth 20000 in
theorem iw_X5_run_X5 : ∀ w ∈ wsX50, w ∈ wsX5_run := by decide +kernel
set_option maxRecDepth 20000 in
theorem fl_X5_run_85 : Cond.fieldLink RX5 85 "ProcedureCodeModel" "code" "I" ∈ wsX5_run := by decide +kernel
set_option maxRecDepth 20000 in
theorem dv_X5_step : yX5_step.cls = RX5 ∧ yX5_step.cls ≠ "java/lang/invoke/MethodHandle" ∧ yX5_step.cls ≠ "java/lang/invoke/VarHandle" ∧ (parseMethodDescriptor yX5_step.desc).map (fun d => d.parameters.length) = some 1 := by decide +kernel
set_option maxRecDepth 20000 in
theorem fl_X5_run_200 : Cond.fieldLink RX5 200 "ProcedureCodeModel" "raisedByWalk" "I" ∈ wsX5_run := by decide +kernel
set_option maxRecDepth 20000 in
theorem fl_X5_run_197 : Cond.fieldLink RX5 197 "ProcedureCodeModel" "raisedByCode" "I" ∈ wsX5_run := by decide +kernel
def G_X5_run (me : ME) (mb : AI) (mc : MC) (mt : MT) (mk : MK) (mr : MR) (mq : MQS) (mv : MV) (cd : Int32) (n : Int32) (fm : Nat) (fs : Nat) : Int32 × ME × AI × MK × MR × MQS × MV := if (G_X5_isNode mt n) = 0 then (((0 : Int32), ((0 : Int32), me.2.1, me.2.2), mb, mk, mr, mq, mv)) else (if cd = 0 then (if ((G_X5_made mt mr mq n fm).1) = 0 then (((0 : Int32), ((0 : Int32), me.2.1, me.2.2), mb, mk, (G_X5_made mt mr mq n fm).2.1, (G_X5_made mt mr mq n fm).2.2, mv)) else (if cd = 0 then (if cd = 0 then (if ((G_X5_step mb mc ((G_X5_made mt mr mq n fm).2.1) mv (0 : Int32) fs).1) ≤ 0 then (((1 : Int32), ((0 : Int32), (G_X5_step mb mc ((G_X5_made mt mr mq n fm).2.1) mv (0 : Int32) fs).1, me.2.2), (G_X5_step mb mc ((G_X5_made mt mr mq n fm).2.1) mv (0 : Int32) fs).2.1, mk, (G_X5_made mt mr mq n fm).2.1, (G_X5_made mt mr mq n fm).2.2, (G_X5_step mb mc ((G_X5_made mt mr mq n fm).2.1) mv (0 : Int32) fs).2.2)) else (((2 : Int32), ((0 : Int32), (G_X5_step mb mc ((G_X5_made mt mr mq n fm).2.1) mv (0 : Int32) fs).1, me.2.2), (G_X5_step mb mc ((G_X5_made mt mr mq n fm).2.1) mv (0 : Int32) fs).2.1, mk, (G_X5_made mt mr mq n fm).2.1, (G_X5_made mt mr mq n fm).2.2, (G_X5_step mb mc ((G_X5_made mt mr mq n fm).2.1) mv (0 : Int32) fs).2.2))) else (if ((G_X5_step mb mc ((G_X5_made mt mr mq n fm).2.1) mv (0 : Int32) fs).1) ≤ 0 then (((1 : Int32), ((0 : Int32), me.2.1, (G_X5_step mb mc ((G_X5_made mt mr mq n fm).2.1) mv (0 : Int32) fs).1), (G_X5_step mb mc ((G_X5_made mt mr mq n fm).2.1) mv (0 : Int32) fs).2.1, mk, (G_X5_made mt mr mq n fm).2.1, (G_X5_made mt mr mq n fm).2.2, (G_X5_step mb mc ((G_X5_made mt mr mq n fm).2.1) mv (0 : Int32) fs).2.2)) else (((2 : Int32), ((0 : Int32), me.2.1, (G_X5_step mb mc ((G_X5_made mt mr mq n fm).2.1) mv (0 : Int32) fs).1), (G_X5_step mb mc ((G_X5_made mt mr mq n fm).2.1) mv (0 : Int32) fs).2.1, mk, (G_X5_made mt mr mq n fm).2.1, (G_X5_made mt mr mq n fm).2.2, (G_X5_step mb mc ((G_X5_made mt mr mq n fm).2.1) mv (0 : Int32) fs).2.2)))) else (if cd = 0 then (if ((G_X5_step mb mc ((G_X5_made mt mr mq n fm).2.1) mv (1 : Int32) fs).1) ≤ 0 then (((1 : Int32), ((0 : Int32), (G_X5_step mb mc ((G_X5_made mt mr mq n fm).2.1) mv (1 : Int32) fs).1, me.2.2), (G_X5_step mb mc ((G_X5_made mt mr mq n fm).2.1) mv (1 : Int32) fs).2.1, mk, (G_X5_made mt mr mq n fm).2.1, (G_X5_made mt mr mq n fm).2.2, (G_X5_step mb mc ((G_X5_made mt mr mq n fm).2.1) mv (1 : Int32) fs).2.2)) else (((2 : Int32), ((0 : Int32), (G_X5_step mb mc ((G_X5_made mt mr mq n fm).2.1) mv (1 : Int32) fs).1, me.2.2), (G_X5_step mb mc ((G_X5_made mt mr mq n fm).2.1) mv (1 : Int32) fs).2.1, mk, (G_X5_made mt mr mq n fm).2.1, (G_X5_made mt mr mq n fm).2.2, (G_X5_step mb mc ((G_X5_made mt mr mq n fm).2.1) mv (1 : Int32) fs).2.2))) else (if ((G_X5_step mb mc ((G_X5_made mt mr mq n fm).2.1) mv (1 : Int32) fs).1) ≤ 0 then (((1 : Int32), ((0 : Int32), me.2.1, (G_X5_step mb mc ((G_X5_made mt mr mq n fm).2.1) mv (1 : Int32) fs).1), (G_X5_step mb mc ((G_X5_made mt mr mq n fm).2.1) mv (1 : Int32) fs).2.1, mk, (G_X5_made mt mr mq n fm).2.1, (G_X5_made mt mr mq n fm).2.2, (G_X5_step mb mc ((G_X5_made mt mr mq n fm).2.1) mv (1 : Int32) fs).2.2)) else (((2 : Int32), ((0 : Int32), me.2.1, (G_X5_step mb mc ((G_X5_made mt mr mq n fm).2.1) mv (1 : Int32) fs).1), (G_X5_step mb mc ((G_X5_made mt mr mq n fm).2.1) mv (1 : Int32) fs).2.1, mk, (G_X5_made mt mr mq n fm).2.1, (G_X5_made mt mr mq n fm).2.2, (G_X5_step mb mc ((G_X5_made mt mr mq n fm).2.1) mv (1 : Int32) fs).2.2)))))) else (if ((G_X5_made mt mr mq n fm).1) = 0 then (((0 : Int32), ((0 : Int32), me.2.1, me.2.2), mb, (G_X5_keep mk ((G_X5_made mt mr mq n fm).2.1) ((G_X5_made mt mr mq n fm).1)).2, (G_X5_made mt mr mq n fm).2.1, (G_X5_made mt mr mq n fm).2.2, mv)) else (if cd = 0 then (if cd = 0 then (if ((G_X5_step mb mc ((G_X5_made mt mr mq n fm).2.1) mv (0 : Int32) fs).1) ≤ 0 then (((1 : Int32), ((0 : Int32), (G_X5_step mb mc ((G_X5_made mt mr mq n fm).2.1) mv (0 : Int32) fs).1, me.2.2), (G_X5_step mb mc ((G_X5_made mt mr mq n fm).2.1) mv (0 : Int32) fs).2.1, (G_X5_keep mk ((G_X5_made mt mr mq n fm).2.1) ((G_X5_made mt mr mq n fm).1)).2, (G_X5_made mt mr mq n fm).2.1, (G_X5_made mt mr mq n fm).2.2, (G_X5_step mb mc ((G_X5_made mt mr mq n fm).2.1) mv (0 : Int32) fs).2.2)) else (((2 : Int32), ((0 : Int32), (G_X5_step mb mc ((G_X5_made mt mr mq n fm).2.1) mv (0 : Int32) fs).1, me.2.2), (G_X5_step mb mc ((G_X5_made mt mr mq n fm).2.1) mv (0 : Int32) fs).2.1, (G_X5_keep mk ((G_X5_made mt mr mq n fm).2.1) ((G_X5_made mt mr mq n fm).1)).2, (G_X5_made mt mr mq n fm).2.1, (G_X5_made mt mr mq n fm).2.2, (G_X5_step mb mc ((G_X5_made mt mr mq n fm).2.1) mv (0 : Int32) fs).2.2))) else (if ((G_X5_step mb mc ((G_X5_made mt mr mq n fm).2.1) mv (0 : Int32) fs).1) ≤ 0 then (((1 : Int32), ((0 : Int32), me.2.1, (G_X5_step mb mc ((G_X5_made mt mr mq n fm).2.1) mv (0 : Int32) fs).1), (G_X5_step mb mc ((G_X5_made mt mr mq n fm).2.1) mv (0 : Int32) fs).2.1, (G_X5_keep mk ((G_X5_made mt mr mq n fm).2.1) ((G_X5_made mt mr mq n fm).1)).2, (G_X5_made mt mr mq n fm).2.1, (G_X5_made mt mr mq n fm).2.2, (G_X5_step mb mc ((G_X5_made mt mr mq n fm).2.1) mv (0 : Int32) fs).2.2)) else (((2 : Int32), ((0 : Int32), me.2.1, (G_X5_step mb mc ((G_X5_made mt mr mq n fm).2.1) mv (0 : Int32) fs).1), (G_X5_step mb mc ((G_X5_made mt mr mq n fm).2.1) mv (0 : Int32) fs).2.1, (G_X5_keep mk ((G_X5_made mt mr mq n fm).2.1) ((G_X5_made mt mr mq n fm).1)).2, (G_X5_made mt mr mq n fm).2.1, (G_X5_made mt mr mq n fm).2.2, (G_X5_step mb mc ((G_X5_made mt mr mq n fm).2.1) mv (0 : Int32) fs).2.2)))) else (if cd = 0 then (if ((G_X5_step mb mc ((G_X5_made mt mr mq n fm).2.1) mv (1 : Int32) fs).1) ≤ 0 then (((1 : Int32), ((0 : Int32), (G_X5_step mb mc ((G_X5_made mt mr mq n fm).2.1) mv (1 : Int32) fs).1, me.2.2), (G_X5_step mb mc ((G_X5_made mt mr mq n fm).2.1) mv (1 : Int32) fs).2.1, (G_X5_keep mk ((G_X5_made mt mr mq n fm).2.1) ((G_X5_made mt mr mq n fm).1)).2, (G_X5_made mt mr mq n fm).2.1, (G_X5_made mt mr mq n fm).2.2, (G_X5_step mb mc ((G_X5_made mt mr mq n fm).2.1) mv (1 : Int32) fs).2.2)) else (((2 : Int32), ((0 : Int32), (G_X5_step mb mc ((G_X5_made mt mr mq n fm).2.1) mv (1 : Int32) fs).1, me.2.2), (G_X5_step mb mc ((G_X5_made mt mr mq n fm).2.1) mv (1 : Int32) fs).2.1, (G_X5_keep mk ((G_X5_made mt mr mq n fm).2.1) ((G_X5_made mt mr mq n fm).1)).2, (G_X5_made mt mr mq n fm).2.1, (G_X5_made mt mr mq n fm).2.2, (G_X5_step mb mc ((G_X5_made mt mr mq n fm).2.1) mv (1 : Int32) fs).2.2))) else (if ((G_X5_step mb mc ((G_X5_made mt mr mq n fm).2.1) mv (1 : Int32) fs).1) ≤ 0 then (((1 : Int32), ((0 : Int32), me.2.1, (G_X5_step mb mc ((G_X5_made mt mr mq n fm).2.1) mv (1 : Int32) fs).1), (G_X5_step mb mc ((G_X5_made mt mr mq n fm).2.1) mv (1 : Int32) fs).2.1, (G_X5_keep mk ((G_X5_made mt mr mq n fm).2.1) ((G_X5_made mt mr mq n fm).1)).2, (G_X5_made mt mr mq n fm).2.1, (G_X5_made mt mr mq n fm).2.2, (G_X5_step mb mc ((G_X5_made mt mr mq n fm).2.1) mv (1 : Int32) fs).2.2)) else (((2 : Int32), ((0 : Int32), me.2.1, (G_X5_step mb mc ((G_X5_made mt mr mq n fm).2.1) mv (1 : Int32) fs).1), (G_X5_step mb mc ((G_X5_made mt mr mq n fm).2.1) mv (1 : Int32) fs).2.1, (G_X5_keep mk ((G_X5_made mt mr mq n fm).2.1) ((G_X5_made mt mr mq n fm).1)).2, (G_X5_made mt mr mq n fm).2.1, (G_X5_made mt mr mq n fm).2.2, (G_X5_step mb mc ((G_X5_made mt mr mq n fm).2.1) mv (1 : Int32) fs).2.2)))))))
def OK_X5_run (me : ME) (mb : AI) (mc : MC) (mt : MT) (mk : MK) (mr : MR) (mq : MQS) (mv : MV) (cd : Int32) (n : Int32) (fm : Nat) (fs : Nat) : Prop := if (G_X5_isNode mt n) = 0 then (True) else ((OK_X5_made mt mr mq n fm) ∧ (if cd = 0 then (if ((G_X5_made mt mr mq n fm).1) = 0 then (True) else (if cd = 0 then ((OK_X5_step mb mc ((G_X5_made mt mr mq n fm).2.1) mv (0 : Int32) fs) ∧ (if cd = 0 then (if ((G_X5_step mb mc ((G_X5_made mt mr mq n fm).2.1) mv (0 : Int32) fs).1) ≤ 0 then (True) else (True)) else (if ((G_X5_step mb mc ((G_X5_made mt mr mq n fm).2.1) mv (0 : Int32) fs).1) ≤ 0 then (True) else (True)))) else ((OK_X5_step mb mc ((G_X5_made mt mr mq n fm).2.1) mv (1 : Int32) fs) ∧ (if cd = 0 then (if ((G_X5_step mb mc ((G_X5_made mt mr mq n fm).2.1) mv (1 : Int32) fs).1) ≤ 0 then (True) else (True)) else (if ((G_X5_step mb mc ((G_X5_made mt mr mq n fm).2.1) mv (1 : Int32) fs).1) ≤ 0 then (True) else (True)))))) else ((OK_X5_keep mk ((G_X5_made mt mr mq n fm).2.1) ((G_X5_made mt mr mq n fm).1)) ∧ (if ((G_X5_made mt mr mq n fm).1) = 0 then (True) else (if cd = 0 then ((OK_X5_step mb mc ((G_X5_made mt mr mq n fm).2.1) mv (0 : Int32) fs) ∧ (if cd = 0 then (if ((G_X5_step mb mc ((G_X5_made mt mr mq n fm).2.1) mv (0 : Int32) fs).1) ≤ 0 then (True) else (True)) else (if ((G_X5_step mb mc ((G_X5_made mt mr mq n fm).2.1) mv (0 : Int32) fs).1) ≤ 0 then (True) else (True)))) else ((OK_X5_step mb mc ((G_X5_made mt mr mq n fm).2.1) mv (1 : Int32) fs) ∧ (if cd = 0 then (if ((G_X5_step mb mc ((G_X5_made mt mr mq n fm).2.1) mv (1 : Int32) fs).1) ≤ 0 then (True) else (True)) else (if ((G_X5_step mb mc ((G_X5_made mt mr mq n fm).2.1) mv (1 : Int32) fs).1) ≤ 0 then (True) else (True)))))))))
set_option maxHeartbeats 4000000 in
set_option maxRecDepth 100000 in
theorem c_X5_run (l : Launch) (w : WG) (hA : wAp w 25) (me : ME) (mb : AI) (mc : MC) (mt : MT) (mk : MK) (mr : MR) (mq : MQS) (mv : MV) (cd : Int32) (n : Int32) (fm : Nat) (fs : Nat) (hok : OK_X5_run me mb mc mt mk mr mq mv cd n fm fs) : Met l yX5_run wsX5_run { frames := 4, cells := 0, slots := 0, locals := 103 } (va_Pc [.ref (w.2.2 0), .int cd, .int n] (wPK w (wM w me mb mc mt mk mr mq mv))) (xM (some (.int ((G_X5_run me mb mc mt mk mr mq mv cd n fm fs).1))) (fun H => va_P w.1 vwCl (wM w ((G_X5_run me mb mc mt mk mr mq mv cd n fm fs).2.1) ((G_X5_run me mb mc mt mk mr mq mv cd n fm fs).2.2.1) mc mt ((G_X5_run me mb mc mt mk mr mq mv cd n fm fs).2.2.2.1) ((G_X5_run me mb mc mt mk mr mq mv cd n fm fs).2.2.2.2.1) ((G_X5_run me mb mc mt mk mr mq mv cd n fm fs).2.2.2.2.2.1) ((G_X5_run me mb mc mt mk mr mq mv cd n fm fs).2.2.2.2.2.2)) H) (wA w 25)) 0 0 (wA w 25) := by
  refine xOf (cc := cX5_run) (maxL := 5) (ret := (some .int)) (lv := [(0, .ref (w.2.2 0)), (1, .int cd), (2, .int n)]) (by decide) rfl (Nat.le_of_ble_eq_true rfl) rfl ?_
  intro pP eE S mM below meth C hx hb hr hml hts hown hlk hnm hw ls hl
  obtain ⟨hP, hK⟩ := hw
  have hS : va_S (wA w 25) S.heap S.heap [] := va_S.rf
  have hP : va_P w.1 vwCl (wM w me mb mc mt mk mr mq mv) S.heap := hP
  refine lv_aload_n hx hb dX5_run_0 rfl (lv_at hl 0 rfl) ?_
  refine lv_iconst (v := 0) hx hb dX5_run_1 (by decide) ?_
  refine va_put (D := w.1) (ci := 6) (v := .int (0 : Int32)) (ty := .int) (C := RX5) (T := TX5) (N := 33) hx hb hts iw_X5_run_X5 tyX5 tyX5_ok nmX5 hown hK.1 hP (wM_D hA) hS 0 rfl rfl 0 (by decide) (hts _ fl_X5_run_85) (fun _ h9 => h9) rfl (by decide +kernel) rfl rfl (Nat.le_of_ble_eq_true rfl) dX5_run_2 (fun H locs hP _ hS => ?_)
  have hP : va_P w.1 vwCl (wM w ((0 : Int32), me.2.1, me.2.2) mb mc mt mk mr mq mv) H := hP
  refine lv_aload_n hx hb dX5_run_5 rfl (lv_at hl 0 rfl) ?_
  refine lv_iload_n hx hb dX5_run_6 rfl (lv_at hl 2 rfl) ?_
  refine xR_i (va_runV (As := [.int n]) (rest := []) ⟨hx, hb, hml, hown, hts⟩ (c_X5_isNode l w ((0 : Int32), me.2.1, me.2.2) mb mc mt mk mr mq mv n ) (cwV 1 hts gX5_run_X5_isNode rfl rfl rfl dv_X5_isNode ⟨Nat.le_of_ble_eq_true rfl, Nat.le_of_ble_eq_true rfl⟩) (wPreV hP hK (ci := 6) (q0 := 0) rfl rfl) rfl rfl hl.1 rfl (lv_room (Nat.le_of_ble_eq_true rfl)) dX5_run_7 ⟨Nat.zero_le _, Nat.zero_le _⟩) ?_
  refine lv_if_ne (tgt := 15) hx hb dX5_run_10 (by decide) (fun b1 => ?_) (fun b1 => ?_)
  ·
    have k2 := Eq.mp (if_neg b1) hok
    refine lv_aload_n hx hb dX5_run_15 rfl (lv_at hl 0 rfl) ?_
    refine lv_iload_n hx hb dX5_run_16 rfl (lv_at hl 2 rfl) ?_
    have o3 := k2.1
    have k4 := k2.2
    refine xM_i (va_runV (As := [.int n]) (rest := []) ⟨hx, hb, hml, hown, hts⟩ (c_X5_made l w hA ((0 : Int32), me.2.1, me.2.2) mb mc mt mk mr mq mv n fm o3) (cwV 1 hts gX5_run_X5_made rfl rfl rfl dv_X5_made ⟨Nat.le_of_ble_eq_true rfl, Nat.le_of_ble_eq_true rfl⟩) (wPreV hP hK (ci := 6) (q0 := 0) rfl rfl) rfl rfl hl.1 rfl (lv_room (Nat.le_of_ble_eq_true rfl)) dX5_run_17 ⟨Nat.zero_le _, Nat.zero_le _⟩) hS (fun H locs hP hS => ?_)
    have hP : va_P w.1 vwCl (wM w ((0 : Int32), me.2.1, me.2.2) mb mc mt mk ((G_X5_made mt mr mq n fm).2.1) ((G_X5_made mt mr mq n fm).2.2) mv) H := hP
    refine lv_istore_n (lv' := [(3, .int ((G_X5_made mt mr mq n fm).1)), (0, .ref (w.2.2 0)), (1, .int cd), (2, .int n)]) hx hb dX5_run_20 rfl hl (by decide) rfl (fun ls hl => ?_)
    refine lv_iload_n hx hb dX5_run_21 rfl (lv_at hl 2 rfl) ?_
    refine lv_if_eq (tgt := 31) hx hb dX5_run_22 (by decide) (fun b5 => ?_) (fun b5 => ?_)
    ·
      have k6 := Eq.mp (if_pos b5) k4
      refine lv_iload_n hx hb dX5_run_31 rfl (lv_at hl 0 rfl) ?_
      refine lv_if_ne (tgt := 37) hx hb dX5_run_32 (by decide) (fun b7 => ?_) (fun b7 => ?_)
      ·
        have k8 := Eq.mp (if_neg b7) k6
        refine lv_aload_n hx hb dX5_run_37 rfl (lv_at hl 1 rfl) ?_
        refine lv_iload_n hx hb dX5_run_38 rfl (lv_at hl 2 rfl) ?_
        refine lv_if_eq (tgt := 46) hx hb dX5_run_39 (by decide) (fun b9 => ?_) (fun b9 => ?_)
        ·
          have k10 := Eq.mp (if_pos b9) k8
          refine lv_iconst (v := 0) hx hb dX5_run_46 (by decide) ?_
          have o11 := k10.1
          have k12 := k10.2
          refine xM_i (va_runV (As := [.int (0 : Int32)]) (rest := []) ⟨hx, hb, hml, hown, hts⟩ (c_X5_step l w hA ((0 : Int32), me.2.1, me.2.2) mb mc mt mk ((G_X5_made mt mr mq n fm).2.1) ((G_X5_made mt mr mq n fm).2.2) mv (0 : Int32) fs o11) (cwV 1 hts gX5_run_X5_step rfl rfl rfl dv_X5_step ⟨Nat.le_of_ble_eq_true rfl, Nat.le_of_ble_eq_true rfl⟩) (wPreV hP hK (ci := 6) (q0 := 0) rfl rfl) rfl rfl hl.1 rfl (lv_room (Nat.le_of_ble_eq_true rfl)) dX5_run_47 ⟨Nat.zero_le _, Nat.zero_le _⟩) hS (fun H locs hP hS => ?_)
          have hP : va_P w.1 vwCl (wM w ((0 : Int32), me.2.1, me.2.2) ((G_X5_step mb mc ((G_X5_made mt mr mq n fm).2.1) mv (0 : Int32) fs).2.1) mc mt mk ((G_X5_made mt mr mq n fm).2.1) ((G_X5_made mt mr mq n fm).2.2) ((G_X5_step mb mc ((G_X5_made mt mr mq n fm).2.1) mv (0 : Int32) fs).2.2)) H := hP
          refine lv_istore (lv' := [(4, .int ((G_X5_step mb mc ((G_X5_made mt mr mq n fm).2.1) mv (0 : Int32) fs).1)), (3, .int ((G_X5_made mt mr mq n fm).1)), (0, .ref (w.2.2 0)), (1, .int cd), (2, .int n)]) hx hb dX5_run_50 hl (by decide) rfl (fun ls hl => ?_)
          refine lv_iload_n hx hb dX5_run_52 rfl (lv_at hl 3 rfl) ?_
          refine lv_if_eq (tgt := 65) hx hb dX5_run_53 (by decide) (fun b13 => ?_) (fun b13 => ?_)
          ·
            have k14 := Eq.mp (if_pos b13) k12
            refine lv_aload_n hx hb dX5_run_65 rfl (lv_at hl 2 rfl) ?_
            refine lv_iload hx hb dX5_run_66 (lv_at hl 0 rfl) ?_
            refine va_put (D := w.1) (ci := 6) (v := .int ((G_X5_step mb mc ((G_X5_made mt mr mq n fm).2.1) mv (0 : Int32) fs).1)) (ty := .int) (C := RX5) (T := TX5) (N := 33) hx hb hts iw_X5_run_X5 tyX5 tyX5_ok nmX5 hown hK.1 hP (wM_D hA) hS 0 rfl rfl 31 (by decide) (hts _ fl_X5_run_200) (fun _ h9 => h9) rfl (by decide +kernel) rfl rfl (Nat.le_of_ble_eq_true rfl) dX5_run_68 (fun H locs hP _ hS => ?_)
            have hP : va_P w.1 vwCl (wM w ((0 : Int32), (G_X5_step mb mc ((G_X5_made mt mr mq n fm).2.1) mv (0 : Int32) fs).1, me.2.2) ((G_X5_step mb mc ((G_X5_made mt mr mq n fm).2.1) mv (0 : Int32) fs).2.1) mc mt mk ((G_X5_made mt mr mq n fm).2.1) ((G_X5_made mt mr mq n fm).2.2) ((G_X5_step mb mc ((G_X5_made mt mr mq n fm).2.1) mv (0 : Int32) fs).2.2)) H := hP
            refine lv_iload hx hb dX5_run_71 (lv_at hl 0 rfl) ?_
            refine lv_if_le (tgt := 80) hx hb dX5_run_73 (by decide) (fun b15 => ?_) (fun b15 => ?_)
            ·
              have k16 := Eq.mp (if_pos b15) k14
              refine lv_iconst (v := 1) hx hb dX5_run_80 (by decide) ?_
              have e9 : G_X5_run me mb mc mt mk mr mq mv cd n fm fs = ((1 : Int32), ((0 : Int32), (G_X5_step mb mc ((G_X5_made mt mr mq n fm).2.1) mv (0 : Int32) fs).1, me.2.2), (G_X5_step mb mc ((G_X5_made mt mr mq n fm).2.1) mv (0 : Int32) fs).2.1, mk, (G_X5_made mt mr mq n fm).2.1, (G_X5_made mt mr mq n fm).2.2, (G_X5_step mb mc ((G_X5_made mt mr mq n fm).2.1) mv (0 : Int32) fs).2.2) := Eq.trans (Eq.trans (Eq.trans (Eq.trans (Eq.trans (Eq.trans rfl (if_neg b1)) (if_pos b5)) (if_neg b7)) (if_pos b9)) (if_pos b13)) (if_pos b15)
              exact xM_iret hx hb hr hlk  hS (by rw [e9]) (by rw [e9]; exact hP) dX5_run_81
            ·
              have k17 := Eq.mp (if_neg b15) k14
              refine lv_iconst (v := 2) hx hb dX5_run_76 (by decide) ?_
              refine lv_goto (tgt := 81) hx hb dX5_run_77 (by decide) ?_
              have e9 : G_X5_run me mb mc mt mk mr mq mv cd n fm fs = ((2 : Int32), ((0 : Int32), (G_X5_step mb mc ((G_X5_made mt mr mq n fm).2.1) mv (0 : Int32) fs).1, me.2.2), (G_X5_step mb mc ((G_X5_made mt mr mq n fm).2.1) mv (0 : Int32) fs).2.1, mk, (G_X5_made mt mr mq n fm).2.1, (G_X5_made mt mr mq n fm).2.2, (G_X5_step mb mc ((G_X5_made mt mr mq n fm).2.1) mv (0 : Int32) fs).2.2) := Eq.trans (Eq.trans (Eq.trans (Eq.trans (Eq.trans (Eq.trans rfl (if_neg b1)) (if_pos b5)) (if_neg b7)) (if_pos b9)) (if_pos b13)) (if_neg b15)
              exact xM_iret hx hb hr hlk  hS (by rw [e9]) (by rw [e9]; exact hP) dX5_run_81
          ·
            have k18 := Eq.mp (if_neg b13) k12
            refine lv_aload_n hx hb dX5_run_56 rfl (lv_at hl 2 rfl) ?_
            refine lv_iload hx hb dX5_run_57 (lv_at hl 0 rfl) ?_
            refine va_put (D := w.1) (ci := 6) (v := .int ((G_X5_step mb mc ((G_X5_made mt mr mq n fm).2.1) mv (0 : Int32) fs).1)) (ty := .int) (C := RX5) (T := TX5) (N := 33) hx hb hts iw_X5_run_X5 tyX5 tyX5_ok nmX5 hown hK.1 hP (wM_D hA) hS 0 rfl rfl 32 (by decide) (hts _ fl_X5_run_197) (fun _ h9 => h9) rfl (by decide +kernel) rfl rfl (Nat.le_of_ble_eq_true rfl) dX5_run_59 (fun H locs hP _ hS => ?_)
            have hP : va_P w.1 vwCl (wM w ((0 : Int32), me.2.1, (G_X5_step mb mc ((G_X5_made mt mr mq n fm).2.1) mv (0 : Int32) fs).1) ((G_X5_step mb mc ((G_X5_made mt mr mq n fm).2.1) mv (0 : Int32) fs).2.1) mc mt mk ((G_X5_made mt mr mq n fm).2.1) ((G_X5_made mt mr mq n fm).2.2) ((G_X5_step mb mc ((G_X5_made mt mr mq n fm).2.1) mv (0 : Int32) fs).2.2)) H := hP
            refine lv_goto (tgt := 71) hx hb dX5_run_62 (by decide) ?_
            refine lv_iload hx hb dX5_run_71 (lv_at hl 0 rfl) ?_
            refine lv_if_le (tgt := 80) hx hb dX5_run_73 (by decide) (fun b19 => ?_) (fun b19 => ?_)
            ·
              have k20 := Eq.mp (if_pos b19) k18
              refine lv_iconst (v := 1) hx hb dX5_run_80 (by decide) ?_
              have e9 : G_X5_run me mb mc mt mk mr mq mv cd n fm fs = ((1 : Int32), ((0 : Int32), me.2.1, (G_X5_step mb mc ((G_X5_made mt mr mq n fm).2.1) mv (0 : Int32) fs).1), (G_X5_step mb mc ((G_X5_made mt mr mq n fm).2.1) mv (0 : Int32) fs).2.1, mk, (G_X5_made mt mr mq n fm).2.1, (G_X5_made mt mr mq n fm).2.2, (G_X5_step mb mc ((G_X5_made mt mr mq n fm).2.1) mv (0 : Int32) fs).2.2) := Eq.trans (Eq.trans (Eq.trans (Eq.trans (Eq.trans (Eq.trans rfl (if_neg b1)) (if_pos b5)) (if_neg b7)) (if_pos b9)) (if_neg b13)) (if_pos b19)
              exact xM_iret hx hb hr hlk  hS (by rw [e9]) (by rw [e9]; exact hP) dX5_run_81
            ·
              have k21 := Eq.mp (if_neg b19) k18
              refine lv_iconst (v := 2) hx hb dX5_run_76 (by decide) ?_
              refine lv_goto (tgt := 81) hx hb dX5_run_77 (by decide) ?_
              have e9 : G_X5_run me mb mc mt mk mr mq mv cd n fm fs = ((2 : Int32), ((0 : Int32), me.2.1, (G_X5_step mb mc ((G_X5_made mt mr mq n fm).2.1) mv (0 : Int32) fs).1), (G_X5_step mb mc ((G_X5_made mt mr mq n fm).2.1) mv (0 : Int32) fs).2.1, mk, (G_X5_made mt mr mq n fm).2.1, (G_X5_made mt mr mq n fm).2.2, (G_X5_step mb mc ((G_X5_made mt mr mq n fm).2.1) mv (0 : Int32) fs).2.2) := Eq.trans (Eq.trans (Eq.trans (Eq.trans (Eq.trans (Eq.trans rfl (if_neg b1)) (if_pos b5)) (if_neg b7)) (if_pos b9)) (if_neg b13)) (if_neg b19)
              exact xM_iret hx hb hr hlk  hS (by rw [e9]) (by rw [e9]; exact hP) dX5_run_81
        ·
          have k22 := Eq.mp (if_neg b9) k8
          refine lv_iconst (v := 1) hx hb dX5_run_42 (by decide) ?_
          refine lv_goto (tgt := 47) hx hb dX5_run_43 (by decide) ?_
          have o23 := k22.1
          have k24 := k22.2
          refine xM_i (va_runV (As := [.int (1 : Int32)]) (rest := []) ⟨hx, hb, hml, hown, hts⟩ (c_X5_step l w hA ((0 : Int32), me.2.1, me.2.2) mb mc mt mk ((G_X5_made mt mr mq n fm).2.1) ((G_X5_made mt mr mq n fm).2.2) mv (1 : Int32) fs o23) (cwV 1 hts gX5_run_X5_step rfl rfl rfl dv_X5_step ⟨Nat.le_of_ble_eq_true rfl, Nat.le_of_ble_eq_true rfl⟩) (wPreV hP hK (ci := 6) (q0 := 0) rfl rfl) rfl rfl hl.1 rfl (lv_room (Nat.le_of_ble_eq_true rfl)) dX5_run_47 ⟨Nat.zero_le _, Nat.zero_le _⟩) hS (fun H locs hP hS => ?_)
          have hP : va_P w.1 vwCl (wM w ((0 : Int32), me.2.1, me.2.2) ((G_X5_step mb mc ((G_X5_made mt mr mq n fm).2.1) mv (1 : Int32) fs).2.1) mc mt mk ((G_X5_made mt mr mq n fm).2.1) ((G_X5_made mt mr mq n fm).2.2) ((G_X5_step mb mc ((G_X5_made mt mr mq n fm).2.1) mv (1 : Int32) fs).2.2)) H := hP
          refine lv_istore (lv' := [(4, .int ((G_X5_step mb mc ((G_X5_made mt mr mq n fm).2.1) mv (1 : Int32) fs).1)), (3, .int ((G_X5_made mt mr mq n fm).1)), (0, .ref (w.2.2 0)), (1, .int cd), (2, .int n)]) hx hb dX5_run_50 hl (by decide) rfl (fun ls hl => ?_)
          refine lv_iload_n hx hb dX5_run_52 rfl (lv_at hl 3 rfl) ?_
          refine lv_if_eq (tgt := 65) hx hb dX5_run_53 (by decide) (fun b25 => ?_) (fun b25 => ?_)
          ·
            have k26 := Eq.mp (if_pos b25) k24
            refine lv_aload_n hx hb dX5_run_65 rfl (lv_at hl 2 rfl) ?_
            refine lv_iload hx hb dX5_run_66 (lv_at hl 0 rfl) ?_
            refine va_put (D := w.1) (ci := 6) (v := .int ((G_X5_step mb mc ((G_X5_made mt mr mq n fm).2.1) mv (1 : Int32) fs).1)) (ty := .int) (C := RX5) (T := TX5) (N := 33) hx hb hts iw_X5_run_X5 tyX5 tyX5_ok nmX5 hown hK.1 hP (wM_D hA) hS 0 rfl rfl 31 (by decide) (hts _ fl_X5_run_200) (fun _ h9 => h9) rfl (by decide +kernel) rfl rfl (Nat.le_of_ble_eq_true rfl) dX5_run_68 (fun H locs hP _ hS => ?_)
            have hP : va_P w.1 vwCl (wM w ((0 : Int32), (G_X5_step mb mc ((G_X5_made mt mr mq n fm).2.1) mv (1 : Int32) fs).1, me.2.2) ((G_X5_step mb mc ((G_X5_made mt mr mq n fm).2.1) mv (1 : Int32) fs).2.1) mc mt mk ((G_X5_made mt mr mq n fm).2.1) ((G_X5_made mt mr mq n fm).2.2) ((G_X5_step mb mc ((G_X5_made mt mr mq n fm).2.1) mv (1 : Int32) fs).2.2)) H := hP
            refine lv_iload hx hb dX5_run_71 (lv_at hl 0 rfl) ?_
            refine lv_if_le (tgt := 80) hx hb dX5_run_73 (by decide) (fun b27 => ?_) (fun b27 => ?_)
            ·
              have k28 := Eq.mp (if_pos b27) k26
              refine lv_iconst (v := 1) hx hb dX5_run_80 (by decide) ?_
              have e9 : G_X5_run me mb mc mt mk mr mq mv cd n fm fs = ((1 : Int32), ((0 : Int32), (G_X5_step mb mc ((G_X5_made mt mr mq n fm).2.1) mv (1 : Int32) fs).1, me.2.2), (G_X5_step mb mc ((G_X5_made mt mr mq n fm).2.1) mv (1 : Int32) fs).2.1, mk, (G_X5_made mt mr mq n fm).2.1, (G_X5_made mt mr mq n fm).2.2, (G_X5_step mb mc ((G_X5_made mt mr mq n fm).2.1) mv (1 : Int32) fs).2.2) := Eq.trans (Eq.trans (Eq.trans (Eq.trans (Eq.trans (Eq.trans rfl (if_neg b1)) (if_pos b5)) (if_neg b7)) (if_neg b9)) (if_pos b25)) (if_pos b27)
              exact xM_iret hx hb hr hlk  hS (by rw [e9]) (by rw [e9]; exact hP) dX5_run_81
            ·
              have k29 := Eq.mp (if_neg b27) k26
              refine lv_iconst (v := 2) hx hb dX5_run_76 (by decide) ?_
              refine lv_goto (tgt := 81) hx hb dX5_run_77 (by decide) ?_
              have e9 : G_X5_run me mb mc mt mk mr mq mv cd n fm fs = ((2 : Int32), ((0 : Int32), (G_X5_step mb mc ((G_X5_made mt mr mq n fm).2.1) mv (1 : Int32) fs).1, me.2.2), (G_X5_step mb mc ((G_X5_made mt mr mq n fm).2.1) mv (1 : Int32) fs).2.1, mk, (G_X5_made mt mr mq n fm).2.1, (G_X5_made mt mr mq n fm).2.2, (G_X5_step mb mc ((G_X5_made mt mr mq n fm).2.1) mv (1 : Int32) fs).2.2) := Eq.trans (Eq.trans (Eq.trans (Eq.trans (Eq.trans (Eq.trans rfl (if_neg b1)) (if_pos b5)) (if_neg b7)) (if_neg b9)) (if_pos b25)) (if_neg b27)
              exact xM_iret hx hb hr hlk  hS (by rw [e9]) (by rw [e9]; exact hP) dX5_run_81
          ·
            have k30 := Eq.mp (if_neg b25) k24
            refine lv_aload_n hx hb dX5_run_56 rfl (lv_at hl 2 rfl) ?_
            refine lv_iload hx hb dX5_run_57 (lv_at hl 0 rfl) ?_
            refine va_put (D := w.1) (ci := 6) (v := .int ((G_X5_step mb mc ((G_X5_made mt mr mq n fm).2.1) mv (1 : Int32) fs).1)) (ty := .int) (C := RX5) (T := TX5) (N := 33) hx hb hts iw_X5_run_X5 tyX5 tyX5_ok nmX5 hown hK.1 hP (wM_D hA) hS 0 rfl rfl 32 (by decide) (hts _ fl_X5_run_197) (fun _ h9 => h9) rfl (by decide +kernel) rfl rfl (Nat.le_of_ble_eq_true rfl) dX5_run_59 (fun H locs hP _ hS => ?_)
            have hP : va_P w.1 vwCl (wM w ((0 : Int32), me.2.1, (G_X5_step mb mc ((G_X5_made mt mr mq n fm).2.1) mv (1 : Int32) fs).1) ((G_X5_step mb mc ((G_X5_made mt mr mq n fm).2.1) mv (1 : Int32) fs).2.1) mc mt mk ((G_X5_made mt mr mq n fm).2.1) ((G_X5_made mt mr mq n fm).2.2) ((G_X5_step mb mc ((G_X5_made mt mr mq n fm).2.1) mv (1 : Int32) fs).2.2)) H := hP
            refine lv_goto (tgt := 71) hx hb dX5_run_62 (by decide) ?_
            refine lv_iload hx hb dX5_run_71 (lv_at hl 0 rfl) ?_
            refine lv_if_le (tgt := 80) hx hb dX5_run_73 (by decide) (fun b31 => ?_) (fun b31 => ?_)
            ·
              have k32 := Eq.mp (if_pos b31) k30
              refine lv_iconst (v := 1) hx hb dX5_run_80 (by decide) ?_
              have e9 : G_X5_run me mb mc mt mk mr mq mv cd n fm fs = ((1 : Int32), ((0 : Int32), me.2.1, (G_X5_step mb mc ((G_X5_made mt mr mq n fm).2.1) mv (1 : Int32) fs).1), (G_X5_step mb mc ((G_X5_made mt mr mq n fm).2.1) mv (1 : Int32) fs).2.1, mk, (G_X5_made mt mr mq n fm).2.1, (G_X5_made mt mr mq n fm).2.2, (G_X5_step mb mc ((G_X5_made mt mr mq n fm).2.1) mv (1 : Int32) fs).2.2) := Eq.trans (Eq.trans (Eq.trans (Eq.trans (Eq.trans (Eq.trans rfl (if_neg b1)) (if_pos b5)) (if_neg b7)) (if_neg b9)) (if_neg b25)) (if_pos b31)
              exact xM_iret hx hb hr hlk  hS (by rw [e9]) (by rw [e9]; exact hP) dX5_run_81
            ·
              have k33 := Eq.mp (if_neg b31) k30
              refine lv_iconst (v := 2) hx hb dX5_run_76 (by decide) ?_
              refine lv_goto (tgt := 81) hx hb dX5_run_77 (by decide) ?_
              have e9 : G_X5_run me mb mc mt mk mr mq mv cd n fm fs = ((2 : Int32), ((0 : Int32), me.2.1, (G_X5_step mb mc ((G_X5_made mt mr mq n fm).2.1) mv (1 : Int32) fs).1), (G_X5_step mb mc ((G_X5_made mt mr mq n fm).2.1) mv (1 : Int32) fs).2.1, mk, (G_X5_made mt mr mq n fm).2.1, (G_X5_made mt mr mq n fm).2.2, (G_X5_step mb mc ((G_X5_made mt mr mq n fm).2.1) mv (1 : Int32) fs).2.2) := Eq.trans (Eq.trans (Eq.trans (Eq.trans (Eq.trans (Eq.trans rfl (if_neg b1)) (if_pos b5)) (if_neg b7)) (if_neg b9)) (if_neg b25)) (if_neg b31)
              exact xM_iret hx hb hr hlk  hS (by rw [e9]) (by rw [e9]; exact hP) dX5_run_81
      ·
        have k34 := Eq.mp (if_pos b7) k6
        refine lv_iconst (v := 0) hx hb dX5_run_35 (by decide) ?_
        have e9 : G_X5_run me mb mc mt mk mr mq mv cd n fm fs = ((0 : Int32), ((0 : Int32), me.2.1, me.2.2), mb, mk, (G_X5_made mt mr mq n fm).2.1, (G_X5_made mt mr mq n fm).2.2, mv) := Eq.trans (Eq.trans (Eq.trans rfl (if_neg b1)) (if_pos b5)) (if_pos b7)
        exact xM_iret hx hb hr hlk  hS (by rw [e9]) (by rw [e9]; exact hP) dX5_run_36
    ·
      have k35 := Eq.mp (if_neg b5) k4
      refine lv_aload_n hx hb dX5_run_25 rfl (lv_at hl 1 rfl) ?_
      refine lv_iload_n hx hb dX5_run_26 rfl (lv_at hl 0 rfl) ?_
      have o36 := k35.1
      have k37 := k35.2
      refine xM_i (va_runV (As := [.int ((G_X5_made mt mr mq n fm).1)]) (rest := []) ⟨hx, hb, hml, hown, hts⟩ (c_X5_keep l w hA ((0 : Int32), me.2.1, me.2.2) mb mc mt mk ((G_X5_made mt mr mq n fm).2.1) ((G_X5_made mt mr mq n fm).2.2) mv ((G_X5_made mt mr mq n fm).1) o36) (cwV 1 hts gX5_run_X5_keep rfl rfl rfl dv_X5_keep ⟨Nat.le_of_ble_eq_true rfl, Nat.le_of_ble_eq_true rfl⟩) (wPreV hP hK (ci := 6) (q0 := 0) rfl rfl) rfl rfl hl.1 rfl (lv_room (Nat.le_of_ble_eq_true rfl)) dX5_run_27 ⟨Nat.zero_le _, Nat.zero_le _⟩) hS (fun H locs hP hS => ?_)
      have hP : va_P w.1 vwCl (wM w ((0 : Int32), me.2.1, me.2.2) mb mc mt ((G_X5_keep mk ((G_X5_made mt mr mq n fm).2.1) ((G_X5_made mt mr mq n fm).1)).2) ((G_X5_made mt mr mq n fm).2.1) ((G_X5_made mt mr mq n fm).2.2) mv) H := hP
      refine lv_pop hx hb dX5_run_30 rfl ?_
      refine lv_iload_n hx hb dX5_run_31 rfl (lv_at hl 0 rfl) ?_
      refine lv_if_ne (tgt := 37) hx hb dX5_run_32 (by decide) (fun b38 => ?_) (fun b38 => ?_)
      ·
        have k39 := Eq.mp (if_neg b38) k37
        refine lv_aload_n hx hb dX5_run_37 rfl (lv_at hl 1 rfl) ?_
        refine lv_iload_n hx hb dX5_run_38 rfl (lv_at hl 2 rfl) ?_
        refine lv_if_eq (tgt := 46) hx hb dX5_run_39 (by decide) (fun b40 => ?_) (fun b40 => ?_)
        ·
          have k41 := Eq.mp (if_pos b40) k39
          refine lv_iconst (v := 0) hx hb dX5_run_46 (by decide) ?_
          have o42 := k41.1
          have k43 := k41.2
          refine xM_i (va_runV (As := [.int (0 : Int32)]) (rest := []) ⟨hx, hb, hml, hown, hts⟩ (c_X5_step l w hA ((0 : Int32), me.2.1, me.2.2) mb mc mt ((G_X5_keep mk ((G_X5_made mt mr mq n fm).2.1) ((G_X5_made mt mr mq n fm).1)).2) ((G_X5_made mt mr mq n fm).2.1) ((G_X5_made mt mr mq n fm).2.2) mv (0 : Int32) fs o42) (cwV 1 hts gX5_run_X5_step rfl rfl rfl dv_X5_step ⟨Nat.le_of_ble_eq_true rfl, Nat.le_of_ble_eq_true rfl⟩) (wPreV hP hK (ci := 6) (q0 := 0) rfl rfl) rfl rfl hl.1 rfl (lv_room (Nat.le_of_ble_eq_true rfl)) dX5_run_47 ⟨Nat.zero_le _, Nat.zero_le _⟩) hS (fun H locs hP hS => ?_)
          have hP : va_P w.1 vwCl (wM w ((0 : Int32), me.2.1, me.2.2) ((G_X5_step mb mc ((G_X5_made mt mr mq n fm).2.1) mv (0 : Int32) fs).2.1) mc mt ((G_X5_keep mk ((G_X5_made mt mr mq n fm).2.1) ((G_X5_made mt mr mq n fm).1)).2) ((G_X5_made mt mr mq n fm).2.1) ((G_X5_made mt mr mq n fm).2.2) ((G_X5_step mb mc ((G_X5_made mt mr mq n fm).2.1) mv (0 : Int32) fs).2.2)) H := hP
          refine lv_istore (lv' := [(4, .int ((G_X5_step mb mc ((G_X5_made mt mr mq n fm).2.1) mv (0 : Int32) fs).1)), (3, .int ((G_X5_made mt mr mq n fm).1)), (0, .ref (w.2.2 0)), (1, .int cd), (2, .int n)]) hx hb dX5_run_50 hl (by decide) rfl (fun ls hl => ?_)
          refine lv_iload_n hx hb dX5_run_52 rfl (lv_at hl 3 rfl) ?_
          refine lv_if_eq (tgt := 65) hx hb dX5_run_53 (by decide) (fun b44 => ?_) (fun b44 => ?_)
          ·
            have k45 := Eq.mp (if_pos b44) k43
            refine lv_aload_n hx hb dX5_run_65 rfl (lv_at hl 2 rfl) ?_
            refine lv_iload hx hb dX5_run_66 (lv_at hl 0 rfl) ?_
            refine va_put (D := w.1) (ci := 6) (v := .int ((G_X5_step mb mc ((G_X5_made mt mr mq n fm).2.1) mv (0 : Int32) fs).1)) (ty := .int) (C := RX5) (T := TX5) (N := 33) hx hb hts iw_X5_run_X5 tyX5 tyX5_ok nmX5 hown hK.1 hP (wM_D hA) hS 0 rfl rfl 31 (by decide) (hts _ fl_X5_run_200) (fun _ h9 => h9) rfl (by decide +kernel) rfl rfl (Nat.le_of_ble_eq_true rfl) dX5_run_68 (fun H locs hP _ hS => ?_)
            have hP : va_P w.1 vwCl (wM w ((0 : Int32), (G_X5_step mb mc ((G_X5_made mt mr mq n fm).2.1) mv (0 : Int32) fs).1, me.2.2) ((G_X5_step mb mc ((G_X5_made mt mr mq n fm).2.1) mv (0 : Int32) fs).2.1) mc mt ((G_X5_keep mk ((G_X5_made mt mr mq n fm).2.1) ((G_X5_made mt mr mq n fm).1)).2) ((G_X5_made mt mr mq n fm).2.1) ((G_X5_made mt mr mq n fm).2.2) ((G_X5_step mb mc ((G_X5_made mt mr mq n fm).2.1) mv (0 : Int32) fs).2.2)) H := hP
            refine lv_iload hx hb dX5_run_71 (lv_at hl 0 rfl) ?_
            refine lv_if_le (tgt := 80) hx hb dX5_run_73 (by decide) (fun b46 => ?_) (fun b46 => ?_)
            ·
              have k47 := Eq.mp (if_pos b46) k45
              refine lv_iconst (v := 1) hx hb dX5_run_80 (by decide) ?_
              have e9 : G_X5_run me mb mc mt mk mr mq mv cd n fm fs = ((1 : Int32), ((0 : Int32), (G_X5_step mb mc ((G_X5_made mt mr mq n fm).2.1) mv (0 : Int32) fs).1, me.2.2), (G_X5_step mb mc ((G_X5_made mt mr mq n fm).2.1) mv (0 : Int32) fs).2.1, (G_X5_keep mk ((G_X5_made mt mr mq n fm).2.1) ((G_X5_made mt mr mq n fm).1)).2, (G_X5_made mt mr mq n fm).2.1, (G_X5_made mt mr mq n fm).2.2, (G_X5_step mb mc ((G_X5_made mt mr mq n fm).2.1) mv (0 : Int32) fs).2.2) := Eq.trans (Eq.trans (Eq.trans (Eq.trans (Eq.trans (Eq.trans rfl (if_neg b1)) (if_neg b5)) (if_neg b38)) (if_pos b40)) (if_pos b44)) (if_pos b46)
              exact xM_iret hx hb hr hlk  hS (by rw [e9]) (by rw [e9]; exact hP) dX5_run_81
            ·
              have k48 := Eq.mp (if_neg b46) k45
              refine lv_iconst (v := 2) hx hb dX5_run_76 (by decide) ?_
              refine lv_goto (tgt := 81) hx hb dX5_run_77 (by decide) ?_
              have e9 : G_X5_run me mb mc mt mk mr mq mv cd n fm fs = ((2 : Int32), ((0 : Int32), (G_X5_step mb mc ((G_X5_made mt mr mq n fm).2.1) mv (0 : Int32) fs).1, me.2.2), (G_X5_step mb mc ((G_X5_made mt mr mq n fm).2.1) mv (0 : Int32) fs).2.1, (G_X5_keep mk ((G_X5_made mt mr mq n fm).2.1) ((G_X5_made mt mr mq n fm).1)).2, (G_X5_made mt mr mq n fm).2.1, (G_X5_made mt mr mq n fm).2.2, (G_X5_step mb mc ((G_X5_made mt mr mq n fm).2.1) mv (0 : Int32) fs).2.2) := Eq.trans (Eq.trans (Eq.trans (Eq.trans (Eq.trans (Eq.trans rfl (if_neg b1)) (if_neg b5)) (if_neg b38)) (if_pos b40)) (if_pos b44)) (if_neg b46)
              exact xM_iret hx hb hr hlk  hS (by rw [e9]) (by rw [e9]; exact hP) dX5_run_81
          ·
            have k49 := Eq.mp (if_neg b44) k43
            refine lv_aload_n hx hb dX5_run_56 rfl (lv_at hl 2 rfl) ?_
            refine lv_iload hx hb dX5_run_57 (lv_at hl 0 rfl) ?_
            refine va_put (D := w.1) (ci := 6) (v := .int ((G_X5_step mb mc ((G_X5_made mt mr mq n fm).2.1) mv (0 : Int32) fs).1)) (ty := .int) (C := RX5) (T := TX5) (N := 33) hx hb hts iw_X5_run_X5 tyX5 tyX5_ok nmX5 hown hK.1 hP (wM_D hA) hS 0 rfl rfl 32 (by decide) (hts _ fl_X5_run_197) (fun _ h9 => h9) rfl (by decide +kernel) rfl rfl (Nat.le_of_ble_eq_true rfl) dX5_run_59 (fun H locs hP _ hS => ?_)
            have hP : va_P w.1 vwCl (wM w ((0 : Int32), me.2.1, (G_X5_step mb mc ((G_X5_made mt mr mq n fm).2.1) mv (0 : Int32) fs).1) ((G_X5_step mb mc ((G_X5_made mt mr mq n fm).2.1) mv (0 : Int32) fs).2.1) mc mt ((G_X5_keep mk ((G_X5_made mt mr mq n fm).2.1) ((G_X5_made mt mr mq n fm).1)).2) ((G_X5_made mt mr mq n fm).2.1) ((G_X5_made mt mr mq n fm).2.2) ((G_X5_step mb mc ((G_X5_made mt mr mq n fm).2.1) mv (0 : Int32) fs).2.2)) H := hP
            refine lv_goto (tgt := 71) hx hb dX5_run_62 (by decide) ?_
            refine lv_iload hx hb dX5_run_71 (lv_at hl 0 rfl) ?_
            refine lv_if_le (tgt := 80) hx hb dX5_run_73 (by decide) (fun b50 => ?_) (fun b50 => ?_)
            ·
              have k51 := Eq.mp (if_pos b50) k49
              refine lv_iconst (v := 1) hx hb dX5_run_80 (by decide) ?_
              have e9 : G_X5_run me mb mc mt mk mr mq mv cd n fm fs = ((1 : Int32), ((0 : Int32), me.2.1, (G_X5_step mb mc ((G_X5_made mt mr mq n fm).2.1) mv (0 : Int32) fs).1), (G_X5_step mb mc ((G_X5_made mt mr mq n fm).2.1) mv (0 : Int32) fs).2.1, (G_X5_keep mk ((G_X5_made mt mr mq n fm).2.1) ((G_X5_made mt mr mq n fm).1)).2, (G_X5_made mt mr mq n fm).2.1, (G_X5_made mt mr mq n fm).2.2, (G_X5_step mb mc ((G_X5_made mt mr mq n fm).2.1) mv (0 : Int32) fs).2.2) := Eq.trans (Eq.trans (Eq.trans (Eq.trans (Eq.trans (Eq.trans rfl (if_neg b1)) (if_neg b5)) (if_neg b38)) (if_pos b40)) (if_neg b44)) (if_pos b50)
              exact xM_iret hx hb hr hlk  hS (by rw [e9]) (by rw [e9]; exact hP) dX5_run_81
            ·
              have k52 := Eq.mp (if_neg b50) k49
              refine lv_iconst (v := 2) hx hb dX5_run_76 (by decide) ?_
              refine lv_goto (tgt := 81) hx hb dX5_run_77 (by decide) ?_
              have e9 : G_X5_run me mb mc mt mk mr mq mv cd n fm fs = ((2 : Int32), ((0 : Int32), me.2.1, (G_X5_step mb mc ((G_X5_made mt mr mq n fm).2.1) mv (0 : Int32) fs).1), (G_X5_step mb mc ((G_X5_made mt mr mq n fm).2.1) mv (0 : Int32) fs).2.1, (G_X5_keep mk ((G_X5_made mt mr mq n fm).2.1) ((G_X5_made mt mr mq n fm).1)).2, (G_X5_made mt mr mq n fm).2.1, (G_X5_made mt mr mq n fm).2.2, (G_X5_step mb mc ((G_X5_made mt mr mq n fm).2.1) mv (0 : Int32) fs).2.2) := Eq.trans (Eq.trans (Eq.trans (Eq.trans (Eq.trans (Eq.trans rfl (if_neg b1)) (if_neg b5)) (if_neg b38)) (if_pos b40)) (if_neg b44)) (if_neg b50)
              exact xM_iret hx hb hr hlk  hS (by rw [e9]) (by rw [e9]; exact hP) dX5_run_81
        ·
          have k53 := Eq.mp (if_neg b40) k39
          refine lv_iconst (v := 1) hx hb dX5_run_42 (by decide) ?_
          refine lv_goto (tgt := 47) hx hb dX5_run_43 (by decide) ?_
          have o54 := k53.1
          have k55 := k53.2
          refine xM_i (va_runV (As := [.int (1 : Int32)]) (rest := []) ⟨hx, hb, hml, hown, hts⟩ (c_X5_step l w hA ((0 : Int32), me.2.1, me.2.2) mb mc mt ((G_X5_keep mk ((G_X5_made mt mr mq n fm).2.1) ((G_X5_made mt mr mq n fm).1)).2) ((G_X5_made mt mr mq n fm).2.1) ((G_X5_made mt mr mq n fm).2.2) mv (1 : Int32) fs o54) (cwV 1 hts gX5_run_X5_step rfl rfl rfl dv_X5_step ⟨Nat.le_of_ble_eq_true rfl, Nat.le_of_ble_eq_true rfl⟩) (wPreV hP hK (ci := 6) (q0 := 0) rfl rfl) rfl rfl hl.1 rfl (lv_room (Nat.le_of_ble_eq_true rfl)) dX5_run_47 ⟨Nat.zero_le _, Nat.zero_le _⟩) hS (fun H locs hP hS => ?_)
          have hP : va_P w.1 vwCl (wM w ((0 : Int32), me.2.1, me.2.2) ((G_X5_step mb mc ((G_X5_made mt mr mq n fm).2.1) mv (1 : Int32) fs).2.1) mc mt ((G_X5_keep mk ((G_X5_made mt mr mq n fm).2.1) ((G_X5_made mt mr mq n fm).1)).2) ((G_X5_made mt mr mq n fm).2.1) ((G_X5_made mt mr mq n fm).2.2) ((G_X5_step mb mc ((G_X5_made mt mr mq n fm).2.1) mv (1 : Int32) fs).2.2)) H := hP
          refine lv_istore (lv' := [(4, .int ((G_X5_step mb mc ((G_X5_made mt mr mq n fm).2.1) mv (1 : Int32) fs).1)), (3, .int ((G_X5_made mt mr mq n fm).1)), (0, .ref (w.2.2 0)), (1, .int cd), (2, .int n)]) hx hb dX5_run_50 hl (by decide) rfl (fun ls hl => ?_)
          refine lv_iload_n hx hb dX5_run_52 rfl (lv_at hl 3 rfl) ?_
          refine lv_if_eq (tgt := 65) hx hb dX5_run_53 (by decide) (fun b56 => ?_) (fun b56 => ?_)
          ·
            have k57 := Eq.mp (if_pos b56) k55
            refine lv_aload_n hx hb dX5_run_65 rfl (lv_at hl 2 rfl) ?_
            refine lv_iload hx hb dX5_run_66 (lv_at hl 0 rfl) ?_
            refine va_put (D := w.1) (ci := 6) (v := .int ((G_X5_step mb mc ((G_X5_made mt mr mq n fm).2.1) mv (1 : Int32) fs).1)) (ty := .int) (C := RX5) (T := TX5) (N := 33) hx hb hts iw_X5_run_X5 tyX5 tyX5_ok nmX5 hown hK.1 hP (wM_D hA) hS 0 rfl rfl 31 (by decide) (hts _ fl_X5_run_200) (fun _ h9 => h9) rfl (by decide +kernel) rfl rfl (Nat.le_of_ble_eq_true rfl) dX5_run_68 (fun H locs hP _ hS => ?_)
            have hP : va_P w.1 vwCl (wM w ((0 : Int32), (G_X5_step mb mc ((G_X5_made mt mr mq n fm).2.1) mv (1 : Int32) fs).1, me.2.2) ((G_X5_step mb mc ((G_X5_made mt mr mq n fm).2.1) mv (1 : Int32) fs).2.1) mc mt ((G_X5_keep mk ((G_X5_made mt mr mq n fm).2.1) ((G_X5_made mt mr mq n fm).1)).2) ((G_X5_made mt mr mq n fm).2.1) ((G_X5_made mt mr mq n fm).2.2) ((G_X5_step mb mc ((G_X5_made mt mr mq n fm).2.1) mv (1 : Int32) fs).2.2)) H := hP
            refine lv_iload hx hb dX5_run_71 (lv_at hl 0 rfl) ?_
            refine lv_if_le (tgt := 80) hx hb dX5_run_73 (by decide) (fun b58 => ?_) (fun b58 => ?_)
            ·
              have k59 := Eq.mp (if_pos b58) k57
              refine lv_iconst (v := 1) hx hb dX5_run_80 (by decide) ?_
              have e9 : G_X5_run me mb mc mt mk mr mq mv cd n fm fs = ((1 : Int32), ((0 : Int32), (G_X5_step mb mc ((G_X5_made mt mr mq n fm).2.1) mv (1 : Int32) fs).1, me.2.2), (G_X5_step mb mc ((G_X5_made mt mr mq n fm).2.1) mv (1 : Int32) fs).2.1, (G_X5_keep mk ((G_X5_made mt mr mq n fm).2.1) ((G_X5_made mt mr mq n fm).1)).2, (G_X5_made mt mr mq n fm).2.1, (G_X5_made mt mr mq n fm).2.2, (G_X5_step mb mc ((G_X5_made mt mr mq n fm).2.1) mv (1 : Int32) fs).2.2) := Eq.trans (Eq.trans (Eq.trans (Eq.trans (Eq.trans (Eq.trans rfl (if_neg b1)) (if_neg b5)) (if_neg b38)) (if_neg b40)) (if_pos b56)) (if_pos b58)
              exact xM_iret hx hb hr hlk  hS (by rw [e9]) (by rw [e9]; exact hP) dX5_run_81
            ·
              have k60 := Eq.mp (if_neg b58) k57
              refine lv_iconst (v := 2) hx hb dX5_run_76 (by decide) ?_
              refine lv_goto (tgt := 81) hx hb dX5_run_77 (by decide) ?_
              have e9 : G_X5_run me mb mc mt mk mr mq mv cd n fm fs = ((2 : Int32), ((0 : Int32), (G_X5_step mb mc ((G_X5_made mt mr mq n fm).2.1) mv (1 : Int32) fs).1, me.2.2), (G_X5_step mb mc ((G_X5_made mt mr mq n fm).2.1) mv (1 : Int32) fs).2.1, (G_X5_keep mk ((G_X5_made mt mr mq n fm).2.1) ((G_X5_made mt mr mq n fm).1)).2, (G_X5_made mt mr mq n fm).2.1, (G_X5_made mt mr mq n fm).2.2, (G_X5_step mb mc ((G_X5_made mt mr mq n fm).2.1) mv (1 : Int32) fs).2.2) := Eq.trans (Eq.trans (Eq.trans (Eq.trans (Eq.trans (Eq.trans rfl (if_neg b1)) (if_neg b5)) (if_neg b38)) (if_neg b40)) (if_pos b56)) (if_neg b58)
              exact xM_iret hx hb hr hlk  hS (by rw [e9]) (by rw [e9]; exact hP) dX5_run_81
          ·
            have k61 := Eq.mp (if_neg b56) k55
            refine lv_aload_n hx hb dX5_run_56 rfl (lv_at hl 2 rfl) ?_
            refine lv_iload hx hb dX5_run_57 (lv_at hl 0 rfl) ?_
            refine va_put (D := w.1) (ci := 6) (v := .int ((G_X5_step mb mc ((G_X5_made mt mr mq n fm).2.1) mv (1 : Int32) fs).1)) (ty := .int) (C := RX5) (T := TX5) (N := 33) hx hb hts iw_X5_run_X5 tyX5 tyX5_ok nmX5 hown hK.1 hP (wM_D hA) hS 0 rfl rfl 32 (by decide) (hts _ fl_X5_run_197) (fun _ h9 => h9) rfl (by decide +kernel) rfl rfl (Nat.le_of_ble_eq_true rfl) dX5_run_59 (fun H locs hP _ hS => ?_)
            have hP : va_P w.1 vwCl (wM w ((0 : Int32), me.2.1, (G_X5_step mb mc ((G_X5_made mt mr mq n fm).2.1) mv (1 : Int32) fs).1) ((G_X5_step mb mc ((G_X5_made mt mr mq n fm).2.1) mv (1 : Int32) fs).2.1) mc mt ((G_X5_keep mk ((G_X5_made mt mr mq n fm).2.1) ((G_X5_made mt mr mq n fm).1)).2) ((G_X5_made mt mr mq n fm).2.1) ((G_X5_made mt mr mq n fm).2.2) ((G_X5_step mb mc ((G_X5_made mt mr mq n fm).2.1) mv (1 : Int32) fs).2.2)) H := hP
            refine lv_goto (tgt := 71) hx hb dX5_run_62 (by decide) ?_
            refine lv_iload hx hb dX5_run_71 (lv_at hl 0 rfl) ?_
            refine lv_if_le (tgt := 80) hx hb dX5_run_73 (by decide) (fun b62 => ?_) (fun b62 => ?_)
            ·
              have k63 := Eq.mp (if_pos b62) k61
              refine lv_iconst (v := 1) hx hb dX5_run_80 (by decide) ?_
              have e9 : G_X5_run me mb mc mt mk mr mq mv cd n fm fs = ((1 : Int32), ((0 : Int32), me.2.1, (G_X5_step mb mc ((G_X5_made mt mr mq n fm).2.1) mv (1 : Int32) fs).1), (G_X5_step mb mc ((G_X5_made mt mr mq n fm).2.1) mv (1 : Int32) fs).2.1, (G_X5_keep mk ((G_X5_made mt mr mq n fm).2.1) ((G_X5_made mt mr mq n fm).1)).2, (G_X5_made mt mr mq n fm).2.1, (G_X5_made mt mr mq n fm).2.2, (G_X5_step mb mc ((G_X5_made mt mr mq n fm).2.1) mv (1 : Int32) fs).2.2) := Eq.trans (Eq.trans (Eq.trans (Eq.trans (Eq.trans (Eq.trans rfl (if_neg b1)) (if_neg b5)) (if_neg b38)) (if_neg b40)) (if_neg b56)) (if_pos b62)
              exact xM_iret hx hb hr hlk  hS (by rw [e9]) (by rw [e9]; exact hP) dX5_run_81
            ·
              have k64 := Eq.mp (if_neg b62) k61
              refine lv_iconst (v := 2) hx hb dX5_run_76 (by decide) ?_
              refine lv_goto (tgt := 81) hx hb dX5_run_77 (by decide) ?_
              have e9 : G_X5_run me mb mc mt mk mr mq mv cd n fm fs = ((2 : Int32), ((0 : Int32), me.2.1, (G_X5_step mb mc ((G_X5_made mt mr mq n fm).2.1) mv (1 : Int32) fs).1), (G_X5_step mb mc ((G_X5_made mt mr mq n fm).2.1) mv (1 : Int32) fs).2.1, (G_X5_keep mk ((G_X5_made mt mr mq n fm).2.1) ((G_X5_made mt mr mq n fm).1)).2, (G_X5_made mt mr mq n fm).2.1, (G_X5_made mt mr mq n fm).2.2, (G_X5_step mb mc ((G_X5_made mt mr mq n fm).2.1) mv (1 : Int32) fs).2.2) := Eq.trans (Eq.trans (Eq.trans (Eq.trans (Eq.trans (Eq.trans rfl (if_neg b1)) (if_neg b5)) (if_neg b38)) (if_neg b40)) (if_neg b56)) (if_neg b62)
              exact xM_iret hx hb hr hlk  hS (by rw [e9]) (by rw [e9]; exact hP) dX5_run_81
      ·
        have k65 := Eq.mp (if_pos b38) k37
        refine lv_iconst (v := 0) hx hb dX5_run_35 (by decide) ?_
        have e9 : G_X5_run me mb mc mt mk mr mq mv cd n fm fs = ((0 : Int32), ((0 : Int32), me.2.1, me.2.2), mb, (G_X5_keep mk ((G_X5_made mt mr mq n fm).2.1) ((G_X5_made mt mr mq n fm).1)).2, (G_X5_made mt mr mq n fm).2.1, (G_X5_made mt mr mq n fm).2.2, mv) := Eq.trans (Eq.trans (Eq.trans rfl (if_neg b1)) (if_neg b5)) (if_pos b38)
        exact xM_iret hx hb hr hlk  hS (by rw [e9]) (by rw [e9]; exact hP) dX5_run_36
  ·
    have k66 := Eq.mp (if_pos b1) hok
    refine lv_iconst (v := 0) hx hb dX5_run_13 (by decide) ?_
    have e9 : G_X5_run me mb mc mt mk mr mq mv cd n fm fs = ((0 : Int32), ((0 : Int32), me.2.1, me.2.2), mb, mk, mr, mq, mv) := Eq.trans rfl (if_pos b1)
    exact xM_iret hx hb hr hlk  hS (by rw [e9]) (by rw [e9]; exact hP) dX5_run_14
theorem G_X5_madeL_01 (mt : MT) (mr0 : MR) (mq0 : MQS) (n : Int32) (fm : Nat) : ∀ (fu : Nat) (mr : MR) (mq : MQS), (G_X5_made_L24 mt mr0 mq0 n fm fu mr mq).1 = 0 ∨ (G_X5_made_L24 mt mr0 mq0 n fm fu mr mq).1 = 1 := by
  intro fu
  induction fu with
  | zero => intro mr mq; exact Or.inl rfl
  | succ fu ih =>
    intro mr mq
    unfold G_X5_made_L24
    repeat' split
    all_goals first | exact Or.inl rfl | exact Or.inr rfl | exact ih _ _
theorem G_X5_made_01 (mt : MT) (mr : MR) (mq : MQS) (n : Int32) (fm : Nat) : (G_X5_made mt mr mq n fm).1 = 0 ∨ (G_X5_made mt mr mq n fm).1 = 1 := G_X5_madeL_01 _ _ _ _ _ _ _ _
set_option maxRecDepth 20000 in
theorem iw_X5_same_X5 : ∀ w ∈ wsX50, w ∈ wsX5_same := by decide +kernel
set_option maxRecDepth 20000 in
theorem fl_X5_same_85 : Cond.fieldLink RX5 85 "ProcedureCodeModel" "code" "I" ∈ wsX5_same := by decide +kernel
def G_X5_same (me : ME) (mt : MT) (mk : MK) (mr : MR) (mq : MQS) (n : Int32) (fm : Nat) : Int32 × ME × MK × MR × MQS := if (G_X5_isNode mt n) = 0 then (((0 : Int32), ((0 : Int32), me.2.1, me.2.2), mk, mr, mq)) else (((G_X5_made mt mr mq n fm).1, ((0 : Int32), me.2.1, me.2.2), (G_X5_keep mk ((G_X5_made mt mr mq n fm).2.1) ((G_X5_made mt mr mq n fm).1)).2, (G_X5_made mt mr mq n fm).2.1, (G_X5_made mt mr mq n fm).2.2))
def OK_X5_same (me : ME) (mt : MT) (mk : MK) (mr : MR) (mq : MQS) (n : Int32) (fm : Nat) : Prop := if (G_X5_isNode mt n) = 0 then (True) else ((OK_X5_made mt mr mq n fm) ∧ ((OK_X5_keep mk ((G_X5_made mt mr mq n fm).2.1) ((G_X5_made mt mr mq n fm).1)) ∧ (True)))
set_option maxHeartbeats 4000000 in
set_option maxRecDepth 100000 in
theorem c_X5_same (l : Launch) (w : WG) (hA : wAp w 25) (me : ME) (mb : AI) (mc : MC) (mt : MT) (mk : MK) (mr : MR) (mq : MQS) (mv : MV) (n : Int32) (fm : Nat) (hok : OK_X5_same me mt mk mr mq n fm) : Met l yX5_same wsX5_same { frames := 3, cells := 0, slots := 0, locals := 71 } (va_Pc [.ref (w.2.2 0), .int n] (wPK w (wM w me mb mc mt mk mr mq mv))) (xM (some (.int ((G_X5_same me mt mk mr mq n fm).1))) (fun H => va_P w.1 vwCl (wM w ((G_X5_same me mt mk mr mq n fm).2.1) mb mc mt ((G_X5_same me mt mk mr mq n fm).2.2.1) ((G_X5_same me mt mk mr mq n fm).2.2.2.1) ((G_X5_same me mt mk mr mq n fm).2.2.2.2) mv) H) (wA w 25)) 0 0 (wA w 25) := by
  refine xOf (cc := cX5_same) (maxL := 3) (ret := (some .boolean)) (lv := [(0, .ref (w.2.2 0)), (1, .int n)]) (by decide) rfl (Nat.le_of_ble_eq_true rfl) rfl ?_
  intro pP eE S mM below meth C hx hb hr hml hts hown hlk hnm hw ls hl
  obtain ⟨hP, hK⟩ := hw
  have hS : va_S (wA w 25) S.heap S.heap [] := va_S.rf
  have hP : va_P w.1 vwCl (wM w me mb mc mt mk mr mq mv) S.heap := hP
  refine lv_aload_n hx hb dX5_same_0 rfl (lv_at hl 0 rfl) ?_
  refine lv_iconst (v := 0) hx hb dX5_same_1 (by decide) ?_
  refine va_put (D := w.1) (ci := 6) (v := .int (0 : Int32)) (ty := .int) (C := RX5) (T := TX5) (N := 33) hx hb hts iw_X5_same_X5 tyX5 tyX5_ok nmX5 hown hK.1 hP (wM_D hA) hS 0 rfl rfl 0 (by decide) (hts _ fl_X5_same_85) (fun _ h9 => h9) rfl (by decide +kernel) rfl rfl (Nat.le_of_ble_eq_true rfl) dX5_same_2 (fun H locs hP _ hS => ?_)
  have hP : va_P w.1 vwCl (wM w ((0 : Int32), me.2.1, me.2.2) mb mc mt mk mr mq mv) H := hP
  refine lv_aload_n hx hb dX5_same_5 rfl (lv_at hl 0 rfl) ?_
  refine lv_iload_n hx hb dX5_same_6 rfl (lv_at hl 1 rfl) ?_
  refine xR_i (va_runV (As := [.int n]) (rest := []) ⟨hx, hb, hml, hown, hts⟩ (c_X5_isNode l w ((0 : Int32), me.2.1, me.2.2) mb mc mt mk mr mq mv n ) (cwV 1 hts gX5_same_X5_isNode rfl rfl rfl dv_X5_isNode ⟨Nat.le_of_ble_eq_true rfl, Nat.le_of_ble_eq_true rfl⟩) (wPreV hP hK (ci := 6) (q0 := 0) rfl rfl) rfl rfl hl.1 rfl (lv_room (Nat.le_of_ble_eq_true rfl)) dX5_same_7 ⟨Nat.zero_le _, Nat.zero_le _⟩) ?_
  refine lv_if_ne (tgt := 15) hx hb dX5_same_10 (by decide) (fun b1 => ?_) (fun b1 => ?_)
  ·
    have k2 := Eq.mp (if_neg b1) hok
    refine lv_aload_n hx hb dX5_same_15 rfl (lv_at hl 0 rfl) ?_
    refine lv_iload_n hx hb dX5_same_16 rfl (lv_at hl 1 rfl) ?_
    have o3 := k2.1
    have k4 := k2.2
    refine xM_i (va_runV (As := [.int n]) (rest := []) ⟨hx, hb, hml, hown, hts⟩ (c_X5_made l w hA ((0 : Int32), me.2.1, me.2.2) mb mc mt mk mr mq mv n fm o3) (cwV 1 hts gX5_same_X5_made rfl rfl rfl dv_X5_made ⟨Nat.le_of_ble_eq_true rfl, Nat.le_of_ble_eq_true rfl⟩) (wPreV hP hK (ci := 6) (q0 := 0) rfl rfl) rfl rfl hl.1 rfl (lv_room (Nat.le_of_ble_eq_true rfl)) dX5_same_17 ⟨Nat.zero_le _, Nat.zero_le _⟩) hS (fun H locs hP hS => ?_)
    have hP : va_P w.1 vwCl (wM w ((0 : Int32), me.2.1, me.2.2) mb mc mt mk ((G_X5_made mt mr mq n fm).2.1) ((G_X5_made mt mr mq n fm).2.2) mv) H := hP
    refine lv_istore_n (lv' := [(2, .int ((G_X5_made mt mr mq n fm).1)), (0, .ref (w.2.2 0)), (1, .int n)]) hx hb dX5_same_20 rfl hl (by decide) rfl (fun ls hl => ?_)
    refine lv_aload_n hx hb dX5_same_21 rfl (lv_at hl 1 rfl) ?_
    refine lv_iload_n hx hb dX5_same_22 rfl (lv_at hl 0 rfl) ?_
    have o5 := k4.1
    have k6 := k4.2
    refine xM_i (va_runV (As := [.int ((G_X5_made mt mr mq n fm).1)]) (rest := []) ⟨hx, hb, hml, hown, hts⟩ (c_X5_keep l w hA ((0 : Int32), me.2.1, me.2.2) mb mc mt mk ((G_X5_made mt mr mq n fm).2.1) ((G_X5_made mt mr mq n fm).2.2) mv ((G_X5_made mt mr mq n fm).1) o5) (cwV 1 hts gX5_same_X5_keep rfl rfl rfl dv_X5_keep ⟨Nat.le_of_ble_eq_true rfl, Nat.le_of_ble_eq_true rfl⟩) (wPreV hP hK (ci := 6) (q0 := 0) rfl rfl) rfl rfl hl.1 rfl (lv_room (Nat.le_of_ble_eq_true rfl)) dX5_same_23 ⟨Nat.zero_le _, Nat.zero_le _⟩) hS (fun H locs hP hS => ?_)
    have hP : va_P w.1 vwCl (wM w ((0 : Int32), me.2.1, me.2.2) mb mc mt ((G_X5_keep mk ((G_X5_made mt mr mq n fm).2.1) ((G_X5_made mt mr mq n fm).1)).2) ((G_X5_made mt mr mq n fm).2.1) ((G_X5_made mt mr mq n fm).2.2) mv) H := hP
    refine lv_pop hx hb dX5_same_26 rfl ?_
    refine lv_iload_n hx hb dX5_same_27 rfl (lv_at hl 0 rfl) ?_
    have e9 : G_X5_same me mt mk mr mq n fm = ((G_X5_made mt mr mq n fm).1, ((0 : Int32), me.2.1, me.2.2), (G_X5_keep mk ((G_X5_made mt mr mq n fm).2.1) ((G_X5_made mt mr mq n fm).1)).2, (G_X5_made mt mr mq n fm).2.1, (G_X5_made mt mr mq n fm).2.2) := Eq.trans rfl (if_neg b1)
    exact xM_zret hx hb hr hlk (by first | rfl | exact narZ (G_X5_made_01 _ _ _ _ _)) hS (by rw [e9]) (by rw [e9]; exact hP) dX5_same_28
  ·
    have k7 := Eq.mp (if_pos b1) hok
    refine lv_iconst (v := 0) hx hb dX5_same_13 (by decide) ?_
    have e9 : G_X5_same me mt mk mr mq n fm = ((0 : Int32), ((0 : Int32), me.2.1, me.2.2), mk, mr, mq) := Eq.trans rfl (if_pos b1)
    exact xM_zret hx hb hr hlk (by first | rfl | exact narZ (G_X5_made_01 _ _ _ _ _)) hS (by rw [e9]) (by rw [e9]; exact hP) dX5_same_14
set_option maxRecDepth 20000 in
theorem iw_X5_code_X5 : ∀ w ∈ wsX50, w ∈ wsX5_code := by decide +kernel
set_option maxRecDepth 20000 in
theorem fl_X5_code_85 : Cond.fieldLink RX5 85 "ProcedureCodeModel" "code" "I" ∈ wsX5_code := by decide +kernel
set_option maxRecDepth 20000 in
theorem fl_X5_code_167 : Cond.fieldLink RX5 167 "ProcedureCodeModel" "kept" "I" ∈ wsX5_code := by decide +kernel
set_option maxRecDepth 20000 in
theorem fl_X5_code_58 : Cond.fieldLink RX5 58 "ProcedureCodeModel" "keptNumbers" "[J" ∈ wsX5_code := by decide +kernel
set_option maxRecDepth 20000 in
theorem fl_X5_code_46 : Cond.fieldLink RX5 46 "ProcedureCodeModel" "keptOps" "[I" ∈ wsX5_code := by decide +kernel
def G_X5_code (me : ME) (mk : MK) (i : Int32) (wh : Int32) : Int32 × ME := if i < 0 then (((-1 : Int32), ((0 : Int32), me.2.1, me.2.2))) else (if i < mk.1 then (if wh = 0 then ((mk.2.1 i.toNatClampNeg, ((0 : Int32), me.2.1, me.2.2))) else (if wh = (1 : Int32) then (((mk.2.2.2 i.toNatClampNeg).toInt32, ((0 : Int32), me.2.1, me.2.2))) else (((-1 : Int32), ((0 : Int32), me.2.1, me.2.2))))) else (((-1 : Int32), ((0 : Int32), me.2.1, me.2.2))))
def OK_X5_code (me : ME) (mk : MK) (i : Int32) (wh : Int32) : Prop := if i < 0 then (True) else (if i < mk.1 then (if wh = 0 then ((vp_in i 401) ∧ (True)) else (if wh = (1 : Int32) then ((vp_in i 401) ∧ (True)) else (True))) else (True))
set_option maxHeartbeats 4000000 in
set_option maxRecDepth 100000 in
theorem c_X5_code (l : Launch) (w : WG) (hA : wAp w 25) (me : ME) (mb : AI) (mc : MC) (mt : MT) (mk : MK) (mr : MR) (mq : MQS) (mv : MV) (i : Int32) (wh : Int32) (hok : OK_X5_code me mk i wh) : Met l yX5_code wsX5_code { frames := 0, cells := 0, slots := 0, locals := 0 } (va_Pc [.ref (w.2.2 0), .int i, .int wh] (wPK w (wM w me mb mc mt mk mr mq mv))) (xM (some (.int ((G_X5_code me mk i wh).1))) (fun H => va_P w.1 vwCl (wM w ((G_X5_code me mk i wh).2) mb mc mt mk mr mq mv) H) (wA w 25)) 0 0 (wA w 25) := by
  refine xOf (cc := cX5_code) (maxL := 3) (ret := (some .int)) (lv := [(0, .ref (w.2.2 0)), (1, .int i), (2, .int wh)]) (by decide) rfl (Nat.le_of_ble_eq_true rfl) rfl ?_
  intro pP eE S mM below meth C hx hb hr hml hts hown hlk hnm hw ls hl
  obtain ⟨hP, hK⟩ := hw
  have hS : va_S (wA w 25) S.heap S.heap [] := va_S.rf
  have hP : va_P w.1 vwCl (wM w me mb mc mt mk mr mq mv) S.heap := hP
  refine lv_aload_n hx hb dX5_code_0 rfl (lv_at hl 0 rfl) ?_
  refine lv_iconst (v := 0) hx hb dX5_code_1 (by decide) ?_
  refine va_put (D := w.1) (ci := 6) (v := .int (0 : Int32)) (ty := .int) (C := RX5) (T := TX5) (N := 33) hx hb hts iw_X5_code_X5 tyX5 tyX5_ok nmX5 hown hK.1 hP (wM_D hA) hS 0 rfl rfl 0 (by decide) (hts _ fl_X5_code_85) (fun _ h9 => h9) rfl (by decide +kernel) rfl rfl (Nat.le_of_ble_eq_true rfl) dX5_code_2 (fun H locs hP _ hS => ?_)
  have hP : va_P w.1 vwCl (wM w ((0 : Int32), me.2.1, me.2.2) mb mc mt mk mr mq mv) H := hP
  refine lv_iload_n hx hb dX5_code_5 rfl (lv_at hl 1 rfl) ?_
  refine lv_if_lt (tgt := 17) hx hb dX5_code_6 (by decide) (fun b1 => ?_) (fun b1 => ?_)
  ·
    have k2 := Eq.mp (if_pos b1) hok
    refine lv_iconst (v := -1) hx hb dX5_code_17 (by decide) ?_
    have e9 : G_X5_code me mk i wh = ((-1 : Int32), ((0 : Int32), me.2.1, me.2.2)) := Eq.trans rfl (if_pos b1)
    exact xM_iret hx hb hr hlk  hS (by rw [e9]) (by rw [e9]; exact hP) dX5_code_18
  ·
    have k3 := Eq.mp (if_neg b1) hok
    refine lv_iload_n hx hb dX5_code_9 rfl (lv_at hl 1 rfl) ?_
    refine lv_aload_n hx hb dX5_code_10 rfl (lv_at hl 0 rfl) ?_
    refine va_get (D := w.1) (ci := 6) (v := .int mk.1) (C := RX5) (T := TX5) (N := 33) hx hb hts iw_X5_code_X5 hown hK.1 hP 0 rfl rfl 20 (by decide) (hts _ fl_X5_code_167) (fun _ h9 => h9) rfl dX5_code_11 ?_
    refine lv_icmp_lt (tgt := 19) hx hb dX5_code_14 (by decide) (fun b4 => ?_) (fun b4 => ?_)
    ·
      have k5 := Eq.mp (if_pos b4) k3
      refine lv_iload_n hx hb dX5_code_19 rfl (lv_at hl 2 rfl) ?_
      refine lv_if_ne (tgt := 32) hx hb dX5_code_20 (by decide) (fun b6 => ?_) (fun b6 => ?_)
      ·
        have k7 := Eq.mp (if_neg b6) k5
        refine lv_iload_n hx hb dX5_code_32 rfl (lv_at hl 2 rfl) ?_
        refine lv_iconst (v := 1) hx hb dX5_code_33 (by decide) ?_
        refine lv_icmp_ne (tgt := 47) hx hb dX5_code_34 (by decide) (fun b8 => ?_) (fun b8 => ?_)
        ·
          have k9 := Eq.mp (if_neg b8) k7
          refine lv_iconst (v := -1) hx hb dX5_code_47 (by decide) ?_
          have e9 : G_X5_code me mk i wh = ((-1 : Int32), ((0 : Int32), me.2.1, me.2.2)) := Eq.trans (Eq.trans (Eq.trans (Eq.trans rfl (if_neg b1)) (if_pos b4)) (if_neg b6)) (if_neg b8)
          exact xM_iret hx hb hr hlk  hS (by rw [e9]) (by rw [e9]; exact hP) dX5_code_48
        ·
          have k10 := Eq.mp (if_pos b8) k7
          refine lv_aload_n hx hb dX5_code_37 rfl (lv_at hl 0 rfl) ?_
          refine va_get (D := w.1) (ci := 6) (v := .ref (w.2.2 16)) (C := RX5) (T := TX5) (N := 33) hx hb hts iw_X5_code_X5 hown hK.1 hP 0 rfl rfl 18 (by decide) (hts _ fl_X5_code_58) (fun _ h9 => h9) rfl dX5_code_38 ?_
          refine lv_iload_n hx hb dX5_code_41 rfl (lv_at hl 1 rfl) ?_
          have o11 := k10.1
          have k12 := k10.2
          refine va_lald hx hb hK.1 hP 16 3 rfl rfl o11 dX5_code_42 ?_
          refine lv_l2i hx hb dX5_code_43 rfl ?_
          refine lv_goto (tgt := 48) hx hb dX5_code_44 (by decide) ?_
          have e9 : G_X5_code me mk i wh = ((mk.2.2.2 i.toNatClampNeg).toInt32, ((0 : Int32), me.2.1, me.2.2)) := Eq.trans (Eq.trans (Eq.trans (Eq.trans rfl (if_neg b1)) (if_pos b4)) (if_neg b6)) (if_pos b8)
          exact xM_iret hx hb hr hlk  hS (by rw [e9]) (by rw [e9]; exact hP) dX5_code_48
      ·
        have k13 := Eq.mp (if_pos b6) k5
        refine lv_aload_n hx hb dX5_code_23 rfl (lv_at hl 0 rfl) ?_
        refine va_get (D := w.1) (ci := 6) (v := .ref (w.2.2 12)) (C := RX5) (T := TX5) (N := 33) hx hb hts iw_X5_code_X5 hown hK.1 hP 0 rfl rfl 14 (by decide) (hts _ fl_X5_code_46) (fun _ h9 => h9) rfl dX5_code_24 ?_
        refine lv_iload_n hx hb dX5_code_27 rfl (lv_at hl 1 rfl) ?_
        have o14 := k13.1
        have k15 := k13.2
        refine va_iald hx hb hK.1 hP 12 0 rfl rfl o14 dX5_code_28 ?_
        refine lv_goto (tgt := 48) hx hb dX5_code_29 (by decide) ?_
        have e9 : G_X5_code me mk i wh = (mk.2.1 i.toNatClampNeg, ((0 : Int32), me.2.1, me.2.2)) := Eq.trans (Eq.trans (Eq.trans rfl (if_neg b1)) (if_pos b4)) (if_pos b6)
        exact xM_iret hx hb hr hlk  hS (by rw [e9]) (by rw [e9]; exact hP) dX5_code_48
    ·
      have k16 := Eq.mp (if_neg b4) k3
      refine lv_iconst (v := -1) hx hb dX5_code_17 (by decide) ?_
      have e9 : G_X5_code me mk i wh = ((-1 : Int32), ((0 : Int32), me.2.1, me.2.2)) := Eq.trans (Eq.trans rfl (if_neg b1)) (if_neg b4)
      exact xM_iret hx hb hr hlk  hS (by rw [e9]) (by rw [e9]; exact hP) dX5_code_18
set_option maxRecDepth 20000 in
theorem iw_X5_fast_X5 : ∀ w ∈ wsX50, w ∈ wsX5_fast := by decide +kernel
set_option maxRecDepth 20000 in
theorem fl_X5_fast_85 : Cond.fieldLink RX5 85 "ProcedureCodeModel" "code" "I" ∈ wsX5_fast := by decide +kernel
set_option maxRecDepth 20000 in
theorem fl_X5_fast_167 : Cond.fieldLink RX5 167 "ProcedureCodeModel" "kept" "I" ∈ wsX5_fast := by decide +kernel
set_option maxRecDepth 20000 in
theorem fl_X5_fast_46 : Cond.fieldLink RX5 46 "ProcedureCodeModel" "keptOps" "[I" ∈ wsX5_fast := by decide +kernel
set_option maxRecDepth 20000 in
theorem fl_X5_fast_49 : Cond.fieldLink RX5 49 "ProcedureCodeModel" "keptDigits" "[I" ∈ wsX5_fast := by decide +kernel
def G_X5_fast (me : ME) (mk : MK) (i : Int32) : Int32 × ME := if i < 0 then (((0 : Int32), ((0 : Int32), me.2.1, me.2.2))) else (if mk.1 ≤ i then (((0 : Int32), ((0 : Int32), me.2.1, me.2.2))) else (if (mk.2.1 i.toNatClampNeg) ≤ (2 : Int32) then (((0 : Int32), ((0 : Int32), me.2.1, me.2.2))) else (if (7 : Int32) ≤ (mk.2.1 i.toNatClampNeg) then (((0 : Int32), ((0 : Int32), me.2.1, me.2.2))) else (if (18 : Int32) < (mk.2.2.1 i.toNatClampNeg) then (((0 : Int32), ((0 : Int32), me.2.1, me.2.2))) else (((1 : Int32), ((0 : Int32), me.2.1, me.2.2)))))))
def OK_X5_fast (me : ME) (mk : MK) (i : Int32) : Prop := if i < 0 then (True) else (if mk.1 ≤ i then (True) else ((vp_in i 401) ∧ (if (mk.2.1 i.toNatClampNeg) ≤ (2 : Int32) then (True) else ((vp_in i 401) ∧ (if (7 : Int32) ≤ (mk.2.1 i.toNatClampNeg) then (True) else ((vp_in i 401) ∧ (if (18 : Int32) < (mk.2.2.1 i.toNatClampNeg) then (True) else (True))))))))
set_option maxHeartbeats 4000000 in
set_option maxRecDepth 100000 in
theorem c_X5_fast (l : Launch) (w : WG) (hA : wAp w 25) (me : ME) (mb : AI) (mc : MC) (mt : MT) (mk : MK) (mr : MR) (mq : MQS) (mv : MV) (i : Int32) (hok : OK_X5_fast me mk i) : Met l yX5_fast wsX5_fast { frames := 0, cells := 0, slots := 0, locals := 0 } (va_Pc [.ref (w.2.2 0), .int i] (wPK w (wM w me mb mc mt mk mr mq mv))) (xM (some (.int ((G_X5_fast me mk i).1))) (fun H => va_P w.1 vwCl (wM w ((G_X5_fast me mk i).2) mb mc mt mk mr mq mv) H) (wA w 25)) 0 0 (wA w 25) := by
  refine xOf (cc := cX5_fast) (maxL := 2) (ret := (some .boolean)) (lv := [(0, .ref (w.2.2 0)), (1, .int i)]) (by decide) rfl (Nat.le_of_ble_eq_true rfl) rfl ?_
  intro pP eE S mM below meth C hx hb hr hml hts hown hlk hnm hw ls hl
  obtain ⟨hP, hK⟩ := hw
  have hS : va_S (wA w 25) S.heap S.heap [] := va_S.rf
  have hP : va_P w.1 vwCl (wM w me mb mc mt mk mr mq mv) S.heap := hP
  refine lv_aload_n hx hb dX5_fast_0 rfl (lv_at hl 0 rfl) ?_
  refine lv_iconst (v := 0) hx hb dX5_fast_1 (by decide) ?_
  refine va_put (D := w.1) (ci := 6) (v := .int (0 : Int32)) (ty := .int) (C := RX5) (T := TX5) (N := 33) hx hb hts iw_X5_fast_X5 tyX5 tyX5_ok nmX5 hown hK.1 hP (wM_D hA) hS 0 rfl rfl 0 (by decide) (hts _ fl_X5_fast_85) (fun _ h9 => h9) rfl (by decide +kernel) rfl rfl (Nat.le_of_ble_eq_true rfl) dX5_fast_2 (fun H locs hP _ hS => ?_)
  have hP : va_P w.1 vwCl (wM w ((0 : Int32), me.2.1, me.2.2) mb mc mt mk mr mq mv) H := hP
  refine lv_iload_n hx hb dX5_fast_5 rfl (lv_at hl 1 rfl) ?_
  refine lv_if_lt (tgt := 53) hx hb dX5_fast_6 (by decide) (fun b1 => ?_) (fun b1 => ?_)
  ·
    have k2 := Eq.mp (if_pos b1) hok
    refine lv_iconst (v := 0) hx hb dX5_fast_53 (by decide) ?_
    have e9 : G_X5_fast me mk i = ((0 : Int32), ((0 : Int32), me.2.1, me.2.2)) := Eq.trans rfl (if_pos b1)
    exact xM_zret hx hb hr hlk rfl hS (by rw [e9]) (by rw [e9]; exact hP) dX5_fast_54
  ·
    have k3 := Eq.mp (if_neg b1) hok
    refine lv_iload_n hx hb dX5_fast_9 rfl (lv_at hl 1 rfl) ?_
    refine lv_aload_n hx hb dX5_fast_10 rfl (lv_at hl 0 rfl) ?_
    refine va_get (D := w.1) (ci := 6) (v := .int mk.1) (C := RX5) (T := TX5) (N := 33) hx hb hts iw_X5_fast_X5 hown hK.1 hP 0 rfl rfl 20 (by decide) (hts _ fl_X5_fast_167) (fun _ h9 => h9) rfl dX5_fast_11 ?_
    refine lv_icmp_ge (tgt := 53) hx hb dX5_fast_14 (by decide) (fun b4 => ?_) (fun b4 => ?_)
    ·
      have k5 := Eq.mp (if_pos b4) k3
      refine lv_iconst (v := 0) hx hb dX5_fast_53 (by decide) ?_
      have e9 : G_X5_fast me mk i = ((0 : Int32), ((0 : Int32), me.2.1, me.2.2)) := Eq.trans (Eq.trans rfl (if_neg b1)) (if_pos b4)
      exact xM_zret hx hb hr hlk rfl hS (by rw [e9]) (by rw [e9]; exact hP) dX5_fast_54
    ·
      have k6 := Eq.mp (if_neg b4) k3
      refine lv_aload_n hx hb dX5_fast_17 rfl (lv_at hl 0 rfl) ?_
      refine va_get (D := w.1) (ci := 6) (v := .ref (w.2.2 12)) (C := RX5) (T := TX5) (N := 33) hx hb hts iw_X5_fast_X5 hown hK.1 hP 0 rfl rfl 14 (by decide) (hts _ fl_X5_fast_46) (fun _ h9 => h9) rfl dX5_fast_18 ?_
      refine lv_iload_n hx hb dX5_fast_21 rfl (lv_at hl 1 rfl) ?_
      have o7 := k6.1
      have k8 := k6.2
      refine va_iald hx hb hK.1 hP 12 0 rfl rfl o7 dX5_fast_22 ?_
      refine lv_iconst (v := 2) hx hb dX5_fast_23 (by decide) ?_
      refine lv_icmp_le (tgt := 53) hx hb dX5_fast_24 (by decide) (fun b9 => ?_) (fun b9 => ?_)
      ·
        have k10 := Eq.mp (if_pos b9) k8
        refine lv_iconst (v := 0) hx hb dX5_fast_53 (by decide) ?_
        have e9 : G_X5_fast me mk i = ((0 : Int32), ((0 : Int32), me.2.1, me.2.2)) := Eq.trans (Eq.trans (Eq.trans rfl (if_neg b1)) (if_neg b4)) (if_pos b9)
        exact xM_zret hx hb hr hlk rfl hS (by rw [e9]) (by rw [e9]; exact hP) dX5_fast_54
      ·
        have k11 := Eq.mp (if_neg b9) k8
        refine lv_aload_n hx hb dX5_fast_27 rfl (lv_at hl 0 rfl) ?_
        refine va_get (D := w.1) (ci := 6) (v := .ref (w.2.2 12)) (C := RX5) (T := TX5) (N := 33) hx hb hts iw_X5_fast_X5 hown hK.1 hP 0 rfl rfl 14 (by decide) (hts _ fl_X5_fast_46) (fun _ h9 => h9) rfl dX5_fast_28 ?_
        refine lv_iload_n hx hb dX5_fast_31 rfl (lv_at hl 1 rfl) ?_
        have o12 := k11.1
        have k13 := k11.2
        refine va_iald hx hb hK.1 hP 12 0 rfl rfl o12 dX5_fast_32 ?_
        refine lv_bipush (v := 7) hx hb dX5_fast_33 (by decide) ?_
        refine lv_icmp_ge (tgt := 53) hx hb dX5_fast_35 (by decide) (fun b14 => ?_) (fun b14 => ?_)
        ·
          have k15 := Eq.mp (if_pos b14) k13
          refine lv_iconst (v := 0) hx hb dX5_fast_53 (by decide) ?_
          have e9 : G_X5_fast me mk i = ((0 : Int32), ((0 : Int32), me.2.1, me.2.2)) := Eq.trans (Eq.trans (Eq.trans (Eq.trans rfl (if_neg b1)) (if_neg b4)) (if_neg b9)) (if_pos b14)
          exact xM_zret hx hb hr hlk rfl hS (by rw [e9]) (by rw [e9]; exact hP) dX5_fast_54
        ·
          have k16 := Eq.mp (if_neg b14) k13
          refine lv_aload_n hx hb dX5_fast_38 rfl (lv_at hl 0 rfl) ?_
          refine va_get (D := w.1) (ci := 6) (v := .ref (w.2.2 13)) (C := RX5) (T := TX5) (N := 33) hx hb hts iw_X5_fast_X5 hown hK.1 hP 0 rfl rfl 15 (by decide) (hts _ fl_X5_fast_49) (fun _ h9 => h9) rfl dX5_fast_39 ?_
          refine lv_iload_n hx hb dX5_fast_42 rfl (lv_at hl 1 rfl) ?_
          have o17 := k16.1
          have k18 := k16.2
          refine va_iald hx hb hK.1 hP 13 0 rfl rfl o17 dX5_fast_43 ?_
          refine lv_bipush (v := 18) hx hb dX5_fast_44 (by decide) ?_
          refine lv_icmp_gt (tgt := 53) hx hb dX5_fast_46 (by decide) (fun b19 => ?_) (fun b19 => ?_)
          ·
            have k20 := Eq.mp (if_pos b19) k18
            refine lv_iconst (v := 0) hx hb dX5_fast_53 (by decide) ?_
            have e9 : G_X5_fast me mk i = ((0 : Int32), ((0 : Int32), me.2.1, me.2.2)) := Eq.trans (Eq.trans (Eq.trans (Eq.trans (Eq.trans rfl (if_neg b1)) (if_neg b4)) (if_neg b9)) (if_neg b14)) (if_pos b19)
            exact xM_zret hx hb hr hlk rfl hS (by rw [e9]) (by rw [e9]; exact hP) dX5_fast_54
          ·
            have k21 := Eq.mp (if_neg b19) k18
            refine lv_iconst (v := 1) hx hb dX5_fast_49 (by decide) ?_
            refine lv_goto (tgt := 54) hx hb dX5_fast_50 (by decide) ?_
            have e9 : G_X5_fast me mk i = ((1 : Int32), ((0 : Int32), me.2.1, me.2.2)) := Eq.trans (Eq.trans (Eq.trans (Eq.trans (Eq.trans rfl (if_neg b1)) (if_neg b4)) (if_neg b9)) (if_neg b14)) (if_neg b19)
            exact xM_zret hx hb hr hlk rfl hS (by rw [e9]) (by rw [e9]; exact hP) dX5_fast_54
set_option maxRecDepth 20000 in
theorem iw_X5_point_X5 : ∀ w ∈ wsX50, w ∈ wsX5_point := by decide +kernel
set_option maxRecDepth 20000 in
theorem fl_X5_point_167 : Cond.fieldLink RX5 167 "ProcedureCodeModel" "kept" "I" ∈ wsX5_point := by decide +kernel
set_option maxRecDepth 20000 in
theorem fl_X5_point_46 : Cond.fieldLink RX5 46 "ProcedureCodeModel" "keptOps" "[I" ∈ wsX5_point := by decide +kernel
set_option maxRecDepth 20000 in
theorem fl_X5_point_85 : Cond.fieldLink RX5 85 "ProcedureCodeModel" "code" "I" ∈ wsX5_point := by decide +kernel
def G_X5_point_L9 (me : ME) (mk : MK) (n : Int32) : Nat → Int32 → Int32 → ME → Int32 × ME
  | 0, _, _, _ => (0, me)
  | fu + 1, sn, i, mev => if mk.1 ≤ i then (((-1 : Int32), mev)) else (if (mk.2.1 i.toNatClampNeg) = (9 : Int32) then (if sn = n then ((i, mev)) else (G_X5_point_L9 me mk n fu (sn + (1 : Int32)) (i + (1 : Int32)) mev)) else (if (mk.2.1 i.toNatClampNeg) = (10 : Int32) then (if sn = n then ((i, mev)) else (G_X5_point_L9 me mk n fu (sn + (1 : Int32)) (i + (1 : Int32)) mev)) else (G_X5_point_L9 me mk n fu sn (i + (1 : Int32)) mev)))
def OK_X5_point_L9 (me : ME) (mk : MK) (n : Int32) : Nat → Int32 → Int32 → ME → Prop
  | 0, _, _, _ => False
  | fu + 1, sn, i, mev => if mk.1 ≤ i then (True) else ((vp_in i 401) ∧ (if (mk.2.1 i.toNatClampNeg) = (9 : Int32) then (if sn = n then (True) else (OK_X5_point_L9 me mk n fu (sn + (1 : Int32)) (i + (1 : Int32)) mev)) else ((vp_in i 401) ∧ (if (mk.2.1 i.toNatClampNeg) = (10 : Int32) then (if sn = n then (True) else (OK_X5_point_L9 me mk n fu (sn + (1 : Int32)) (i + (1 : Int32)) mev)) else (OK_X5_point_L9 me mk n fu sn (i + (1 : Int32)) mev)))))
def G_X5_point (me : ME) (mk : MK) (n : Int32) : Int32 × ME := G_X5_point_L9 me mk n 402 (0 : Int32) (0 : Int32) ((0 : Int32), me.2.1, me.2.2)
def OK_X5_point (me : ME) (mk : MK) (n : Int32) : Prop := OK_X5_point_L9 me mk n 402 (0 : Int32) (0 : Int32) ((0 : Int32), me.2.1, me.2.2)
set_option maxHeartbeats 4000000 in
set_option maxRecDepth 100000 in
theorem L_X5_point_L9 (l : Launch) (w : WG) (hA : wAp w 25) (me : ME) (mb : AI) (mc : MC) (mt : MT) (mk : MK) (mr : MR) (mq : MQS) (mv : MV) (n : Int32) {pP : Program} {eE : Env} {S : State} {mM : MethodId} {below : List Frame} {meth : Method} {C : Code} (hx : pP.tables.exec = Jvm.exec) (hb : C.code = cX5_point) (hr : meth.sig.returnType = (some .int)) (hml : C.maxLocals = 4) (hts : ∀ q9 ∈ wsX5_point, q9.before ([.ref (w.2.2 0), .int n] : List Value).toArray S = true) (hown : S.vm.findClass yX5_point.cls = some mM.cls) (hlk : meth.locks = false) (hK : wK w S) (g : Int32 × ME) :
    ∀ (fu : Nat) (sn : Int32) (i : Int32) (mev : ME) (H : Heap) (locs : List Loc), va_P w.1 vwCl (wM w mev mb mc mt mk mr mq mv) H → va_S (wA w 25) S.heap H locs → OK_X5_point_L9 me mk n fu sn i mev → g = G_X5_point_L9 me mk n fu sn i mev → ∀ ls : Array Slot, lv_has ls 4 [(0, .ref (w.2.2 0)), (1, .int n), (2, .int sn), (3, .int i)] → W pP l eE { frames := 0, cells := 0, slots := 0, locals := 0 } S mM ([.ref (w.2.2 0), .int n] : List Value).toArray below meth C H locs 0 0 (MQ below (xM (some (.int g.1)) (fun H => va_P w.1 vwCl (wM w g.2 mb mc mt mk mr mq mv) H) (wA w 25)) ([.ref (w.2.2 0), .int n] : List Value).toArray S 0 0 (wA w 25)) (F0 mM 9 ls []) := by
  intro fu
  induction fu with
  | zero =>
    intro sn i mev H locs hP hS hok hg ls hl
    exact hok.elim
  | succ fu ih =>
    intro sn i mev H locs hP hS hok hg ls hl
    refine lv_iload_n hx hb dX5_point_9 rfl (lv_at hl 3 rfl) ?_
    refine lv_aload_n hx hb dX5_point_10 rfl (lv_at hl 0 rfl) ?_
    refine va_get (D := w.1) (ci := 6) (v := .int mk.1) (C := RX5) (T := TX5) (N := 33) hx hb hts iw_X5_point_X5 hown hK.1 hP 0 rfl rfl 20 (by decide) (hts _ fl_X5_point_167) (fun _ h9 => h9) rfl dX5_point_11 ?_
    refine lv_icmp_ge (tgt := 58) hx hb dX5_point_14 (by decide) (fun b1 => ?_) (fun b1 => ?_)
    ·
      have k2 := Eq.mp (if_pos b1) hok
      refine lv_iconst (v := -1) hx hb dX5_point_58 (by decide) ?_
      have e9 : g = ((-1 : Int32), mev) := Eq.trans hg (if_pos b1)
      exact xM_iret hx hb hr hlk  hS (by rw [e9]) (by rw [e9]; exact hP) dX5_point_59
    ·
      have k3 := Eq.mp (if_neg b1) hok
      refine lv_aload_n hx hb dX5_point_17 rfl (lv_at hl 0 rfl) ?_
      refine va_get (D := w.1) (ci := 6) (v := .ref (w.2.2 12)) (C := RX5) (T := TX5) (N := 33) hx hb hts iw_X5_point_X5 hown hK.1 hP 0 rfl rfl 14 (by decide) (hts _ fl_X5_point_46) (fun _ h9 => h9) rfl dX5_point_18 ?_
      refine lv_iload_n hx hb dX5_point_21 rfl (lv_at hl 3 rfl) ?_
      have o4 := k3.1
      have k5 := k3.2
      refine va_iald hx hb hK.1 hP 12 0 rfl rfl o4 dX5_point_22 ?_
      refine lv_bipush (v := 9) hx hb dX5_point_23 (by decide) ?_
      refine lv_icmp_eq (tgt := 42) hx hb dX5_point_25 (by decide) (fun b6 => ?_) (fun b6 => ?_)
      ·
        have k7 := Eq.mp (if_pos b6) k5
        refine lv_iload_n hx hb dX5_point_42 rfl (lv_at hl 2 rfl) ?_
        refine lv_iload_n hx hb dX5_point_43 rfl (lv_at hl 1 rfl) ?_
        refine lv_icmp_ne (tgt := 49) hx hb dX5_point_44 (by decide) (fun b8 => ?_) (fun b8 => ?_)
        ·
          have k9 := Eq.mp (if_neg b8) k7
          refine lv_iinc (v := sn + (1 : Int32)) (lv' := [(2, .int (sn + (1 : Int32))), (0, .ref (w.2.2 0)), (1, .int n), (3, .int i)]) hx hb dX5_point_49 hl (k := 2) rfl rfl (by decide) rfl (fun ls hl => ?_)
          refine lv_iinc (v := i + (1 : Int32)) (lv' := [(3, .int (i + (1 : Int32))), (2, .int (sn + (1 : Int32))), (0, .ref (w.2.2 0)), (1, .int n)]) hx hb dX5_point_52 hl (k := 3) rfl rfl (by decide) rfl (fun ls hl => ?_)
          refine lv_goto (tgt := 9) hx hb dX5_point_55 (by decide) ?_
          exact ih (sn + (1 : Int32)) (i + (1 : Int32)) mev _ _ hP hS k9 (Eq.trans (Eq.trans (Eq.trans hg (if_neg b1)) (if_pos b6)) (if_neg b8)) ls (lv_sub hl [2, 3, 1, 0] rfl)
        ·
          have k10 := Eq.mp (if_pos b8) k7
          refine lv_iload_n hx hb dX5_point_47 rfl (lv_at hl 3 rfl) ?_
          have e9 : g = (i, mev) := Eq.trans (Eq.trans (Eq.trans hg (if_neg b1)) (if_pos b6)) (if_pos b8)
          exact xM_iret hx hb hr hlk  hS (by rw [e9]) (by rw [e9]; exact hP) dX5_point_48
      ·
        have k11 := Eq.mp (if_neg b6) k5
        refine lv_aload_n hx hb dX5_point_28 rfl (lv_at hl 0 rfl) ?_
        refine va_get (D := w.1) (ci := 6) (v := .ref (w.2.2 12)) (C := RX5) (T := TX5) (N := 33) hx hb hts iw_X5_point_X5 hown hK.1 hP 0 rfl rfl 14 (by decide) (hts _ fl_X5_point_46) (fun _ h9 => h9) rfl dX5_point_29 ?_
        refine lv_iload_n hx hb dX5_point_32 rfl (lv_at hl 3 rfl) ?_
        have o12 := k11.1
        have k13 := k11.2
        refine va_iald hx hb hK.1 hP 12 0 rfl rfl o12 dX5_point_33 ?_
        refine lv_bipush (v := 10) hx hb dX5_point_34 (by decide) ?_
        refine lv_icmp_eq (tgt := 42) hx hb dX5_point_36 (by decide) (fun b14 => ?_) (fun b14 => ?_)
        ·
          have k15 := Eq.mp (if_pos b14) k13
          refine lv_iload_n hx hb dX5_point_42 rfl (lv_at hl 2 rfl) ?_
          refine lv_iload_n hx hb dX5_point_43 rfl (lv_at hl 1 rfl) ?_
          refine lv_icmp_ne (tgt := 49) hx hb dX5_point_44 (by decide) (fun b16 => ?_) (fun b16 => ?_)
          ·
            have k17 := Eq.mp (if_neg b16) k15
            refine lv_iinc (v := sn + (1 : Int32)) (lv' := [(2, .int (sn + (1 : Int32))), (0, .ref (w.2.2 0)), (1, .int n), (3, .int i)]) hx hb dX5_point_49 hl (k := 2) rfl rfl (by decide) rfl (fun ls hl => ?_)
            refine lv_iinc (v := i + (1 : Int32)) (lv' := [(3, .int (i + (1 : Int32))), (2, .int (sn + (1 : Int32))), (0, .ref (w.2.2 0)), (1, .int n)]) hx hb dX5_point_52 hl (k := 3) rfl rfl (by decide) rfl (fun ls hl => ?_)
            refine lv_goto (tgt := 9) hx hb dX5_point_55 (by decide) ?_
            exact ih (sn + (1 : Int32)) (i + (1 : Int32)) mev _ _ hP hS k17 (Eq.trans (Eq.trans (Eq.trans (Eq.trans hg (if_neg b1)) (if_neg b6)) (if_pos b14)) (if_neg b16)) ls (lv_sub hl [2, 3, 1, 0] rfl)
          ·
            have k18 := Eq.mp (if_pos b16) k15
            refine lv_iload_n hx hb dX5_point_47 rfl (lv_at hl 3 rfl) ?_
            have e9 : g = (i, mev) := Eq.trans (Eq.trans (Eq.trans (Eq.trans hg (if_neg b1)) (if_neg b6)) (if_pos b14)) (if_pos b16)
            exact xM_iret hx hb hr hlk  hS (by rw [e9]) (by rw [e9]; exact hP) dX5_point_48
        ·
          have k19 := Eq.mp (if_neg b14) k13
          refine lv_goto (tgt := 52) hx hb dX5_point_39 (by decide) ?_
          refine lv_iinc (v := i + (1 : Int32)) (lv' := [(3, .int (i + (1 : Int32))), (0, .ref (w.2.2 0)), (1, .int n), (2, .int sn)]) hx hb dX5_point_52 hl (k := 3) rfl rfl (by decide) rfl (fun ls hl => ?_)
          refine lv_goto (tgt := 9) hx hb dX5_point_55 (by decide) ?_
          exact ih sn (i + (1 : Int32)) mev _ _ hP hS k19 (Eq.trans (Eq.trans (Eq.trans hg (if_neg b1)) (if_neg b6)) (if_neg b14)) ls (lv_sub hl [1, 2, 3, 0] rfl)
set_option maxHeartbeats 4000000 in
set_option maxRecDepth 100000 in
theorem c_X5_point (l : Launch) (w : WG) (hA : wAp w 25) (me : ME) (mb : AI) (mc : MC) (mt : MT) (mk : MK) (mr : MR) (mq : MQS) (mv : MV) (n : Int32) (hok : OK_X5_point me mk n) : Met l yX5_point wsX5_point { frames := 0, cells := 0, slots := 0, locals := 0 } (va_Pc [.ref (w.2.2 0), .int n] (wPK w (wM w me mb mc mt mk mr mq mv))) (xM (some (.int ((G_X5_point me mk n).1))) (fun H => va_P w.1 vwCl (wM w ((G_X5_point me mk n).2) mb mc mt mk mr mq mv) H) (wA w 25)) 0 0 (wA w 25) := by
  refine xOf (cc := cX5_point) (maxL := 4) (ret := (some .int)) (lv := [(0, .ref (w.2.2 0)), (1, .int n)]) (by decide) rfl (Nat.le_of_ble_eq_true rfl) rfl ?_
  intro pP eE S mM below meth C hx hb hr hml hts hown hlk hnm hw ls hl
  obtain ⟨hP, hK⟩ := hw
  have hS : va_S (wA w 25) S.heap S.heap [] := va_S.rf
  have hP : va_P w.1 vwCl (wM w me mb mc mt mk mr mq mv) S.heap := hP
  refine lv_aload_n hx hb dX5_point_0 rfl (lv_at hl 0 rfl) ?_
  refine lv_iconst (v := 0) hx hb dX5_point_1 (by decide) ?_
  refine va_put (D := w.1) (ci := 6) (v := .int (0 : Int32)) (ty := .int) (C := RX5) (T := TX5) (N := 33) hx hb hts iw_X5_point_X5 tyX5 tyX5_ok nmX5 hown hK.1 hP (wM_D hA) hS 0 rfl rfl 0 (by decide) (hts _ fl_X5_point_85) (fun _ h9 => h9) rfl (by decide +kernel) rfl rfl (Nat.le_of_ble_eq_true rfl) dX5_point_2 (fun H locs hP _ hS => ?_)
  have hP : va_P w.1 vwCl (wM w ((0 : Int32), me.2.1, me.2.2) mb mc mt mk mr mq mv) H := hP
  refine lv_iconst (v := 0) hx hb dX5_point_5 (by decide) ?_
  refine lv_istore_n (lv' := [(2, .int (0 : Int32)), (0, .ref (w.2.2 0)), (1, .int n)]) hx hb dX5_point_6 rfl hl (by decide) rfl (fun ls hl => ?_)
  refine lv_iconst (v := 0) hx hb dX5_point_7 (by decide) ?_
  refine lv_istore_n (lv' := [(3, .int (0 : Int32)), (2, .int (0 : Int32)), (0, .ref (w.2.2 0)), (1, .int n)]) hx hb dX5_point_8 rfl hl (by decide) rfl (fun ls hl => ?_)
  exact L_X5_point_L9 l w hA me mb mc mt mk mr mq mv n  hx hb hr hml hts hown hlk hK _ 402 (0 : Int32) (0 : Int32) ((0 : Int32), me.2.1, me.2.2) _ _ hP hS hok rfl ls (lv_sub hl [2, 3, 1, 0] rfl)
set_option maxRecDepth 20000 in
theorem iw_X5_put_X5 : ∀ w ∈ wsX50, w ∈ wsX5_put := by decide +kernel
set_option maxRecDepth 20000 in
theorem fl_X5_put_85 : Cond.fieldLink RX5 85 "ProcedureCodeModel" "code" "I" ∈ wsX5_put := by decide +kernel
set_option maxRecDepth 20000 in
theorem fl_X5_put_7 : Cond.fieldLink RX5 7 "ProcedureCodeModel" "bytes" "[B" ∈ wsX5_put := by decide +kernel
def G_X5_put (me : ME) (mb : AI) (p : Int32) (v : Int32) : Int32 × ME × AI := if p < 0 then (((-4 : Int32), ((0 : Int32), me.2.1, me.2.2), mb)) else (if p < (64 : Int32) then (((1 : Int32), ((0 : Int32), me.2.1, me.2.2), upd (upd mb p.toNatClampNeg (vp_nar .byte v)) (p + (64 : Int32)).toNatClampNeg (vp_nar .byte v))) else (((-4 : Int32), ((0 : Int32), me.2.1, me.2.2), mb)))
def OK_X5_put (me : ME) (mb : AI) (p : Int32) (v : Int32) : Prop := if p < 0 then (True) else (if p < (64 : Int32) then ((vp_in p 128) ∧ ((vp_in (p + (64 : Int32)) 128) ∧ (True))) else (True))
set_option maxHeartbeats 4000000 in
set_option maxRecDepth 100000 in
theorem c_X5_put (l : Launch) (w : WG) (hA : wAp w 25) (me : ME) (mb : AI) (mc : MC) (mt : MT) (mk : MK) (mr : MR) (mq : MQS) (mv : MV) (p : Int32) (v : Int32) (hok : OK_X5_put me mb p v) : Met l yX5_put wsX5_put { frames := 0, cells := 0, slots := 0, locals := 0 } (va_Pc [.ref (w.2.2 0), .int p, .int v] (wPK w (wM w me mb mc mt mk mr mq mv))) (xM (some (.int ((G_X5_put me mb p v).1))) (fun H => va_P w.1 vwCl (wM w ((G_X5_put me mb p v).2.1) ((G_X5_put me mb p v).2.2) mc mt mk mr mq mv) H) (wA w 25)) 0 0 (wA w 25) := by
  refine xOf (cc := cX5_put) (maxL := 3) (ret := (some .int)) (lv := [(0, .ref (w.2.2 0)), (1, .int p), (2, .int v)]) (by decide) rfl (Nat.le_of_ble_eq_true rfl) rfl ?_
  intro pP eE S mM below meth C hx hb hr hml hts hown hlk hnm hw ls hl
  obtain ⟨hP, hK⟩ := hw
  have hS : va_S (wA w 25) S.heap S.heap [] := va_S.rf
  have hP : va_P w.1 vwCl (wM w me mb mc mt mk mr mq mv) S.heap := hP
  refine lv_aload_n hx hb dX5_put_0 rfl (lv_at hl 0 rfl) ?_
  refine lv_iconst (v := 0) hx hb dX5_put_1 (by decide) ?_
  refine va_put (D := w.1) (ci := 6) (v := .int (0 : Int32)) (ty := .int) (C := RX5) (T := TX5) (N := 33) hx hb hts iw_X5_put_X5 tyX5 tyX5_ok nmX5 hown hK.1 hP (wM_D hA) hS 0 rfl rfl 0 (by decide) (hts _ fl_X5_put_85) (fun _ h9 => h9) rfl (by decide +kernel) rfl rfl (Nat.le_of_ble_eq_true rfl) dX5_put_2 (fun H locs hP _ hS => ?_)
  have hP : va_P w.1 vwCl (wM w ((0 : Int32), me.2.1, me.2.2) mb mc mt mk mr mq mv) H := hP
  refine lv_iload_n hx hb dX5_put_5 rfl (lv_at hl 1 rfl) ?_
  refine lv_if_lt (tgt := 15) hx hb dX5_put_6 (by decide) (fun b1 => ?_) (fun b1 => ?_)
  ·
    have k2 := Eq.mp (if_pos b1) hok
    refine lv_bipush (v := -4) hx hb dX5_put_15 (by decide) ?_
    have e9 : G_X5_put me mb p v = ((-4 : Int32), ((0 : Int32), me.2.1, me.2.2), mb) := Eq.trans rfl (if_pos b1)
    exact xM_iret hx hb hr hlk  hS (by rw [e9]) (by rw [e9]; exact hP) dX5_put_17
  ·
    have k3 := Eq.mp (if_neg b1) hok
    refine lv_iload_n hx hb dX5_put_9 rfl (lv_at hl 1 rfl) ?_
    refine lv_bipush (v := 64) hx hb dX5_put_10 (by decide) ?_
    refine lv_icmp_lt (tgt := 18) hx hb dX5_put_12 (by decide) (fun b4 => ?_) (fun b4 => ?_)
    ·
      have k5 := Eq.mp (if_pos b4) k3
      refine lv_aload_n hx hb dX5_put_18 rfl (lv_at hl 0 rfl) ?_
      refine va_get (D := w.1) (ci := 6) (v := .ref (w.2.2 1)) (C := RX5) (T := TX5) (N := 33) hx hb hts iw_X5_put_X5 hown hK.1 hP 0 rfl rfl 1 (by decide) (hts _ fl_X5_put_7) (fun _ h9 => h9) rfl dX5_put_19 ?_
      refine lv_iload_n hx hb dX5_put_22 rfl (lv_at hl 1 rfl) ?_
      refine lv_iload_n hx hb dX5_put_23 rfl (lv_at hl 2 rfl) ?_
      have o6 := k5.1
      have k7 := k5.2
      refine va_bast hx hb hK.1 hP (wM_D hA) hS 1 1 rfl rfl o6 dX5_put_24 (fun H locs hP _ hS => ?_)
      have hP : va_P w.1 vwCl (wM w ((0 : Int32), me.2.1, me.2.2) (upd mb p.toNatClampNeg (vp_nar .byte v)) mc mt mk mr mq mv) H := hP
      refine lv_aload_n hx hb dX5_put_25 rfl (lv_at hl 0 rfl) ?_
      refine va_get (D := w.1) (ci := 6) (v := .ref (w.2.2 1)) (C := RX5) (T := TX5) (N := 33) hx hb hts iw_X5_put_X5 hown hK.1 hP 0 rfl rfl 1 (by decide) (hts _ fl_X5_put_7) (fun _ h9 => h9) rfl dX5_put_26 ?_
      refine lv_iload_n hx hb dX5_put_29 rfl (lv_at hl 1 rfl) ?_
      refine lv_bipush (v := 64) hx hb dX5_put_30 (by decide) ?_
      refine lv_iadd hx hb dX5_put_32 ?_
      refine lv_iload_n hx hb dX5_put_33 rfl (lv_at hl 2 rfl) ?_
      have o8 := k7.1
      have k9 := k7.2
      refine va_bast hx hb hK.1 hP (wM_D hA) hS 1 1 rfl rfl o8 dX5_put_34 (fun H locs hP _ hS => ?_)
      have hP : va_P w.1 vwCl (wM w ((0 : Int32), me.2.1, me.2.2) (upd (upd mb p.toNatClampNeg (vp_nar .byte v)) (p + (64 : Int32)).toNatClampNeg (vp_nar .byte v)) mc mt mk mr mq mv) H := hP
      refine lv_iconst (v := 1) hx hb dX5_put_35 (by decide) ?_
      have e9 : G_X5_put me mb p v = ((1 : Int32), ((0 : Int32), me.2.1, me.2.2), upd (upd mb p.toNatClampNeg (vp_nar .byte v)) (p + (64 : Int32)).toNatClampNeg (vp_nar .byte v)) := Eq.trans (Eq.trans rfl (if_neg b1)) (if_pos b4)
      exact xM_iret hx hb hr hlk  hS (by rw [e9]) (by rw [e9]; exact hP) dX5_put_36
    ·
      have k10 := Eq.mp (if_neg b4) k3
      refine lv_bipush (v := -4) hx hb dX5_put_15 (by decide) ?_
      have e9 : G_X5_put me mb p v = ((-4 : Int32), ((0 : Int32), me.2.1, me.2.2), mb) := Eq.trans (Eq.trans rfl (if_neg b1)) (if_neg b4)
      exact xM_iret hx hb hr hlk  hS (by rw [e9]) (by rw [e9]; exact hP) dX5_put_17
set_option maxRecDepth 20000 in
theorem iw_X5_raised_X5 : ∀ w ∈ wsX50, w ∈ wsX5_raised := by decide +kernel
set_option maxRecDepth 20000 in
theorem fl_X5_raised_85 : Cond.fieldLink RX5 85 "ProcedureCodeModel" "code" "I" ∈ wsX5_raised := by decide +kernel
set_option maxRecDepth 20000 in
theorem fl_X5_raised_200 : Cond.fieldLink RX5 200 "ProcedureCodeModel" "raisedByWalk" "I" ∈ wsX5_raised := by decide +kernel
set_option maxRecDepth 20000 in
theorem fl_X5_raised_197 : Cond.fieldLink RX5 197 "ProcedureCodeModel" "raisedByCode" "I" ∈ wsX5_raised := by decide +kernel
def G_X5_raised (me : ME) (cd : Int32) : Int32 × ME := if cd = 0 then ((me.2.1, ((0 : Int32), me.2.1, me.2.2))) else ((me.2.2, ((0 : Int32), me.2.1, me.2.2)))
set_option maxHeartbeats 4000000 in
set_option maxRecDepth 100000 in
theorem c_X5_raised (l : Launch) (w : WG) (hA : wAp w 25) (me : ME) (mb : AI) (mc : MC) (mt : MT) (mk : MK) (mr : MR) (mq : MQS) (mv : MV) (cd : Int32) : Met l yX5_raised wsX5_raised { frames := 0, cells := 0, slots := 0, locals := 0 } (va_Pc [.ref (w.2.2 0), .int cd] (wPK w (wM w me mb mc mt mk mr mq mv))) (xM (some (.int ((G_X5_raised me cd).1))) (fun H => va_P w.1 vwCl (wM w ((G_X5_raised me cd).2) mb mc mt mk mr mq mv) H) (wA w 25)) 0 0 (wA w 25) := by
  refine xOf (cc := cX5_raised) (maxL := 2) (ret := (some .int)) (lv := [(0, .ref (w.2.2 0)), (1, .int cd)]) (by decide) rfl (Nat.le_of_ble_eq_true rfl) rfl ?_
  intro pP eE S mM below meth C hx hb hr hml hts hown hlk hnm hw ls hl
  obtain ⟨hP, hK⟩ := hw
  have hS : va_S (wA w 25) S.heap S.heap [] := va_S.rf
  have hP : va_P w.1 vwCl (wM w me mb mc mt mk mr mq mv) S.heap := hP
  refine lv_aload_n hx hb dX5_raised_0 rfl (lv_at hl 0 rfl) ?_
  refine lv_iconst (v := 0) hx hb dX5_raised_1 (by decide) ?_
  refine va_put (D := w.1) (ci := 6) (v := .int (0 : Int32)) (ty := .int) (C := RX5) (T := TX5) (N := 33) hx hb hts iw_X5_raised_X5 tyX5 tyX5_ok nmX5 hown hK.1 hP (wM_D hA) hS 0 rfl rfl 0 (by decide) (hts _ fl_X5_raised_85) (fun _ h9 => h9) rfl (by decide +kernel) rfl rfl (Nat.le_of_ble_eq_true rfl) dX5_raised_2 (fun H locs hP _ hS => ?_)
  have hP : va_P w.1 vwCl (wM w ((0 : Int32), me.2.1, me.2.2) mb mc mt mk mr mq mv) H := hP
  refine lv_iload_n hx hb dX5_raised_5 rfl (lv_at hl 1 rfl) ?_
  refine lv_if_eq (tgt := 16) hx hb dX5_raised_6 (by decide) (fun b1 => ?_) (fun b1 => ?_)
  ·
    refine lv_aload_n hx hb dX5_raised_16 rfl (lv_at hl 0 rfl) ?_
    refine va_get (D := w.1) (ci := 6) (v := .int me.2.1) (C := RX5) (T := TX5) (N := 33) hx hb hts iw_X5_raised_X5 hown hK.1 hP 0 rfl rfl 31 (by decide) (hts _ fl_X5_raised_200) (fun _ h9 => h9) rfl dX5_raised_17 ?_
    have e9 : G_X5_raised me cd = (me.2.1, ((0 : Int32), me.2.1, me.2.2)) := Eq.trans rfl (if_pos b1)
    exact xM_iret hx hb hr hlk  hS (by rw [e9]) (by rw [e9]; exact hP) dX5_raised_20
  ·
    refine lv_aload_n hx hb dX5_raised_9 rfl (lv_at hl 0 rfl) ?_
    refine va_get (D := w.1) (ci := 6) (v := .int me.2.2) (C := RX5) (T := TX5) (N := 33) hx hb hts iw_X5_raised_X5 hown hK.1 hP 0 rfl rfl 32 (by decide) (hts _ fl_X5_raised_197) (fun _ h9 => h9) rfl dX5_raised_10 ?_
    refine lv_goto (tgt := 20) hx hb dX5_raised_13 (by decide) ?_
    have e9 : G_X5_raised me cd = (me.2.2, ((0 : Int32), me.2.1, me.2.2)) := Eq.trans rfl (if_neg b1)
    exact xM_iret hx hb hr hlk  hS (by rw [e9]) (by rw [e9]; exact hP) dX5_raised_20
set_option maxRecDepth 20000 in
theorem iw_X5_at_X5 : ∀ w ∈ wsX50, w ∈ wsX5_at := by decide +kernel
set_option maxRecDepth 20000 in
theorem fl_X5_at_85 : Cond.fieldLink RX5 85 "ProcedureCodeModel" "code" "I" ∈ wsX5_at := by decide +kernel
set_option maxRecDepth 20000 in
theorem fl_X5_at_7 : Cond.fieldLink RX5 7 "ProcedureCodeModel" "bytes" "[B" ∈ wsX5_at := by decide +kernel
def G_X5_at (me : ME) (mb : AI) (cd : Int32) (p : Int32) : Int32 × ME := if p < 0 then (if (1 : Int32) ≤ 0 then (if cd = 0 then ((mb (p + (0 : Int32)).toNatClampNeg, ((1 : Int32), me.2.1, me.2.2))) else ((mb (p + (64 : Int32)).toNatClampNeg, ((1 : Int32), me.2.1, me.2.2)))) else (((0 : Int32), ((1 : Int32), me.2.1, me.2.2)))) else (if (64 : Int32) ≤ p then (if (1 : Int32) ≤ 0 then (if cd = 0 then ((mb (p + (0 : Int32)).toNatClampNeg, ((1 : Int32), me.2.1, me.2.2))) else ((mb (p + (64 : Int32)).toNatClampNeg, ((1 : Int32), me.2.1, me.2.2)))) else (((0 : Int32), ((1 : Int32), me.2.1, me.2.2)))) else (if (0 : Int32) ≤ 0 then (if cd = 0 then ((mb (p + (0 : Int32)).toNatClampNeg, ((0 : Int32), me.2.1, me.2.2))) else ((mb (p + (64 : Int32)).toNatClampNeg, ((0 : Int32), me.2.1, me.2.2)))) else (((0 : Int32), ((0 : Int32), me.2.1, me.2.2)))))
def OK_X5_at (me : ME) (mb : AI) (cd : Int32) (p : Int32) : Prop := if p < 0 then (if (1 : Int32) ≤ 0 then (if cd = 0 then ((vp_in (p + (0 : Int32)) 128) ∧ (True)) else ((vp_in (p + (64 : Int32)) 128) ∧ (True))) else (True)) else (if (64 : Int32) ≤ p then (if (1 : Int32) ≤ 0 then (if cd = 0 then ((vp_in (p + (0 : Int32)) 128) ∧ (True)) else ((vp_in (p + (64 : Int32)) 128) ∧ (True))) else (True)) else (if (0 : Int32) ≤ 0 then (if cd = 0 then ((vp_in (p + (0 : Int32)) 128) ∧ (True)) else ((vp_in (p + (64 : Int32)) 128) ∧ (True))) else (True)))
set_option maxHeartbeats 4000000 in
set_option maxRecDepth 100000 in
theorem c_X5_at (l : Launch) (w : WG) (hA : wAp w 25) (me : ME) (mb : AI) (mc : MC) (mt : MT) (mk : MK) (mr : MR) (mq : MQS) (mv : MV) (cd : Int32) (p : Int32) (hby : okB mb) (hok : OK_X5_at me mb cd p) : Met l yX5_at wsX5_at { frames := 0, cells := 0, slots := 0, locals := 0 } (va_Pc [.ref (w.2.2 0), .int cd, .int p] (wPK w (wM w me mb mc mt mk mr mq mv))) (xM (some (.int ((G_X5_at me mb cd p).1))) (fun H => va_P w.1 vwCl (wM w ((G_X5_at me mb cd p).2) mb mc mt mk mr mq mv) H) (wA w 25)) 0 0 (wA w 25) := by
  refine xOf (cc := cX5_at) (maxL := 3) (ret := (some .byte)) (lv := [(0, .ref (w.2.2 0)), (1, .int cd), (2, .int p)]) (by decide) rfl (Nat.le_of_ble_eq_true rfl) rfl ?_
  intro pP eE S mM below meth C hx hb hr hml hts hown hlk hnm hw ls hl
  obtain ⟨hP, hK⟩ := hw
  have hS : va_S (wA w 25) S.heap S.heap [] := va_S.rf
  have hP : va_P w.1 vwCl (wM w me mb mc mt mk mr mq mv) S.heap := hP
  refine lv_aload_n hx hb dX5_at_0 rfl (lv_at hl 0 rfl) ?_
  refine lv_iload_n hx hb dX5_at_1 rfl (lv_at hl 2 rfl) ?_
  refine lv_if_lt (tgt := 15) hx hb dX5_at_2 (by decide) (fun b1 => ?_) (fun b1 => ?_)
  ·
    have k2 := Eq.mp (if_pos b1) hok
    refine lv_iconst (v := 1) hx hb dX5_at_15 (by decide) ?_
    refine va_put (D := w.1) (ci := 6) (v := .int (1 : Int32)) (ty := .int) (C := RX5) (T := TX5) (N := 33) hx hb hts iw_X5_at_X5 tyX5 tyX5_ok nmX5 hown hK.1 hP (wM_D hA) hS 0 rfl rfl 0 (by decide) (hts _ fl_X5_at_85) (fun _ h9 => h9) rfl (by decide +kernel) rfl rfl (Nat.le_of_ble_eq_true rfl) dX5_at_16 (fun H locs hP _ hS => ?_)
    have hP : va_P w.1 vwCl (wM w ((1 : Int32), me.2.1, me.2.2) mb mc mt mk mr mq mv) H := hP
    refine lv_aload_n hx hb dX5_at_19 rfl (lv_at hl 0 rfl) ?_
    refine va_get (D := w.1) (ci := 6) (v := .int (1 : Int32)) (C := RX5) (T := TX5) (N := 33) hx hb hts iw_X5_at_X5 hown hK.1 hP 0 rfl rfl 0 (by decide) (hts _ fl_X5_at_85) (fun _ h9 => h9) rfl dX5_at_20 ?_
    refine lv_if_le (tgt := 30) hx hb dX5_at_23 (by decide) (fun b3 => ?_) (fun b3 => ?_)
    ·
      have k4 := Eq.mp (if_pos b3) k2
      refine lv_aload_n hx hb dX5_at_30 rfl (lv_at hl 0 rfl) ?_
      refine va_get (D := w.1) (ci := 6) (v := .ref (w.2.2 1)) (C := RX5) (T := TX5) (N := 33) hx hb hts iw_X5_at_X5 hown hK.1 hP 0 rfl rfl 1 (by decide) (hts _ fl_X5_at_7) (fun _ h9 => h9) rfl dX5_at_31 ?_
      refine lv_iload_n hx hb dX5_at_34 rfl (lv_at hl 2 rfl) ?_
      refine lv_iload_n hx hb dX5_at_35 rfl (lv_at hl 1 rfl) ?_
      refine lv_if_eq (tgt := 44) hx hb dX5_at_36 (by decide) (fun b5 => ?_) (fun b5 => ?_)
      ·
        have k6 := Eq.mp (if_pos b5) k4
        refine lv_iconst (v := 0) hx hb dX5_at_44 (by decide) ?_
        refine lv_iadd hx hb dX5_at_45 ?_
        have o7 := k6.1
        have k8 := k6.2
        refine va_bald hx hb hK.1 hP 1 1 rfl rfl o7 dX5_at_46 ?_
        have e9 : G_X5_at me mb cd p = (mb (p + (0 : Int32)).toNatClampNeg, ((1 : Int32), me.2.1, me.2.2)) := Eq.trans (Eq.trans (Eq.trans rfl (if_pos b1)) (if_pos b3)) (if_pos b5)
        exact xM_zret hx hb hr hlk (by first | rfl | exact hby _) hS (by rw [e9]) (by rw [e9]; exact hP) dX5_at_47
      ·
        have k9 := Eq.mp (if_neg b5) k4
        refine lv_bipush (v := 64) hx hb dX5_at_39 (by decide) ?_
        refine lv_goto (tgt := 45) hx hb dX5_at_41 (by decide) ?_
        refine lv_iadd hx hb dX5_at_45 ?_
        have o10 := k9.1
        have k11 := k9.2
        refine va_bald hx hb hK.1 hP 1 1 rfl rfl o10 dX5_at_46 ?_
        have e9 : G_X5_at me mb cd p = (mb (p + (64 : Int32)).toNatClampNeg, ((1 : Int32), me.2.1, me.2.2)) := Eq.trans (Eq.trans (Eq.trans rfl (if_pos b1)) (if_pos b3)) (if_neg b5)
        exact xM_zret hx hb hr hlk (by first | rfl | exact hby _) hS (by rw [e9]) (by rw [e9]; exact hP) dX5_at_47
    ·
      have k12 := Eq.mp (if_neg b3) k2
      refine lv_iconst (v := 0) hx hb dX5_at_26 (by decide) ?_
      refine lv_goto (tgt := 47) hx hb dX5_at_27 (by decide) ?_
      have e9 : G_X5_at me mb cd p = ((0 : Int32), ((1 : Int32), me.2.1, me.2.2)) := Eq.trans (Eq.trans rfl (if_pos b1)) (if_neg b3)
      exact xM_zret hx hb hr hlk (by first | rfl | exact hby _) hS (by rw [e9]) (by rw [e9]; exact hP) dX5_at_47
  ·
    have k13 := Eq.mp (if_neg b1) hok
    refine lv_iload_n hx hb dX5_at_5 rfl (lv_at hl 2 rfl) ?_
    refine lv_bipush (v := 64) hx hb dX5_at_6 (by decide) ?_
    refine lv_icmp_ge (tgt := 15) hx hb dX5_at_8 (by decide) (fun b14 => ?_) (fun b14 => ?_)
    ·
      have k15 := Eq.mp (if_pos b14) k13
      refine lv_iconst (v := 1) hx hb dX5_at_15 (by decide) ?_
      refine va_put (D := w.1) (ci := 6) (v := .int (1 : Int32)) (ty := .int) (C := RX5) (T := TX5) (N := 33) hx hb hts iw_X5_at_X5 tyX5 tyX5_ok nmX5 hown hK.1 hP (wM_D hA) hS 0 rfl rfl 0 (by decide) (hts _ fl_X5_at_85) (fun _ h9 => h9) rfl (by decide +kernel) rfl rfl (Nat.le_of_ble_eq_true rfl) dX5_at_16 (fun H locs hP _ hS => ?_)
      have hP : va_P w.1 vwCl (wM w ((1 : Int32), me.2.1, me.2.2) mb mc mt mk mr mq mv) H := hP
      refine lv_aload_n hx hb dX5_at_19 rfl (lv_at hl 0 rfl) ?_
      refine va_get (D := w.1) (ci := 6) (v := .int (1 : Int32)) (C := RX5) (T := TX5) (N := 33) hx hb hts iw_X5_at_X5 hown hK.1 hP 0 rfl rfl 0 (by decide) (hts _ fl_X5_at_85) (fun _ h9 => h9) rfl dX5_at_20 ?_
      refine lv_if_le (tgt := 30) hx hb dX5_at_23 (by decide) (fun b16 => ?_) (fun b16 => ?_)
      ·
        have k17 := Eq.mp (if_pos b16) k15
        refine lv_aload_n hx hb dX5_at_30 rfl (lv_at hl 0 rfl) ?_
        refine va_get (D := w.1) (ci := 6) (v := .ref (w.2.2 1)) (C := RX5) (T := TX5) (N := 33) hx hb hts iw_X5_at_X5 hown hK.1 hP 0 rfl rfl 1 (by decide) (hts _ fl_X5_at_7) (fun _ h9 => h9) rfl dX5_at_31 ?_
        refine lv_iload_n hx hb dX5_at_34 rfl (lv_at hl 2 rfl) ?_
        refine lv_iload_n hx hb dX5_at_35 rfl (lv_at hl 1 rfl) ?_
        refine lv_if_eq (tgt := 44) hx hb dX5_at_36 (by decide) (fun b18 => ?_) (fun b18 => ?_)
        ·
          have k19 := Eq.mp (if_pos b18) k17
          refine lv_iconst (v := 0) hx hb dX5_at_44 (by decide) ?_
          refine lv_iadd hx hb dX5_at_45 ?_
          have o20 := k19.1
          have k21 := k19.2
          refine va_bald hx hb hK.1 hP 1 1 rfl rfl o20 dX5_at_46 ?_
          have e9 : G_X5_at me mb cd p = (mb (p + (0 : Int32)).toNatClampNeg, ((1 : Int32), me.2.1, me.2.2)) := Eq.trans (Eq.trans (Eq.trans (Eq.trans rfl (if_neg b1)) (if_pos b14)) (if_pos b16)) (if_pos b18)
          exact xM_zret hx hb hr hlk (by first | rfl | exact hby _) hS (by rw [e9]) (by rw [e9]; exact hP) dX5_at_47
        ·
          have k22 := Eq.mp (if_neg b18) k17
          refine lv_bipush (v := 64) hx hb dX5_at_39 (by decide) ?_
          refine lv_goto (tgt := 45) hx hb dX5_at_41 (by decide) ?_
          refine lv_iadd hx hb dX5_at_45 ?_
          have o23 := k22.1
          have k24 := k22.2
          refine va_bald hx hb hK.1 hP 1 1 rfl rfl o23 dX5_at_46 ?_
          have e9 : G_X5_at me mb cd p = (mb (p + (64 : Int32)).toNatClampNeg, ((1 : Int32), me.2.1, me.2.2)) := Eq.trans (Eq.trans (Eq.trans (Eq.trans rfl (if_neg b1)) (if_pos b14)) (if_pos b16)) (if_neg b18)
          exact xM_zret hx hb hr hlk (by first | rfl | exact hby _) hS (by rw [e9]) (by rw [e9]; exact hP) dX5_at_47
      ·
        have k25 := Eq.mp (if_neg b16) k15
        refine lv_iconst (v := 0) hx hb dX5_at_26 (by decide) ?_
        refine lv_goto (tgt := 47) hx hb dX5_at_27 (by decide) ?_
        have e9 : G_X5_at me mb cd p = ((0 : Int32), ((1 : Int32), me.2.1, me.2.2)) := Eq.trans (Eq.trans (Eq.trans rfl (if_neg b1)) (if_pos b14)) (if_neg b16)
        exact xM_zret hx hb hr hlk (by first | rfl | exact hby _) hS (by rw [e9]) (by rw [e9]; exact hP) dX5_at_47
    ·
      have k26 := Eq.mp (if_neg b14) k13
      refine lv_iconst (v := 0) hx hb dX5_at_11 (by decide) ?_
      refine lv_goto (tgt := 16) hx hb dX5_at_12 (by decide) ?_
      refine va_put (D := w.1) (ci := 6) (v := .int (0 : Int32)) (ty := .int) (C := RX5) (T := TX5) (N := 33) hx hb hts iw_X5_at_X5 tyX5 tyX5_ok nmX5 hown hK.1 hP (wM_D hA) hS 0 rfl rfl 0 (by decide) (hts _ fl_X5_at_85) (fun _ h9 => h9) rfl (by decide +kernel) rfl rfl (Nat.le_of_ble_eq_true rfl) dX5_at_16 (fun H locs hP _ hS => ?_)
      have hP : va_P w.1 vwCl (wM w ((0 : Int32), me.2.1, me.2.2) mb mc mt mk mr mq mv) H := hP
      refine lv_aload_n hx hb dX5_at_19 rfl (lv_at hl 0 rfl) ?_
      refine va_get (D := w.1) (ci := 6) (v := .int (0 : Int32)) (C := RX5) (T := TX5) (N := 33) hx hb hts iw_X5_at_X5 hown hK.1 hP 0 rfl rfl 0 (by decide) (hts _ fl_X5_at_85) (fun _ h9 => h9) rfl dX5_at_20 ?_
      refine lv_if_le (tgt := 30) hx hb dX5_at_23 (by decide) (fun b27 => ?_) (fun b27 => ?_)
      ·
        have k28 := Eq.mp (if_pos b27) k26
        refine lv_aload_n hx hb dX5_at_30 rfl (lv_at hl 0 rfl) ?_
        refine va_get (D := w.1) (ci := 6) (v := .ref (w.2.2 1)) (C := RX5) (T := TX5) (N := 33) hx hb hts iw_X5_at_X5 hown hK.1 hP 0 rfl rfl 1 (by decide) (hts _ fl_X5_at_7) (fun _ h9 => h9) rfl dX5_at_31 ?_
        refine lv_iload_n hx hb dX5_at_34 rfl (lv_at hl 2 rfl) ?_
        refine lv_iload_n hx hb dX5_at_35 rfl (lv_at hl 1 rfl) ?_
        refine lv_if_eq (tgt := 44) hx hb dX5_at_36 (by decide) (fun b29 => ?_) (fun b29 => ?_)
        ·
          have k30 := Eq.mp (if_pos b29) k28
          refine lv_iconst (v := 0) hx hb dX5_at_44 (by decide) ?_
          refine lv_iadd hx hb dX5_at_45 ?_
          have o31 := k30.1
          have k32 := k30.2
          refine va_bald hx hb hK.1 hP 1 1 rfl rfl o31 dX5_at_46 ?_
          have e9 : G_X5_at me mb cd p = (mb (p + (0 : Int32)).toNatClampNeg, ((0 : Int32), me.2.1, me.2.2)) := Eq.trans (Eq.trans (Eq.trans (Eq.trans rfl (if_neg b1)) (if_neg b14)) (if_pos b27)) (if_pos b29)
          exact xM_zret hx hb hr hlk (by first | rfl | exact hby _) hS (by rw [e9]) (by rw [e9]; exact hP) dX5_at_47
        ·
          have k33 := Eq.mp (if_neg b29) k28
          refine lv_bipush (v := 64) hx hb dX5_at_39 (by decide) ?_
          refine lv_goto (tgt := 45) hx hb dX5_at_41 (by decide) ?_
          refine lv_iadd hx hb dX5_at_45 ?_
          have o34 := k33.1
          have k35 := k33.2
          refine va_bald hx hb hK.1 hP 1 1 rfl rfl o34 dX5_at_46 ?_
          have e9 : G_X5_at me mb cd p = (mb (p + (64 : Int32)).toNatClampNeg, ((0 : Int32), me.2.1, me.2.2)) := Eq.trans (Eq.trans (Eq.trans (Eq.trans rfl (if_neg b1)) (if_neg b14)) (if_pos b27)) (if_neg b29)
          exact xM_zret hx hb hr hlk (by first | rfl | exact hby _) hS (by rw [e9]) (by rw [e9]; exact hP) dX5_at_47
      ·
        have k36 := Eq.mp (if_neg b27) k26
        refine lv_iconst (v := 0) hx hb dX5_at_26 (by decide) ?_
        refine lv_goto (tgt := 47) hx hb dX5_at_27 (by decide) ?_
        have e9 : G_X5_at me mb cd p = ((0 : Int32), ((0 : Int32), me.2.1, me.2.2)) := Eq.trans (Eq.trans (Eq.trans rfl (if_neg b1)) (if_neg b14)) (if_neg b27)
        exact xM_zret hx hb hr hlk (by first | rfl | exact hby _) hS (by rw [e9]) (by rw [e9]; exact hP) dX5_at_47
