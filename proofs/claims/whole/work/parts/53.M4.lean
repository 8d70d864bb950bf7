set_option maxRecDepth 20000 in
theorem iw_X5_task_X5 : ∀ w ∈ wsX50, w ∈ wsX5_task := by decide +kernel
set_option maxRecDepth 20000 in
theorem fl_X5_task_64 : Cond.fieldLink RX5 64 "ProcedureCodeModel" "tasks" "[I" ∈ wsX5_task := by decide +kernel
set_option maxRecDepth 20000 in
theorem fl_X5_task_146 : Cond.fieldLink RX5 146 "ProcedureCodeModel" "size" "I" ∈ wsX5_task := by decide +kernel
set_option maxRecDepth 20000 in
theorem fl_X5_task_67 : Cond.fieldLink RX5 67 "ProcedureCodeModel" "taskOps" "[I" ∈ wsX5_task := by decide +kernel
set_option maxRecDepth 20000 in
theorem fl_X5_task_76 : Cond.fieldLink RX5 76 "ProcedureCodeModel" "taskNumbers" "[J" ∈ wsX5_task := by decide +kernel
set_option maxRecDepth 20000 in
theorem fl_X5_task_70 : Cond.fieldLink RX5 70 "ProcedureCodeModel" "taskDigits" "[I" ∈ wsX5_task := by decide +kernel
def G_X5_task (mq : MQS) (wh : Int32) (op : Int32) (v : Int64) (its : Int32) : MQS := (mq.1 + (1 : Int32), upd mq.2.1 mq.1.toNatClampNeg wh, upd mq.2.2.1 mq.1.toNatClampNeg op, upd mq.2.2.2.1 mq.1.toNatClampNeg its, vp_updL mq.2.2.2.2.1 mq.1.toNatClampNeg v, mq.2.2.2.2.2.1, mq.2.2.2.2.2.2)
def OK_X5_task (mq : MQS) (wh : Int32) (op : Int32) (v : Int64) (its : Int32) : Prop := (vp_in mq.1 3000) ∧ ((vp_in mq.1 3000) ∧ ((vp_in mq.1 3000) ∧ ((vp_in mq.1 3000) ∧ (True))))
set_option maxHeartbeats 4000000 in
set_option maxRecDepth 100000 in
theorem c_X5_task (l : Launch) (w : WG) (hA : wAp w 25) (me : ME) (mb : AI) (mc : MC) (mt : MT) (mk : MK) (mr : MR) (mq : MQS) (mv : MV) (wh : Int32) (op : Int32) (v : Int64) (its : Int32) (hok : OK_X5_task mq wh op v its) : Met l yX5_task wsX5_task { frames := 0, cells := 0, slots := 0, locals := 0 } (va_Pc [.ref (w.2.2 0), .int wh, .int op, .long v, .int its] (wPK w (wM w me mb mc mt mk mr mq mv))) (xM none (fun H => va_P w.1 vwCl (wM w me mb mc mt mk mr (G_X5_task mq wh op v its) mv) H) (wA w 25)) 0 0 (wA w 25) := by
  refine xOf (cc := cX5_task) (maxL := 6) (ret := none) (lv := [(0, .ref (w.2.2 0)), (1, .int wh), (2, .int op), (3, .long v), (5, .int its)]) (by decide) rfl (Nat.le_of_ble_eq_true rfl) rfl ?_
  intro pP eE S mM below meth C hx hb hr hml hts hown hlk hnm hw ls hl
  obtain ⟨hP, hK⟩ := hw
  have hS : va_S (wA w 25) S.heap S.heap [] := va_S.rf
  have hP : va_P w.1 vwCl (wM w me mb mc mt mk mr mq mv) S.heap := hP
  refine lv_aload_n hx hb dX5_task_0 rfl (lv_at hl 0 rfl) ?_
  refine va_get (D := w.1) (ci := 6) (v := .ref (w.2.2 18)) (C := RX5) (T := TX5) (N := 33) hx hb hts iw_X5_task_X5 hown hK.1 hP 0 rfl rfl 22 (by decide) (hts _ fl_X5_task_64) (fun _ h9 => h9) rfl dX5_task_1 ?_
  refine lv_aload_n hx hb dX5_task_4 rfl (lv_at hl 0 rfl) ?_
  refine va_get (D := w.1) (ci := 6) (v := .int mq.1) (C := RX5) (T := TX5) (N := 33) hx hb hts iw_X5_task_X5 hown hK.1 hP 0 rfl rfl 27 (by decide) (hts _ fl_X5_task_146) (fun _ h9 => h9) rfl dX5_task_5 ?_
  refine lv_iload_n hx hb dX5_task_8 rfl (lv_at hl 1 rfl) ?_
  have o1 := hok.1
  have k2 := hok.2
  refine va_iast hx hb hK.1 hP (wM_D hA) hS 18 0 rfl rfl o1 dX5_task_9 (fun H locs hP _ hS => ?_)
  have hP : va_P w.1 vwCl (wM w me mb mc mt mk mr (mq.1, upd mq.2.1 mq.1.toNatClampNeg wh, mq.2.2.1, mq.2.2.2.1, mq.2.2.2.2.1, mq.2.2.2.2.2.1, mq.2.2.2.2.2.2) mv) H := hP
  refine lv_aload_n hx hb dX5_task_10 rfl (lv_at hl 0 rfl) ?_
  refine va_get (D := w.1) (ci := 6) (v := .ref (w.2.2 19)) (C := RX5) (T := TX5) (N := 33) hx hb hts iw_X5_task_X5 hown hK.1 hP 0 rfl rfl 23 (by decide) (hts _ fl_X5_task_67) (fun _ h9 => h9) rfl dX5_task_11 ?_
  refine lv_aload_n hx hb dX5_task_14 rfl (lv_at hl 0 rfl) ?_
  refine va_get (D := w.1) (ci := 6) (v := .int mq.1) (C := RX5) (T := TX5) (N := 33) hx hb hts iw_X5_task_X5 hown hK.1 hP 0 rfl rfl 27 (by decide) (hts _ fl_X5_task_146) (fun _ h9 => h9) rfl dX5_task_15 ?_
  refine lv_iload_n hx hb dX5_task_18 rfl (lv_at hl 2 rfl) ?_
  have o3 := k2.1
  have k4 := k2.2
  refine va_iast hx hb hK.1 hP (wM_D hA) hS 19 0 rfl rfl o3 dX5_task_19 (fun H locs hP _ hS => ?_)
  have hP : va_P w.1 vwCl (wM w me mb mc mt mk mr (mq.1, upd mq.2.1 mq.1.toNatClampNeg wh, upd mq.2.2.1 mq.1.toNatClampNeg op, mq.2.2.2.1, mq.2.2.2.2.1, mq.2.2.2.2.2.1, mq.2.2.2.2.2.2) mv) H := hP
  refine lv_aload_n hx hb dX5_task_20 rfl (lv_at hl 0 rfl) ?_
  refine va_get (D := w.1) (ci := 6) (v := .ref (w.2.2 22)) (C := RX5) (T := TX5) (N := 33) hx hb hts iw_X5_task_X5 hown hK.1 hP 0 rfl rfl 26 (by decide) (hts _ fl_X5_task_76) (fun _ h9 => h9) rfl dX5_task_21 ?_
  refine lv_aload_n hx hb dX5_task_24 rfl (lv_at hl 0 rfl) ?_
  refine va_get (D := w.1) (ci := 6) (v := .int mq.1) (C := RX5) (T := TX5) (N := 33) hx hb hts iw_X5_task_X5 hown hK.1 hP 0 rfl rfl 27 (by decide) (hts _ fl_X5_task_146) (fun _ h9 => h9) rfl dX5_task_25 ?_
  refine lv_lload_n hx hb dX5_task_28 rfl (lv_at hl 3 rfl) ?_
  have o5 := k4.1
  have k6 := k4.2
  refine va_last hx hb hK.1 hP (wM_D hA) hS 22 3 rfl rfl o5 dX5_task_29 (fun H locs hP _ hS => ?_)
  have hP : va_P w.1 vwCl (wM w me mb mc mt mk mr (mq.1, upd mq.2.1 mq.1.toNatClampNeg wh, upd mq.2.2.1 mq.1.toNatClampNeg op, mq.2.2.2.1, vp_updL mq.2.2.2.2.1 mq.1.toNatClampNeg v, mq.2.2.2.2.2.1, mq.2.2.2.2.2.2) mv) H := hP
  refine lv_aload_n hx hb dX5_task_30 rfl (lv_at hl 0 rfl) ?_
  refine va_get (D := w.1) (ci := 6) (v := .ref (w.2.2 20)) (C := RX5) (T := TX5) (N := 33) hx hb hts iw_X5_task_X5 hown hK.1 hP 0 rfl rfl 24 (by decide) (hts _ fl_X5_task_70) (fun _ h9 => h9) rfl dX5_task_31 ?_
  refine lv_aload_n hx hb dX5_task_34 rfl (lv_at hl 0 rfl) ?_
  refine va_get (D := w.1) (ci := 6) (v := .int mq.1) (C := RX5) (T := TX5) (N := 33) hx hb hts iw_X5_task_X5 hown hK.1 hP 0 rfl rfl 27 (by decide) (hts _ fl_X5_task_146) (fun _ h9 => h9) rfl dX5_task_35 ?_
  refine lv_iload hx hb dX5_task_38 (lv_at hl 4 rfl) ?_
  have o7 := k6.1
  have k8 := k6.2
  refine va_iast hx hb hK.1 hP (wM_D hA) hS 20 0 rfl rfl o7 dX5_task_40 (fun H locs hP _ hS => ?_)
  have hP : va_P w.1 vwCl (wM w me mb mc mt mk mr (mq.1, upd mq.2.1 mq.1.toNatClampNeg wh, upd mq.2.2.1 mq.1.toNatClampNeg op, upd mq.2.2.2.1 mq.1.toNatClampNeg its, vp_updL mq.2.2.2.2.1 mq.1.toNatClampNeg v, mq.2.2.2.2.2.1, mq.2.2.2.2.2.2) mv) H := hP
  refine lv_aload_n hx hb dX5_task_41 rfl (lv_at hl 0 rfl) ?_
  refine lv_dup hx hb dX5_task_42 rfl ?_
  refine va_get (D := w.1) (ci := 6) (v := .int mq.1) (C := RX5) (T := TX5) (N := 33) hx hb hts iw_X5_task_X5 hown hK.1 hP 0 rfl rfl 27 (by decide) (hts _ fl_X5_task_146) (fun _ h9 => h9) rfl dX5_task_43 ?_
  refine lv_iconst (v := 1) hx hb dX5_task_46 (by decide) ?_
  refine lv_iadd hx hb dX5_task_47 ?_
  refine va_put (D := w.1) (ci := 6) (v := .int (mq.1 + (1 : Int32))) (ty := .int) (C := RX5) (T := TX5) (N := 33) hx hb hts iw_X5_task_X5 tyX5 tyX5_ok nmX5 hown hK.1 hP (wM_D hA) hS 0 rfl rfl 27 (by decide) (hts _ fl_X5_task_146) (fun _ h9 => h9) rfl (by decide +kernel) rfl rfl (Nat.le_of_ble_eq_true rfl) dX5_task_48 (fun H locs hP _ hS => ?_)
  have hP : va_P w.1 vwCl (wM w me mb mc mt mk mr (mq.1 + (1 : Int32), upd mq.2.1 mq.1.toNatClampNeg wh, upd mq.2.2.1 mq.1.toNatClampNeg op, upd mq.2.2.2.1 mq.1.toNatClampNeg its, vp_updL mq.2.2.2.2.1 mq.1.toNatClampNeg v, mq.2.2.2.2.2.1, mq.2.2.2.2.2.2) mv) H := hP
  have e9 : G_X5_task mq wh op v its = (mq.1 + (1 : Int32), upd mq.2.1 mq.1.toNatClampNeg wh, upd mq.2.2.1 mq.1.toNatClampNeg op, upd mq.2.2.2.1 mq.1.toNatClampNeg its, vp_updL mq.2.2.2.2.1 mq.1.toNatClampNeg v, mq.2.2.2.2.2.1, mq.2.2.2.2.2.2) := rfl
  exact xM_vret hx hb hr hlk  hS  (by rw [e9]; exact hP) dX5_task_51
set_option maxRecDepth 20000 in
theorem iw_X5_row_X5 : ∀ w ∈ wsX50, w ∈ wsX5_row := by decide +kernel
set_option maxRecDepth 20000 in
theorem fl_X5_row_149 : Cond.fieldLink RX5 149 "ProcedureCodeModel" "rows" "I" ∈ wsX5_row := by decide +kernel
set_option maxRecDepth 20000 in
theorem fl_X5_row_52 : Cond.fieldLink RX5 52 "ProcedureCodeModel" "ops" "[I" ∈ wsX5_row := by decide +kernel
set_option maxRecDepth 20000 in
theorem fl_X5_row_61 : Cond.fieldLink RX5 61 "ProcedureCodeModel" "numbers" "[J" ∈ wsX5_row := by decide +kernel
set_option maxRecDepth 20000 in
theorem fl_X5_row_55 : Cond.fieldLink RX5 55 "ProcedureCodeModel" "rowDigits" "[I" ∈ wsX5_row := by decide +kernel
def G_X5_row (mr : MR) (op : Int32) (v : Int64) (its : Int32) : MR := if (400 : Int32) ≤ mr.1 then ((mr.1 + (1 : Int32), mr.2.1, mr.2.2.1, mr.2.2.2)) else ((mr.1 + (1 : Int32), upd mr.2.1 mr.1.toNatClampNeg op, upd mr.2.2.1 mr.1.toNatClampNeg its, vp_updL mr.2.2.2 mr.1.toNatClampNeg v))
def OK_X5_row (mr : MR) (op : Int32) (v : Int64) (its : Int32) : Prop := if (400 : Int32) ≤ mr.1 then (True) else ((vp_in mr.1 401) ∧ ((vp_in mr.1 401) ∧ ((vp_in mr.1 401) ∧ (True))))
set_option maxHeartbeats 4000000 in
set_option maxRecDepth 100000 in
theorem c_X5_row (l : Launch) (w : WG) (hA : wAp w 25) (me : ME) (mb : AI) (mc : MC) (mt : MT) (mk : MK) (mr : MR) (mq : MQS) (mv : MV) (op : Int32) (v : Int64) (its : Int32) (hok : OK_X5_row mr op v its) : Met l yX5_row wsX5_row { frames := 0, cells := 0, slots := 0, locals := 0 } (va_Pc [.ref (w.2.2 0), .int op, .long v, .int its] (wPK w (wM w me mb mc mt mk mr mq mv))) (xM none (fun H => va_P w.1 vwCl (wM w me mb mc mt mk (G_X5_row mr op v its) mq mv) H) (wA w 25)) 0 0 (wA w 25) := by
  refine xOf (cc := cX5_row) (maxL := 5) (ret := none) (lv := [(0, .ref (w.2.2 0)), (1, .int op), (2, .long v), (4, .int its)]) (by decide) rfl (Nat.le_of_ble_eq_true rfl) rfl ?_
  intro pP eE S mM below meth C hx hb hr hml hts hown hlk hnm hw ls hl
  obtain ⟨hP, hK⟩ := hw
  have hS : va_S (wA w 25) S.heap S.heap [] := va_S.rf
  have hP : va_P w.1 vwCl (wM w me mb mc mt mk mr mq mv) S.heap := hP
  refine lv_aload_n hx hb dX5_row_0 rfl (lv_at hl 0 rfl) ?_
  refine va_get (D := w.1) (ci := 6) (v := .int mr.1) (C := RX5) (T := TX5) (N := 33) hx hb hts iw_X5_row_X5 hown hK.1 hP 0 rfl rfl 21 (by decide) (hts _ fl_X5_row_149) (fun _ h9 => h9) rfl dX5_row_1 ?_
  refine lv_sipush (v := 400) hx hb dX5_row_4 (by decide) ?_
  refine lv_icmp_ge (tgt := 41) hx hb dX5_row_7 (by decide) (fun b1 => ?_) (fun b1 => ?_)
  ·
    have k2 := Eq.mp (if_pos b1) hok
    refine lv_aload_n hx hb dX5_row_41 rfl (lv_at hl 0 rfl) ?_
    refine lv_dup hx hb dX5_row_42 rfl ?_
    refine va_get (D := w.1) (ci := 6) (v := .int mr.1) (C := RX5) (T := TX5) (N := 33) hx hb hts iw_X5_row_X5 hown hK.1 hP 0 rfl rfl 21 (by decide) (hts _ fl_X5_row_149) (fun _ h9 => h9) rfl dX5_row_43 ?_
    refine lv_iconst (v := 1) hx hb dX5_row_46 (by decide) ?_
    refine lv_iadd hx hb dX5_row_47 ?_
    refine va_put (D := w.1) (ci := 6) (v := .int (mr.1 + (1 : Int32))) (ty := .int) (C := RX5) (T := TX5) (N := 33) hx hb hts iw_X5_row_X5 tyX5 tyX5_ok nmX5 hown hK.1 hP (wM_D hA) hS 0 rfl rfl 21 (by decide) (hts _ fl_X5_row_149) (fun _ h9 => h9) rfl (by decide +kernel) rfl rfl (Nat.le_of_ble_eq_true rfl) dX5_row_48 (fun H locs hP _ hS => ?_)
    have hP : va_P w.1 vwCl (wM w me mb mc mt mk (mr.1 + (1 : Int32), mr.2.1, mr.2.2.1, mr.2.2.2) mq mv) H := hP
    have e9 : G_X5_row mr op v its = (mr.1 + (1 : Int32), mr.2.1, mr.2.2.1, mr.2.2.2) := Eq.trans rfl (if_pos b1)
    exact xM_vret hx hb hr hlk  hS  (by rw [e9]; exact hP) dX5_row_51
  ·
    have k3 := Eq.mp (if_neg b1) hok
    refine lv_aload_n hx hb dX5_row_10 rfl (lv_at hl 0 rfl) ?_
    refine va_get (D := w.1) (ci := 6) (v := .ref (w.2.2 14)) (C := RX5) (T := TX5) (N := 33) hx hb hts iw_X5_row_X5 hown hK.1 hP 0 rfl rfl 16 (by decide) (hts _ fl_X5_row_52) (fun _ h9 => h9) rfl dX5_row_11 ?_
    refine lv_aload_n hx hb dX5_row_14 rfl (lv_at hl 0 rfl) ?_
    refine va_get (D := w.1) (ci := 6) (v := .int mr.1) (C := RX5) (T := TX5) (N := 33) hx hb hts iw_X5_row_X5 hown hK.1 hP 0 rfl rfl 21 (by decide) (hts _ fl_X5_row_149) (fun _ h9 => h9) rfl dX5_row_15 ?_
    refine lv_iload_n hx hb dX5_row_18 rfl (lv_at hl 1 rfl) ?_
    have o4 := k3.1
    have k5 := k3.2
    refine va_iast hx hb hK.1 hP (wM_D hA) hS 14 0 rfl rfl o4 dX5_row_19 (fun H locs hP _ hS => ?_)
    have hP : va_P w.1 vwCl (wM w me mb mc mt mk (mr.1, upd mr.2.1 mr.1.toNatClampNeg op, mr.2.2.1, mr.2.2.2) mq mv) H := hP
    refine lv_aload_n hx hb dX5_row_20 rfl (lv_at hl 0 rfl) ?_
    refine va_get (D := w.1) (ci := 6) (v := .ref (w.2.2 17)) (C := RX5) (T := TX5) (N := 33) hx hb hts iw_X5_row_X5 hown hK.1 hP 0 rfl rfl 19 (by decide) (hts _ fl_X5_row_61) (fun _ h9 => h9) rfl dX5_row_21 ?_
    refine lv_aload_n hx hb dX5_row_24 rfl (lv_at hl 0 rfl) ?_
    refine va_get (D := w.1) (ci := 6) (v := .int mr.1) (C := RX5) (T := TX5) (N := 33) hx hb hts iw_X5_row_X5 hown hK.1 hP 0 rfl rfl 21 (by decide) (hts _ fl_X5_row_149) (fun _ h9 => h9) rfl dX5_row_25 ?_
    refine lv_lload_n hx hb dX5_row_28 rfl (lv_at hl 2 rfl) ?_
    have o6 := k5.1
    have k7 := k5.2
    refine va_last hx hb hK.1 hP (wM_D hA) hS 17 3 rfl rfl o6 dX5_row_29 (fun H locs hP _ hS => ?_)
    have hP : va_P w.1 vwCl (wM w me mb mc mt mk (mr.1, upd mr.2.1 mr.1.toNatClampNeg op, mr.2.2.1, vp_updL mr.2.2.2 mr.1.toNatClampNeg v) mq mv) H := hP
    refine lv_aload_n hx hb dX5_row_30 rfl (lv_at hl 0 rfl) ?_
    refine va_get (D := w.1) (ci := 6) (v := .ref (w.2.2 15)) (C := RX5) (T := TX5) (N := 33) hx hb hts iw_X5_row_X5 hown hK.1 hP 0 rfl rfl 17 (by decide) (hts _ fl_X5_row_55) (fun _ h9 => h9) rfl dX5_row_31 ?_
    refine lv_aload_n hx hb dX5_row_34 rfl (lv_at hl 0 rfl) ?_
    refine va_get (D := w.1) (ci := 6) (v := .int mr.1) (C := RX5) (T := TX5) (N := 33) hx hb hts iw_X5_row_X5 hown hK.1 hP 0 rfl rfl 21 (by decide) (hts _ fl_X5_row_149) (fun _ h9 => h9) rfl dX5_row_35 ?_
    refine lv_iload hx hb dX5_row_38 (lv_at hl 3 rfl) ?_
    have o8 := k7.1
    have k9 := k7.2
    refine va_iast hx hb hK.1 hP (wM_D hA) hS 15 0 rfl rfl o8 dX5_row_40 (fun H locs hP _ hS => ?_)
    have hP : va_P w.1 vwCl (wM w me mb mc mt mk (mr.1, upd mr.2.1 mr.1.toNatClampNeg op, upd mr.2.2.1 mr.1.toNatClampNeg its, vp_updL mr.2.2.2 mr.1.toNatClampNeg v) mq mv) H := hP
    refine lv_aload_n hx hb dX5_row_41 rfl (lv_at hl 0 rfl) ?_
    refine lv_dup hx hb dX5_row_42 rfl ?_
    refine va_get (D := w.1) (ci := 6) (v := .int mr.1) (C := RX5) (T := TX5) (N := 33) hx hb hts iw_X5_row_X5 hown hK.1 hP 0 rfl rfl 21 (by decide) (hts _ fl_X5_row_149) (fun _ h9 => h9) rfl dX5_row_43 ?_
    refine lv_iconst (v := 1) hx hb dX5_row_46 (by decide) ?_
    refine lv_iadd hx hb dX5_row_47 ?_
    refine va_put (D := w.1) (ci := 6) (v := .int (mr.1 + (1 : Int32))) (ty := .int) (C := RX5) (T := TX5) (N := 33) hx hb hts iw_X5_row_X5 tyX5 tyX5_ok nmX5 hown hK.1 hP (wM_D hA) hS 0 rfl rfl 21 (by decide) (hts _ fl_X5_row_149) (fun _ h9 => h9) rfl (by decide +kernel) rfl rfl (Nat.le_of_ble_eq_true rfl) dX5_row_48 (fun H locs hP _ hS => ?_)
    have hP : va_P w.1 vwCl (wM w me mb mc mt mk (mr.1 + (1 : Int32), upd mr.2.1 mr.1.toNatClampNeg op, upd mr.2.2.1 mr.1.toNatClampNeg its, vp_updL mr.2.2.2 mr.1.toNatClampNeg v) mq mv) H := hP
    have e9 : G_X5_row mr op v its = (mr.1 + (1 : Int32), upd mr.2.1 mr.1.toNatClampNeg op, upd mr.2.2.1 mr.1.toNatClampNeg its, vp_updL mr.2.2.2 mr.1.toNatClampNeg v) := Eq.trans rfl (if_neg b1)
    exact xM_vret hx hb hr hlk  hS  (by rw [e9]; exact hP) dX5_row_51
set_option maxRecDepth 20000 in
theorem iw_X5_laid_X5 : ∀ w ∈ wsX50, w ∈ wsX5_laid := by decide +kernel
set_option maxRecDepth 20000 in
theorem fl_X5_laid_26 : Cond.fieldLink RX5 26 "ProcedureCodeModel" "kinds" "[I" ∈ wsX5_laid := by decide +kernel
set_option maxRecDepth 20000 in
theorem fl_X5_laid_38 : Cond.fieldLink RX5 38 "ProcedureCodeModel" "folded" "[Z" ∈ wsX5_laid := by decide +kernel
set_option maxRecDepth 20000 in
theorem fl_X5_laid_29 : Cond.fieldLink RX5 29 "ProcedureCodeModel" "as" "[I" ∈ wsX5_laid := by decide +kernel
set_option maxRecDepth 20000 in
theorem dv_X5_row : yX5_row.cls = RX5 ∧ yX5_row.cls ≠ "java/lang/invoke/MethodHandle" ∧ yX5_row.cls ≠ "java/lang/invoke/VarHandle" ∧ (parseMethodDescriptor yX5_row.desc).map (fun d => d.parameters.length) = some 3 := by decide +kernel
set_option maxRecDepth 20000 in
theorem dv_X5_task : yX5_task.cls = RX5 ∧ yX5_task.cls ≠ "java/lang/invoke/MethodHandle" ∧ yX5_task.cls ≠ "java/lang/invoke/VarHandle" ∧ (parseMethodDescriptor yX5_task.desc).map (fun d => d.parameters.length) = some 4 := by decide +kernel
set_option maxRecDepth 20000 in
theorem fl_X5_laid_32 : Cond.fieldLink RX5 32 "ProcedureCodeModel" "bs" "[I" ∈ wsX5_laid := by decide +kernel
set_option maxRecDepth 20000 in
theorem fl_X5_laid_35 : Cond.fieldLink RX5 35 "ProcedureCodeModel" "sure" "[I" ∈ wsX5_laid := by decide +kernel
set_option maxRecDepth 20000 in
theorem fl_X5_laid_42 : Cond.fieldLink RX5 42 "ProcedureCodeModel" "folds" "[J" ∈ wsX5_laid := by decide +kernel
def G_X5_laid (mt : MT) (mr : MR) (mq : MQS) (n : Int32) : MR × MQS := if (mt.2.2.2.2.2.1 n.toNatClampNeg) = 0 then (if (mt.2.1 n.toNatClampNeg) = (1 : Int32) then ((G_X5_row mr (1 : Int32) ((mt.2.2.1 n.toNatClampNeg).toInt64) (0 : Int32), mq)) else (if (mt.2.1 n.toNatClampNeg) = (2 : Int32) then ((mr, G_X5_task (G_X5_task mq (2 : Int32) (mt.2.1 n.toNatClampNeg) ((mt.2.2.1 n.toNatClampNeg).toInt64) (0 : Int32)) (0 : Int32) (0 : Int32) ((mt.2.2.2.1 n.toNatClampNeg).toInt64) (0 : Int32))) else (if (mt.2.1 n.toNatClampNeg) = (9 : Int32) then ((mr, G_X5_task (G_X5_task mq (2 : Int32) (mt.2.1 n.toNatClampNeg) ((mt.2.2.1 n.toNatClampNeg).toInt64) (0 : Int32)) (0 : Int32) (0 : Int32) ((mt.2.2.2.1 n.toNatClampNeg).toInt64) (0 : Int32))) else (if (mt.2.1 n.toNatClampNeg) = (10 : Int32) then ((mr, G_X5_task (G_X5_task (G_X5_task mq (2 : Int32) (10 : Int32) ((mt.2.2.1 n.toNatClampNeg).toInt64) (0 : Int32)) (0 : Int32) (0 : Int32) ((mt.2.2.2.1 (mt.2.2.2.1 n.toNatClampNeg).toNatClampNeg).toInt64) (0 : Int32)) (0 : Int32) (0 : Int32) ((mt.2.2.1 (mt.2.2.2.1 n.toNatClampNeg).toNatClampNeg).toInt64) (0 : Int32))) else (if (mt.2.1 n.toNatClampNeg) = (11 : Int32) then ((mr, G_X5_task (G_X5_task mq (1 : Int32) (0 : Int32) ((mt.2.2.2.1 n.toNatClampNeg).toInt64) (0 : Int32)) (1 : Int32) (0 : Int32) ((mt.2.2.1 n.toNatClampNeg).toInt64) (0 : Int32))) else (if (mt.2.1 n.toNatClampNeg) = (12 : Int32) then (if (mt.2.1 n.toNatClampNeg) = (12 : Int32) then ((mr, G_X5_task (G_X5_task (G_X5_task (G_X5_task mq (4 : Int32) (0 : Int32) (0 : Int64) (0 : Int32)) (1 : Int32) (0 : Int32) ((mt.2.2.2.1 n.toNatClampNeg).toInt64) (0 : Int32)) (3 : Int32) (mt.2.1 n.toNatClampNeg) (0 : Int64) (0 : Int32)) (0 : Int32) (0 : Int32) ((mt.2.2.1 n.toNatClampNeg).toInt64) (0 : Int32))) else ((mr, G_X5_task (G_X5_task (G_X5_task (G_X5_task mq (5 : Int32) (0 : Int32) (0 : Int64) (0 : Int32)) (1 : Int32) (0 : Int32) ((mt.2.2.2.1 n.toNatClampNeg).toInt64) (0 : Int32)) (3 : Int32) (mt.2.1 n.toNatClampNeg) (0 : Int64) (0 : Int32)) (0 : Int32) (0 : Int32) ((mt.2.2.1 n.toNatClampNeg).toInt64) (0 : Int32)))) else (if (mt.2.1 n.toNatClampNeg) = (13 : Int32) then (if (mt.2.1 n.toNatClampNeg) = (12 : Int32) then ((mr, G_X5_task (G_X5_task (G_X5_task (G_X5_task mq (4 : Int32) (0 : Int32) (0 : Int64) (0 : Int32)) (1 : Int32) (0 : Int32) ((mt.2.2.2.1 n.toNatClampNeg).toInt64) (0 : Int32)) (3 : Int32) (mt.2.1 n.toNatClampNeg) (0 : Int64) (0 : Int32)) (0 : Int32) (0 : Int32) ((mt.2.2.1 n.toNatClampNeg).toInt64) (0 : Int32))) else ((mr, G_X5_task (G_X5_task (G_X5_task (G_X5_task mq (5 : Int32) (0 : Int32) (0 : Int64) (0 : Int32)) (1 : Int32) (0 : Int32) ((mt.2.2.2.1 n.toNatClampNeg).toInt64) (0 : Int32)) (3 : Int32) (mt.2.1 n.toNatClampNeg) (0 : Int64) (0 : Int32)) (0 : Int32) (0 : Int32) ((mt.2.2.1 n.toNatClampNeg).toInt64) (0 : Int32)))) else ((mr, G_X5_task (G_X5_task (G_X5_task mq (2 : Int32) (mt.2.1 n.toNatClampNeg) (0 : Int64) (mt.2.2.2.2.1 n.toNatClampNeg)) (0 : Int32) (0 : Int32) ((mt.2.2.2.1 n.toNatClampNeg).toInt64) (0 : Int32)) (0 : Int32) (0 : Int32) ((mt.2.2.1 n.toNatClampNeg).toInt64) (0 : Int32)))))))))) else ((G_X5_row mr (0 : Int32) (mt.2.2.2.2.2.2 n.toNatClampNeg) (0 : Int32), mq))
def OK_X5_laid (mt : MT) (mr : MR) (mq : MQS) (n : Int32) : Prop := (vp_in n 201) ∧ ((vp_in n 201) ∧ (if (mt.2.2.2.2.2.1 n.toNatClampNeg) = 0 then (if (mt.2.1 n.toNatClampNeg) = (1 : Int32) then ((vp_in n 201) ∧ ((OK_X5_row mr (1 : Int32) ((mt.2.2.1 n.toNatClampNeg).toInt64) (0 : Int32)) ∧ (True))) else (if (mt.2.1 n.toNatClampNeg) = (2 : Int32) then ((vp_in n 201) ∧ ((OK_X5_task mq (2 : Int32) (mt.2.1 n.toNatClampNeg) ((mt.2.2.1 n.toNatClampNeg).toInt64) (0 : Int32)) ∧ ((vp_in n 201) ∧ ((OK_X5_task (G_X5_task mq (2 : Int32) (mt.2.1 n.toNatClampNeg) ((mt.2.2.1 n.toNatClampNeg).toInt64) (0 : Int32)) (0 : Int32) (0 : Int32) ((mt.2.2.2.1 n.toNatClampNeg).toInt64) (0 : Int32)) ∧ (True))))) else (if (mt.2.1 n.toNatClampNeg) = (9 : Int32) then ((vp_in n 201) ∧ ((OK_X5_task mq (2 : Int32) (mt.2.1 n.toNatClampNeg) ((mt.2.2.1 n.toNatClampNeg).toInt64) (0 : Int32)) ∧ ((vp_in n 201) ∧ ((OK_X5_task (G_X5_task mq (2 : Int32) (mt.2.1 n.toNatClampNeg) ((mt.2.2.1 n.toNatClampNeg).toInt64) (0 : Int32)) (0 : Int32) (0 : Int32) ((mt.2.2.2.1 n.toNatClampNeg).toInt64) (0 : Int32)) ∧ (True))))) else (if (mt.2.1 n.toNatClampNeg) = (10 : Int32) then ((vp_in n 201) ∧ ((OK_X5_task mq (2 : Int32) (10 : Int32) ((mt.2.2.1 n.toNatClampNeg).toInt64) (0 : Int32)) ∧ ((vp_in n 201) ∧ ((vp_in (mt.2.2.2.1 n.toNatClampNeg) 201) ∧ ((OK_X5_task (G_X5_task mq (2 : Int32) (10 : Int32) ((mt.2.2.1 n.toNatClampNeg).toInt64) (0 : Int32)) (0 : Int32) (0 : Int32) ((mt.2.2.2.1 (mt.2.2.2.1 n.toNatClampNeg).toNatClampNeg).toInt64) (0 : Int32)) ∧ ((vp_in n 201) ∧ ((vp_in (mt.2.2.2.1 n.toNatClampNeg) 201) ∧ ((OK_X5_task (G_X5_task (G_X5_task mq (2 : Int32) (10 : Int32) ((mt.2.2.1 n.toNatClampNeg).toInt64) (0 : Int32)) (0 : Int32) (0 : Int32) ((mt.2.2.2.1 (mt.2.2.2.1 n.toNatClampNeg).toNatClampNeg).toInt64) (0 : Int32)) (0 : Int32) (0 : Int32) ((mt.2.2.1 (mt.2.2.2.1 n.toNatClampNeg).toNatClampNeg).toInt64) (0 : Int32)) ∧ (True))))))))) else (if (mt.2.1 n.toNatClampNeg) = (11 : Int32) then ((vp_in n 201) ∧ ((OK_X5_task mq (1 : Int32) (0 : Int32) ((mt.2.2.2.1 n.toNatClampNeg).toInt64) (0 : Int32)) ∧ ((vp_in n 201) ∧ ((OK_X5_task (G_X5_task mq (1 : Int32) (0 : Int32) ((mt.2.2.2.1 n.toNatClampNeg).toInt64) (0 : Int32)) (1 : Int32) (0 : Int32) ((mt.2.2.1 n.toNatClampNeg).toInt64) (0 : Int32)) ∧ (True))))) else (if (mt.2.1 n.toNatClampNeg) = (12 : Int32) then (if (mt.2.1 n.toNatClampNeg) = (12 : Int32) then ((OK_X5_task mq (4 : Int32) (0 : Int32) (0 : Int64) (0 : Int32)) ∧ ((vp_in n 201) ∧ ((OK_X5_task (G_X5_task mq (4 : Int32) (0 : Int32) (0 : Int64) (0 : Int32)) (1 : Int32) (0 : Int32) ((mt.2.2.2.1 n.toNatClampNeg).toInt64) (0 : Int32)) ∧ ((OK_X5_task (G_X5_task (G_X5_task mq (4 : Int32) (0 : Int32) (0 : Int64) (0 : Int32)) (1 : Int32) (0 : Int32) ((mt.2.2.2.1 n.toNatClampNeg).toInt64) (0 : Int32)) (3 : Int32) (mt.2.1 n.toNatClampNeg) (0 : Int64) (0 : Int32)) ∧ ((vp_in n 201) ∧ ((OK_X5_task (G_X5_task (G_X5_task (G_X5_task mq (4 : Int32) (0 : Int32) (0 : Int64) (0 : Int32)) (1 : Int32) (0 : Int32) ((mt.2.2.2.1 n.toNatClampNeg).toInt64) (0 : Int32)) (3 : Int32) (mt.2.1 n.toNatClampNeg) (0 : Int64) (0 : Int32)) (0 : Int32) (0 : Int32) ((mt.2.2.1 n.toNatClampNeg).toInt64) (0 : Int32)) ∧ (True))))))) else ((OK_X5_task mq (5 : Int32) (0 : Int32) (0 : Int64) (0 : Int32)) ∧ ((vp_in n 201) ∧ ((OK_X5_task (G_X5_task mq (5 : Int32) (0 : Int32) (0 : Int64) (0 : Int32)) (1 : Int32) (0 : Int32) ((mt.2.2.2.1 n.toNatClampNeg).toInt64) (0 : Int32)) ∧ ((OK_X5_task (G_X5_task (G_X5_task mq (5 : Int32) (0 : Int32) (0 : Int64) (0 : Int32)) (1 : Int32) (0 : Int32) ((mt.2.2.2.1 n.toNatClampNeg).toInt64) (0 : Int32)) (3 : Int32) (mt.2.1 n.toNatClampNeg) (0 : Int64) (0 : Int32)) ∧ ((vp_in n 201) ∧ ((OK_X5_task (G_X5_task (G_X5_task (G_X5_task mq (5 : Int32) (0 : Int32) (0 : Int64) (0 : Int32)) (1 : Int32) (0 : Int32) ((mt.2.2.2.1 n.toNatClampNeg).toInt64) (0 : Int32)) (3 : Int32) (mt.2.1 n.toNatClampNeg) (0 : Int64) (0 : Int32)) (0 : Int32) (0 : Int32) ((mt.2.2.1 n.toNatClampNeg).toInt64) (0 : Int32)) ∧ (True)))))))) else (if (mt.2.1 n.toNatClampNeg) = (13 : Int32) then (if (mt.2.1 n.toNatClampNeg) = (12 : Int32) then ((OK_X5_task mq (4 : Int32) (0 : Int32) (0 : Int64) (0 : Int32)) ∧ ((vp_in n 201) ∧ ((OK_X5_task (G_X5_task mq (4 : Int32) (0 : Int32) (0 : Int64) (0 : Int32)) (1 : Int32) (0 : Int32) ((mt.2.2.2.1 n.toNatClampNeg).toInt64) (0 : Int32)) ∧ ((OK_X5_task (G_X5_task (G_X5_task mq (4 : Int32) (0 : Int32) (0 : Int64) (0 : Int32)) (1 : Int32) (0 : Int32) ((mt.2.2.2.1 n.toNatClampNeg).toInt64) (0 : Int32)) (3 : Int32) (mt.2.1 n.toNatClampNeg) (0 : Int64) (0 : Int32)) ∧ ((vp_in n 201) ∧ ((OK_X5_task (G_X5_task (G_X5_task (G_X5_task mq (4 : Int32) (0 : Int32) (0 : Int64) (0 : Int32)) (1 : Int32) (0 : Int32) ((mt.2.2.2.1 n.toNatClampNeg).toInt64) (0 : Int32)) (3 : Int32) (mt.2.1 n.toNatClampNeg) (0 : Int64) (0 : Int32)) (0 : Int32) (0 : Int32) ((mt.2.2.1 n.toNatClampNeg).toInt64) (0 : Int32)) ∧ (True))))))) else ((OK_X5_task mq (5 : Int32) (0 : Int32) (0 : Int64) (0 : Int32)) ∧ ((vp_in n 201) ∧ ((OK_X5_task (G_X5_task mq (5 : Int32) (0 : Int32) (0 : Int64) (0 : Int32)) (1 : Int32) (0 : Int32) ((mt.2.2.2.1 n.toNatClampNeg).toInt64) (0 : Int32)) ∧ ((OK_X5_task (G_X5_task (G_X5_task mq (5 : Int32) (0 : Int32) (0 : Int64) (0 : Int32)) (1 : Int32) (0 : Int32) ((mt.2.2.2.1 n.toNatClampNeg).toInt64) (0 : Int32)) (3 : Int32) (mt.2.1 n.toNatClampNeg) (0 : Int64) (0 : Int32)) ∧ ((vp_in n 201) ∧ ((OK_X5_task (G_X5_task (G_X5_task (G_X5_task mq (5 : Int32) (0 : Int32) (0 : Int64) (0 : Int32)) (1 : Int32) (0 : Int32) ((mt.2.2.2.1 n.toNatClampNeg).toInt64) (0 : Int32)) (3 : Int32) (mt.2.1 n.toNatClampNeg) (0 : Int64) (0 : Int32)) (0 : Int32) (0 : Int32) ((mt.2.2.1 n.toNatClampNeg).toInt64) (0 : Int32)) ∧ (True)))))))) else ((vp_in n 201) ∧ ((OK_X5_task mq (2 : Int32) (mt.2.1 n.toNatClampNeg) (0 : Int64) (mt.2.2.2.2.1 n.toNatClampNeg)) ∧ ((vp_in n 201) ∧ ((OK_X5_task (G_X5_task mq (2 : Int32) (mt.2.1 n.toNatClampNeg) (0 : Int64) (mt.2.2.2.2.1 n.toNatClampNeg)) (0 : Int32) (0 : Int32) ((mt.2.2.2.1 n.toNatClampNeg).toInt64) (0 : Int32)) ∧ ((vp_in n 201) ∧ ((OK_X5_task (G_X5_task (G_X5_task mq (2 : Int32) (mt.2.1 n.toNatClampNeg) (0 : Int64) (mt.2.2.2.2.1 n.toNatClampNeg)) (0 : Int32) (0 : Int32) ((mt.2.2.2.1 n.toNatClampNeg).toInt64) (0 : Int32)) (0 : Int32) (0 : Int32) ((mt.2.2.1 n.toNatClampNeg).toInt64) (0 : Int32)) ∧ (True)))))))))))))) else ((vp_in n 201) ∧ ((OK_X5_row mr (0 : Int32) (mt.2.2.2.2.2.2 n.toNatClampNeg) (0 : Int32)) ∧ (True)))))
set_option maxHeartbeats 4000000 in
set_option maxRecDepth 100000 in
theorem c_X5_laid (l : Launch) (w : WG) (hA : wAp w 25) (me : ME) (mb : AI) (mc : MC) (mt : MT) (mk : MK) (mr : MR) (mq : MQS) (mv : MV) (n : Int32) (hok : OK_X5_laid mt mr mq n) : Met l yX5_laid wsX5_laid { frames := 1, cells := 0, slots := 0, locals := 25 } (va_Pc [.ref (w.2.2 0), .int n] (wPK w (wM w me mb mc mt mk mr mq mv))) (xM none (fun H => va_P w.1 vwCl (wM w me mb mc mt mk ((G_X5_laid mt mr mq n).1) ((G_X5_laid mt mr mq n).2) mv) H) (wA w 25)) 0 0 (wA w 25) := by
  refine xOf (cc := cX5_laid) (maxL := 3) (ret := none) (lv := [(0, .ref (w.2.2 0)), (1, .int n)]) (by decide) rfl (Nat.le_of_ble_eq_true rfl) rfl ?_
  intro pP eE S mM below meth C hx hb hr hml hts hown hlk hnm hw ls hl
  obtain ⟨hP, hK⟩ := hw
  have hS : va_S (wA w 25) S.heap S.heap [] := va_S.rf
  have hP : va_P w.1 vwCl (wM w me mb mc mt mk mr mq mv) S.heap := hP
  refine lv_aload_n hx hb dX5_laid_0 rfl (lv_at hl 0 rfl) ?_
  refine va_get (D := w.1) (ci := 6) (v := .ref (w.2.2 6)) (C := RX5) (T := TX5) (N := 33) hx hb hts iw_X5_laid_X5 hown hK.1 hP 0 rfl rfl 7 (by decide) (hts _ fl_X5_laid_26) (fun _ h9 => h9) rfl dX5_laid_1 ?_
  refine lv_iload_n hx hb dX5_laid_4 rfl (lv_at hl 1 rfl) ?_
  have o1 := hok.1
  have k2 := hok.2
  refine va_iald hx hb hK.1 hP 6 0 rfl rfl o1 dX5_laid_5 ?_
  refine lv_istore_n (lv' := [(2, .int (mt.2.1 n.toNatClampNeg)), (0, .ref (w.2.2 0)), (1, .int n)]) hx hb dX5_laid_6 rfl hl (by decide) rfl (fun ls hl => ?_)
  refine lv_aload_n hx hb dX5_laid_7 rfl (lv_at hl 1 rfl) ?_
  refine va_get (D := w.1) (ci := 6) (v := .ref (w.2.2 10)) (C := RX5) (T := TX5) (N := 33) hx hb hts iw_X5_laid_X5 hown hK.1 hP 0 rfl rfl 11 (by decide) (hts _ fl_X5_laid_38) (fun _ h9 => h9) rfl dX5_laid_8 ?_
  refine lv_iload_n hx hb dX5_laid_11 rfl (lv_at hl 2 rfl) ?_
  have o3 := k2.1
  have k4 := k2.2
  refine va_zald hx hb hK.1 hP 10 2 rfl rfl o3 dX5_laid_12 ?_
  refine lv_if_eq (tgt := 29) hx hb dX5_laid_13 (by decide) (fun b5 => ?_) (fun b5 => ?_)
  ·
    have k6 := Eq.mp (if_pos b5) k4
    refine lv_iload_n hx hb dX5_laid_29 rfl (lv_at hl 0 rfl) ?_
    by_cases b7 : (mt.2.1 n.toNatClampNeg) = (1 : Int32)
    ·
      have k8 := Eq.mp (if_pos b7) k6
      refine xTabK (tgt := 96) (z := 1) hx hb dX5_laid_30 (by rw [b7]; decide) (by decide +kernel) ?_
      refine lv_aload_n hx hb dX5_laid_96 rfl (lv_at hl 1 rfl) ?_
      refine lv_iconst (v := 1) hx hb dX5_laid_97 (by decide) ?_
      refine lv_aload_n hx hb dX5_laid_98 rfl (lv_at hl 1 rfl) ?_
      refine va_get (D := w.1) (ci := 6) (v := .ref (w.2.2 7)) (C := RX5) (T := TX5) (N := 33) hx hb hts iw_X5_laid_X5 hown hK.1 hP 0 rfl rfl 8 (by decide) (hts _ fl_X5_laid_29) (fun _ h9 => h9) rfl dX5_laid_99 ?_
      refine lv_iload_n hx hb dX5_laid_102 rfl (lv_at hl 2 rfl) ?_
      have o9 := k8.1
      have k10 := k8.2
      refine va_iald hx hb hK.1 hP 7 0 rfl rfl o9 dX5_laid_103 ?_
      refine lv_i2l hx hb dX5_laid_104 rfl ?_
      refine lv_iconst (v := 0) hx hb dX5_laid_105 (by decide) ?_
      have o11 := k10.1
      have k12 := k10.2
      refine xM_v (va_runV (As := [.int (1 : Int32), .long ((mt.2.2.1 n.toNatClampNeg).toInt64), .int (0 : Int32)]) (rest := []) ⟨hx, hb, hml, hown, hts⟩ (c_X5_row l w hA me mb mc mt mk mr mq mv (1 : Int32) ((mt.2.2.1 n.toNatClampNeg).toInt64) (0 : Int32) o11) (cwV 3 hts gX5_laid_X5_row rfl rfl rfl dv_X5_row ⟨Nat.le_of_ble_eq_true rfl, Nat.le_of_ble_eq_true rfl⟩) (wPreV hP hK (ci := 6) (q0 := 0) rfl rfl) rfl rfl hl.1 rfl (lv_room (Nat.le_of_ble_eq_true rfl)) dX5_laid_106 ⟨Nat.zero_le _, Nat.zero_le _⟩) hS (fun H locs hP hS => ?_)
      have hP : va_P w.1 vwCl (wM w me mb mc mt mk (G_X5_row mr (1 : Int32) ((mt.2.2.1 n.toNatClampNeg).toInt64) (0 : Int32)) mq mv) H := hP
      refine lv_goto (tgt := 328) hx hb dX5_laid_109 (by decide) ?_
      have e9 : G_X5_laid mt mr mq n = (G_X5_row mr (1 : Int32) ((mt.2.2.1 n.toNatClampNeg).toInt64) (0 : Int32), mq) := Eq.trans (Eq.trans rfl (if_pos b5)) (if_pos b7)
      exact xM_vret hx hb hr hlk  hS  (by rw [e9]; exact hP) dX5_laid_328
    have k13 := Eq.mp (if_neg b7) k6
    by_cases b14 : (mt.2.1 n.toNatClampNeg) = (2 : Int32)
    ·
      have k15 := Eq.mp (if_pos b14) k13
      refine xTabK (tgt := 112) (z := 2) hx hb dX5_laid_30 (by rw [b14]; decide) (by decide +kernel) ?_
      refine lv_aload_n hx hb dX5_laid_112 rfl (lv_at hl 1 rfl) ?_
      refine lv_iconst (v := 2) hx hb dX5_laid_113 (by decide) ?_
      refine lv_iload_n hx hb dX5_laid_114 rfl (lv_at hl 0 rfl) ?_
      refine lv_aload_n hx hb dX5_laid_115 rfl (lv_at hl 1 rfl) ?_
      refine va_get (D := w.1) (ci := 6) (v := .ref (w.2.2 7)) (C := RX5) (T := TX5) (N := 33) hx hb hts iw_X5_laid_X5 hown hK.1 hP 0 rfl rfl 8 (by decide) (hts _ fl_X5_laid_29) (fun _ h9 => h9) rfl dX5_laid_116 ?_
      refine lv_iload_n hx hb dX5_laid_119 rfl (lv_at hl 2 rfl) ?_
      have o16 := k15.1
      have k17 := k15.2
      refine va_iald hx hb hK.1 hP 7 0 rfl rfl o16 dX5_laid_120 ?_
      refine lv_i2l hx hb dX5_laid_121 rfl ?_
      refine lv_iconst (v := 0) hx hb dX5_laid_122 (by decide) ?_
      have o18 := k17.1
      have k19 := k17.2
      refine xM_v (va_runV (As := [.int (2 : Int32), .int (mt.2.1 n.toNatClampNeg), .long ((mt.2.2.1 n.toNatClampNeg).toInt64), .int (0 : Int32)]) (rest := []) ⟨hx, hb, hml, hown, hts⟩ (c_X5_task l w hA me mb mc mt mk mr mq mv (2 : Int32) (mt.2.1 n.toNatClampNeg) ((mt.2.2.1 n.toNatClampNeg).toInt64) (0 : Int32) o18) (cwV 4 hts gX5_laid_X5_task rfl rfl rfl dv_X5_task ⟨Nat.le_of_ble_eq_true rfl, Nat.le_of_ble_eq_true rfl⟩) (wPreV hP hK (ci := 6) (q0 := 0) rfl rfl) rfl rfl hl.1 rfl (lv_room (Nat.le_of_ble_eq_true rfl)) dX5_laid_123 ⟨Nat.zero_le _, Nat.zero_le _⟩) hS (fun H locs hP hS => ?_)
      have hP : va_P w.1 vwCl (wM w me mb mc mt mk mr (G_X5_task mq (2 : Int32) (mt.2.1 n.toNatClampNeg) ((mt.2.2.1 n.toNatClampNeg).toInt64) (0 : Int32)) mv) H := hP
      refine lv_aload_n hx hb dX5_laid_126 rfl (lv_at hl 1 rfl) ?_
      refine lv_iconst (v := 0) hx hb dX5_laid_127 (by decide) ?_
      refine lv_iconst (v := 0) hx hb dX5_laid_128 (by decide) ?_
      refine lv_aload_n hx hb dX5_laid_129 rfl (lv_at hl 1 rfl) ?_
      refine va_get (D := w.1) (ci := 6) (v := .ref (w.2.2 8)) (C := RX5) (T := TX5) (N := 33) hx hb hts iw_X5_laid_X5 hown hK.1 hP 0 rfl rfl 9 (by decide) (hts _ fl_X5_laid_32) (fun _ h9 => h9) rfl dX5_laid_130 ?_
      refine lv_iload_n hx hb dX5_laid_133 rfl (lv_at hl 2 rfl) ?_
      have o20 := k19.1
      have k21 := k19.2
      refine va_iald hx hb hK.1 hP 8 0 rfl rfl o20 dX5_laid_134 ?_
      refine lv_i2l hx hb dX5_laid_135 rfl ?_
      refine lv_iconst (v := 0) hx hb dX5_laid_136 (by decide) ?_
      have o22 := k21.1
      have k23 := k21.2
      refine xM_v (va_runV (As := [.int (0 : Int32), .int (0 : Int32), .long ((mt.2.2.2.1 n.toNatClampNeg).toInt64), .int (0 : Int32)]) (rest := []) ⟨hx, hb, hml, hown, hts⟩ (c_X5_task l w hA me mb mc mt mk mr (G_X5_task mq (2 : Int32) (mt.2.1 n.toNatClampNeg) ((mt.2.2.1 n.toNatClampNeg).toInt64) (0 : Int32)) mv (0 : Int32) (0 : Int32) ((mt.2.2.2.1 n.toNatClampNeg).toInt64) (0 : Int32) o22) (cwV 4 hts gX5_laid_X5_task rfl rfl rfl dv_X5_task ⟨Nat.le_of_ble_eq_true rfl, Nat.le_of_ble_eq_true rfl⟩) (wPreV hP hK (ci := 6) (q0 := 0) rfl rfl) rfl rfl hl.1 rfl (lv_room (Nat.le_of_ble_eq_true rfl)) dX5_laid_137 ⟨Nat.zero_le _, Nat.zero_le _⟩) hS (fun H locs hP hS => ?_)
      have hP : va_P w.1 vwCl (wM w me mb mc mt mk mr (G_X5_task (G_X5_task mq (2 : Int32) (mt.2.1 n.toNatClampNeg) ((mt.2.2.1 n.toNatClampNeg).toInt64) (0 : Int32)) (0 : Int32) (0 : Int32) ((mt.2.2.2.1 n.toNatClampNeg).toInt64) (0 : Int32)) mv) H := hP
      refine lv_goto (tgt := 328) hx hb dX5_laid_140 (by decide) ?_
      have e9 : G_X5_laid mt mr mq n = (mr, G_X5_task (G_X5_task mq (2 : Int32) (mt.2.1 n.toNatClampNeg) ((mt.2.2.1 n.toNatClampNeg).toInt64) (0 : Int32)) (0 : Int32) (0 : Int32) ((mt.2.2.2.1 n.toNatClampNeg).toInt64) (0 : Int32)) := Eq.trans (Eq.trans (Eq.trans rfl (if_pos b5)) (if_neg b7)) (if_pos b14)
      exact xM_vret hx hb hr hlk  hS  (by rw [e9]; exact hP) dX5_laid_328
    have k24 := Eq.mp (if_neg b14) k13
    by_cases b25 : (mt.2.1 n.toNatClampNeg) = (9 : Int32)
    ·
      have k26 := Eq.mp (if_pos b25) k24
      refine xTabK (tgt := 112) (z := 9) hx hb dX5_laid_30 (by rw [b25]; decide) (by decide +kernel) ?_
      refine lv_aload_n hx hb dX5_laid_112 rfl (lv_at hl 1 rfl) ?_
      refine lv_iconst (v := 2) hx hb dX5_laid_113 (by decide) ?_
      refine lv_iload_n hx hb dX5_laid_114 rfl (lv_at hl 0 rfl) ?_
      refine lv_aload_n hx hb dX5_laid_115 rfl (lv_at hl 1 rfl) ?_
      refine va_get (D := w.1) (ci := 6) (v := .ref (w.2.2 7)) (C := RX5) (T := TX5) (N := 33) hx hb hts iw_X5_laid_X5 hown hK.1 hP 0 rfl rfl 8 (by decide) (hts _ fl_X5_laid_29) (fun _ h9 => h9) rfl dX5_laid_116 ?_
      refine lv_iload_n hx hb dX5_laid_119 rfl (lv_at hl 2 rfl) ?_
      have o27 := k26.1
      have k28 := k26.2
      refine va_iald hx hb hK.1 hP 7 0 rfl rfl o27 dX5_laid_120 ?_
      refine lv_i2l hx hb dX5_laid_121 rfl ?_
      refine lv_iconst (v := 0) hx hb dX5_laid_122 (by decide) ?_
      have o29 := k28.1
      have k30 := k28.2
      refine xM_v (va_runV (As := [.int (2 : Int32), .int (mt.2.1 n.toNatClampNeg), .long ((mt.2.2.1 n.toNatClampNeg).toInt64), .int (0 : Int32)]) (rest := []) ⟨hx, hb, hml, hown, hts⟩ (c_X5_task l w hA me mb mc mt mk mr mq mv (2 : Int32) (mt.2.1 n.toNatClampNeg) ((mt.2.2.1 n.toNatClampNeg).toInt64) (0 : Int32) o29) (cwV 4 hts gX5_laid_X5_task rfl rfl rfl dv_X5_task ⟨Nat.le_of_ble_eq_true rfl, Nat.le_of_ble_eq_true rfl⟩) (wPreV hP hK (ci := 6) (q0 := 0) rfl rfl) rfl rfl hl.1 rfl (lv_room (Nat.le_of_ble_eq_true rfl)) dX5_laid_123 ⟨Nat.zero_le _, Nat.zero_le _⟩) hS (fun H locs hP hS => ?_)
      have hP : va_P w.1 vwCl (wM w me mb mc mt mk mr (G_X5_task mq (2 : Int32) (mt.2.1 n.toNatClampNeg) ((mt.2.2.1 n.toNatClampNeg).toInt64) (0 : Int32)) mv) H := hP
      refine lv_aload_n hx hb dX5_laid_126 rfl (lv_at hl 1 rfl) ?_
      refine lv_iconst (v := 0) hx hb dX5_laid_127 (by decide) ?_
      refine lv_iconst (v := 0) hx hb dX5_laid_128 (by decide) ?_
      refine lv_aload_n hx hb dX5_laid_129 rfl (lv_at hl 1 rfl) ?_
      refine va_get (D := w.1) (ci := 6) (v := .ref (w.2.2 8)) (C := RX5) (T := TX5) (N := 33) hx hb hts iw_X5_laid_X5 hown hK.1 hP 0 rfl rfl 9 (by decide) (hts _ fl_X5_laid_32) (fun _ h9 => h9) rfl dX5_laid_130 ?_
      refine lv_iload_n hx hb dX5_laid_133 rfl (lv_at hl 2 rfl) ?_
      have o31 := k30.1
      have k32 := k30.2
      refine va_iald hx hb hK.1 hP 8 0 rfl rfl o31 dX5_laid_134 ?_
      refine lv_i2l hx hb dX5_laid_135 rfl ?_
      refine lv_iconst (v := 0) hx hb dX5_laid_136 (by decide) ?_
      have o33 := k32.1
      have k34 := k32.2
      refine xM_v (va_runV (As := [.int (0 : Int32), .int (0 : Int32), .long ((mt.2.2.2.1 n.toNatClampNeg).toInt64), .int (0 : Int32)]) (rest := []) ⟨hx, hb, hml, hown, hts⟩ (c_X5_task l w hA me mb mc mt mk mr (G_X5_task mq (2 : Int32) (mt.2.1 n.toNatClampNeg) ((mt.2.2.1 n.toNatClampNeg).toInt64) (0 : Int32)) mv (0 : Int32) (0 : Int32) ((mt.2.2.2.1 n.toNatClampNeg).toInt64) (0 : Int32) o33) (cwV 4 hts gX5_laid_X5_task rfl rfl rfl dv_X5_task ⟨Nat.le_of_ble_eq_true rfl, Nat.le_of_ble_eq_true rfl⟩) (wPreV hP hK (ci := 6) (q0 := 0) rfl rfl) rfl rfl hl.1 rfl (lv_room (Nat.le_of_ble_eq_true rfl)) dX5_laid_137 ⟨Nat.zero_le _, Nat.zero_le _⟩) hS (fun H locs hP hS => ?_)
      have hP : va_P w.1 vwCl (wM w me mb mc mt mk mr (G_X5_task (G_X5_task mq (2 : Int32) (mt.2.1 n.toNatClampNeg) ((mt.2.2.1 n.toNatClampNeg).toInt64) (0 : Int32)) (0 : Int32) (0 : Int32) ((mt.2.2.2.1 n.toNatClampNeg).toInt64) (0 : Int32)) mv) H := hP
      refine lv_goto (tgt := 328) hx hb dX5_laid_140 (by decide) ?_
      have e9 : G_X5_laid mt mr mq n = (mr, G_X5_task (G_X5_task mq (2 : Int32) (mt.2.1 n.toNatClampNeg) ((mt.2.2.1 n.toNatClampNeg).toInt64) (0 : Int32)) (0 : Int32) (0 : Int32) ((mt.2.2.2.1 n.toNatClampNeg).toInt64) (0 : Int32)) := Eq.trans (Eq.trans (Eq.trans (Eq.trans rfl (if_pos b5)) (if_neg b7)) (if_neg b14)) (if_pos b25)
      exact xM_vret hx hb hr hlk  hS  (by rw [e9]; exact hP) dX5_laid_328
    have k35 := Eq.mp (if_neg b25) k24
    by_cases b36 : (mt.2.1 n.toNatClampNeg) = (10 : Int32)
    ·
      have k37 := Eq.mp (if_pos b36) k35
      refine xTabK (tgt := 143) (z := 10) hx hb dX5_laid_30 (by rw [b36]; decide) (by decide +kernel) ?_
      refine lv_aload_n hx hb dX5_laid_143 rfl (lv_at hl 1 rfl) ?_
      refine lv_iconst (v := 2) hx hb dX5_laid_144 (by decide) ?_
      refine lv_bipush (v := 10) hx hb dX5_laid_145 (by decide) ?_
      refine lv_aload_n hx hb dX5_laid_147 rfl (lv_at hl 1 rfl) ?_
      refine va_get (D := w.1) (ci := 6) (v := .ref (w.2.2 7)) (C := RX5) (T := TX5) (N := 33) hx hb hts iw_X5_laid_X5 hown hK.1 hP 0 rfl rfl 8 (by decide) (hts _ fl_X5_laid_29) (fun _ h9 => h9) rfl dX5_laid_148 ?_
      refine lv_iload_n hx hb dX5_laid_151 rfl (lv_at hl 2 rfl) ?_
      have o38 := k37.1
      have k39 := k37.2
      refine va_iald hx hb hK.1 hP 7 0 rfl rfl o38 dX5_laid_152 ?_
      refine lv_i2l hx hb dX5_laid_153 rfl ?_
      refine lv_iconst (v := 0) hx hb dX5_laid_154 (by decide) ?_
      have o40 := k39.1
      have k41 := k39.2
      refine xM_v (va_runV (As := [.int (2 : Int32), .int (10 : Int32), .long ((mt.2.2.1 n.toNatClampNeg).toInt64), .int (0 : Int32)]) (rest := []) ⟨hx, hb, hml, hown, hts⟩ (c_X5_task l w hA me mb mc mt mk mr mq mv (2 : Int32) (10 : Int32) ((mt.2.2.1 n.toNatClampNeg).toInt64) (0 : Int32) o40) (cwV 4 hts gX5_laid_X5_task rfl rfl rfl dv_X5_task ⟨Nat.le_of_ble_eq_true rfl, Nat.le_of_ble_eq_true rfl⟩) (wPreV hP hK (ci := 6) (q0 := 0) rfl rfl) rfl rfl hl.1 rfl (lv_room (Nat.le_of_ble_eq_true rfl)) dX5_laid_155 ⟨Nat.zero_le _, Nat.zero_le _⟩) hS (fun H locs hP hS => ?_)
      have hP : va_P w.1 vwCl (wM w me mb mc mt mk mr (G_X5_task mq (2 : Int32) (10 : Int32) ((mt.2.2.1 n.toNatClampNeg).toInt64) (0 : Int32)) mv) H := hP
      refine lv_aload_n hx hb dX5_laid_158 rfl (lv_at hl 1 rfl) ?_
      refine lv_iconst (v := 0) hx hb dX5_laid_159 (by decide) ?_
      refine lv_iconst (v := 0) hx hb dX5_laid_160 (by decide) ?_
      refine lv_aload_n hx hb dX5_laid_161 rfl (lv_at hl 1 rfl) ?_
      refine va_get (D := w.1) (ci := 6) (v := .ref (w.2.2 8)) (C := RX5) (T := TX5) (N := 33) hx hb hts iw_X5_laid_X5 hown hK.1 hP 0 rfl rfl 9 (by decide) (hts _ fl_X5_laid_32) (fun _ h9 => h9) rfl dX5_laid_162 ?_
      refine lv_aload_n hx hb dX5_laid_165 rfl (lv_at hl 1 rfl) ?_
      refine va_get (D := w.1) (ci := 6) (v := .ref (w.2.2 8)) (C := RX5) (T := TX5) (N := 33) hx hb hts iw_X5_laid_X5 hown hK.1 hP 0 rfl rfl 9 (by decide) (hts _ fl_X5_laid_32) (fun _ h9 => h9) rfl dX5_laid_166 ?_
      refine lv_iload_n hx hb dX5_laid_169 rfl (lv_at hl 2 rfl) ?_
      have o42 := k41.1
      have k43 := k41.2
      refine va_iald hx hb hK.1 hP 8 0 rfl rfl o42 dX5_laid_170 ?_
      have o44 := k43.1
      have k45 := k43.2
      refine va_iald hx hb hK.1 hP 8 0 rfl rfl o44 dX5_laid_171 ?_
      refine lv_i2l hx hb dX5_laid_172 rfl ?_
      refine lv_iconst (v := 0) hx hb dX5_laid_173 (by decide) ?_
      have o46 := k45.1
      have k47 := k45.2
      refine xM_v (va_runV (As := [.int (0 : Int32), .int (0 : Int32), .long ((mt.2.2.2.1 (mt.2.2.2.1 n.toNatClampNeg).toNatClampNeg).toInt64), .int (0 : Int32)]) (rest := []) ⟨hx, hb, hml, hown, hts⟩ (c_X5_task l w hA me mb mc mt mk mr (G_X5_task mq (2 : Int32) (10 : Int32) ((mt.2.2.1 n.toNatClampNeg).toInt64) (0 : Int32)) mv (0 : Int32) (0 : Int32) ((mt.2.2.2.1 (mt.2.2.2.1 n.toNatClampNeg).toNatClampNeg).toInt64) (0 : Int32) o46) (cwV 4 hts gX5_laid_X5_task rfl rfl rfl dv_X5_task ⟨Nat.le_of_ble_eq_true rfl, Nat.le_of_ble_eq_true rfl⟩) (wPreV hP hK (ci := 6) (q0 := 0) rfl rfl) rfl rfl hl.1 rfl (lv_room (Nat.le_of_ble_eq_true rfl)) dX5_laid_174 ⟨Nat.zero_le _, Nat.zero_le _⟩) hS (fun H locs hP hS => ?_)
      have hP : va_P w.1 vwCl (wM w me mb mc mt mk mr (G_X5_task (G_X5_task mq (2 : Int32) (10 : Int32) ((mt.2.2.1 n.toNatClampNeg).toInt64) (0 : Int32)) (0 : Int32) (0 : Int32) ((mt.2.2.2.1 (mt.2.2.2.1 n.toNatClampNeg).toNatClampNeg).toInt64) (0 : Int32)) mv) H := hP
      refine lv_aload_n hx hb dX5_laid_177 rfl (lv_at hl 1 rfl) ?_
      refine lv_iconst (v := 0) hx hb dX5_laid_178 (by decide) ?_
      refine lv_iconst (v := 0) hx hb dX5_laid_179 (by decide) ?_
      refine lv_aload_n hx hb dX5_laid_180 rfl (lv_at hl 1 rfl) ?_
      refine va_get (D := w.1) (ci := 6) (v := .ref (w.2.2 7)) (C := RX5) (T := TX5) (N := 33) hx hb hts iw_X5_laid_X5 hown hK.1 hP 0 rfl rfl 8 (by decide) (hts _ fl_X5_laid_29) (fun _ h9 => h9) rfl dX5_laid_181 ?_
      refine lv_aload_n hx hb dX5_laid_184 rfl (lv_at hl 1 rfl) ?_
      refine va_get (D := w.1) (ci := 6) (v := .ref (w.2.2 8)) (C := RX5) (T := TX5) (N := 33) hx hb hts iw_X5_laid_X5 hown hK.1 hP 0 rfl rfl 9 (by decide) (hts _ fl_X5_laid_32) (fun _ h9 => h9) rfl dX5_laid_185 ?_
      refine lv_iload_n hx hb dX5_laid_188 rfl (lv_at hl 2 rfl) ?_
      have o48 := k47.1
      have k49 := k47.2
      refine va_iald hx hb hK.1 hP 8 0 rfl rfl o48 dX5_laid_189 ?_
      have o50 := k49.1
      have k51 := k49.2
      refine va_iald hx hb hK.1 hP 7 0 rfl rfl o50 dX5_laid_190 ?_
      refine lv_i2l hx hb dX5_laid_191 rfl ?_
      refine lv_iconst (v := 0) hx hb dX5_laid_192 (by decide) ?_
      have o52 := k51.1
      have k53 := k51.2
      refine xM_v (va_runV (As := [.int (0 : Int32), .int (0 : Int32), .long ((mt.2.2.1 (mt.2.2.2.1 n.toNatClampNeg).toNatClampNeg).toInt64), .int (0 : Int32)]) (rest := []) ⟨hx, hb, hml, hown, hts⟩ (c_X5_task l w hA me mb mc mt mk mr (G_X5_task (G_X5_task mq (2 : Int32) (10 : Int32) ((mt.2.2.1 n.toNatClampNeg).toInt64) (0 : Int32)) (0 : Int32) (0 : Int32) ((mt.2.2.2.1 (mt.2.2.2.1 n.toNatClampNeg).toNatClampNeg).toInt64) (0 : Int32)) mv (0 : Int32) (0 : Int32) ((mt.2.2.1 (mt.2.2.2.1 n.toNatClampNeg).toNatClampNeg).toInt64) (0 : Int32) o52) (cwV 4 hts gX5_laid_X5_task rfl rfl rfl dv_X5_task ⟨Nat.le_of_ble_eq_true rfl, Nat.le_of_ble_eq_true rfl⟩) (wPreV hP hK (ci := 6) (q0 := 0) rfl rfl) rfl rfl hl.1 rfl (lv_room (Nat.le_of_ble_eq_true rfl)) dX5_laid_193 ⟨Nat.zero_le _, Nat.zero_le _⟩) hS (fun H locs hP hS => ?_)
      have hP : va_P w.1 vwCl (wM w me mb mc mt mk mr (G_X5_task (G_X5_task (G_X5_task mq (2 : Int32) (10 : Int32) ((mt.2.2.1 n.toNatClampNeg).toInt64) (0 : Int32)) (0 : Int32) (0 : Int32) ((mt.2.2.2.1 (mt.2.2.2.1 n.toNatClampNeg).toNatClampNeg).toInt64) (0 : Int32)) (0 : Int32) (0 : Int32) ((mt.2.2.1 (mt.2.2.2.1 n.toNatClampNeg).toNatClampNeg).toInt64) (0 : Int32)) mv) H := hP
      refine lv_goto (tgt := 328) hx hb dX5_laid_196 (by decide) ?_
      have e9 : G_X5_laid mt mr mq n = (mr, G_X5_task (G_X5_task (G_X5_task mq (2 : Int32) (10 : Int32) ((mt.2.2.1 n.toNatClampNeg).toInt64) (0 : Int32)) (0 : Int32) (0 : Int32) ((mt.2.2.2.1 (mt.2.2.2.1 n.toNatClampNeg).toNatClampNeg).toInt64) (0 : Int32)) (0 : Int32) (0 : Int32) ((mt.2.2.1 (mt.2.2.2.1 n.toNatClampNeg).toNatClampNeg).toInt64) (0 : Int32)) := Eq.trans (Eq.trans (Eq.trans (Eq.trans (Eq.trans rfl (if_pos b5)) (if_neg b7)) (if_neg b14)) (if_neg b25)) (if_pos b36)
      exact xM_vret hx hb hr hlk  hS  (by rw [e9]; exact hP) dX5_laid_328
    have k54 := Eq.mp (if_neg b36) k35
    by_cases b55 : (mt.2.1 n.toNatClampNeg) = (11 : Int32)
    ·
      have k56 := Eq.mp (if_pos b55) k54
      refine xTabK (tgt := 199) (z := 11) hx hb dX5_laid_30 (by rw [b55]; decide) (by decide +kernel) ?_
      refine lv_aload_n hx hb dX5_laid_199 rfl (lv_at hl 1 rfl) ?_
      refine lv_iconst (v := 1) hx hb dX5_laid_200 (by decide) ?_
      refine lv_iconst (v := 0) hx hb dX5_laid_201 (by decide) ?_
      refine lv_aload_n hx hb dX5_laid_202 rfl (lv_at hl 1 rfl) ?_
      refine va_get (D := w.1) (ci := 6) (v := .ref (w.2.2 8)) (C := RX5) (T := TX5) (N := 33) hx hb hts iw_X5_laid_X5 hown hK.1 hP 0 rfl rfl 9 (by decide) (hts _ fl_X5_laid_32) (fun _ h9 => h9) rfl dX5_laid_203 ?_
      refine lv_iload_n hx hb dX5_laid_206 rfl (lv_at hl 2 rfl) ?_
      have o57 := k56.1
      have k58 := k56.2
      refine va_iald hx hb hK.1 hP 8 0 rfl rfl o57 dX5_laid_207 ?_
      refine lv_i2l hx hb dX5_laid_208 rfl ?_
      refine lv_iconst (v := 0) hx hb dX5_laid_209 (by decide) ?_
      have o59 := k58.1
      have k60 := k58.2
      refine xM_v (va_runV (As := [.int (1 : Int32), .int (0 : Int32), .long ((mt.2.2.2.1 n.toNatClampNeg).toInt64), .int (0 : Int32)]) (rest := []) ⟨hx, hb, hml, hown, hts⟩ (c_X5_task l w hA me mb mc mt mk mr mq mv (1 : Int32) (0 : Int32) ((mt.2.2.2.1 n.toNatClampNeg).toInt64) (0 : Int32) o59) (cwV 4 hts gX5_laid_X5_task rfl rfl rfl dv_X5_task ⟨Nat.le_of_ble_eq_true rfl, Nat.le_of_ble_eq_true rfl⟩) (wPreV hP hK (ci := 6) (q0 := 0) rfl rfl) rfl rfl hl.1 rfl (lv_room (Nat.le_of_ble_eq_true rfl)) dX5_laid_210 ⟨Nat.zero_le _, Nat.zero_le _⟩) hS (fun H locs hP hS => ?_)
      have hP : va_P w.1 vwCl (wM w me mb mc mt mk mr (G_X5_task mq (1 : Int32) (0 : Int32) ((mt.2.2.2.1 n.toNatClampNeg).toInt64) (0 : Int32)) mv) H := hP
      refine lv_aload_n hx hb dX5_laid_213 rfl (lv_at hl 1 rfl) ?_
      refine lv_iconst (v := 1) hx hb dX5_laid_214 (by decide) ?_
      refine lv_iconst (v := 0) hx hb dX5_laid_215 (by decide) ?_
      refine lv_aload_n hx hb dX5_laid_216 rfl (lv_at hl 1 rfl) ?_
      refine va_get (D := w.1) (ci := 6) (v := .ref (w.2.2 7)) (C := RX5) (T := TX5) (N := 33) hx hb hts iw_X5_laid_X5 hown hK.1 hP 0 rfl rfl 8 (by decide) (hts _ fl_X5_laid_29) (fun _ h9 => h9) rfl dX5_laid_217 ?_
      refine lv_iload_n hx hb dX5_laid_220 rfl (lv_at hl 2 rfl) ?_
      have o61 := k60.1
      have k62 := k60.2
      refine va_iald hx hb hK.1 hP 7 0 rfl rfl o61 dX5_laid_221 ?_
      refine lv_i2l hx hb dX5_laid_222 rfl ?_
      refine lv_iconst (v := 0) hx hb dX5_laid_223 (by decide) ?_
      have o63 := k62.1
      have k64 := k62.2
      refine xM_v (va_runV (As := [.int (1 : Int32), .int (0 : Int32), .long ((mt.2.2.1 n.toNatClampNeg).toInt64), .int (0 : Int32)]) (rest := []) ⟨hx, hb, hml, hown, hts⟩ (c_X5_task l w hA me mb mc mt mk mr (G_X5_task mq (1 : Int32) (0 : Int32) ((mt.2.2.2.1 n.toNatClampNeg).toInt64) (0 : Int32)) mv (1 : Int32) (0 : Int32) ((mt.2.2.1 n.toNatClampNeg).toInt64) (0 : Int32) o63) (cwV 4 hts gX5_laid_X5_task rfl rfl rfl dv_X5_task ⟨Nat.le_of_ble_eq_true rfl, Nat.le_of_ble_eq_true rfl⟩) (wPreV hP hK (ci := 6) (q0 := 0) rfl rfl) rfl rfl hl.1 rfl (lv_room (Nat.le_of_ble_eq_true rfl)) dX5_laid_224 ⟨Nat.zero_le _, Nat.zero_le _⟩) hS (fun H locs hP hS => ?_)
      have hP : va_P w.1 vwCl (wM w me mb mc mt mk mr (G_X5_task (G_X5_task mq (1 : Int32) (0 : Int32) ((mt.2.2.2.1 n.toNatClampNeg).toInt64) (0 : Int32)) (1 : Int32) (0 : Int32) ((mt.2.2.1 n.toNatClampNeg).toInt64) (0 : Int32)) mv) H := hP
      refine lv_goto (tgt := 328) hx hb dX5_laid_227 (by decide) ?_
      have e9 : G_X5_laid mt mr mq n = (mr, G_X5_task (G_X5_task mq (1 : Int32) (0 : Int32) ((mt.2.2.2.1 n.toNatClampNeg).toInt64) (0 : Int32)) (1 : Int32) (0 : Int32) ((mt.2.2.1 n.toNatClampNeg).toInt64) (0 : Int32)) := Eq.trans (Eq.trans (Eq.trans (Eq.trans (Eq.trans (Eq.trans rfl (if_pos b5)) (if_neg b7)) (if_neg b14)) (if_neg b25)) (if_neg b36)) (if_pos b55)
      exact xM_vret hx hb hr hlk  hS  (by rw [e9]; exact hP) dX5_laid_328
    have k65 := Eq.mp (if_neg b55) k54
    by_cases b66 : (mt.2.1 n.toNatClampNeg) = (12 : Int32)
    ·
      have k67 := Eq.mp (if_pos b66) k65
      refine xTabK (tgt := 230) (z := 12) hx hb dX5_laid_30 (by rw [b66]; decide) (by decide +kernel) ?_
      refine lv_aload_n hx hb dX5_laid_230 rfl (lv_at hl 1 rfl) ?_
      refine lv_iload_n hx hb dX5_laid_231 rfl (lv_at hl 0 rfl) ?_
      refine lv_bipush (v := 12) hx hb dX5_laid_232 (by decide) ?_
      refine lv_icmp_ne (tgt := 241) hx hb dX5_laid_234 (by decide) (fun b68 => ?_) (fun b68 => ?_)
      ·
        have k69 := Eq.mp (if_neg b68) k67
        refine lv_iconst (v := 5) hx hb dX5_laid_241 (by decide) ?_
        refine lv_iconst (v := 0) hx hb dX5_laid_242 (by decide) ?_
        refine lv_lconst (v := 0) hx hb dX5_laid_243 (by decide) ?_
        refine lv_iconst (v := 0) hx hb dX5_laid_244 (by decide) ?_
        have o70 := k69.1
        have k71 := k69.2
        refine xM_v (va_runV (As := [.int (5 : Int32), .int (0 : Int32), .long (0 : Int64), .int (0 : Int32)]) (rest := []) ⟨hx, hb, hml, hown, hts⟩ (c_X5_task l w hA me mb mc mt mk mr mq mv (5 : Int32) (0 : Int32) (0 : Int64) (0 : Int32) o70) (cwV 4 hts gX5_laid_X5_task rfl rfl rfl dv_X5_task ⟨Nat.le_of_ble_eq_true rfl, Nat.le_of_ble_eq_true rfl⟩) (wPreV hP hK (ci := 6) (q0 := 0) rfl rfl) rfl rfl hl.1 rfl (lv_room (Nat.le_of_ble_eq_true rfl)) dX5_laid_245 ⟨Nat.zero_le _, Nat.zero_le _⟩) hS (fun H locs hP hS => ?_)
        have hP : va_P w.1 vwCl (wM w me mb mc mt mk mr (G_X5_task mq (5 : Int32) (0 : Int32) (0 : Int64) (0 : Int32)) mv) H := hP
        refine lv_aload_n hx hb dX5_laid_248 rfl (lv_at hl 1 rfl) ?_
        refine lv_iconst (v := 1) hx hb dX5_laid_249 (by decide) ?_
        refine lv_iconst (v := 0) hx hb dX5_laid_250 (by decide) ?_
        refine lv_aload_n hx hb dX5_laid_251 rfl (lv_at hl 1 rfl) ?_
        refine va_get (D := w.1) (ci := 6) (v := .ref (w.2.2 8)) (C := RX5) (T := TX5) (N := 33) hx hb hts iw_X5_laid_X5 hown hK.1 hP 0 rfl rfl 9 (by decide) (hts _ fl_X5_laid_32) (fun _ h9 => h9) rfl dX5_laid_252 ?_
        refine lv_iload_n hx hb dX5_laid_255 rfl (lv_at hl 2 rfl) ?_
        have o72 := k71.1
        have k73 := k71.2
        refine va_iald hx hb hK.1 hP 8 0 rfl rfl o72 dX5_laid_256 ?_
        refine lv_i2l hx hb dX5_laid_257 rfl ?_
        refine lv_iconst (v := 0) hx hb dX5_laid_258 (by decide) ?_
        have o74 := k73.1
        have k75 := k73.2
        refine xM_v (va_runV (As := [.int (1 : Int32), .int (0 : Int32), .long ((mt.2.2.2.1 n.toNatClampNeg).toInt64), .int (0 : Int32)]) (rest := []) ⟨hx, hb, hml, hown, hts⟩ (c_X5_task l w hA me mb mc mt mk mr (G_X5_task mq (5 : Int32) (0 : Int32) (0 : Int64) (0 : Int32)) mv (1 : Int32) (0 : Int32) ((mt.2.2.2.1 n.toNatClampNeg).toInt64) (0 : Int32) o74) (cwV 4 hts gX5_laid_X5_task rfl rfl rfl dv_X5_task ⟨Nat.le_of_ble_eq_true rfl, Nat.le_of_ble_eq_true rfl⟩) (wPreV hP hK (ci := 6) (q0 := 0) rfl rfl) rfl rfl hl.1 rfl (lv_room (Nat.le_of_ble_eq_true rfl)) dX5_laid_259 ⟨Nat.zero_le _, Nat.zero_le _⟩) hS (fun H locs hP hS => ?_)
        have hP : va_P w.1 vwCl (wM w me mb mc mt mk mr (G_X5_task (G_X5_task mq (5 : Int32) (0 : Int32) (0 : Int64) (0 : Int32)) (1 : Int32) (0 : Int32) ((mt.2.2.2.1 n.toNatClampNeg).toInt64) (0 : Int32)) mv) H := hP
        refine lv_aload_n hx hb dX5_laid_262 rfl (lv_at hl 1 rfl) ?_
        refine lv_iconst (v := 3) hx hb dX5_laid_263 (by decide) ?_
        refine lv_iload_n hx hb dX5_laid_264 rfl (lv_at hl 0 rfl) ?_
        refine lv_lconst (v := 0) hx hb dX5_laid_265 (by decide) ?_
        refine lv_iconst (v := 0) hx hb dX5_laid_266 (by decide) ?_
        have o76 := k75.1
        have k77 := k75.2
        refine xM_v (va_runV (As := [.int (3 : Int32), .int (mt.2.1 n.toNatClampNeg), .long (0 : Int64), .int (0 : Int32)]) (rest := []) ⟨hx, hb, hml, hown, hts⟩ (c_X5_task l w hA me mb mc mt mk mr (G_X5_task (G_X5_task mq (5 : Int32) (0 : Int32) (0 : Int64) (0 : Int32)) (1 : Int32) (0 : Int32) ((mt.2.2.2.1 n.toNatClampNeg).toInt64) (0 : Int32)) mv (3 : Int32) (mt.2.1 n.toNatClampNeg) (0 : Int64) (0 : Int32) o76) (cwV 4 hts gX5_laid_X5_task rfl rfl rfl dv_X5_task ⟨Nat.le_of_ble_eq_true rfl, Nat.le_of_ble_eq_true rfl⟩) (wPreV hP hK (ci := 6) (q0 := 0) rfl rfl) rfl rfl hl.1 rfl (lv_room (Nat.le_of_ble_eq_true rfl)) dX5_laid_267 ⟨Nat.zero_le _, Nat.zero_le _⟩) hS (fun H locs hP hS => ?_)
        have hP : va_P w.1 vwCl (wM w me mb mc mt mk mr (G_X5_task (G_X5_task (G_X5_task mq (5 : Int32) (0 : Int32) (0 : Int64) (0 : Int32)) (1 : Int32) (0 : Int32) ((mt.2.2.2.1 n.toNatClampNeg).toInt64) (0 : Int32)) (3 : Int32) (mt.2.1 n.toNatClampNeg) (0 : Int64) (0 : Int32)) mv) H := hP
        refine lv_aload_n hx hb dX5_laid_270 rfl (lv_at hl 1 rfl) ?_
        refine lv_iconst (v := 0) hx hb dX5_laid_271 (by decide) ?_
        refine lv_iconst (v := 0) hx hb dX5_laid_272 (by decide) ?_
        refine lv_aload_n hx hb dX5_laid_273 rfl (lv_at hl 1 rfl) ?_
        refine va_get (D := w.1) (ci := 6) (v := .ref (w.2.2 7)) (C := RX5) (T := TX5) (N := 33) hx hb hts iw_X5_laid_X5 hown hK.1 hP 0 rfl rfl 8 (by decide) (hts _ fl_X5_laid_29) (fun _ h9 => h9) rfl dX5_laid_274 ?_
        refine lv_iload_n hx hb dX5_laid_277 rfl (lv_at hl 2 rfl) ?_
        have o78 := k77.1
        have k79 := k77.2
        refine va_iald hx hb hK.1 hP 7 0 rfl rfl o78 dX5_laid_278 ?_
        refine lv_i2l hx hb dX5_laid_279 rfl ?_
        refine lv_iconst (v := 0) hx hb dX5_laid_280 (by decide) ?_
        have o80 := k79.1
        have k81 := k79.2
        refine xM_v (va_runV (As := [.int (0 : Int32), .int (0 : Int32), .long ((mt.2.2.1 n.toNatClampNeg).toInt64), .int (0 : Int32)]) (rest := []) ⟨hx, hb, hml, hown, hts⟩ (c_X5_task l w hA me mb mc mt mk mr (G_X5_task (G_X5_task (G_X5_task mq (5 : Int32) (0 : Int32) (0 : Int64) (0 : Int32)) (1 : Int32) (0 : Int32) ((mt.2.2.2.1 n.toNatClampNeg).toInt64) (0 : Int32)) (3 : Int32) (mt.2.1 n.toNatClampNeg) (0 : Int64) (0 : Int32)) mv (0 : Int32) (0 : Int32) ((mt.2.2.1 n.toNatClampNeg).toInt64) (0 : Int32) o80) (cwV 4 hts gX5_laid_X5_task rfl rfl rfl dv_X5_task ⟨Nat.le_of_ble_eq_true rfl, Nat.le_of_ble_eq_true rfl⟩) (wPreV hP hK (ci := 6) (q0 := 0) rfl rfl) rfl rfl hl.1 rfl (lv_room (Nat.le_of_ble_eq_true rfl)) dX5_laid_281 ⟨Nat.zero_le _, Nat.zero_le _⟩) hS (fun H locs hP hS => ?_)
        have hP : va_P w.1 vwCl (wM w me mb mc mt mk mr (G_X5_task (G_X5_task (G_X5_task (G_X5_task mq (5 : Int32) (0 : Int32) (0 : Int64) (0 : Int32)) (1 : Int32) (0 : Int32) ((mt.2.2.2.1 n.toNatClampNeg).toInt64) (0 : Int32)) (3 : Int32) (mt.2.1 n.toNatClampNeg) (0 : Int64) (0 : Int32)) (0 : Int32) (0 : Int32) ((mt.2.2.1 n.toNatClampNeg).toInt64) (0 : Int32)) mv) H := hP
        refine lv_goto (tgt := 328) hx hb dX5_laid_284 (by decide) ?_
        have e9 : G_X5_laid mt mr mq n = (mr, G_X5_task (G_X5_task (G_X5_task (G_X5_task mq (5 : Int32) (0 : Int32) (0 : Int64) (0 : Int32)) (1 : Int32) (0 : Int32) ((mt.2.2.2.1 n.toNatClampNeg).toInt64) (0 : Int32)) (3 : Int32) (mt.2.1 n.toNatClampNeg) (0 : Int64) (0 : Int32)) (0 : Int32) (0 : Int32) ((mt.2.2.1 n.toNatClampNeg).toInt64) (0 : Int32)) := Eq.trans (Eq.trans (Eq.trans (Eq.trans (Eq.trans (Eq.trans (Eq.trans (Eq.trans rfl (if_pos b5)) (if_neg b7)) (if_neg b14)) (if_neg b25)) (if_neg b36)) (if_neg b55)) (if_pos b66)) (if_neg b68)
        exact xM_vret hx hb hr hlk  hS  (by rw [e9]; exact hP) dX5_laid_328
      ·
        have k82 := Eq.mp (if_pos b68) k67
        refine lv_iconst (v := 4) hx hb dX5_laid_237 (by decide) ?_
        refine lv_goto (tgt := 242) hx hb dX5_laid_238 (by decide) ?_
        refine lv_iconst (v := 0) hx hb dX5_laid_242 (by decide) ?_
        refine lv_lconst (v := 0) hx hb dX5_laid_243 (by decide) ?_
        refine lv_iconst (v := 0) hx hb dX5_laid_244 (by decide) ?_
        have o83 := k82.1
        have k84 := k82.2
        refine xM_v (va_runV (As := [.int (4 : Int32), .int (0 : Int32), .long (0 : Int64), .int (0 : Int32)]) (rest := []) ⟨hx, hb, hml, hown, hts⟩ (c_X5_task l w hA me mb mc mt mk mr mq mv (4 : Int32) (0 : Int32) (0 : Int64) (0 : Int32) o83) (cwV 4 hts gX5_laid_X5_task rfl rfl rfl dv_X5_task ⟨Nat.le_of_ble_eq_true rfl, Nat.le_of_ble_eq_true rfl⟩) (wPreV hP hK (ci := 6) (q0 := 0) rfl rfl) rfl rfl hl.1 rfl (lv_room (Nat.le_of_ble_eq_true rfl)) dX5_laid_245 ⟨Nat.zero_le _, Nat.zero_le _⟩) hS (fun H locs hP hS => ?_)
        have hP : va_P w.1 vwCl (wM w me mb mc mt mk mr (G_X5_task mq (4 : Int32) (0 : Int32) (0 : Int64) (0 : Int32)) mv) H := hP
        refine lv_aload_n hx hb dX5_laid_248 rfl (lv_at hl 1 rfl) ?_
        refine lv_iconst (v := 1) hx hb dX5_laid_249 (by decide) ?_
        refine lv_iconst (v := 0) hx hb dX5_laid_250 (by decide) ?_
        refine lv_aload_n hx hb dX5_laid_251 rfl (lv_at hl 1 rfl) ?_
        refine va_get (D := w.1) (ci := 6) (v := .ref (w.2.2 8)) (C := RX5) (T := TX5) (N := 33) hx hb hts iw_X5_laid_X5 hown hK.1 hP 0 rfl rfl 9 (by decide) (hts _ fl_X5_laid_32) (fun _ h9 => h9) rfl dX5_laid_252 ?_
        refine lv_iload_n hx hb dX5_laid_255 rfl (lv_at hl 2 rfl) ?_
        have o85 := k84.1
        have k86 := k84.2
        refine va_iald hx hb hK.1 hP 8 0 rfl rfl o85 dX5_laid_256 ?_
        refine lv_i2l hx hb dX5_laid_257 rfl ?_
        refine lv_iconst (v := 0) hx hb dX5_laid_258 (by decide) ?_
        have o87 := k86.1
        have k88 := k86.2
        refine xM_v (va_runV (As := [.int (1 : Int32), .int (0 : Int32), .long ((mt.2.2.2.1 n.toNatClampNeg).toInt64), .int (0 : Int32)]) (rest := []) ⟨hx, hb, hml, hown, hts⟩ (c_X5_task l w hA me mb mc mt mk mr (G_X5_task mq (4 : Int32) (0 : Int32) (0 : Int64) (0 : Int32)) mv (1 : Int32) (0 : Int32) ((mt.2.2.2.1 n.toNatClampNeg).toInt64) (0 : Int32) o87) (cwV 4 hts gX5_laid_X5_task rfl rfl rfl dv_X5_task ⟨Nat.le_of_ble_eq_true rfl, Nat.le_of_ble_eq_true rfl⟩) (wPreV hP hK (ci := 6) (q0 := 0) rfl rfl) rfl rfl hl.1 rfl (lv_room (Nat.le_of_ble_eq_true rfl)) dX5_laid_259 ⟨Nat.zero_le _, Nat.zero_le _⟩) hS (fun H locs hP hS => ?_)
        have hP : va_P w.1 vwCl (wM w me mb mc mt mk mr (G_X5_task (G_X5_task mq (4 : Int32) (0 : Int32) (0 : Int64) (0 : Int32)) (1 : Int32) (0 : Int32) ((mt.2.2.2.1 n.toNatClampNeg).toInt64) (0 : Int32)) mv) H := hP
        refine lv_aload_n hx hb dX5_laid_262 rfl (lv_at hl 1 rfl) ?_
        refine lv_iconst (v := 3) hx hb dX5_laid_263 (by decide) ?_
        refine lv_iload_n hx hb dX5_laid_264 rfl (lv_at hl 0 rfl) ?_
        refine lv_lconst (v := 0) hx hb dX5_laid_265 (by decide) ?_
        refine lv_iconst (v := 0) hx hb dX5_laid_266 (by decide) ?_
        have o89 := k88.1
        have k90 := k88.2
        refine xM_v (va_runV (As := [.int (3 : Int32), .int (mt.2.1 n.toNatClampNeg), .long (0 : Int64), .int (0 : Int32)]) (rest := []) ⟨hx, hb, hml, hown, hts⟩ (c_X5_task l w hA me mb mc mt mk mr (G_X5_task (G_X5_task mq (4 : Int32) (0 : Int32) (0 : Int64) (0 : Int32)) (1 : Int32) (0 : Int32) ((mt.2.2.2.1 n.toNatClampNeg).toInt64) (0 : Int32)) mv (3 : Int32) (mt.2.1 n.toNatClampNeg) (0 : Int64) (0 : Int32) o89) (cwV 4 hts gX5_laid_X5_task rfl rfl rfl dv_X5_task ⟨Nat.le_of_ble_eq_true rfl, Nat.le_of_ble_eq_true rfl⟩) (wPreV hP hK (ci := 6) (q0 := 0) rfl rfl) rfl rfl hl.1 rfl (lv_room (Nat.le_of_ble_eq_true rfl)) dX5_laid_267 ⟨Nat.zero_le _, Nat.zero_le _⟩) hS (fun H locs hP hS => ?_)
        have hP : va_P w.1 vwCl (wM w me mb mc mt mk mr (G_X5_task (G_X5_task (G_X5_task mq (4 : Int32) (0 : Int32) (0 : Int64) (0 : Int32)) (1 : Int32) (0 : Int32) ((mt.2.2.2.1 n.toNatClampNeg).toInt64) (0 : Int32)) (3 : Int32) (mt.2.1 n.toNatClampNeg) (0 : Int64) (0 : Int32)) mv) H := hP
        refine lv_aload_n hx hb dX5_laid_270 rfl (lv_at hl 1 rfl) ?_
        refine lv_iconst (v := 0) hx hb dX5_laid_271 (by decide) ?_
        refine lv_iconst (v := 0) hx hb dX5_laid_272 (by decide) ?_
        refine lv_aload_n hx hb dX5_laid_273 rfl (lv_at hl 1 rfl) ?_
        refine va_get (D := w.1) (ci := 6) (v := .ref (w.2.2 7)) (C := RX5) (T := TX5) (N := 33) hx hb hts iw_X5_laid_X5 hown hK.1 hP 0 rfl rfl 8 (by decide) (hts _ fl_X5_laid_29) (fun _ h9 => h9) rfl dX5_laid_274 ?_
        refine lv_iload_n hx hb dX5_laid_277 rfl (lv_at hl 2 rfl) ?_
        have o91 := k90.1
        have k92 := k90.2
        refine va_iald hx hb hK.1 hP 7 0 rfl rfl o91 dX5_laid_278 ?_
        refine lv_i2l hx hb dX5_laid_279 rfl ?_
        refine lv_iconst (v := 0) hx hb dX5_laid_280 (by decide) ?_
        have o93 := k92.1
        have k94 := k92.2
        refine xM_v (va_runV (As := [.int (0 : Int32), .int (0 : Int32), .long ((mt.2.2.1 n.toNatClampNeg).toInt64), .int (0 : Int32)]) (rest := []) ⟨hx, hb, hml, hown, hts⟩ (c_X5_task l w hA me mb mc mt mk mr (G_X5_task (G_X5_task (G_X5_task mq (4 : Int32) (0 : Int32) (0 : Int64) (0 : Int32)) (1 : Int32) (0 : Int32) ((mt.2.2.2.1 n.toNatClampNeg).toInt64) (0 : Int32)) (3 : Int32) (mt.2.1 n.toNatClampNeg) (0 : Int64) (0 : Int32)) mv (0 : Int32) (0 : Int32) ((mt.2.2.1 n.toNatClampNeg).toInt64) (0 : Int32) o93) (cwV 4 hts gX5_laid_X5_task rfl rfl rfl dv_X5_task ⟨Nat.le_of_ble_eq_true rfl, Nat.le_of_ble_eq_true rfl⟩) (wPreV hP hK (ci := 6) (q0 := 0) rfl rfl) rfl rfl hl.1 rfl (lv_room (Nat.le_of_ble_eq_true rfl)) dX5_laid_281 ⟨Nat.zero_le _, Nat.zero_le _⟩) hS (fun H locs hP hS => ?_)
        have hP : va_P w.1 vwCl (wM w me mb mc mt mk mr (G_X5_task (G_X5_task (G_X5_task (G_X5_task mq (4 : Int32) (0 : Int32) (0 : Int64) (0 : Int32)) (1 : Int32) (0 : Int32) ((mt.2.2.2.1 n.toNatClampNeg).toInt64) (0 : Int32)) (3 : Int32) (mt.2.1 n.toNatClampNeg) (0 : Int64) (0 : Int32)) (0 : Int32) (0 : Int32) ((mt.2.2.1 n.toNatClampNeg).toInt64) (0 : Int32)) mv) H := hP
        refine lv_goto (tgt := 328) hx hb dX5_laid_284 (by decide) ?_
        have e9 : G_X5_laid mt mr mq n = (mr, G_X5_task (G_X5_task (G_X5_task (G_X5_task mq (4 : Int32) (0 : Int32) (0 : Int64) (0 : Int32)) (1 : Int32) (0 : Int32) ((mt.2.2.2.1 n.toNatClampNeg).toInt64) (0 : Int32)) (3 : Int32) (mt.2.1 n.toNatClampNeg) (0 : Int64) (0 : Int32)) (0 : Int32) (0 : Int32) ((mt.2.2.1 n.toNatClampNeg).toInt64) (0 : Int32)) := Eq.trans (Eq.trans (Eq.trans (Eq.trans (Eq.trans (Eq.trans (Eq.trans (Eq.trans rfl (if_pos b5)) (if_neg b7)) (if_neg b14)) (if_neg b25)) (if_neg b36)) (if_neg b55)) (if_pos b66)) (if_pos b68)
        exact xM_vret hx hb hr hlk  hS  (by rw [e9]; exact hP) dX5_laid_328
    have k95 := Eq.mp (if_neg b66) k65
    by_cases b96 : (mt.2.1 n.toNatClampNeg) = (13 : Int32)
    ·
      have k97 := Eq.mp (if_pos b96) k95
      refine xTabK (tgt := 230) (z := 13) hx hb dX5_laid_30 (by rw [b96]; decide) (by decide +kernel) ?_
      refine lv_aload_n hx hb dX5_laid_230 rfl (lv_at hl 1 rfl) ?_
      refine lv_iload_n hx hb dX5_laid_231 rfl (lv_at hl 0 rfl) ?_
      refine lv_bipush (v := 12) hx hb dX5_laid_232 (by decide) ?_
      refine lv_icmp_ne (tgt := 241) hx hb dX5_laid_234 (by decide) (fun b98 => ?_) (fun b98 => ?_)
      ·
        have k99 := Eq.mp (if_neg b98) k97
        refine lv_iconst (v := 5) hx hb dX5_laid_241 (by decide) ?_
        refine lv_iconst (v := 0) hx hb dX5_laid_242 (by decide) ?_
        refine lv_lconst (v := 0) hx hb dX5_laid_243 (by decide) ?_
        refine lv_iconst (v := 0) hx hb dX5_laid_244 (by decide) ?_
        have o100 := k99.1
        have k101 := k99.2
        refine xM_v (va_runV (As := [.int (5 : Int32), .int (0 : Int32), .long (0 : Int64), .int (0 : Int32)]) (rest := []) ⟨hx, hb, hml, hown, hts⟩ (c_X5_task l w hA me mb mc mt mk mr mq mv (5 : Int32) (0 : Int32) (0 : Int64) (0 : Int32) o100) (cwV 4 hts gX5_laid_X5_task rfl rfl rfl dv_X5_task ⟨Nat.le_of_ble_eq_true rfl, Nat.le_of_ble_eq_true rfl⟩) (wPreV hP hK (ci := 6) (q0 := 0) rfl rfl) rfl rfl hl.1 rfl (lv_room (Nat.le_of_ble_eq_true rfl)) dX5_laid_245 ⟨Nat.zero_le _, Nat.zero_le _⟩) hS (fun H locs hP hS => ?_)
        have hP : va_P w.1 vwCl (wM w me mb mc mt mk mr (G_X5_task mq (5 : Int32) (0 : Int32) (0 : Int64) (0 : Int32)) mv) H := hP
        refine lv_aload_n hx hb dX5_laid_248 rfl (lv_at hl 1 rfl) ?_
        refine lv_iconst (v := 1) hx hb dX5_laid_249 (by decide) ?_
        refine lv_iconst (v := 0) hx hb dX5_laid_250 (by decide) ?_
        refine lv_aload_n hx hb dX5_laid_251 rfl (lv_at hl 1 rfl) ?_
        refine va_get (D := w.1) (ci := 6) (v := .ref (w.2.2 8)) (C := RX5) (T := TX5) (N := 33) hx hb hts iw_X5_laid_X5 hown hK.1 hP 0 rfl rfl 9 (by decide) (hts _ fl_X5_laid_32) (fun _ h9 => h9) rfl dX5_laid_252 ?_
        refine lv_iload_n hx hb dX5_laid_255 rfl (lv_at hl 2 rfl) ?_
        have o102 := k101.1
        have k103 := k101.2
        refine va_iald hx hb hK.1 hP 8 0 rfl rfl o102 dX5_laid_256 ?_
        refine lv_i2l hx hb dX5_laid_257 rfl ?_
        refine lv_iconst (v := 0) hx hb dX5_laid_258 (by decide) ?_
        have o104 := k103.1
        have k105 := k103.2
        refine xM_v (va_runV (As := [.int (1 : Int32), .int (0 : Int32), .long ((mt.2.2.2.1 n.toNatClampNeg).toInt64), .int (0 : Int32)]) (rest := []) ⟨hx, hb, hml, hown, hts⟩ (c_X5_task l w hA me mb mc mt mk mr (G_X5_task mq (5 : Int32) (0 : Int32) (0 : Int64) (0 : Int32)) mv (1 : Int32) (0 : Int32) ((mt.2.2.2.1 n.toNatClampNeg).toInt64) (0 : Int32) o104) (cwV 4 hts gX5_laid_X5_task rfl rfl rfl dv_X5_task ⟨Nat.le_of_ble_eq_true rfl, Nat.le_of_ble_eq_true rfl⟩) (wPreV hP hK (ci := 6) (q0 := 0) rfl rfl) rfl rfl hl.1 rfl (lv_room (Nat.le_of_ble_eq_true rfl)) dX5_laid_259 ⟨Nat.zero_le _, Nat.zero_le _⟩) hS (fun H locs hP hS => ?_)
        have hP : va_P w.1 vwCl (wM w me mb mc mt mk mr (G_X5_task (G_X5_task mq (5 : Int32) (0 : Int32) (0 : Int64) (0 : Int32)) (1 : Int32) (0 : Int32) ((mt.2.2.2.1 n.toNatClampNeg).toInt64) (0 : Int32)) mv) H := hP
        refine lv_aload_n hx hb dX5_laid_262 rfl (lv_at hl 1 rfl) ?_
        refine lv_iconst (v := 3) hx hb dX5_laid_263 (by decide) ?_
        refine lv_iload_n hx hb dX5_laid_264 rfl (lv_at hl 0 rfl) ?_
        refine lv_lconst (v := 0) hx hb dX5_laid_265 (by decide) ?_
        refine lv_iconst (v := 0) hx hb dX5_laid_266 (by decide) ?_
        have o106 := k105.1
        have k107 := k105.2
        refine xM_v (va_runV (As := [.int (3 : Int32), .int (mt.2.1 n.toNatClampNeg), .long (0 : Int64), .int (0 : Int32)]) (rest := []) ⟨hx, hb, hml, hown, hts⟩ (c_X5_task l w hA me mb mc mt mk mr (G_X5_task (G_X5_task mq (5 : Int32) (0 : Int32) (0 : Int64) (0 : Int32)) (1 : Int32) (0 : Int32) ((mt.2.2.2.1 n.toNatClampNeg).toInt64) (0 : Int32)) mv (3 : Int32) (mt.2.1 n.toNatClampNeg) (0 : Int64) (0 : Int32) o106) (cwV 4 hts gX5_laid_X5_task rfl rfl rfl dv_X5_task ⟨Nat.le_of_ble_eq_true rfl, Nat.le_of_ble_eq_true rfl⟩) (wPreV hP hK (ci := 6) (q0 := 0) rfl rfl) rfl rfl hl.1 rfl (lv_room (Nat.le_of_ble_eq_true rfl)) dX5_laid_267 ⟨Nat.zero_le _, Nat.zero_le _⟩) hS (fun H locs hP hS => ?_)
        have hP : va_P w.1 vwCl (wM w me mb mc mt mk mr (G_X5_task (G_X5_task (G_X5_task mq (5 : Int32) (0 : Int32) (0 : Int64) (0 : Int32)) (1 : Int32) (0 : Int32) ((mt.2.2.2.1 n.toNatClampNeg).toInt64) (0 : Int32)) (3 : Int32) (mt.2.1 n.toNatClampNeg) (0 : Int64) (0 : Int32)) mv) H := hP
        refine lv_aload_n hx hb dX5_laid_270 rfl (lv_at hl 1 rfl) ?_
        refine lv_iconst (v := 0) hx hb dX5_laid_271 (by decide) ?_
        refine lv_iconst (v := 0) hx hb dX5_laid_272 (by decide) ?_
        refine lv_aload_n hx hb dX5_laid_273 rfl (lv_at hl 1 rfl) ?_
        refine va_get (D := w.1) (ci := 6) (v := .ref (w.2.2 7)) (C := RX5) (T := TX5) (N := 33) hx hb hts iw_X5_laid_X5 hown hK.1 hP 0 rfl rfl 8 (by decide) (hts _ fl_X5_laid_29) (fun _ h9 => h9) rfl dX5_laid_274 ?_
        refine lv_iload_n hx hb dX5_laid_277 rfl (lv_at hl 2 rfl) ?_
        have o108 := k107.1
        have k109 := k107.2
        refine va_iald hx hb hK.1 hP 7 0 rfl rfl o108 dX5_laid_278 ?_
        refine lv_i2l hx hb dX5_laid_279 rfl ?_
        refine lv_iconst (v := 0) hx hb dX5_laid_280 (by decide) ?_
        have o110 := k109.1
        have k111 := k109.2
        refine xM_v (va_runV (As := [.int (0 : Int32), .int (0 : Int32), .long ((mt.2.2.1 n.toNatClampNeg).toInt64), .int (0 : Int32)]) (rest := []) ⟨hx, hb, hml, hown, hts⟩ (c_X5_task l w hA me mb mc mt mk mr (G_X5_task (G_X5_task (G_X5_task mq (5 : Int32) (0 : Int32) (0 : Int64) (0 : Int32)) (1 : Int32) (0 : Int32) ((mt.2.2.2.1 n.toNatClampNeg).toInt64) (0 : Int32)) (3 : Int32) (mt.2.1 n.toNatClampNeg) (0 : Int64) (0 : Int32)) mv (0 : Int32) (0 : Int32) ((mt.2.2.1 n.toNatClampNeg).toInt64) (0 : Int32) o110) (cwV 4 hts gX5_laid_X5_task rfl rfl rfl dv_X5_task ⟨Nat.le_of_ble_eq_true rfl, Nat.le_of_ble_eq_true rfl⟩) (wPreV hP hK (ci := 6) (q0 := 0) rfl rfl) rfl rfl hl.1 rfl (lv_room (Nat.le_of_ble_eq_true rfl)) dX5_laid_281 ⟨Nat.zero_le _, Nat.zero_le _⟩) hS (fun H locs hP hS => ?_)
        have hP : va_P w.1 vwCl (wM w me mb mc mt mk mr (G_X5_task (G_X5_task (G_X5_task (G_X5_task mq (5 : Int32) (0 : Int32) (0 : Int64) (0 : Int32)) (1 : Int32) (0 : Int32) ((mt.2.2.2.1 n.toNatClampNeg).toInt64) (0 : Int32)) (3 : Int32) (mt.2.1 n.toNatClampNeg) (0 : Int64) (0 : Int32)) (0 : Int32) (0 : Int32) ((mt.2.2.1 n.toNatClampNeg).toInt64) (0 : Int32)) mv) H := hP
        refine lv_goto (tgt := 328) hx hb dX5_laid_284 (by decide) ?_
        have e9 : G_X5_laid mt mr mq n = (mr, G_X5_task (G_X5_task (G_X5_task (G_X5_task mq (5 : Int32) (0 : Int32) (0 : Int64) (0 : Int32)) (1 : Int32) (0 : Int32) ((mt.2.2.2.1 n.toNatClampNeg).toInt64) (0 : Int32)) (3 : Int32) (mt.2.1 n.toNatClampNeg) (0 : Int64) (0 : Int32)) (0 : Int32) (0 : Int32) ((mt.2.2.1 n.toNatClampNeg).toInt64) (0 : Int32)) := Eq.trans (Eq.trans (Eq.trans (Eq.trans (Eq.trans (Eq.trans (Eq.trans (Eq.trans (Eq.trans rfl (if_pos b5)) (if_neg b7)) (if_neg b14)) (if_neg b25)) (if_neg b36)) (if_neg b55)) (if_neg b66)) (if_pos b96)) (if_neg b98)
        exact xM_vret hx hb hr hlk  hS  (by rw [e9]; exact hP) dX5_laid_328
      ·
        have k112 := Eq.mp (if_pos b98) k97
        refine lv_iconst (v := 4) hx hb dX5_laid_237 (by decide) ?_
        refine lv_goto (tgt := 242) hx hb dX5_laid_238 (by decide) ?_
        refine lv_iconst (v := 0) hx hb dX5_laid_242 (by decide) ?_
        refine lv_lconst (v := 0) hx hb dX5_laid_243 (by decide) ?_
        refine lv_iconst (v := 0) hx hb dX5_laid_244 (by decide) ?_
        have o113 := k112.1
        have k114 := k112.2
        refine xM_v (va_runV (As := [.int (4 : Int32), .int (0 : Int32), .long (0 : Int64), .int (0 : Int32)]) (rest := []) ⟨hx, hb, hml, hown, hts⟩ (c_X5_task l w hA me mb mc mt mk mr mq mv (4 : Int32) (0 : Int32) (0 : Int64) (0 : Int32) o113) (cwV 4 hts gX5_laid_X5_task rfl rfl rfl dv_X5_task ⟨Nat.le_of_ble_eq_true rfl, Nat.le_of_ble_eq_true rfl⟩) (wPreV hP hK (ci := 6) (q0 := 0) rfl rfl) rfl rfl hl.1 rfl (lv_room (Nat.le_of_ble_eq_true rfl)) dX5_laid_245 ⟨Nat.zero_le _, Nat.zero_le _⟩) hS (fun H locs hP hS => ?_)
        have hP : va_P w.1 vwCl (wM w me mb mc mt mk mr (G_X5_task mq (4 : Int32) (0 : Int32) (0 : Int64) (0 : Int32)) mv) H := hP
        refine lv_aload_n hx hb dX5_laid_248 rfl (lv_at hl 1 rfl) ?_
        refine lv_iconst (v := 1) hx hb dX5_laid_249 (by decide) ?_
        refine lv_iconst (v := 0) hx hb dX5_laid_250 (by decide) ?_
        refine lv_aload_n hx hb dX5_laid_251 rfl (lv_at hl 1 rfl) ?_
        refine va_get (D := w.1) (ci := 6) (v := .ref (w.2.2 8)) (C := RX5) (T := TX5) (N := 33) hx hb hts iw_X5_laid_X5 hown hK.1 hP 0 rfl rfl 9 (by decide) (hts _ fl_X5_laid_32) (fun _ h9 => h9) rfl dX5_laid_252 ?_
        refine lv_iload_n hx hb dX5_laid_255 rfl (lv_at hl 2 rfl) ?_
        have o115 := k114.1
        have k116 := k114.2
        refine va_iald hx hb hK.1 hP 8 0 rfl rfl o115 dX5_laid_256 ?_
        refine lv_i2l hx hb dX5_laid_257 rfl ?_
        refine lv_iconst (v := 0) hx hb dX5_laid_258 (by decide) ?_
        have o117 := k116.1
        have k118 := k116.2
        refine xM_v (va_runV (As := [.int (1 : Int32), .int (0 : Int32), .long ((mt.2.2.2.1 n.toNatClampNeg).toInt64), .int (0 : Int32)]) (rest := []) ⟨hx, hb, hml, hown, hts⟩ (c_X5_task l w hA me mb mc mt mk mr (G_X5_task mq (4 : Int32) (0 : Int32) (0 : Int64) (0 : Int32)) mv (1 : Int32) (0 : Int32) ((mt.2.2.2.1 n.toNatClampNeg).toInt64) (0 : Int32) o117) (cwV 4 hts gX5_laid_X5_task rfl rfl rfl dv_X5_task ⟨Nat.le_of_ble_eq_true rfl, Nat.le_of_ble_eq_true rfl⟩) (wPreV hP hK (ci := 6) (q0 := 0) rfl rfl) rfl rfl hl.1 rfl (lv_room (Nat.le_of_ble_eq_true rfl)) dX5_laid_259 ⟨Nat.zero_le _, Nat.zero_le _⟩) hS (fun H locs hP hS => ?_)
        have hP : va_P w.1 vwCl (wM w me mb mc mt mk mr (G_X5_task (G_X5_task mq (4 : Int32) (0 : Int32) (0 : Int64) (0 : Int32)) (1 : Int32) (0 : Int32) ((mt.2.2.2.1 n.toNatClampNeg).toInt64) (0 : Int32)) mv) H := hP
        refine lv_aload_n hx hb dX5_laid_262 rfl (lv_at hl 1 rfl) ?_
        refine lv_iconst (v := 3) hx hb dX5_laid_263 (by decide) ?_
        refine lv_iload_n hx hb dX5_laid_264 rfl (lv_at hl 0 rfl) ?_
        refine lv_lconst (v := 0) hx hb dX5_laid_265 (by decide) ?_
        refine lv_iconst (v := 0) hx hb dX5_laid_266 (by decide) ?_
        have o119 := k118.1
        have k120 := k118.2
        refine xM_v (va_runV (As := [.int (3 : Int32), .int (mt.2.1 n.toNatClampNeg), .long (0 : Int64), .int (0 : Int32)]) (rest := []) ⟨hx, hb, hml, hown, hts⟩ (c_X5_task l w hA me mb mc mt mk mr (G_X5_task (G_X5_task mq (4 : Int32) (0 : Int32) (0 : Int64) (0 : Int32)) (1 : Int32) (0 : Int32) ((mt.2.2.2.1 n.toNatClampNeg).toInt64) (0 : Int32)) mv (3 : Int32) (mt.2.1 n.toNatClampNeg) (0 : Int64) (0 : Int32) o119) (cwV 4 hts gX5_laid_X5_task rfl rfl rfl dv_X5_task ⟨Nat.le_of_ble_eq_true rfl, Nat.le_of_ble_eq_true rfl⟩) (wPreV hP hK (ci := 6) (q0 := 0) rfl rfl) rfl rfl hl.1 rfl (lv_room (Nat.le_of_ble_eq_true rfl)) dX5_laid_267 ⟨Nat.zero_le _, Nat.zero_le _⟩) hS (fun H locs hP hS => ?_)
        have hP : va_P w.1 vwCl (wM w me mb mc mt mk mr (G_X5_task (G_X5_task (G_X5_task mq (4 : Int32) (0 : Int32) (0 : Int64) (0 : Int32)) (1 : Int32) (0 : Int32) ((mt.2.2.2.1 n.toNatClampNeg).toInt64) (0 : Int32)) (3 : Int32) (mt.2.1 n.toNatClampNeg) (0 : Int64) (0 : Int32)) mv) H := hP
        refine lv_aload_n hx hb dX5_laid_270 rfl (lv_at hl 1 rfl) ?_
        refine lv_iconst (v := 0) hx hb dX5_laid_271 (by decide) ?_
        refine lv_iconst (v := 0) hx hb dX5_laid_272 (by decide) ?_
        refine lv_aload_n hx hb dX5_laid_273 rfl (lv_at hl 1 rfl) ?_
        refine va_get (D := w.1) (ci := 6) (v := .ref (w.2.2 7)) (C := RX5) (T := TX5) (N := 33) hx hb hts iw_X5_laid_X5 hown hK.1 hP 0 rfl rfl 8 (by decide) (hts _ fl_X5_laid_29) (fun _ h9 => h9) rfl dX5_laid_274 ?_
        refine lv_iload_n hx hb dX5_laid_277 rfl (lv_at hl 2 rfl) ?_
        have o121 := k120.1
        have k122 := k120.2
        refine va_iald hx hb hK.1 hP 7 0 rfl rfl o121 dX5_laid_278 ?_
        refine lv_i2l hx hb dX5_laid_279 rfl ?_
        refine lv_iconst (v := 0) hx hb dX5_laid_280 (by decide) ?_
        have o123 := k122.1
        have k124 := k122.2
        refine xM_v (va_runV (As := [.int (0 : Int32), .int (0 : Int32), .long ((mt.2.2.1 n.toNatClampNeg).toInt64), .int (0 : Int32)]) (rest := []) ⟨hx, hb, hml, hown, hts⟩ (c_X5_task l w hA me mb mc mt mk mr (G_X5_task (G_X5_task (G_X5_task mq (4 : Int32) (0 : Int32) (0 : Int64) (0 : Int32)) (1 : Int32) (0 : Int32) ((mt.2.2.2.1 n.toNatClampNeg).toInt64) (0 : Int32)) (3 : Int32) (mt.2.1 n.toNatClampNeg) (0 : Int64) (0 : Int32)) mv (0 : Int32) (0 : Int32) ((mt.2.2.1 n.toNatClampNeg).toInt64) (0 : Int32) o123) (cwV 4 hts gX5_laid_X5_task rfl rfl rfl dv_X5_task ⟨Nat.le_of_ble_eq_true rfl, Nat.le_of_ble_eq_true rfl⟩) (wPreV hP hK (ci := 6) (q0 := 0) rfl rfl) rfl rfl hl.1 rfl (lv_room (Nat.le_of_ble_eq_true rfl)) dX5_laid_281 ⟨Nat.zero_le _, Nat.zero_le _⟩) hS (fun H locs hP hS => ?_)
        have hP : va_P w.1 vwCl (wM w me mb mc mt mk mr (G_X5_task (G_X5_task (G_X5_task (G_X5_task mq (4 : Int32) (0 : Int32) (0 : Int64) (0 : Int32)) (1 : Int32) (0 : Int32) ((mt.2.2.2.1 n.toNatClampNeg).toInt64) (0 : Int32)) (3 : Int32) (mt.2.1 n.toNatClampNeg) (0 : Int64) (0 : Int32)) (0 : Int32) (0 : Int32) ((mt.2.2.1 n.toNatClampNeg).toInt64) (0 : Int32)) mv) H := hP
        refine lv_goto (tgt := 328) hx hb dX5_laid_284 (by decide) ?_
        have e9 : G_X5_laid mt mr mq n = (mr, G_X5_task (G_X5_task (G_X5_task (G_X5_task mq (4 : Int32) (0 : Int32) (0 : Int64) (0 : Int32)) (1 : Int32) (0 : Int32) ((mt.2.2.2.1 n.toNatClampNeg).toInt64) (0 : Int32)) (3 : Int32) (mt.2.1 n.toNatClampNeg) (0 : Int64) (0 : Int32)) (0 : Int32) (0 : Int32) ((mt.2.2.1 n.toNatClampNeg).toInt64) (0 : Int32)) := Eq.trans (Eq.trans (Eq.trans (Eq.trans (Eq.trans (Eq.trans (Eq.trans (Eq.trans (Eq.trans rfl (if_pos b5)) (if_neg b7)) (if_neg b14)) (if_neg b25)) (if_neg b36)) (if_neg b55)) (if_neg b66)) (if_pos b96)) (if_pos b98)
        exact xM_vret hx hb hr hlk  hS  (by rw [e9]; exact hP) dX5_laid_328
    have k125 := Eq.mp (if_neg b96) k95
    refine xTabD (tgt := 287) (exc := [1, 2, 9, 10, 11, 12, 13]) hx hb dX5_laid_30 (xCons (lv_neT b7 (by decide)) (xCons (lv_neT b14 (by decide)) (xCons (lv_neT b25 (by decide)) (xCons (lv_neT b36 (by decide)) (xCons (lv_neT b55 (by decide)) (xCons (lv_neT b66 (by decide)) (xCons (lv_neT b96 (by decide)) xNil))))))) (by decide) (by decide +kernel) ?_
    refine lv_aload_n hx hb dX5_laid_287 rfl (lv_at hl 1 rfl) ?_
    refine lv_iconst (v := 2) hx hb dX5_laid_288 (by decide) ?_
    refine lv_iload_n hx hb dX5_laid_289 rfl (lv_at hl 0 rfl) ?_
    refine lv_lconst (v := 0) hx hb dX5_laid_290 (by decide) ?_
    refine lv_aload_n hx hb dX5_laid_291 rfl (lv_at hl 1 rfl) ?_
    refine va_get (D := w.1) (ci := 6) (v := .ref (w.2.2 9)) (C := RX5) (T := TX5) (N := 33) hx hb hts iw_X5_laid_X5 hown hK.1 hP 0 rfl rfl 10 (by decide) (hts _ fl_X5_laid_35) (fun _ h9 => h9) rfl dX5_laid_292 ?_
    refine lv_iload_n hx hb dX5_laid_295 rfl (lv_at hl 2 rfl) ?_
    have o126 := k125.1
    have k127 := k125.2
    refine va_iald hx hb hK.1 hP 9 0 rfl rfl o126 dX5_laid_296 ?_
    have o128 := k127.1
    have k129 := k127.2
    refine xM_v (va_runV (As := [.int (2 : Int32), .int (mt.2.1 n.toNatClampNeg), .long (0 : Int64), .int (mt.2.2.2.2.1 n.toNatClampNeg)]) (rest := []) ⟨hx, hb, hml, hown, hts⟩ (c_X5_task l w hA me mb mc mt mk mr mq mv (2 : Int32) (mt.2.1 n.toNatClampNeg) (0 : Int64) (mt.2.2.2.2.1 n.toNatClampNeg) o128) (cwV 4 hts gX5_laid_X5_task rfl rfl rfl dv_X5_task ⟨Nat.le_of_ble_eq_true rfl, Nat.le_of_ble_eq_true rfl⟩) (wPreV hP hK (ci := 6) (q0 := 0) rfl rfl) rfl rfl hl.1 rfl (lv_room (Nat.le_of_ble_eq_true rfl)) dX5_laid_297 ⟨Nat.zero_le _, Nat.zero_le _⟩) hS (fun H locs hP hS => ?_)
    have hP : va_P w.1 vwCl (wM w me mb mc mt mk mr (G_X5_task mq (2 : Int32) (mt.2.1 n.toNatClampNeg) (0 : Int64) (mt.2.2.2.2.1 n.toNatClampNeg)) mv) H := hP
    refine lv_aload_n hx hb dX5_laid_300 rfl (lv_at hl 1 rfl) ?_
    refine lv_iconst (v := 0) hx hb dX5_laid_301 (by decide) ?_
    refine lv_iconst (v := 0) hx hb dX5_laid_302 (by decide) ?_
    refine lv_aload_n hx hb dX5_laid_303 rfl (lv_at hl 1 rfl) ?_
    refine va_get (D := w.1) (ci := 6) (v := .ref (w.2.2 8)) (C := RX5) (T := TX5) (N := 33) hx hb hts iw_X5_laid_X5 hown hK.1 hP 0 rfl rfl 9 (by decide) (hts _ fl_X5_laid_32) (fun _ h9 => h9) rfl dX5_laid_304 ?_
    refine lv_iload_n hx hb dX5_laid_307 rfl (lv_at hl 2 rfl) ?_
    have o130 := k129.1
    have k131 := k129.2
    refine va_iald hx hb hK.1 hP 8 0 rfl rfl o130 dX5_laid_308 ?_
    refine lv_i2l hx hb dX5_laid_309 rfl ?_
    refine lv_iconst (v := 0) hx hb dX5_laid_310 (by decide) ?_
    have o132 := k131.1
    have k133 := k131.2
    refine xM_v (va_runV (As := [.int (0 : Int32), .int (0 : Int32), .long ((mt.2.2.2.1 n.toNatClampNeg).toInt64), .int (0 : Int32)]) (rest := []) ⟨hx, hb, hml, hown, hts⟩ (c_X5_task l w hA me mb mc mt mk mr (G_X5_task mq (2 : Int32) (mt.2.1 n.toNatClampNeg) (0 : Int64) (mt.2.2.2.2.1 n.toNatClampNeg)) mv (0 : Int32) (0 : Int32) ((mt.2.2.2.1 n.toNatClampNeg).toInt64) (0 : Int32) o132) (cwV 4 hts gX5_laid_X5_task rfl rfl rfl dv_X5_task ⟨Nat.le_of_ble_eq_true rfl, Nat.le_of_ble_eq_true rfl⟩) (wPreV hP hK (ci := 6) (q0 := 0) rfl rfl) rfl rfl hl.1 rfl (lv_room (Nat.le_of_ble_eq_true rfl)) dX5_laid_311 ⟨Nat.zero_le _, Nat.zero_le _⟩) hS (fun H locs hP hS => ?_)
    have hP : va_P w.1 vwCl (wM w me mb mc mt mk mr (G_X5_task (G_X5_task mq (2 : Int32) (mt.2.1 n.toNatClampNeg) (0 : Int64) (mt.2.2.2.2.1 n.toNatClampNeg)) (0 : Int32) (0 : Int32) ((mt.2.2.2.1 n.toNatClampNeg).toInt64) (0 : Int32)) mv) H := hP
    refine lv_aload_n hx hb dX5_laid_314 rfl (lv_at hl 1 rfl) ?_
    refine lv_iconst (v := 0) hx hb dX5_laid_315 (by decide) ?_
    refine lv_iconst (v := 0) hx hb dX5_laid_316 (by decide) ?_
    refine lv_aload_n hx hb dX5_laid_317 rfl (lv_at hl 1 rfl) ?_
    refine va_get (D := w.1) (ci := 6) (v := .ref (w.2.2 7)) (C := RX5) (T := TX5) (N := 33) hx hb hts iw_X5_laid_X5 hown hK.1 hP 0 rfl rfl 8 (by decide) (hts _ fl_X5_laid_29) (fun _ h9 => h9) rfl dX5_laid_318 ?_
    refine lv_iload_n hx hb dX5_laid_321 rfl (lv_at hl 2 rfl) ?_
    have o134 := k133.1
    have k135 := k133.2
    refine va_iald hx hb hK.1 hP 7 0 rfl rfl o134 dX5_laid_322 ?_
    refine lv_i2l hx hb dX5_laid_323 rfl ?_
    refine lv_iconst (v := 0) hx hb dX5_laid_324 (by decide) ?_
    have o136 := k135.1
    have k137 := k135.2
    refine xM_v (va_runV (As := [.int (0 : Int32), .int (0 : Int32), .long ((mt.2.2.1 n.toNatClampNeg).toInt64), .int (0 : Int32)]) (rest := []) ⟨hx, hb, hml, hown, hts⟩ (c_X5_task l w hA me mb mc mt mk mr (G_X5_task (G_X5_task mq (2 : Int32) (mt.2.1 n.toNatClampNeg) (0 : Int64) (mt.2.2.2.2.1 n.toNatClampNeg)) (0 : Int32) (0 : Int32) ((mt.2.2.2.1 n.toNatClampNeg).toInt64) (0 : Int32)) mv (0 : Int32) (0 : Int32) ((mt.2.2.1 n.toNatClampNeg).toInt64) (0 : Int32) o136) (cwV 4 hts gX5_laid_X5_task rfl rfl rfl dv_X5_task ⟨Nat.le_of_ble_eq_true rfl, Nat.le_of_ble_eq_true rfl⟩) (wPreV hP hK (ci := 6) (q0 := 0) rfl rfl) rfl rfl hl.1 rfl (lv_room (Nat.le_of_ble_eq_true rfl)) dX5_laid_325 ⟨Nat.zero_le _, Nat.zero_le _⟩) hS (fun H locs hP hS => ?_)
    have hP : va_P w.1 vwCl (wM w me mb mc mt mk mr (G_X5_task (G_X5_task (G_X5_task mq (2 : Int32) (mt.2.1 n.toNatClampNeg) (0 : Int64) (mt.2.2.2.2.1 n.toNatClampNeg)) (0 : Int32) (0 : Int32) ((mt.2.2.2.1 n.toNatClampNeg).toInt64) (0 : Int32)) (0 : Int32) (0 : Int32) ((mt.2.2.1 n.toNatClampNeg).toInt64) (0 : Int32)) mv) H := hP
    have e9 : G_X5_laid mt mr mq n = (mr, G_X5_task (G_X5_task (G_X5_task mq (2 : Int32) (mt.2.1 n.toNatClampNeg) (0 : Int64) (mt.2.2.2.2.1 n.toNatClampNeg)) (0 : Int32) (0 : Int32) ((mt.2.2.2.1 n.toNatClampNeg).toInt64) (0 : Int32)) (0 : Int32) (0 : Int32) ((mt.2.2.1 n.toNatClampNeg).toInt64) (0 : Int32)) := Eq.trans (Eq.trans (Eq.trans (Eq.trans (Eq.trans (Eq.trans (Eq.trans (Eq.trans rfl (if_pos b5)) (if_neg b7)) (if_neg b14)) (if_neg b25)) (if_neg b36)) (if_neg b55)) (if_neg b66)) (if_neg b96)
    exact xM_vret hx hb hr hlk  hS  (by rw [e9]; exact hP) dX5_laid_328
  ·
    have k138 := Eq.mp (if_neg b5) k4
    refine lv_aload_n hx hb dX5_laid_16 rfl (lv_at hl 1 rfl) ?_
    refine lv_iconst (v := 0) hx hb dX5_laid_17 (by decide) ?_
    refine lv_aload_n hx hb dX5_laid_18 rfl (lv_at hl 1 rfl) ?_
    refine va_get (D := w.1) (ci := 6) (v := .ref (w.2.2 11)) (C := RX5) (T := TX5) (N := 33) hx hb hts iw_X5_laid_X5 hown hK.1 hP 0 rfl rfl 12 (by decide) (hts _ fl_X5_laid_42) (fun _ h9 => h9) rfl dX5_laid_19 ?_
    refine lv_iload_n hx hb dX5_laid_22 rfl (lv_at hl 2 rfl) ?_
    have o139 := k138.1
    have k140 := k138.2
    refine va_lald hx hb hK.1 hP 11 3 rfl rfl o139 dX5_laid_23 ?_
    refine lv_iconst (v := 0) hx hb dX5_laid_24 (by decide) ?_
    have o141 := k140.1
    have k142 := k140.2
    refine xM_v (va_runV (As := [.int (0 : Int32), .long (mt.2.2.2.2.2.2 n.toNatClampNeg), .int (0 : Int32)]) (rest := []) ⟨hx, hb, hml, hown, hts⟩ (c_X5_row l w hA me mb mc mt mk mr mq mv (0 : Int32) (mt.2.2.2.2.2.2 n.toNatClampNeg) (0 : Int32) o141) (cwV 3 hts gX5_laid_X5_row rfl rfl rfl dv_X5_row ⟨Nat.le_of_ble_eq_true rfl, Nat.le_of_ble_eq_true rfl⟩) (wPreV hP hK (ci := 6) (q0 := 0) rfl rfl) rfl rfl hl.1 rfl (lv_room (Nat.le_of_ble_eq_true rfl)) dX5_laid_25 ⟨Nat.zero_le _, Nat.zero_le _⟩) hS (fun H locs hP hS => ?_)
    have hP : va_P w.1 vwCl (wM w me mb mc mt mk (G_X5_row mr (0 : Int32) (mt.2.2.2.2.2.2 n.toNatClampNeg) (0 : Int32)) mq mv) H := hP
    have e9 : G_X5_laid mt mr mq n = (G_X5_row mr (0 : Int32) (mt.2.2.2.2.2.2 n.toNatClampNeg) (0 : Int32), mq) := Eq.trans rfl (if_neg b5)
    exact xM_vret hx hb hr hlk  hS  (by rw [e9]; exact hP) dX5_laid_28
set_option maxRecDepth 20000 in
theorem iw_X5_made_X5 : ∀ w ∈ wsX50, w ∈ wsX5_made := by decide +kernel
set_option maxRecDepth 20000 in
theorem fl_X5_made_146 : Cond.fieldLink RX5 146 "ProcedureCodeModel" "size" "I" ∈ wsX5_made := by decide +kernel
set_option maxRecDepth 20000 in
theorem fl_X5_made_149 : Cond.fieldLink RX5 149 "ProcedureCodeModel" "rows" "I" ∈ wsX5_made := by decide +kernel
set_option maxRecDepth 20000 in
theorem fl_X5_made_64 : Cond.fieldLink RX5 64 "ProcedureCodeModel" "tasks" "[I" ∈ wsX5_made := by decide +kernel
set_option maxRecDepth 20000 in
theorem fl_X5_made_76 : Cond.fieldLink RX5 76 "ProcedureCodeModel" "taskNumbers" "[J" ∈ wsX5_made := by decide +kernel
set_option maxRecDepth 20000 in
theorem fl_X5_made_160 : Cond.fieldLink RX5 160 "ProcedureCodeModel" "opened" "I" ∈ wsX5_made := by decide +kernel
set_option maxRecDepth 20000 in
theorem fl_X5_made_73 : Cond.fieldLink RX5 73 "ProcedureCodeModel" "open" "[I" ∈ wsX5_made := by decide +kernel
set_option maxRecDepth 20000 in
theorem fl_X5_made_61 : Cond.fieldLink RX5 61 "ProcedureCodeModel" "numbers" "[J" ∈ wsX5_made := by decide +kernel
set_option maxRecDepth 20000 in
theorem fl_X5_made_67 : Cond.fieldLink RX5 67 "ProcedureCodeModel" "taskOps" "[I" ∈ wsX5_made := by decide +kernel
set_option maxRecDepth 20000 in
theorem fl_X5_made_70 : Cond.fieldLink RX5 70 "ProcedureCodeModel" "taskDigits" "[I" ∈ wsX5_made := by decide +kernel
set_option maxRecDepth 20000 in
theorem fl_X5_made_26 : Cond.fieldLink RX5 26 "ProcedureCodeModel" "kinds" "[I" ∈ wsX5_made := by decide +kernel
set_option maxRecDepth 20000 in
theorem dv_X5_laid : yX5_laid.cls = RX5 ∧ yX5_laid.cls ≠ "java/lang/invoke/MethodHandle" ∧ yX5_laid.cls ≠ "java/lang/invoke/VarHandle" ∧ (parseMethodDescriptor yX5_laid.desc).map (fun d => d.parameters.length) = some 1 := by decide +kernel
def G_X5_made_L24 (mt : MT) (mr : MR) (mq : MQS) (n : Int32) (fm : Nat) : Nat → MR → MQS → Int32 × MR × MQS
  | 0, _, _ => (0, mr, mq)
  | fu + 1, mrv, mqv => if mqv.1 ≤ 0 then (if (400 : Int32) < mrv.1 then (((0 : Int32), mrv, mqv)) else (((1 : Int32), mrv, mqv))) else (if (400 : Int32) < mrv.1 then (if (400 : Int32) < mrv.1 then (((0 : Int32), mrv, mqv)) else (((1 : Int32), mrv, mqv))) else (if (mqv.2.1 (mqv.1 - (1 : Int32)).toNatClampNeg) = 0 then (G_X5_made_L24 mt mr mq n fm fu ((G_X5_laid mt mrv (mqv.1 - (1 : Int32), mqv.2.1, mqv.2.2.1, mqv.2.2.2.1, mqv.2.2.2.2.1, mqv.2.2.2.2.2.1, mqv.2.2.2.2.2.2) ((mqv.2.2.2.2.1 (mqv.1 - (1 : Int32)).toNatClampNeg).toInt32)).1) ((G_X5_laid mt mrv (mqv.1 - (1 : Int32), mqv.2.1, mqv.2.2.1, mqv.2.2.2.1, mqv.2.2.2.2.1, mqv.2.2.2.2.2.1, mqv.2.2.2.2.2.2) ((mqv.2.2.2.2.1 (mqv.1 - (1 : Int32)).toNatClampNeg).toInt32)).2)) else (if (mqv.2.1 (mqv.1 - (1 : Int32)).toNatClampNeg) = (1 : Int32) then (if (9 : Int32) ≤ (mt.2.1 ((mqv.2.2.2.2.1 (mqv.1 - (1 : Int32)).toNatClampNeg).toInt32).toNatClampNeg) then (G_X5_made_L24 mt mr mq n fm fu mrv (G_X5_task (mqv.1 - (1 : Int32), mqv.2.1, mqv.2.2.1, mqv.2.2.2.1, mqv.2.2.2.2.1, mqv.2.2.2.2.2.1, mqv.2.2.2.2.2.2) (0 : Int32) (0 : Int32) (((mqv.2.2.2.2.1 (mqv.1 - (1 : Int32)).toNatClampNeg).toInt32).toInt64) (0 : Int32))) else (G_X5_made_L24 mt mr mq n fm fu mrv (G_X5_task (G_X5_task (mqv.1 - (1 : Int32), mqv.2.1, mqv.2.2.1, mqv.2.2.2.1, mqv.2.2.2.2.1, mqv.2.2.2.2.2.1, mqv.2.2.2.2.2.2) (2 : Int32) (15 : Int32) (0 : Int64) (0 : Int32)) (0 : Int32) (0 : Int32) (((mqv.2.2.2.2.1 (mqv.1 - (1 : Int32)).toNatClampNeg).toInt32).toInt64) (0 : Int32)))) else (if (mqv.2.1 (mqv.1 - (1 : Int32)).toNatClampNeg) = (2 : Int32) then (G_X5_made_L24 mt mr mq n fm fu (G_X5_row mrv (mqv.2.2.1 (mqv.1 - (1 : Int32)).toNatClampNeg) (mqv.2.2.2.2.1 (mqv.1 - (1 : Int32)).toNatClampNeg) (mqv.2.2.2.1 (mqv.1 - (1 : Int32)).toNatClampNeg)) (mqv.1 - (1 : Int32), mqv.2.1, mqv.2.2.1, mqv.2.2.2.1, mqv.2.2.2.2.1, mqv.2.2.2.2.2.1, mqv.2.2.2.2.2.2)) else (if (mqv.2.1 (mqv.1 - (1 : Int32)).toNatClampNeg) = (3 : Int32) then (G_X5_made_L24 mt mr mq n fm fu (G_X5_row mrv (mqv.2.2.1 (mqv.1 - (1 : Int32)).toNatClampNeg) (0 : Int64) (0 : Int32)) (mqv.1 - (1 : Int32), mqv.2.1, mqv.2.2.1, mqv.2.2.2.1, mqv.2.2.2.2.1, mqv.2.2.2.2.2.1 + (1 : Int32), upd mqv.2.2.2.2.2.2 mqv.2.2.2.2.2.1.toNatClampNeg mrv.1)) else (if (mqv.2.1 (mqv.1 - (1 : Int32)).toNatClampNeg) = (5 : Int32) then (if (400 : Int32) ≤ (mqv.2.2.2.2.2.2 (mqv.2.2.2.2.2.1 - (1 : Int32)).toNatClampNeg) then (G_X5_made_L24 mt mr mq n fm fu (G_X5_row mrv (14 : Int32) (((mqv.2.2.2.2.2.2 (mqv.2.2.2.2.2.1 - (1 : Int32)).toNatClampNeg).toInt64) + (1 : Int64)) (0 : Int32)) (mqv.1 - (1 : Int32), mqv.2.1, mqv.2.2.1, mqv.2.2.2.1, mqv.2.2.2.2.1, mqv.2.2.2.2.2.1 - (1 : Int32), mqv.2.2.2.2.2.2)) else (G_X5_made_L24 mt mr mq n fm fu ((G_X5_row mrv (14 : Int32) (((mqv.2.2.2.2.2.2 (mqv.2.2.2.2.2.1 - (1 : Int32)).toNatClampNeg).toInt64) + (1 : Int64)) (0 : Int32)).1, (G_X5_row mrv (14 : Int32) (((mqv.2.2.2.2.2.2 (mqv.2.2.2.2.2.1 - (1 : Int32)).toNatClampNeg).toInt64) + (1 : Int64)) (0 : Int32)).2.1, (G_X5_row mrv (14 : Int32) (((mqv.2.2.2.2.2.2 (mqv.2.2.2.2.2.1 - (1 : Int32)).toNatClampNeg).toInt64) + (1 : Int64)) (0 : Int32)).2.2.1, vp_updL ((G_X5_row mrv (14 : Int32) (((mqv.2.2.2.2.2.2 (mqv.2.2.2.2.2.1 - (1 : Int32)).toNatClampNeg).toInt64) + (1 : Int64)) (0 : Int32)).2.2.2) (mqv.2.2.2.2.2.2 (mqv.2.2.2.2.2.1 - (1 : Int32)).toNatClampNeg).toNatClampNeg (((G_X5_row mrv (14 : Int32) (((mqv.2.2.2.2.2.2 (mqv.2.2.2.2.2.1 - (1 : Int32)).toNatClampNeg).toInt64) + (1 : Int64)) (0 : Int32)).1).toInt64)) (mqv.1 - (1 : Int32), mqv.2.1, mqv.2.2.1, mqv.2.2.2.1, mqv.2.2.2.2.1, mqv.2.2.2.2.2.1 - (1 : Int32), mqv.2.2.2.2.2.2))) else (if (400 : Int32) ≤ (mqv.2.2.2.2.2.2 (mqv.2.2.2.2.2.1 - (1 : Int32)).toNatClampNeg) then (G_X5_made_L24 mt mr mq n fm fu mrv (mqv.1 - (1 : Int32), mqv.2.1, mqv.2.2.1, mqv.2.2.2.1, mqv.2.2.2.2.1, mqv.2.2.2.2.2.1 - (1 : Int32), mqv.2.2.2.2.2.2)) else (G_X5_made_L24 mt mr mq n fm fu (mrv.1, mrv.2.1, mrv.2.2.1, vp_updL mrv.2.2.2 (mqv.2.2.2.2.2.2 (mqv.2.2.2.2.2.1 - (1 : Int32)).toNatClampNeg).toNatClampNeg mrv.1.toInt64) (mqv.1 - (1 : Int32), mqv.2.1, mqv.2.2.1, mqv.2.2.2.1, mqv.2.2.2.2.1, mqv.2.2.2.2.2.1 - (1 : Int32), mqv.2.2.2.2.2.2)))))))))
def OK_X5_made_L24 (mt : MT) (mr : MR) (mq : MQS) (n : Int32) (fm : Nat) : Nat → MR → MQS → Prop
  | 0, _, _ => False
  | fu + 1, mrv, mqv => if mqv.1 ≤ 0 then (if (400 : Int32) < mrv.1 then (True) else (True)) else (if (400 : Int32) < mrv.1 then (if (400 : Int32) < mrv.1 then (True) else (True)) else ((vp_in (mqv.1 - (1 : Int32)) 3000) ∧ ((vp_in (mqv.1 - (1 : Int32)) 3000) ∧ (if (mqv.2.1 (mqv.1 - (1 : Int32)).toNatClampNeg) = 0 then ((OK_X5_laid mt mrv (mqv.1 - (1 : Int32), mqv.2.1, mqv.2.2.1, mqv.2.2.2.1, mqv.2.2.2.2.1, mqv.2.2.2.2.2.1, mqv.2.2.2.2.2.2) ((mqv.2.2.2.2.1 (mqv.1 - (1 : Int32)).toNatClampNeg).toInt32)) ∧ (OK_X5_made_L24 mt mr mq n fm fu ((G_X5_laid mt mrv (mqv.1 - (1 : Int32), mqv.2.1, mqv.2.2.1, mqv.2.2.2.1, mqv.2.2.2.2.1, mqv.2.2.2.2.2.1, mqv.2.2.2.2.2.2) ((mqv.2.2.2.2.1 (mqv.1 - (1 : Int32)).toNatClampNeg).toInt32)).1) ((G_X5_laid mt mrv (mqv.1 - (1 : Int32), mqv.2.1, mqv.2.2.1, mqv.2.2.2.1, mqv.2.2.2.2.1, mqv.2.2.2.2.2.1, mqv.2.2.2.2.2.2) ((mqv.2.2.2.2.1 (mqv.1 - (1 : Int32)).toNatClampNeg).toInt32)).2))) else (if (mqv.2.1 (mqv.1 - (1 : Int32)).toNatClampNeg) = (1 : Int32) then ((vp_in ((mqv.2.2.2.2.1 (mqv.1 - (1 : Int32)).toNatClampNeg).toInt32) 201) ∧ (if (9 : Int32) ≤ (mt.2.1 ((mqv.2.2.2.2.1 (mqv.1 - (1 : Int32)).toNatClampNeg).toInt32).toNatClampNeg) then ((OK_X5_task (mqv.1 - (1 : Int32), mqv.2.1, mqv.2.2.1, mqv.2.2.2.1, mqv.2.2.2.2.1, mqv.2.2.2.2.2.1, mqv.2.2.2.2.2.2) (0 : Int32) (0 : Int32) (((mqv.2.2.2.2.1 (mqv.1 - (1 : Int32)).toNatClampNeg).toInt32).toInt64) (0 : Int32)) ∧ (OK_X5_made_L24 mt mr mq n fm fu mrv (G_X5_task (mqv.1 - (1 : Int32), mqv.2.1, mqv.2.2.1, mqv.2.2.2.1, mqv.2.2.2.2.1, mqv.2.2.2.2.2.1, mqv.2.2.2.2.2.2) (0 : Int32) (0 : Int32) (((mqv.2.2.2.2.1 (mqv.1 - (1 : Int32)).toNatClampNeg).toInt32).toInt64) (0 : Int32)))) else ((OK_X5_task (mqv.1 - (1 : Int32), mqv.2.1, mqv.2.2.1, mqv.2.2.2.1, mqv.2.2.2.2.1, mqv.2.2.2.2.2.1, mqv.2.2.2.2.2.2) (2 : Int32) (15 : Int32) (0 : Int64) (0 : Int32)) ∧ ((OK_X5_task (G_X5_task (mqv.1 - (1 : Int32), mqv.2.1, mqv.2.2.1, mqv.2.2.2.1, mqv.2.2.2.2.1, mqv.2.2.2.2.2.1, mqv.2.2.2.2.2.2) (2 : Int32) (15 : Int32) (0 : Int64) (0 : Int32)) (0 : Int32) (0 : Int32) (((mqv.2.2.2.2.1 (mqv.1 - (1 : Int32)).toNatClampNeg).toInt32).toInt64) (0 : Int32)) ∧ (OK_X5_made_L24 mt mr mq n fm fu mrv (G_X5_task (G_X5_task (mqv.1 - (1 : Int32), mqv.2.1, mqv.2.2.1, mqv.2.2.2.1, mqv.2.2.2.2.1, mqv.2.2.2.2.2.1, mqv.2.2.2.2.2.2) (2 : Int32) (15 : Int32) (0 : Int64) (0 : Int32)) (0 : Int32) (0 : Int32) (((mqv.2.2.2.2.1 (mqv.1 - (1 : Int32)).toNatClampNeg).toInt32).toInt64) (0 : Int32))))))) else (if (mqv.2.1 (mqv.1 - (1 : Int32)).toNatClampNeg) = (2 : Int32) then ((vp_in (mqv.1 - (1 : Int32)) 3000) ∧ ((vp_in (mqv.1 - (1 : Int32)) 3000) ∧ ((vp_in (mqv.1 - (1 : Int32)) 3000) ∧ ((OK_X5_row mrv (mqv.2.2.1 (mqv.1 - (1 : Int32)).toNatClampNeg) (mqv.2.2.2.2.1 (mqv.1 - (1 : Int32)).toNatClampNeg) (mqv.2.2.2.1 (mqv.1 - (1 : Int32)).toNatClampNeg)) ∧ (OK_X5_made_L24 mt mr mq n fm fu (G_X5_row mrv (mqv.2.2.1 (mqv.1 - (1 : Int32)).toNatClampNeg) (mqv.2.2.2.2.1 (mqv.1 - (1 : Int32)).toNatClampNeg) (mqv.2.2.2.1 (mqv.1 - (1 : Int32)).toNatClampNeg)) (mqv.1 - (1 : Int32), mqv.2.1, mqv.2.2.1, mqv.2.2.2.1, mqv.2.2.2.2.1, mqv.2.2.2.2.2.1, mqv.2.2.2.2.2.2)))))) else (if (mqv.2.1 (mqv.1 - (1 : Int32)).toNatClampNeg) = (3 : Int32) then ((vp_in mqv.2.2.2.2.2.1 500) ∧ ((vp_in (mqv.1 - (1 : Int32)) 3000) ∧ ((OK_X5_row mrv (mqv.2.2.1 (mqv.1 - (1 : Int32)).toNatClampNeg) (0 : Int64) (0 : Int32)) ∧ (OK_X5_made_L24 mt mr mq n fm fu (G_X5_row mrv (mqv.2.2.1 (mqv.1 - (1 : Int32)).toNatClampNeg) (0 : Int64) (0 : Int32)) (mqv.1 - (1 : Int32), mqv.2.1, mqv.2.2.1, mqv.2.2.2.1, mqv.2.2.2.2.1, mqv.2.2.2.2.2.1 + (1 : Int32), upd mqv.2.2.2.2.2.2 mqv.2.2.2.2.2.1.toNatClampNeg mrv.1))))) else ((vp_in (mqv.2.2.2.2.2.1 - (1 : Int32)) 500) ∧ (if (mqv.2.1 (mqv.1 - (1 : Int32)).toNatClampNeg) = (5 : Int32) then ((OK_X5_row mrv (14 : Int32) (((mqv.2.2.2.2.2.2 (mqv.2.2.2.2.2.1 - (1 : Int32)).toNatClampNeg).toInt64) + (1 : Int64)) (0 : Int32)) ∧ (if (400 : Int32) ≤ (mqv.2.2.2.2.2.2 (mqv.2.2.2.2.2.1 - (1 : Int32)).toNatClampNeg) then (OK_X5_made_L24 mt mr mq n fm fu (G_X5_row mrv (14 : Int32) (((mqv.2.2.2.2.2.2 (mqv.2.2.2.2.2.1 - (1 : Int32)).toNatClampNeg).toInt64) + (1 : Int64)) (0 : Int32)) (mqv.1 - (1 : Int32), mqv.2.1, mqv.2.2.1, mqv.2.2.2.1, mqv.2.2.2.2.1, mqv.2.2.2.2.2.1 - (1 : Int32), mqv.2.2.2.2.2.2)) else ((vp_in (mqv.2.2.2.2.2.2 (mqv.2.2.2.2.2.1 - (1 : Int32)).toNatClampNeg) 401) ∧ (OK_X5_made_L24 mt mr mq n fm fu ((G_X5_row mrv (14 : Int32) (((mqv.2.2.2.2.2.2 (mqv.2.2.2.2.2.1 - (1 : Int32)).toNatClampNeg).toInt64) + (1 : Int64)) (0 : Int32)).1, (G_X5_row mrv (14 : Int32) (((mqv.2.2.2.2.2.2 (mqv.2.2.2.2.2.1 - (1 : Int32)).toNatClampNeg).toInt64) + (1 : Int64)) (0 : Int32)).2.1, (G_X5_row mrv (14 : Int32) (((mqv.2.2.2.2.2.2 (mqv.2.2.2.2.2.1 - (1 : Int32)).toNatClampNeg).toInt64) + (1 : Int64)) (0 : Int32)).2.2.1, vp_updL ((G_X5_row mrv (14 : Int32) (((mqv.2.2.2.2.2.2 (mqv.2.2.2.2.2.1 - (1 : Int32)).toNatClampNeg).toInt64) + (1 : Int64)) (0 : Int32)).2.2.2) (mqv.2.2.2.2.2.2 (mqv.2.2.2.2.2.1 - (1 : Int32)).toNatClampNeg).toNatClampNeg (((G_X5_row mrv (14 : Int32) (((mqv.2.2.2.2.2.2 (mqv.2.2.2.2.2.1 - (1 : Int32)).toNatClampNeg).toInt64) + (1 : Int64)) (0 : Int32)).1).toInt64)) (mqv.1 - (1 : Int32), mqv.2.1, mqv.2.2.1, mqv.2.2.2.1, mqv.2.2.2.2.1, mqv.2.2.2.2.2.1 - (1 : Int32), mqv.2.2.2.2.2.2))))) else (if (400 : Int32) ≤ (mqv.2.2.2.2.2.2 (mqv.2.2.2.2.2.1 - (1 : Int32)).toNatClampNeg) then (OK_X5_made_L24 mt mr mq n fm fu mrv (mqv.1 - (1 : Int32), mqv.2.1, mqv.2.2.1, mqv.2.2.2.1, mqv.2.2.2.2.1, mqv.2.2.2.2.2.1 - (1 : Int32), mqv.2.2.2.2.2.2)) else ((vp_in (mqv.2.2.2.2.2.2 (mqv.2.2.2.2.2.1 - (1 : Int32)).toNatClampNeg) 401) ∧ (OK_X5_made_L24 mt mr mq n fm fu (mrv.1, mrv.2.1, mrv.2.2.1, vp_updL mrv.2.2.2 (mqv.2.2.2.2.2.2 (mqv.2.2.2.2.2.1 - (1 : Int32)).toNatClampNeg).toNatClampNeg mrv.1.toInt64) (mqv.1 - (1 : Int32), mqv.2.1, mqv.2.2.1, mqv.2.2.2.1, mqv.2.2.2.2.1, mqv.2.2.2.2.2.1 - (1 : Int32), mqv.2.2.2.2.2.2)))))))))))))
def G_X5_made (mt : MT) (mr : MR) (mq : MQS) (n : Int32) (fm : Nat) : Int32 × MR × MQS := G_X5_made_L24 mt mr mq n fm fm ((0 : Int32), mr.2.1, mr.2.2.1, mr.2.2.2) (G_X5_task ((0 : Int32), mq.2.1, mq.2.2.1, mq.2.2.2.1, mq.2.2.2.2.1, (0 : Int32), mq.2.2.2.2.2.2) (0 : Int32) (0 : Int32) n.toInt64 (0 : Int32))
def OK_X5_made (mt : MT) (mr : MR) (mq : MQS) (n : Int32) (fm : Nat) : Prop := (OK_X5_task ((0 : Int32), mq.2.1, mq.2.2.1, mq.2.2.2.1, mq.2.2.2.2.1, (0 : Int32), mq.2.2.2.2.2.2) (0 : Int32) (0 : Int32) n.toInt64 (0 : Int32)) ∧ (OK_X5_made_L24 mt mr mq n fm fm ((0 : Int32), mr.2.1, mr.2.2.1, mr.2.2.2) (G_X5_task ((0 : Int32), mq.2.1, mq.2.2.1, mq.2.2.2.1, mq.2.2.2.2.1, (0 : Int32), mq.2.2.2.2.2.2) (0 : Int32) (0 : Int32) n.toInt64 (0 : Int32)))
set_option maxHeartbeats 4000000 in
set_option maxRecDepth 100000 in
theorem L_X5_made_L24 (l : Launch) (w : WG) (hA : wAp w 25) (me : ME) (mb : AI) (mc : MC) (mt : MT) (mk : MK) (mr : MR) (mq : MQS) (mv : MV) (n : Int32) (fm : Nat) {pP : Program} {eE : Env} {S : State} {mM : MethodId} {below : List Frame} {meth : Method} {C : Code} (hx : pP.tables.exec = Jvm.exec) (hb : C.code = cX5_made) (hr : meth.sig.returnType = (some .boolean)) (hml : C.maxLocals = 5) (hts : ∀ q9 ∈ wsX5_made, q9.before ([.ref (w.2.2 0), .int n] : List Value).toArray S = true) (hown : S.vm.findClass yX5_made.cls = some mM.cls) (hlk : meth.locks = false) (hK : wK w S) (g : Int32 × MR × MQS) :
    ∀ (fu : Nat) (mrv : MR) (mqv : MQS) (H : Heap) (locs : List Loc), va_P w.1 vwCl (wM w me mb mc mt mk mrv mqv mv) H → va_S (wA w 25) S.heap H locs → OK_X5_made_L24 mt mr mq n fm fu mrv mqv → g = G_X5_made_L24 mt mr mq n fm fu mrv mqv → ∀ ls : Array Slot, lv_has ls 5 [(0, .ref (w.2.2 0))] → W pP l eE { frames := 2, cells := 0, slots := 0, locals := 47 } S mM ([.ref (w.2.2 0), .int n] : List Value).toArray below meth C H locs 0 0 (MQ below (xM (some (.int g.1)) (fun H => va_P w.1 vwCl (wM w me mb mc mt mk g.2.1 g.2.2 mv) H) (wA w 25)) ([.ref (w.2.2 0), .int n] : List Value).toArray S 0 0 (wA w 25)) (F0 mM 24 ls []) := by
  intro fu
  induction fu with
  | zero =>
    intro mrv mqv H locs hP hS hok hg ls hl
    exact hok.elim
  | succ fu ih =>
    intro mrv mqv H locs hP hS hok hg ls hl
    refine lv_aload_n hx hb dX5_made_24 rfl (lv_at hl 0 rfl) ?_
    refine va_get (D := w.1) (ci := 6) (v := .int mqv.1) (C := RX5) (T := TX5) (N := 33) hx hb hts iw_X5_made_X5 hown hK.1 hP 0 rfl rfl 27 (by decide) (hts _ fl_X5_made_146) (fun _ h9 => h9) rfl dX5_made_25 ?_
    refine lv_if_le (tgt := 267) hx hb dX5_made_28 (by decide) (fun b1 => ?_) (fun b1 => ?_)
    ·
      have k2 := Eq.mp (if_pos b1) hok
      refine lv_aload_n hx hb dX5_made_267 rfl (lv_at hl 0 rfl) ?_
      refine va_get (D := w.1) (ci := 6) (v := .int mrv.1) (C := RX5) (T := TX5) (N := 33) hx hb hts iw_X5_made_X5 hown hK.1 hP 0 rfl rfl 21 (by decide) (hts _ fl_X5_made_149) (fun _ h9 => h9) rfl dX5_made_268 ?_
      refine lv_sipush (v := 400) hx hb dX5_made_271 (by decide) ?_
      refine lv_icmp_gt (tgt := 281) hx hb dX5_made_274 (by decide) (fun b3 => ?_) (fun b3 => ?_)
      ·
        have k4 := Eq.mp (if_pos b3) k2
        refine lv_iconst (v := 0) hx hb dX5_made_281 (by decide) ?_
        have e9 : g = ((0 : Int32), mrv, mqv) := Eq.trans (Eq.trans hg (if_pos b1)) (if_pos b3)
        exact xM_zret hx hb hr hlk rfl hS (by rw [e9]) (by rw [e9]; exact hP) dX5_made_282
      ·
        have k5 := Eq.mp (if_neg b3) k2
        refine lv_iconst (v := 1) hx hb dX5_made_277 (by decide) ?_
        refine lv_goto (tgt := 282) hx hb dX5_made_278 (by decide) ?_
        have e9 : g = ((1 : Int32), mrv, mqv) := Eq.trans (Eq.trans hg (if_pos b1)) (if_neg b3)
        exact xM_zret hx hb hr hlk rfl hS (by rw [e9]) (by rw [e9]; exact hP) dX5_made_282
    ·
      have k6 := Eq.mp (if_neg b1) hok
      refine lv_aload_n hx hb dX5_made_31 rfl (lv_at hl 0 rfl) ?_
      refine va_get (D := w.1) (ci := 6) (v := .int mrv.1) (C := RX5) (T := TX5) (N := 33) hx hb hts iw_X5_made_X5 hown hK.1 hP 0 rfl rfl 21 (by decide) (hts _ fl_X5_made_149) (fun _ h9 => h9) rfl dX5_made_32 ?_
      refine lv_sipush (v := 400) hx hb dX5_made_35 (by decide) ?_
      refine lv_icmp_gt (tgt := 267) hx hb dX5_made_38 (by decide) (fun b7 => ?_) (fun b7 => ?_)
      ·
        have k8 := Eq.mp (if_pos b7) k6
        refine lv_aload_n hx hb dX5_made_267 rfl (lv_at hl 0 rfl) ?_
        refine va_get (D := w.1) (ci := 6) (v := .int mrv.1) (C := RX5) (T := TX5) (N := 33) hx hb hts iw_X5_made_X5 hown hK.1 hP 0 rfl rfl 21 (by decide) (hts _ fl_X5_made_149) (fun _ h9 => h9) rfl dX5_made_268 ?_
        refine lv_sipush (v := 400) hx hb dX5_made_271 (by decide) ?_
        refine lv_icmp_gt (tgt := 281) hx hb dX5_made_274 (by decide) (fun b9 => ?_) (fun b9 => ?_)
        ·
          have k10 := Eq.mp (if_pos b9) k8
          refine lv_iconst (v := 0) hx hb dX5_made_281 (by decide) ?_
          have e9 : g = ((0 : Int32), mrv, mqv) := Eq.trans (Eq.trans (Eq.trans hg (if_neg b1)) (if_pos b7)) (if_pos b9)
          exact xM_zret hx hb hr hlk rfl hS (by rw [e9]) (by rw [e9]; exact hP) dX5_made_282
        ·
          have k11 := Eq.mp (if_neg b9) k8
          refine lv_iconst (v := 1) hx hb dX5_made_277 (by decide) ?_
          refine lv_goto (tgt := 282) hx hb dX5_made_278 (by decide) ?_
          have e9 : g = ((1 : Int32), mrv, mqv) := Eq.trans (Eq.trans (Eq.trans hg (if_neg b1)) (if_pos b7)) (if_neg b9)
          exact xM_zret hx hb hr hlk rfl hS (by rw [e9]) (by rw [e9]; exact hP) dX5_made_282
      ·
        have k12 := Eq.mp (if_neg b7) k6
        refine lv_aload_n hx hb dX5_made_41 rfl (lv_at hl 0 rfl) ?_
        refine lv_dup hx hb dX5_made_42 rfl ?_
        refine va_get (D := w.1) (ci := 6) (v := .int mqv.1) (C := RX5) (T := TX5) (N := 33) hx hb hts iw_X5_made_X5 hown hK.1 hP 0 rfl rfl 27 (by decide) (hts _ fl_X5_made_146) (fun _ h9 => h9) rfl dX5_made_43 ?_
        refine lv_iconst (v := 1) hx hb dX5_made_46 (by decide) ?_
        refine lv_isub hx hb dX5_made_47 ?_
        refine va_put (D := w.1) (ci := 6) (v := .int (mqv.1 - (1 : Int32))) (ty := .int) (C := RX5) (T := TX5) (N := 33) hx hb hts iw_X5_made_X5 tyX5 tyX5_ok nmX5 hown hK.1 hP (wM_D hA) hS 0 rfl rfl 27 (by decide) (hts _ fl_X5_made_146) (fun _ h9 => h9) rfl (by decide +kernel) rfl rfl (Nat.le_of_ble_eq_true rfl) dX5_made_48 (fun H locs hP _ hS => ?_)
        have hP : va_P w.1 vwCl (wM w me mb mc mt mk mrv (mqv.1 - (1 : Int32), mqv.2.1, mqv.2.2.1, mqv.2.2.2.1, mqv.2.2.2.2.1, mqv.2.2.2.2.2.1, mqv.2.2.2.2.2.2) mv) H := hP
        refine lv_aload_n hx hb dX5_made_51 rfl (lv_at hl 0 rfl) ?_
        refine va_get (D := w.1) (ci := 6) (v := .ref (w.2.2 18)) (C := RX5) (T := TX5) (N := 33) hx hb hts iw_X5_made_X5 hown hK.1 hP 0 rfl rfl 22 (by decide) (hts _ fl_X5_made_64) (fun _ h9 => h9) rfl dX5_made_52 ?_
        refine lv_aload_n hx hb dX5_made_55 rfl (lv_at hl 0 rfl) ?_
        refine va_get (D := w.1) (ci := 6) (v := .int (mqv.1 - (1 : Int32))) (C := RX5) (T := TX5) (N := 33) hx hb hts iw_X5_made_X5 hown hK.1 hP 0 rfl rfl 27 (by decide) (hts _ fl_X5_made_146) (fun _ h9 => h9) rfl dX5_made_56 ?_
        have o13 := k12.1
        have k14 := k12.2
        refine va_iald hx hb hK.1 hP 18 0 rfl rfl o13 dX5_made_59 ?_
        refine lv_istore_n (lv' := [(2, .int (mqv.2.1 (mqv.1 - (1 : Int32)).toNatClampNeg)), (0, .ref (w.2.2 0))]) hx hb dX5_made_60 rfl hl (by decide) rfl (fun ls hl => ?_)
        refine lv_aload_n hx hb dX5_made_61 rfl (lv_at hl 1 rfl) ?_
        refine va_get (D := w.1) (ci := 6) (v := .ref (w.2.2 22)) (C := RX5) (T := TX5) (N := 33) hx hb hts iw_X5_made_X5 hown hK.1 hP 0 rfl rfl 26 (by decide) (hts _ fl_X5_made_76) (fun _ h9 => h9) rfl dX5_made_62 ?_
        refine lv_aload_n hx hb dX5_made_65 rfl (lv_at hl 1 rfl) ?_
        refine va_get (D := w.1) (ci := 6) (v := .int (mqv.1 - (1 : Int32))) (C := RX5) (T := TX5) (N := 33) hx hb hts iw_X5_made_X5 hown hK.1 hP 0 rfl rfl 27 (by decide) (hts _ fl_X5_made_146) (fun _ h9 => h9) rfl dX5_made_66 ?_
        have o15 := k14.1
        have k16 := k14.2
        refine va_lald hx hb hK.1 hP 22 3 rfl rfl o15 dX5_made_69 ?_
        refine lv_l2i hx hb dX5_made_70 rfl ?_
        refine lv_istore_n (lv' := [(3, .int ((mqv.2.2.2.2.1 (mqv.1 - (1 : Int32)).toNatClampNeg).toInt32)), (2, .int (mqv.2.1 (mqv.1 - (1 : Int32)).toNatClampNeg)), (0, .ref (w.2.2 0))]) hx hb dX5_made_71 rfl hl (by decide) rfl (fun ls hl => ?_)
        refine lv_iload_n hx hb dX5_made_72 rfl (lv_at hl 1 rfl) ?_
        refine lv_if_ne (tgt := 84) hx hb dX5_made_73 (by decide) (fun b17 => ?_) (fun b17 => ?_)
        ·
          have k18 := Eq.mp (if_neg b17) k16
          refine lv_iload_n hx hb dX5_made_84 rfl (lv_at hl 1 rfl) ?_
          refine lv_iconst (v := 1) hx hb dX5_made_85 (by decide) ?_
          refine lv_icmp_ne (tgt := 121) hx hb dX5_made_86 (by decide) (fun b19 => ?_) (fun b19 => ?_)
          ·
            have k20 := Eq.mp (if_neg b19) k18
            refine lv_iload_n hx hb dX5_made_121 rfl (lv_at hl 1 rfl) ?_
            refine lv_iconst (v := 2) hx hb dX5_made_122 (by decide) ?_
            refine lv_icmp_ne (tgt := 160) hx hb dX5_made_123 (by decide) (fun b21 => ?_) (fun b21 => ?_)
            ·
              have k22 := Eq.mp (if_neg b21) k20
              refine lv_iload_n hx hb dX5_made_160 rfl (lv_at hl 1 rfl) ?_
              refine lv_iconst (v := 3) hx hb dX5_made_161 (by decide) ?_
              refine lv_icmp_ne (tgt := 206) hx hb dX5_made_162 (by decide) (fun b23 => ?_) (fun b23 => ?_)
              ·
                have k24 := Eq.mp (if_neg b23) k22
                refine lv_aload_n hx hb dX5_made_206 rfl (lv_at hl 2 rfl) ?_
                refine lv_dup hx hb dX5_made_207 rfl ?_
                refine va_get (D := w.1) (ci := 6) (v := .int mqv.2.2.2.2.2.1) (C := RX5) (T := TX5) (N := 33) hx hb hts iw_X5_made_X5 hown hK.1 hP 0 rfl rfl 28 (by decide) (hts _ fl_X5_made_160) (fun _ h9 => h9) rfl dX5_made_208 ?_
                refine lv_iconst (v := 1) hx hb dX5_made_211 (by decide) ?_
                refine lv_isub hx hb dX5_made_212 ?_
                refine va_put (D := w.1) (ci := 6) (v := .int (mqv.2.2.2.2.2.1 - (1 : Int32))) (ty := .int) (C := RX5) (T := TX5) (N := 33) hx hb hts iw_X5_made_X5 tyX5 tyX5_ok nmX5 hown hK.1 hP (wM_D hA) hS 0 rfl rfl 28 (by decide) (hts _ fl_X5_made_160) (fun _ h9 => h9) rfl (by decide +kernel) rfl rfl (Nat.le_of_ble_eq_true rfl) dX5_made_213 (fun H locs hP _ hS => ?_)
                have hP : va_P w.1 vwCl (wM w me mb mc mt mk mrv (mqv.1 - (1 : Int32), mqv.2.1, mqv.2.2.1, mqv.2.2.2.1, mqv.2.2.2.2.1, mqv.2.2.2.2.2.1 - (1 : Int32), mqv.2.2.2.2.2.2) mv) H := hP
                refine lv_aload_n hx hb dX5_made_216 rfl (lv_at hl 2 rfl) ?_
                refine va_get (D := w.1) (ci := 6) (v := .ref (w.2.2 21)) (C := RX5) (T := TX5) (N := 33) hx hb hts iw_X5_made_X5 hown hK.1 hP 0 rfl rfl 25 (by decide) (hts _ fl_X5_made_73) (fun _ h9 => h9) rfl dX5_made_217 ?_
                refine lv_aload_n hx hb dX5_made_220 rfl (lv_at hl 2 rfl) ?_
                refine va_get (D := w.1) (ci := 6) (v := .int (mqv.2.2.2.2.2.1 - (1 : Int32))) (C := RX5) (T := TX5) (N := 33) hx hb hts iw_X5_made_X5 hown hK.1 hP 0 rfl rfl 28 (by decide) (hts _ fl_X5_made_160) (fun _ h9 => h9) rfl dX5_made_221 ?_
                have o25 := k24.1
                have k26 := k24.2
                refine va_iald hx hb hK.1 hP 21 0 rfl rfl o25 dX5_made_224 ?_
                refine lv_istore (lv' := [(4, .int (mqv.2.2.2.2.2.2 (mqv.2.2.2.2.2.1 - (1 : Int32)).toNatClampNeg)), (3, .int ((mqv.2.2.2.2.1 (mqv.1 - (1 : Int32)).toNatClampNeg).toInt32)), (2, .int (mqv.2.1 (mqv.1 - (1 : Int32)).toNatClampNeg)), (0, .ref (w.2.2 0))]) hx hb dX5_made_225 hl (by decide) rfl (fun ls hl => ?_)
                refine lv_iload_n hx hb dX5_made_227 rfl (lv_at hl 2 rfl) ?_
                refine lv_iconst (v := 5) hx hb dX5_made_228 (by decide) ?_
                refine lv_icmp_ne (tgt := 244) hx hb dX5_made_229 (by decide) (fun b27 => ?_) (fun b27 => ?_)
                ·
                  have k28 := Eq.mp (if_neg b27) k26
                  refine lv_iload hx hb dX5_made_244 (lv_at hl 0 rfl) ?_
                  refine lv_sipush (v := 400) hx hb dX5_made_246 (by decide) ?_
                  refine lv_icmp_ge (tgt := 264) hx hb dX5_made_249 (by decide) (fun b29 => ?_) (fun b29 => ?_)
                  ·
                    have k30 := Eq.mp (if_pos b29) k28
                    refine lv_goto (tgt := 24) hx hb dX5_made_264 (by decide) ?_
                    exact ih mrv (mqv.1 - (1 : Int32), mqv.2.1, mqv.2.2.1, mqv.2.2.2.1, mqv.2.2.2.2.1, mqv.2.2.2.2.2.1 - (1 : Int32), mqv.2.2.2.2.2.2) _ _ hP hS k30 (Eq.trans (Eq.trans (Eq.trans (Eq.trans (Eq.trans (Eq.trans (Eq.trans (Eq.trans hg (if_neg b1)) (if_neg b7)) (if_neg b17)) (if_neg b19)) (if_neg b21)) (if_neg b23)) (if_neg b27)) (if_pos b29)) ls (lv_sub hl [3] rfl)
                  ·
                    have k31 := Eq.mp (if_neg b29) k28
                    refine lv_aload_n hx hb dX5_made_252 rfl (lv_at hl 3 rfl) ?_
                    refine va_get (D := w.1) (ci := 6) (v := .ref (w.2.2 17)) (C := RX5) (T := TX5) (N := 33) hx hb hts iw_X5_made_X5 hown hK.1 hP 0 rfl rfl 19 (by decide) (hts _ fl_X5_made_61) (fun _ h9 => h9) rfl dX5_made_253 ?_
                    refine lv_iload hx hb dX5_made_256 (lv_at hl 0 rfl) ?_
                    refine lv_aload_n hx hb dX5_made_258 rfl (lv_at hl 3 rfl) ?_
                    refine va_get (D := w.1) (ci := 6) (v := .int mrv.1) (C := RX5) (T := TX5) (N := 33) hx hb hts iw_X5_made_X5 hown hK.1 hP 0 rfl rfl 21 (by decide) (hts _ fl_X5_made_149) (fun _ h9 => h9) rfl dX5_made_259 ?_
                    refine lv_i2l hx hb dX5_made_262 rfl ?_
                    have o32 := k31.1
                    have k33 := k31.2
                    refine va_last hx hb hK.1 hP (wM_D hA) hS 17 3 rfl rfl o32 dX5_made_263 (fun H locs hP _ hS => ?_)
                    have hP : va_P w.1 vwCl (wM w me mb mc mt mk (mrv.1, mrv.2.1, mrv.2.2.1, vp_updL mrv.2.2.2 (mqv.2.2.2.2.2.2 (mqv.2.2.2.2.2.1 - (1 : Int32)).toNatClampNeg).toNatClampNeg mrv.1.toInt64) (mqv.1 - (1 : Int32), mqv.2.1, mqv.2.2.1, mqv.2.2.2.1, mqv.2.2.2.2.1, mqv.2.2.2.2.2.1 - (1 : Int32), mqv.2.2.2.2.2.2) mv) H := hP
                    refine lv_goto (tgt := 24) hx hb dX5_made_264 (by decide) ?_
                    exact ih (mrv.1, mrv.2.1, mrv.2.2.1, vp_updL mrv.2.2.2 (mqv.2.2.2.2.2.2 (mqv.2.2.2.2.2.1 - (1 : Int32)).toNatClampNeg).toNatClampNeg mrv.1.toInt64) (mqv.1 - (1 : Int32), mqv.2.1, mqv.2.2.1, mqv.2.2.2.1, mqv.2.2.2.2.1, mqv.2.2.2.2.2.1 - (1 : Int32), mqv.2.2.2.2.2.2) _ _ hP hS k33 (Eq.trans (Eq.trans (Eq.trans (Eq.trans (Eq.trans (Eq.trans (Eq.trans (Eq.trans hg (if_neg b1)) (if_neg b7)) (if_neg b17)) (if_neg b19)) (if_neg b21)) (if_neg b23)) (if_neg b27)) (if_neg b29)) ls (lv_sub hl [3] rfl)
                ·
                  have k34 := Eq.mp (if_pos b27) k26
                  refine lv_aload_n hx hb dX5_made_232 rfl (lv_at hl 3 rfl) ?_
                  refine lv_bipush (v := 14) hx hb dX5_made_233 (by decide) ?_
                  refine lv_iload hx hb dX5_made_235 (lv_at hl 0 rfl) ?_
                  refine lv_i2l hx hb dX5_made_237 rfl ?_
                  refine lv_lconst (v := 1) hx hb dX5_made_238 (by decide) ?_
                  refine lv_ladd hx hb dX5_made_239 ?_
                  refine lv_iconst (v := 0) hx hb dX5_made_240 (by decide) ?_
                  have o35 := k34.1
                  have k36 := k34.2
                  refine xM_v (va_runV (As := [.int (14 : Int32), .long (((mqv.2.2.2.2.2.2 (mqv.2.2.2.2.2.1 - (1 : Int32)).toNatClampNeg).toInt64) + (1 : Int64)), .int (0 : Int32)]) (rest := []) ⟨hx, hb, hml, hown, hts⟩ (c_X5_row l w hA me mb mc mt mk mrv (mqv.1 - (1 : Int32), mqv.2.1, mqv.2.2.1, mqv.2.2.2.1, mqv.2.2.2.2.1, mqv.2.2.2.2.2.1 - (1 : Int32), mqv.2.2.2.2.2.2) mv (14 : Int32) (((mqv.2.2.2.2.2.2 (mqv.2.2.2.2.2.1 - (1 : Int32)).toNatClampNeg).toInt64) + (1 : Int64)) (0 : Int32) o35) (cwV 3 hts gX5_made_X5_row rfl rfl rfl dv_X5_row ⟨Nat.le_of_ble_eq_true rfl, Nat.le_of_ble_eq_true rfl⟩) (wPreV hP hK (ci := 6) (q0 := 0) rfl rfl) rfl rfl hl.1 rfl (lv_room (Nat.le_of_ble_eq_true rfl)) dX5_made_241 ⟨Nat.zero_le _, Nat.zero_le _⟩) hS (fun H locs hP hS => ?_)
                  have hP : va_P w.1 vwCl (wM w me mb mc mt mk (G_X5_row mrv (14 : Int32) (((mqv.2.2.2.2.2.2 (mqv.2.2.2.2.2.1 - (1 : Int32)).toNatClampNeg).toInt64) + (1 : Int64)) (0 : Int32)) (mqv.1 - (1 : Int32), mqv.2.1, mqv.2.2.1, mqv.2.2.2.1, mqv.2.2.2.2.1, mqv.2.2.2.2.2.1 - (1 : Int32), mqv.2.2.2.2.2.2) mv) H := hP
                  refine lv_iload hx hb dX5_made_244 (lv_at hl 0 rfl) ?_
                  refine lv_sipush (v := 400) hx hb dX5_made_246 (by decide) ?_
                  refine lv_icmp_ge (tgt := 264) hx hb dX5_made_249 (by decide) (fun b37 => ?_) (fun b37 => ?_)
                  ·
                    have k38 := Eq.mp (if_pos b37) k36
                    refine lv_goto (tgt := 24) hx hb dX5_made_264 (by decide) ?_
                    exact ih (G_X5_row mrv (14 : Int32) (((mqv.2.2.2.2.2.2 (mqv.2.2.2.2.2.1 - (1 : Int32)).toNatClampNeg).toInt64) + (1 : Int64)) (0 : Int32)) (mqv.1 - (1 : Int32), mqv.2.1, mqv.2.2.1, mqv.2.2.2.1, mqv.2.2.2.2.1, mqv.2.2.2.2.2.1 - (1 : Int32), mqv.2.2.2.2.2.2) _ _ hP hS k38 (Eq.trans (Eq.trans (Eq.trans (Eq.trans (Eq.trans (Eq.trans (Eq.trans (Eq.trans hg (if_neg b1)) (if_neg b7)) (if_neg b17)) (if_neg b19)) (if_neg b21)) (if_neg b23)) (if_pos b27)) (if_pos b37)) ls (lv_sub hl [3] rfl)
                  ·
                    have k39 := Eq.mp (if_neg b37) k36
                    refine lv_aload_n hx hb dX5_made_252 rfl (lv_at hl 3 rfl) ?_
                    refine va_get (D := w.1) (ci := 6) (v := .ref (w.2.2 17)) (C := RX5) (T := TX5) (N := 33) hx hb hts iw_X5_made_X5 hown hK.1 hP 0 rfl rfl 19 (by decide) (hts _ fl_X5_made_61) (fun _ h9 => h9) rfl dX5_made_253 ?_
                    refine lv_iload hx hb dX5_made_256 (lv_at hl 0 rfl) ?_
                    refine lv_aload_n hx hb dX5_made_258 rfl (lv_at hl 3 rfl) ?_
                    refine va_get (D := w.1) (ci := 6) (v := .int ((G_X5_row mrv (14 : Int32) (((mqv.2.2.2.2.2.2 (mqv.2.2.2.2.2.1 - (1 : Int32)).toNatClampNeg).toInt64) + (1 : Int64)) (0 : Int32)).1)) (C := RX5) (T := TX5) (N := 33) hx hb hts iw_X5_made_X5 hown hK.1 hP 0 rfl rfl 21 (by decide) (hts _ fl_X5_made_149) (fun _ h9 => h9) rfl dX5_made_259 ?_
                    refine lv_i2l hx hb dX5_made_262 rfl ?_
                    have o40 := k39.1
                    have k41 := k39.2
                    refine va_last hx hb hK.1 hP (wM_D hA) hS 17 3 rfl rfl o40 dX5_made_263 (fun H locs hP _ hS => ?_)
                    have hP : va_P w.1 vwCl (wM w me mb mc mt mk ((G_X5_row mrv (14 : Int32) (((mqv.2.2.2.2.2.2 (mqv.2.2.2.2.2.1 - (1 : Int32)).toNatClampNeg).toInt64) + (1 : Int64)) (0 : Int32)).1, (G_X5_row mrv (14 : Int32) (((mqv.2.2.2.2.2.2 (mqv.2.2.2.2.2.1 - (1 : Int32)).toNatClampNeg).toInt64) + (1 : Int64)) (0 : Int32)).2.1, (G_X5_row mrv (14 : Int32) (((mqv.2.2.2.2.2.2 (mqv.2.2.2.2.2.1 - (1 : Int32)).toNatClampNeg).toInt64) + (1 : Int64)) (0 : Int32)).2.2.1, vp_updL ((G_X5_row mrv (14 : Int32) (((mqv.2.2.2.2.2.2 (mqv.2.2.2.2.2.1 - (1 : Int32)).toNatClampNeg).toInt64) + (1 : Int64)) (0 : Int32)).2.2.2) (mqv.2.2.2.2.2.2 (mqv.2.2.2.2.2.1 - (1 : Int32)).toNatClampNeg).toNatClampNeg (((G_X5_row mrv (14 : Int32) (((mqv.2.2.2.2.2.2 (mqv.2.2.2.2.2.1 - (1 : Int32)).toNatClampNeg).toInt64) + (1 : Int64)) (0 : Int32)).1).toInt64)) (mqv.1 - (1 : Int32), mqv.2.1, mqv.2.2.1, mqv.2.2.2.1, mqv.2.2.2.2.1, mqv.2.2.2.2.2.1 - (1 : Int32), mqv.2.2.2.2.2.2) mv) H := hP
                    refine lv_goto (tgt := 24) hx hb dX5_made_264 (by decide) ?_
                    exact ih ((G_X5_row mrv (14 : Int32) (((mqv.2.2.2.2.2.2 (mqv.2.2.2.2.2.1 - (1 : Int32)).toNatClampNeg).toInt64) + (1 : Int64)) (0 : Int32)).1, (G_X5_row mrv (14 : Int32) (((mqv.2.2.2.2.2.2 (mqv.2.2.2.2.2.1 - (1 : Int32)).toNatClampNeg).toInt64) + (1 : Int64)) (0 : Int32)).2.1, (G_X5_row mrv (14 : Int32) (((mqv.2.2.2.2.2.2 (mqv.2.2.2.2.2.1 - (1 : Int32)).toNatClampNeg).toInt64) + (1 : Int64)) (0 : Int32)).2.2.1, vp_updL ((G_X5_row mrv (14 : Int32) (((mqv.2.2.2.2.2.2 (mqv.2.2.2.2.2.1 - (1 : Int32)).toNatClampNeg).toInt64) + (1 : Int64)) (0 : Int32)).2.2.2) (mqv.2.2.2.2.2.2 (mqv.2.2.2.2.2.1 - (1 : Int32)).toNatClampNeg).toNatClampNeg (((G_X5_row mrv (14 : Int32) (((mqv.2.2.2.2.2.2 (mqv.2.2.2.2.2.1 - (1 : Int32)).toNatClampNeg).toInt64) + (1 : Int64)) (0 : Int32)).1).toInt64)) (mqv.1 - (1 : Int32), mqv.2.1, mqv.2.2.1, mqv.2.2.2.1, mqv.2.2.2.2.1, mqv.2.2.2.2.2.1 - (1 : Int32), mqv.2.2.2.2.2.2) _ _ hP hS k41 (Eq.trans (Eq.trans (Eq.trans (Eq.trans (Eq.trans (Eq.trans (Eq.trans (Eq.trans hg (if_neg b1)) (if_neg b7)) (if_neg b17)) (if_neg b19)) (if_neg b21)) (if_neg b23)) (if_pos b27)) (if_neg b37)) ls (lv_sub hl [3] rfl)
              ·
                have k42 := Eq.mp (if_pos b23) k22
                refine lv_aload_n hx hb dX5_made_165 rfl (lv_at hl 2 rfl) ?_
                refine va_get (D := w.1) (ci := 6) (v := .ref (w.2.2 21)) (C := RX5) (T := TX5) (N := 33) hx hb hts iw_X5_made_X5 hown hK.1 hP 0 rfl rfl 25 (by decide) (hts _ fl_X5_made_73) (fun _ h9 => h9) rfl dX5_made_166 ?_
                refine lv_aload_n hx hb dX5_made_169 rfl (lv_at hl 2 rfl) ?_
                refine va_get (D := w.1) (ci := 6) (v := .int mqv.2.2.2.2.2.1) (C := RX5) (T := TX5) (N := 33) hx hb hts iw_X5_made_X5 hown hK.1 hP 0 rfl rfl 28 (by decide) (hts _ fl_X5_made_160) (fun _ h9 => h9) rfl dX5_made_170 ?_
                refine lv_aload_n hx hb dX5_made_173 rfl (lv_at hl 2 rfl) ?_
                refine va_get (D := w.1) (ci := 6) (v := .int mrv.1) (C := RX5) (T := TX5) (N := 33) hx hb hts iw_X5_made_X5 hown hK.1 hP 0 rfl rfl 21 (by decide) (hts _ fl_X5_made_149) (fun _ h9 => h9) rfl dX5_made_174 ?_
                have o43 := k42.1
                have k44 := k42.2
                refine va_iast hx hb hK.1 hP (wM_D hA) hS 21 0 rfl rfl o43 dX5_made_177 (fun H locs hP _ hS => ?_)
                have hP : va_P w.1 vwCl (wM w me mb mc mt mk mrv (mqv.1 - (1 : Int32), mqv.2.1, mqv.2.2.1, mqv.2.2.2.1, mqv.2.2.2.2.1, mqv.2.2.2.2.2.1, upd mqv.2.2.2.2.2.2 mqv.2.2.2.2.2.1.toNatClampNeg mrv.1) mv) H := hP
                refine lv_aload_n hx hb dX5_made_178 rfl (lv_at hl 2 rfl) ?_
                refine lv_dup hx hb dX5_made_179 rfl ?_
                refine va_get (D := w.1) (ci := 6) (v := .int mqv.2.2.2.2.2.1) (C := RX5) (T := TX5) (N := 33) hx hb hts iw_X5_made_X5 hown hK.1 hP 0 rfl rfl 28 (by decide) (hts _ fl_X5_made_160) (fun _ h9 => h9) rfl dX5_made_180 ?_
                refine lv_iconst (v := 1) hx hb dX5_made_183 (by decide) ?_
                refine lv_iadd hx hb dX5_made_184 ?_
                refine va_put (D := w.1) (ci := 6) (v := .int (mqv.2.2.2.2.2.1 + (1 : Int32))) (ty := .int) (C := RX5) (T := TX5) (N := 33) hx hb hts iw_X5_made_X5 tyX5 tyX5_ok nmX5 hown hK.1 hP (wM_D hA) hS 0 rfl rfl 28 (by decide) (hts _ fl_X5_made_160) (fun _ h9 => h9) rfl (by decide +kernel) rfl rfl (Nat.le_of_ble_eq_true rfl) dX5_made_185 (fun H locs hP _ hS => ?_)
                have hP : va_P w.1 vwCl (wM w me mb mc mt mk mrv (mqv.1 - (1 : Int32), mqv.2.1, mqv.2.2.1, mqv.2.2.2.1, mqv.2.2.2.2.1, mqv.2.2.2.2.2.1 + (1 : Int32), upd mqv.2.2.2.2.2.2 mqv.2.2.2.2.2.1.toNatClampNeg mrv.1) mv) H := hP
                refine lv_aload_n hx hb dX5_made_188 rfl (lv_at hl 2 rfl) ?_
                refine lv_aload_n hx hb dX5_made_189 rfl (lv_at hl 2 rfl) ?_
                refine va_get (D := w.1) (ci := 6) (v := .ref (w.2.2 19)) (C := RX5) (T := TX5) (N := 33) hx hb hts iw_X5_made_X5 hown hK.1 hP 0 rfl rfl 23 (by decide) (hts _ fl_X5_made_67) (fun _ h9 => h9) rfl dX5_made_190 ?_
                refine lv_aload_n hx hb dX5_made_193 rfl (lv_at hl 2 rfl) ?_
                refine va_get (D := w.1) (ci := 6) (v := .int (mqv.1 - (1 : Int32))) (C := RX5) (T := TX5) (N := 33) hx hb hts iw_X5_made_X5 hown hK.1 hP 0 rfl rfl 27 (by decide) (hts _ fl_X5_made_146) (fun _ h9 => h9) rfl dX5_made_194 ?_
                have o45 := k44.1
                have k46 := k44.2
                refine va_iald hx hb hK.1 hP 19 0 rfl rfl o45 dX5_made_197 ?_
                refine lv_lconst (v := 0) hx hb dX5_made_198 (by decide) ?_
                refine lv_iconst (v := 0) hx hb dX5_made_199 (by decide) ?_
                have o47 := k46.1
                have k48 := k46.2
                refine xM_v (va_runV (As := [.int (mqv.2.2.1 (mqv.1 - (1 : Int32)).toNatClampNeg), .long (0 : Int64), .int (0 : Int32)]) (rest := []) ⟨hx, hb, hml, hown, hts⟩ (c_X5_row l w hA me mb mc mt mk mrv (mqv.1 - (1 : Int32), mqv.2.1, mqv.2.2.1, mqv.2.2.2.1, mqv.2.2.2.2.1, mqv.2.2.2.2.2.1 + (1 : Int32), upd mqv.2.2.2.2.2.2 mqv.2.2.2.2.2.1.toNatClampNeg mrv.1) mv (mqv.2.2.1 (mqv.1 - (1 : Int32)).toNatClampNeg) (0 : Int64) (0 : Int32) o47) (cwV 3 hts gX5_made_X5_row rfl rfl rfl dv_X5_row ⟨Nat.le_of_ble_eq_true rfl, Nat.le_of_ble_eq_true rfl⟩) (wPreV hP hK (ci := 6) (q0 := 0) rfl rfl) rfl rfl hl.1 rfl (lv_room (Nat.le_of_ble_eq_true rfl)) dX5_made_200 ⟨Nat.zero_le _, Nat.zero_le _⟩) hS (fun H locs hP hS => ?_)
                have hP : va_P w.1 vwCl (wM w me mb mc mt mk (G_X5_row mrv (mqv.2.2.1 (mqv.1 - (1 : Int32)).toNatClampNeg) (0 : Int64) (0 : Int32)) (mqv.1 - (1 : Int32), mqv.2.1, mqv.2.2.1, mqv.2.2.2.1, mqv.2.2.2.2.1, mqv.2.2.2.2.2.1 + (1 : Int32), upd mqv.2.2.2.2.2.2 mqv.2.2.2.2.2.1.toNatClampNeg mrv.1) mv) H := hP
                refine lv_goto (tgt := 264) hx hb dX5_made_203 (by decide) ?_
                refine lv_goto (tgt := 24) hx hb dX5_made_264 (by decide) ?_
                exact ih (G_X5_row mrv (mqv.2.2.1 (mqv.1 - (1 : Int32)).toNatClampNeg) (0 : Int64) (0 : Int32)) (mqv.1 - (1 : Int32), mqv.2.1, mqv.2.2.1, mqv.2.2.2.1, mqv.2.2.2.2.1, mqv.2.2.2.2.2.1 + (1 : Int32), upd mqv.2.2.2.2.2.2 mqv.2.2.2.2.2.1.toNatClampNeg mrv.1) _ _ hP hS k48 (Eq.trans (Eq.trans (Eq.trans (Eq.trans (Eq.trans (Eq.trans hg (if_neg b1)) (if_neg b7)) (if_neg b17)) (if_neg b19)) (if_neg b21)) (if_pos b23)) ls (lv_sub hl [2] rfl)
            ·
              have k49 := Eq.mp (if_pos b21) k20
              refine lv_aload_n hx hb dX5_made_126 rfl (lv_at hl 2 rfl) ?_
              refine lv_aload_n hx hb dX5_made_127 rfl (lv_at hl 2 rfl) ?_
              refine va_get (D := w.1) (ci := 6) (v := .ref (w.2.2 19)) (C := RX5) (T := TX5) (N := 33) hx hb hts iw_X5_made_X5 hown hK.1 hP 0 rfl rfl 23 (by decide) (hts _ fl_X5_made_67) (fun _ h9 => h9) rfl dX5_made_128 ?_
              refine lv_aload_n hx hb dX5_made_131 rfl (lv_at hl 2 rfl) ?_
              refine va_get (D := w.1) (ci := 6) (v := .int (mqv.1 - (1 : Int32))) (C := RX5) (T := TX5) (N := 33) hx hb hts iw_X5_made_X5 hown hK.1 hP 0 rfl rfl 27 (by decide) (hts _ fl_X5_made_146) (fun _ h9 => h9) rfl dX5_made_132 ?_
              have o50 := k49.1
              have k51 := k49.2
              refine va_iald hx hb hK.1 hP 19 0 rfl rfl o50 dX5_made_135 ?_
              refine lv_aload_n hx hb dX5_made_136 rfl (lv_at hl 2 rfl) ?_
              refine va_get (D := w.1) (ci := 6) (v := .ref (w.2.2 22)) (C := RX5) (T := TX5) (N := 33) hx hb hts iw_X5_made_X5 hown hK.1 hP 0 rfl rfl 26 (by decide) (hts _ fl_X5_made_76) (fun _ h9 => h9) rfl dX5_made_137 ?_
              refine lv_aload_n hx hb dX5_made_140 rfl (lv_at hl 2 rfl) ?_
              refine va_get (D := w.1) (ci := 6) (v := .int (mqv.1 - (1 : Int32))) (C := RX5) (T := TX5) (N := 33) hx hb hts iw_X5_made_X5 hown hK.1 hP 0 rfl rfl 27 (by decide) (hts _ fl_X5_made_146) (fun _ h9 => h9) rfl dX5_made_141 ?_
              have o52 := k51.1
              have k53 := k51.2
              refine va_lald hx hb hK.1 hP 22 3 rfl rfl o52 dX5_made_144 ?_
              refine lv_aload_n hx hb dX5_made_145 rfl (lv_at hl 2 rfl) ?_
              refine va_get (D := w.1) (ci := 6) (v := .ref (w.2.2 20)) (C := RX5) (T := TX5) (N := 33) hx hb hts iw_X5_made_X5 hown hK.1 hP 0 rfl rfl 24 (by decide) (hts _ fl_X5_made_70) (fun _ h9 => h9) rfl dX5_made_146 ?_
              refine lv_aload_n hx hb dX5_made_149 rfl (lv_at hl 2 rfl) ?_
              refine va_get (D := w.1) (ci := 6) (v := .int (mqv.1 - (1 : Int32))) (C := RX5) (T := TX5) (N := 33) hx hb hts iw_X5_made_X5 hown hK.1 hP 0 rfl rfl 27 (by decide) (hts _ fl_X5_made_146) (fun _ h9 => h9) rfl dX5_made_150 ?_
              have o54 := k53.1
              have k55 := k53.2
              refine va_iald hx hb hK.1 hP 20 0 rfl rfl o54 dX5_made_153 ?_
              have o56 := k55.1
              have k57 := k55.2
              refine xM_v (va_runV (As := [.int (mqv.2.2.1 (mqv.1 - (1 : Int32)).toNatClampNeg), .long (mqv.2.2.2.2.1 (mqv.1 - (1 : Int32)).toNatClampNeg), .int (mqv.2.2.2.1 (mqv.1 - (1 : Int32)).toNatClampNeg)]) (rest := []) ⟨hx, hb, hml, hown, hts⟩ (c_X5_row l w hA me mb mc mt mk mrv (mqv.1 - (1 : Int32), mqv.2.1, mqv.2.2.1, mqv.2.2.2.1, mqv.2.2.2.2.1, mqv.2.2.2.2.2.1, mqv.2.2.2.2.2.2) mv (mqv.2.2.1 (mqv.1 - (1 : Int32)).toNatClampNeg) (mqv.2.2.2.2.1 (mqv.1 - (1 : Int32)).toNatClampNeg) (mqv.2.2.2.1 (mqv.1 - (1 : Int32)).toNatClampNeg) o56) (cwV 3 hts gX5_made_X5_row rfl rfl rfl dv_X5_row ⟨Nat.le_of_ble_eq_true rfl, Nat.le_of_ble_eq_true rfl⟩) (wPreV hP hK (ci := 6) (q0 := 0) rfl rfl) rfl rfl hl.1 rfl (lv_room (Nat.le_of_ble_eq_true rfl)) dX5_made_154 ⟨Nat.zero_le _, Nat.zero_le _⟩) hS (fun H locs hP hS => ?_)
              have hP : va_P w.1 vwCl (wM w me mb mc mt mk (G_X5_row mrv (mqv.2.2.1 (mqv.1 - (1 : Int32)).toNatClampNeg) (mqv.2.2.2.2.1 (mqv.1 - (1 : Int32)).toNatClampNeg) (mqv.2.2.2.1 (mqv.1 - (1 : Int32)).toNatClampNeg)) (mqv.1 - (1 : Int32), mqv.2.1, mqv.2.2.1, mqv.2.2.2.1, mqv.2.2.2.2.1, mqv.2.2.2.2.2.1, mqv.2.2.2.2.2.2) mv) H := hP
              refine lv_goto (tgt := 264) hx hb dX5_made_157 (by decide) ?_
              refine lv_goto (tgt := 24) hx hb dX5_made_264 (by decide) ?_
              exact ih (G_X5_row mrv (mqv.2.2.1 (mqv.1 - (1 : Int32)).toNatClampNeg) (mqv.2.2.2.2.1 (mqv.1 - (1 : Int32)).toNatClampNeg) (mqv.2.2.2.1 (mqv.1 - (1 : Int32)).toNatClampNeg)) (mqv.1 - (1 : Int32), mqv.2.1, mqv.2.2.1, mqv.2.2.2.1, mqv.2.2.2.2.1, mqv.2.2.2.2.2.1, mqv.2.2.2.2.2.2) _ _ hP hS k57 (Eq.trans (Eq.trans (Eq.trans (Eq.trans (Eq.trans hg (if_neg b1)) (if_neg b7)) (if_neg b17)) (if_neg b19)) (if_pos b21)) ls (lv_sub hl [2] rfl)
          ·
            have k58 := Eq.mp (if_pos b19) k18
            refine lv_aload_n hx hb dX5_made_89 rfl (lv_at hl 2 rfl) ?_
            refine va_get (D := w.1) (ci := 6) (v := .ref (w.2.2 6)) (C := RX5) (T := TX5) (N := 33) hx hb hts iw_X5_made_X5 hown hK.1 hP 0 rfl rfl 7 (by decide) (hts _ fl_X5_made_26) (fun _ h9 => h9) rfl dX5_made_90 ?_
            refine lv_iload_n hx hb dX5_made_93 rfl (lv_at hl 0 rfl) ?_
            have o59 := k58.1
            have k60 := k58.2
            refine va_iald hx hb hK.1 hP 6 0 rfl rfl o59 dX5_made_94 ?_
            refine lv_bipush (v := 9) hx hb dX5_made_95 (by decide) ?_
            refine lv_icmp_ge (tgt := 109) hx hb dX5_made_97 (by decide) (fun b61 => ?_) (fun b61 => ?_)
            ·
              have k62 := Eq.mp (if_pos b61) k60
              refine lv_aload_n hx hb dX5_made_109 rfl (lv_at hl 2 rfl) ?_
              refine lv_iconst (v := 0) hx hb dX5_made_110 (by decide) ?_
              refine lv_iconst (v := 0) hx hb dX5_made_111 (by decide) ?_
              refine lv_iload_n hx hb dX5_made_112 rfl (lv_at hl 0 rfl) ?_
              refine lv_i2l hx hb dX5_made_113 rfl ?_
              refine lv_iconst (v := 0) hx hb dX5_made_114 (by decide) ?_
              have o63 := k62.1
              have k64 := k62.2
              refine xM_v (va_runV (As := [.int (0 : Int32), .int (0 : Int32), .long (((mqv.2.2.2.2.1 (mqv.1 - (1 : Int32)).toNatClampNeg).toInt32).toInt64), .int (0 : Int32)]) (rest := []) ⟨hx, hb, hml, hown, hts⟩ (c_X5_task l w hA me mb mc mt mk mrv (mqv.1 - (1 : Int32), mqv.2.1, mqv.2.2.1, mqv.2.2.2.1, mqv.2.2.2.2.1, mqv.2.2.2.2.2.1, mqv.2.2.2.2.2.2) mv (0 : Int32) (0 : Int32) (((mqv.2.2.2.2.1 (mqv.1 - (1 : Int32)).toNatClampNeg).toInt32).toInt64) (0 : Int32) o63) (cwV 4 hts gX5_made_X5_task rfl rfl rfl dv_X5_task ⟨Nat.le_of_ble_eq_true rfl, Nat.le_of_ble_eq_true rfl⟩) (wPreV hP hK (ci := 6) (q0 := 0) rfl rfl) rfl rfl hl.1 rfl (lv_room (Nat.le_of_ble_eq_true rfl)) dX5_made_115 ⟨Nat.zero_le _, Nat.zero_le _⟩) hS (fun H locs hP hS => ?_)
              have hP : va_P w.1 vwCl (wM w me mb mc mt mk mrv (G_X5_task (mqv.1 - (1 : Int32), mqv.2.1, mqv.2.2.1, mqv.2.2.2.1, mqv.2.2.2.2.1, mqv.2.2.2.2.2.1, mqv.2.2.2.2.2.2) (0 : Int32) (0 : Int32) (((mqv.2.2.2.2.1 (mqv.1 - (1 : Int32)).toNatClampNeg).toInt32).toInt64) (0 : Int32)) mv) H := hP
              refine lv_goto (tgt := 264) hx hb dX5_made_118 (by decide) ?_
              refine lv_goto (tgt := 24) hx hb dX5_made_264 (by decide) ?_
              exact ih mrv (G_X5_task (mqv.1 - (1 : Int32), mqv.2.1, mqv.2.2.1, mqv.2.2.2.1, mqv.2.2.2.2.1, mqv.2.2.2.2.2.1, mqv.2.2.2.2.2.2) (0 : Int32) (0 : Int32) (((mqv.2.2.2.2.1 (mqv.1 - (1 : Int32)).toNatClampNeg).toInt32).toInt64) (0 : Int32)) _ _ hP hS k64 (Eq.trans (Eq.trans (Eq.trans (Eq.trans (Eq.trans hg (if_neg b1)) (if_neg b7)) (if_neg b17)) (if_pos b19)) (if_pos b61)) ls (lv_sub hl [2] rfl)
            ·
              have k65 := Eq.mp (if_neg b61) k60
              refine lv_aload_n hx hb dX5_made_100 rfl (lv_at hl 2 rfl) ?_
              refine lv_iconst (v := 2) hx hb dX5_made_101 (by decide) ?_
              refine lv_bipush (v := 15) hx hb dX5_made_102 (by decide) ?_
              refine lv_lconst (v := 0) hx hb dX5_made_104 (by decide) ?_
              refine lv_iconst (v := 0) hx hb dX5_made_105 (by decide) ?_
              have o66 := k65.1
              have k67 := k65.2
              refine xM_v (va_runV (As := [.int (2 : Int32), .int (15 : Int32), .long (0 : Int64), .int (0 : Int32)]) (rest := []) ⟨hx, hb, hml, hown, hts⟩ (c_X5_task l w hA me mb mc mt mk mrv (mqv.1 - (1 : Int32), mqv.2.1, mqv.2.2.1, mqv.2.2.2.1, mqv.2.2.2.2.1, mqv.2.2.2.2.2.1, mqv.2.2.2.2.2.2) mv (2 : Int32) (15 : Int32) (0 : Int64) (0 : Int32) o66) (cwV 4 hts gX5_made_X5_task rfl rfl rfl dv_X5_task ⟨Nat.le_of_ble_eq_true rfl, Nat.le_of_ble_eq_true rfl⟩) (wPreV hP hK (ci := 6) (q0 := 0) rfl rfl) rfl rfl hl.1 rfl (lv_room (Nat.le_of_ble_eq_true rfl)) dX5_made_106 ⟨Nat.zero_le _, Nat.zero_le _⟩) hS (fun H locs hP hS => ?_)
              have hP : va_P w.1 vwCl (wM w me mb mc mt mk mrv (G_X5_task (mqv.1 - (1 : Int32), mqv.2.1, mqv.2.2.1, mqv.2.2.2.1, mqv.2.2.2.2.1, mqv.2.2.2.2.2.1, mqv.2.2.2.2.2.2) (2 : Int32) (15 : Int32) (0 : Int64) (0 : Int32)) mv) H := hP
              refine lv_aload_n hx hb dX5_made_109 rfl (lv_at hl 2 rfl) ?_
              refine lv_iconst (v := 0) hx hb dX5_made_110 (by decide) ?_
              refine lv_iconst (v := 0) hx hb dX5_made_111 (by decide) ?_
              refine lv_iload_n hx hb dX5_made_112 rfl (lv_at hl 0 rfl) ?_
              refine lv_i2l hx hb dX5_made_113 rfl ?_
              refine lv_iconst (v := 0) hx hb dX5_made_114 (by decide) ?_
              have o68 := k67.1
              have k69 := k67.2
              refine xM_v (va_runV (As := [.int (0 : Int32), .int (0 : Int32), .long (((mqv.2.2.2.2.1 (mqv.1 - (1 : Int32)).toNatClampNeg).toInt32).toInt64), .int (0 : Int32)]) (rest := []) ⟨hx, hb, hml, hown, hts⟩ (c_X5_task l w hA me mb mc mt mk mrv (G_X5_task (mqv.1 - (1 : Int32), mqv.2.1, mqv.2.2.1, mqv.2.2.2.1, mqv.2.2.2.2.1, mqv.2.2.2.2.2.1, mqv.2.2.2.2.2.2) (2 : Int32) (15 : Int32) (0 : Int64) (0 : Int32)) mv (0 : Int32) (0 : Int32) (((mqv.2.2.2.2.1 (mqv.1 - (1 : Int32)).toNatClampNeg).toInt32).toInt64) (0 : Int32) o68) (cwV 4 hts gX5_made_X5_task rfl rfl rfl dv_X5_task ⟨Nat.le_of_ble_eq_true rfl, Nat.le_of_ble_eq_true rfl⟩) (wPreV hP hK (ci := 6) (q0 := 0) rfl rfl) rfl rfl hl.1 rfl (lv_room (Nat.le_of_ble_eq_true rfl)) dX5_made_115 ⟨Nat.zero_le _, Nat.zero_le _⟩) hS (fun H locs hP hS => ?_)
              have hP : va_P w.1 vwCl (wM w me mb mc mt mk mrv (G_X5_task (G_X5_task (mqv.1 - (1 : Int32), mqv.2.1, mqv.2.2.1, mqv.2.2.2.1, mqv.2.2.2.2.1, mqv.2.2.2.2.2.1, mqv.2.2.2.2.2.2) (2 : Int32) (15 : Int32) (0 : Int64) (0 : Int32)) (0 : Int32) (0 : Int32) (((mqv.2.2.2.2.1 (mqv.1 - (1 : Int32)).toNatClampNeg).toInt32).toInt64) (0 : Int32)) mv) H := hP
              refine lv_goto (tgt := 264) hx hb dX5_made_118 (by decide) ?_
              refine lv_goto (tgt := 24) hx hb dX5_made_264 (by decide) ?_
              exact ih mrv (G_X5_task (G_X5_task (mqv.1 - (1 : Int32), mqv.2.1, mqv.2.2.1, mqv.2.2.2.1, mqv.2.2.2.2.1, mqv.2.2.2.2.2.1, mqv.2.2.2.2.2.2) (2 : Int32) (15 : Int32) (0 : Int64) (0 : Int32)) (0 : Int32) (0 : Int32) (((mqv.2.2.2.2.1 (mqv.1 - (1 : Int32)).toNatClampNeg).toInt32).toInt64) (0 : Int32)) _ _ hP hS k69 (Eq.trans (Eq.trans (Eq.trans (Eq.trans (Eq.trans hg (if_neg b1)) (if_neg b7)) (if_neg b17)) (if_pos b19)) (if_neg b61)) ls (lv_sub hl [2] rfl)
        ·
          have k70 := Eq.mp (if_pos b17) k16
          refine lv_aload_n hx hb dX5_made_76 rfl (lv_at hl 2 rfl) ?_
          refine lv_iload_n hx hb dX5_made_77 rfl (lv_at hl 0 rfl) ?_
          have o71 := k70.1
          have k72 := k70.2
          refine xM_v (va_runV (As := [.int ((mqv.2.2.2.2.1 (mqv.1 - (1 : Int32)).toNatClampNeg).toInt32)]) (rest := []) ⟨hx, hb, hml, hown, hts⟩ (c_X5_laid l w hA me mb mc mt mk mrv (mqv.1 - (1 : Int32), mqv.2.1, mqv.2.2.1, mqv.2.2.2.1, mqv.2.2.2.2.1, mqv.2.2.2.2.2.1, mqv.2.2.2.2.2.2) mv ((mqv.2.2.2.2.1 (mqv.1 - (1 : Int32)).toNatClampNeg).toInt32) o71) (cwV 1 hts gX5_made_X5_laid rfl rfl rfl dv_X5_laid ⟨Nat.le_of_ble_eq_true rfl, Nat.le_of_ble_eq_true rfl⟩) (wPreV hP hK (ci := 6) (q0 := 0) rfl rfl) rfl rfl hl.1 rfl (lv_room (Nat.le_of_ble_eq_true rfl)) dX5_made_78 ⟨Nat.zero_le _, Nat.zero_le _⟩) hS (fun H locs hP hS => ?_)
          have hP : va_P w.1 vwCl (wM w me mb mc mt mk ((G_X5_laid mt mrv (mqv.1 - (1 : Int32), mqv.2.1, mqv.2.2.1, mqv.2.2.2.1, mqv.2.2.2.2.1, mqv.2.2.2.2.2.1, mqv.2.2.2.2.2.2) ((mqv.2.2.2.2.1 (mqv.1 - (1 : Int32)).toNatClampNeg).toInt32)).1) ((G_X5_laid mt mrv (mqv.1 - (1 : Int32), mqv.2.1, mqv.2.2.1, mqv.2.2.2.1, mqv.2.2.2.2.1, mqv.2.2.2.2.2.1, mqv.2.2.2.2.2.2) ((mqv.2.2.2.2.1 (mqv.1 - (1 : Int32)).toNatClampNeg).toInt32)).2) mv) H := hP
          refine lv_goto (tgt := 264) hx hb dX5_made_81 (by decide) ?_
          refine lv_goto (tgt := 24) hx hb dX5_made_264 (by decide) ?_
          exact ih ((G_X5_laid mt mrv (mqv.1 - (1 : Int32), mqv.2.1, mqv.2.2.1, mqv.2.2.2.1, mqv.2.2.2.2.1, mqv.2.2.2.2.2.1, mqv.2.2.2.2.2.2) ((mqv.2.2.2.2.1 (mqv.1 - (1 : Int32)).toNatClampNeg).toInt32)).1) ((G_X5_laid mt mrv (mqv.1 - (1 : Int32), mqv.2.1, mqv.2.2.1, mqv.2.2.2.1, mqv.2.2.2.2.1, mqv.2.2.2.2.2.1, mqv.2.2.2.2.2.2) ((mqv.2.2.2.2.1 (mqv.1 - (1 : Int32)).toNatClampNeg).toInt32)).2) _ _ hP hS k72 (Eq.trans (Eq.trans (Eq.trans hg (if_neg b1)) (if_neg b7)) (if_pos b17)) ls (lv_sub hl [2] rfl)
set_option maxHeartbeats 4000000 in
set_option maxRecDepth 100000 in
theorem c_X5_made (l : Launch) (w : WG) (hA : wAp w 25) (me : ME) (mb : AI) (mc : MC) (mt : MT) (mk : MK) (mr : MR) (mq : MQS) (mv : MV) (n : Int32) (fm : Nat) (hok : OK_X5_made mt mr mq n fm) : Met l yX5_made wsX5_made { frames := 2, cells := 0, slots := 0, locals := 47 } (va_Pc [.ref (w.2.2 0), .int n] (wPK w (wM w me mb mc mt mk mr mq mv))) (xM (some (.int ((G_X5_made mt mr mq n fm).1))) (fun H => va_P w.1 vwCl (wM w me mb mc mt mk ((G_X5_made mt mr mq n fm).2.1) ((G_X5_made mt mr mq n fm).2.2) mv) H) (wA w 25)) 0 0 (wA w 25) := by
  refine xOf (cc := cX5_made) (maxL := 5) (ret := (some .boolean)) (lv := [(0, .ref (w.2.2 0)), (1, .int n)]) (by decide) rfl (Nat.le_of_ble_eq_true rfl) rfl ?_
  intro pP eE S mM below meth C hx hb hr hml hts hown hlk hnm hw ls hl
  obtain ⟨hP, hK⟩ := hw
  have hS : va_S (wA w 25) S.heap S.heap [] := va_S.rf
  have hP : va_P w.1 vwCl (wM w me mb mc mt mk mr mq mv) S.heap := hP
  refine lv_aload_n hx hb dX5_made_0 rfl (lv_at hl 0 rfl) ?_
  refine lv_iconst (v := 0) hx hb dX5_made_1 (by decide) ?_
  refine va_put (D := w.1) (ci := 6) (v := .int (0 : Int32)) (ty := .int) (C := RX5) (T := TX5) (N := 33) hx hb hts iw_X5_made_X5 tyX5 tyX5_ok nmX5 hown hK.1 hP (wM_D hA) hS 0 rfl rfl 21 (by decide) (hts _ fl_X5_made_149) (fun _ h9 => h9) rfl (by decide +kernel) rfl rfl (Nat.le_of_ble_eq_true rfl) dX5_made_2 (fun H locs hP _ hS => ?_)
  have hP : va_P w.1 vwCl (wM w me mb mc mt mk ((0 : Int32), mr.2.1, mr.2.2.1, mr.2.2.2) mq mv) H := hP
  refine lv_aload_n hx hb dX5_made_5 rfl (lv_at hl 0 rfl) ?_
  refine lv_iconst (v := 0) hx hb dX5_made_6 (by decide) ?_
  refine va_put (D := w.1) (ci := 6) (v := .int (0 : Int32)) (ty := .int) (C := RX5) (T := TX5) (N := 33) hx hb hts iw_X5_made_X5 tyX5 tyX5_ok nmX5 hown hK.1 hP (wM_D hA) hS 0 rfl rfl 27 (by decide) (hts _ fl_X5_made_146) (fun _ h9 => h9) rfl (by decide +kernel) rfl rfl (Nat.le_of_ble_eq_true rfl) dX5_made_7 (fun H locs hP _ hS => ?_)
  have hP : va_P w.1 vwCl (wM w me mb mc mt mk ((0 : Int32), mr.2.1, mr.2.2.1, mr.2.2.2) ((0 : Int32), mq.2.1, mq.2.2.1, mq.2.2.2.1, mq.2.2.2.2.1, mq.2.2.2.2.2.1, mq.2.2.2.2.2.2) mv) H := hP
  refine lv_aload_n hx hb dX5_made_10 rfl (lv_at hl 0 rfl) ?_
  refine lv_iconst (v := 0) hx hb dX5_made_11 (by decide) ?_
  refine va_put (D := w.1) (ci := 6) (v := .int (0 : Int32)) (ty := .int) (C := RX5) (T := TX5) (N := 33) hx hb hts iw_X5_made_X5 tyX5 tyX5_ok nmX5 hown hK.1 hP (wM_D hA) hS 0 rfl rfl 28 (by decide) (hts _ fl_X5_made_160) (fun _ h9 => h9) rfl (by decide +kernel) rfl rfl (Nat.le_of_ble_eq_true rfl) dX5_made_12 (fun H locs hP _ hS => ?_)
  have hP : va_P w.1 vwCl (wM w me mb mc mt mk ((0 : Int32), mr.2.1, mr.2.2.1, mr.2.2.2) ((0 : Int32), mq.2.1, mq.2.2.1, mq.2.2.2.1, mq.2.2.2.2.1, (0 : Int32), mq.2.2.2.2.2.2) mv) H := hP
  refine lv_aload_n hx hb dX5_made_15 rfl (lv_at hl 0 rfl) ?_
  refine lv_iconst (v := 0) hx hb dX5_made_16 (by decide) ?_
  refine lv_iconst (v := 0) hx hb dX5_made_17 (by decide) ?_
  refine lv_iload_n hx hb dX5_made_18 rfl (lv_at hl 1 rfl) ?_
  refine lv_i2l hx hb dX5_made_19 rfl ?_
  refine lv_iconst (v := 0) hx hb dX5_made_20 (by decide) ?_
  have o1 := hok.1
  have k2 := hok.2
  refine xM_v (va_runV (As := [.int (0 : Int32), .int (0 : Int32), .long n.toInt64, .int (0 : Int32)]) (rest := []) ⟨hx, hb, hml, hown, hts⟩ (c_X5_task l w hA me mb mc mt mk ((0 : Int32), mr.2.1, mr.2.2.1, mr.2.2.2) ((0 : Int32), mq.2.1, mq.2.2.1, mq.2.2.2.1, mq.2.2.2.2.1, (0 : Int32), mq.2.2.2.2.2.2) mv (0 : Int32) (0 : Int32) n.toInt64 (0 : Int32) o1) (cwV 4 hts gX5_made_X5_task rfl rfl rfl dv_X5_task ⟨Nat.le_of_ble_eq_true rfl, Nat.le_of_ble_eq_true rfl⟩) (wPreV hP hK (ci := 6) (q0 := 0) rfl rfl) rfl rfl hl.1 rfl (lv_room (Nat.le_of_ble_eq_true rfl)) dX5_made_21 ⟨Nat.zero_le _, Nat.zero_le _⟩) hS (fun H locs hP hS => ?_)
  have hP : va_P w.1 vwCl (wM w me mb mc mt mk ((0 : Int32), mr.2.1, mr.2.2.1, mr.2.2.2) (G_X5_task ((0 : Int32), mq.2.1, mq.2.2.1, mq.2.2.2.1, mq.2.2.2.2.1, (0 : Int32), mq.2.2.2.2.2.2) (0 : Int32) (0 : Int32) n.toInt64 (0 : Int32)) mv) H := hP
  exact L_X5_made_L24 l w hA me mb mc mt mk mr mq mv n fm  hx hb hr hml hts hown hlk hK _ fm ((0 : Int32), mr.2.1, mr.2.2.1, mr.2.2.2) (G_X5_task ((0 : Int32), mq.2.1, mq.2.2.1, mq.2.2.2.1, mq.2.2.2.2.1, (0 : Int32), mq.2.2.2.2.2.2) (0 : Int32) (0 : Int32) n.toInt64 (0 : Int32)) _ _ hP hS k2 rfl ls (lv_sub hl [0] rfl)
set_option maxRecDepth 20000 in
theorem iw_X5_keep_X5 : ∀ w ∈ wsX50, w ∈ wsX5_keep := by decide +kernel
set_option maxRecDepth 20000 in
theorem fl_X5_keep_167 : Cond.fieldLink RX5 167 "ProcedureCodeModel" "kept" "I" ∈ wsX5_keep := by decide +kernel
set_option maxRecDepth 20000 in
theorem fl_X5_keep_149 : Cond.fieldLink RX5 149 "ProcedureCodeModel" "rows" "I" ∈ wsX5_keep := by decide +kernel
set_option maxRecDepth 20000 in
theorem fl_X5_keep_46 : Cond.fieldLink RX5 46 "ProcedureCodeModel" "keptOps" "[I" ∈ wsX5_keep := by decide +kernel
set_option maxRecDepth 20000 in
theorem fl_X5_keep_52 : Cond.fieldLink RX5 52 "ProcedureCodeModel" "ops" "[I" ∈ wsX5_keep := by decide +kernel
set_option maxRecDepth 20000 in
theorem fl_X5_keep_58 : Cond.fieldLink RX5 58 "ProcedureCodeModel" "keptNumbers" "[J" ∈ wsX5_keep := by decide +kernel
set_option maxRecDepth 20000 in
theorem fl_X5_keep_61 : Cond.fieldLink RX5 61 "ProcedureCodeModel" "numbers" "[J" ∈ wsX5_keep := by decide +kernel
set_option maxRecDepth 20000 in
theorem fl_X5_keep_49 : Cond.fieldLink RX5 49 "ProcedureCodeModel" "keptDigits" "[I" ∈ wsX5_keep := by decide +kernel
set_option maxRecDepth 20000 in
theorem fl_X5_keep_55 : Cond.fieldLink RX5 55 "ProcedureCodeModel" "rowDigits" "[I" ∈ wsX5_keep := by decide +kernel
def G_X5_keep_L18 (mk : MK) (mr : MR) (gd : Int32) : Nat → Int32 → MK → Int32 × MK
  | 0, _, _ => (0, mk)
  | fu + 1, i, mkv => if mkv.1 ≤ i then (if gd = 0 then (((-1 : Int32), mkv)) else ((mr.1, mkv))) else (G_X5_keep_L18 mk mr gd fu (i + (1 : Int32)) (mkv.1, upd mkv.2.1 i.toNatClampNeg (mr.2.1 i.toNatClampNeg), upd mkv.2.2.1 i.toNatClampNeg (mr.2.2.1 i.toNatClampNeg), vp_updL mkv.2.2.2 i.toNatClampNeg (mr.2.2.2 i.toNatClampNeg)))
def OK_X5_keep_L18 (mk : MK) (mr : MR) (gd : Int32) : Nat → Int32 → MK → Prop
  | 0, _, _ => False
  | fu + 1, i, mkv => if mkv.1 ≤ i then (if gd = 0 then (True) else (True)) else ((vp_in i 401) ∧ ((vp_in i 401) ∧ ((vp_in i 401) ∧ ((vp_in i 401) ∧ ((vp_in i 401) ∧ ((vp_in i 401) ∧ (OK_X5_keep_L18 mk mr gd fu (i + (1 : Int32)) (mkv.1, upd mkv.2.1 i.toNatClampNeg (mr.2.1 i.toNatClampNeg), upd mkv.2.2.1 i.toNatClampNeg (mr.2.2.1 i.toNatClampNeg), vp_updL mkv.2.2.2 i.toNatClampNeg (mr.2.2.2 i.toNatClampNeg)))))))))
def G_X5_keep (mk : MK) (mr : MR) (gd : Int32) : Int32 × MK := if gd = 0 then (G_X5_keep_L18 mk mr gd 402 (0 : Int32) ((0 : Int32), mk.2.1, mk.2.2.1, mk.2.2.2)) else (G_X5_keep_L18 mk mr gd 402 (0 : Int32) (mr.1, mk.2.1, mk.2.2.1, mk.2.2.2))
def OK_X5_keep (mk : MK) (mr : MR) (gd : Int32) : Prop := if gd = 0 then (OK_X5_keep_L18 mk mr gd 402 (0 : Int32) ((0 : Int32), mk.2.1, mk.2.2.1, mk.2.2.2)) else (OK_X5_keep_L18 mk mr gd 402 (0 : Int32) (mr.1, mk.2.1, mk.2.2.1, mk.2.2.2))
set_option maxHeartbeats 4000000 in
set_option maxRecDepth 100000 in
theorem L_X5_keep_L18 (l : Launch) (w : WG) (hA : wAp w 25) (me : ME) (mb : AI) (mc : MC) (mt : MT) (mk : MK) (mr : MR) (mq : MQS) (mv : MV) (gd : Int32) {pP : Program} {eE : Env} {S : State} {mM : MethodId} {below : List Frame} {meth : Method} {C : Code} (hx : pP.tables.exec = Jvm.exec) (hb : C.code = cX5_keep) (hr : meth.sig.returnType = (some .int)) (hml : C.maxLocals = 3) (hts : ∀ q9 ∈ wsX5_keep, q9.before ([.ref (w.2.2 0), .int gd] : List Value).toArray S = true) (hown : S.vm.findClass yX5_keep.cls = some mM.cls) (hlk : meth.locks = false) (hK : wK w S) (g : Int32 × MK) :
    ∀ (fu : Nat) (i : Int32) (mkv : MK) (H : Heap) (locs : List Loc), va_P w.1 vwCl (wM w me mb mc mt mkv mr mq mv) H → va_S (wA w 25) S.heap H locs → OK_X5_keep_L18 mk mr gd fu i mkv → g = G_X5_keep_L18 mk mr gd fu i mkv → ∀ ls : Array Slot, lv_has ls 3 [(0, .ref (w.2.2 0)), (1, .int gd), (2, .int i)] → W pP l eE { frames := 0, cells := 0, slots := 0, locals := 0 } S mM ([.ref (w.2.2 0), .int gd] : List Value).toArray below meth C H locs 0 0 (MQ below (xM (some (.int g.1)) (fun H => va_P w.1 vwCl (wM w me mb mc mt g.2 mr mq mv) H) (wA w 25)) ([.ref (w.2.2 0), .int gd] : List Value).toArray S 0 0 (wA w 25)) (F0 mM 18 ls []) := by
  intro fu
  induction fu with
  | zero =>
    intro i mkv H locs hP hS hok hg ls hl
    exact hok.elim
  | succ fu ih =>
    intro i mkv H locs hP hS hok hg ls hl
    refine lv_iload_n hx hb dX5_keep_18 rfl (lv_at hl 2 rfl) ?_
    refine lv_aload_n hx hb dX5_keep_19 rfl (lv_at hl 0 rfl) ?_
    refine va_get (D := w.1) (ci := 6) (v := .int mkv.1) (C := RX5) (T := TX5) (N := 33) hx hb hts iw_X5_keep_X5 hown hK.1 hP 0 rfl rfl 20 (by decide) (hts _ fl_X5_keep_167) (fun _ h9 => h9) rfl dX5_keep_20 ?_
    refine lv_icmp_ge (tgt := 68) hx hb dX5_keep_23 (by decide) (fun b1 => ?_) (fun b1 => ?_)
    ·
      have k2 := Eq.mp (if_pos b1) hok
      refine lv_iload_n hx hb dX5_keep_68 rfl (lv_at hl 1 rfl) ?_
      refine lv_if_eq (tgt := 79) hx hb dX5_keep_69 (by decide) (fun b3 => ?_) (fun b3 => ?_)
      ·
        have k4 := Eq.mp (if_pos b3) k2
        refine lv_iconst (v := -1) hx hb dX5_keep_79 (by decide) ?_
        have e9 : g = ((-1 : Int32), mkv) := Eq.trans (Eq.trans hg (if_pos b1)) (if_pos b3)
        exact xM_iret hx hb hr hlk  hS (by rw [e9]) (by rw [e9]; exact hP) dX5_keep_80
      ·
        have k5 := Eq.mp (if_neg b3) k2
        refine lv_aload_n hx hb dX5_keep_72 rfl (lv_at hl 0 rfl) ?_
        refine va_get (D := w.1) (ci := 6) (v := .int mr.1) (C := RX5) (T := TX5) (N := 33) hx hb hts iw_X5_keep_X5 hown hK.1 hP 0 rfl rfl 21 (by decide) (hts _ fl_X5_keep_149) (fun _ h9 => h9) rfl dX5_keep_73 ?_
        refine lv_goto (tgt := 80) hx hb dX5_keep_76 (by decide) ?_
        have e9 : g = (mr.1, mkv) := Eq.trans (Eq.trans hg (if_pos b1)) (if_neg b3)
        exact xM_iret hx hb hr hlk  hS (by rw [e9]) (by rw [e9]; exact hP) dX5_keep_80
    ·
      have k6 := Eq.mp (if_neg b1) hok
      refine lv_aload_n hx hb dX5_keep_26 rfl (lv_at hl 0 rfl) ?_
      refine va_get (D := w.1) (ci := 6) (v := .ref (w.2.2 12)) (C := RX5) (T := TX5) (N := 33) hx hb hts iw_X5_keep_X5 hown hK.1 hP 0 rfl rfl 14 (by decide) (hts _ fl_X5_keep_46) (fun _ h9 => h9) rfl dX5_keep_27 ?_
      refine lv_iload_n hx hb dX5_keep_30 rfl (lv_at hl 2 rfl) ?_
      refine lv_aload_n hx hb dX5_keep_31 rfl (lv_at hl 0 rfl) ?_
      refine va_get (D := w.1) (ci := 6) (v := .ref (w.2.2 14)) (C := RX5) (T := TX5) (N := 33) hx hb hts iw_X5_keep_X5 hown hK.1 hP 0 rfl rfl 16 (by decide) (hts _ fl_X5_keep_52) (fun _ h9 => h9) rfl dX5_keep_32 ?_
      refine lv_iload_n hx hb dX5_keep_35 rfl (lv_at hl 2 rfl) ?_
      have o7 := k6.1
      have k8 := k6.2
      refine va_iald hx hb hK.1 hP 14 0 rfl rfl o7 dX5_keep_36 ?_
      have o9 := k8.1
      have k10 := k8.2
      refine va_iast hx hb hK.1 hP (wM_D hA) hS 12 0 rfl rfl o9 dX5_keep_37 (fun H locs hP _ hS => ?_)
      have hP : va_P w.1 vwCl (wM w me mb mc mt (mkv.1, upd mkv.2.1 i.toNatClampNeg (mr.2.1 i.toNatClampNeg), mkv.2.2.1, mkv.2.2.2) mr mq mv) H := hP
      refine lv_aload_n hx hb dX5_keep_38 rfl (lv_at hl 0 rfl) ?_
      refine va_get (D := w.1) (ci := 6) (v := .ref (w.2.2 16)) (C := RX5) (T := TX5) (N := 33) hx hb hts iw_X5_keep_X5 hown hK.1 hP 0 rfl rfl 18 (by decide) (hts _ fl_X5_keep_58) (fun _ h9 => h9) rfl dX5_keep_39 ?_
      refine lv_iload_n hx hb dX5_keep_42 rfl (lv_at hl 2 rfl) ?_
      refine lv_aload_n hx hb dX5_keep_43 rfl (lv_at hl 0 rfl) ?_
      refine va_get (D := w.1) (ci := 6) (v := .ref (w.2.2 17)) (C := RX5) (T := TX5) (N := 33) hx hb hts iw_X5_keep_X5 hown hK.1 hP 0 rfl rfl 19 (by decide) (hts _ fl_X5_keep_61) (fun _ h9 => h9) rfl dX5_keep_44 ?_
      refine lv_iload_n hx hb dX5_keep_47 rfl (lv_at hl 2 rfl) ?_
      have o11 := k10.1
      have k12 := k10.2
      refine va_lald hx hb hK.1 hP 17 3 rfl rfl o11 dX5_keep_48 ?_
      have o13 := k12.1
      have k14 := k12.2
      refine va_last hx hb hK.1 hP (wM_D hA) hS 16 3 rfl rfl o13 dX5_keep_49 (fun H locs hP _ hS => ?_)
      have hP : va_P w.1 vwCl (wM w me mb mc mt (mkv.1, upd mkv.2.1 i.toNatClampNeg (mr.2.1 i.toNatClampNeg), mkv.2.2.1, vp_updL mkv.2.2.2 i.toNatClampNeg (mr.2.2.2 i.toNatClampNeg)) mr mq mv) H := hP
      refine lv_aload_n hx hb dX5_keep_50 rfl (lv_at hl 0 rfl) ?_
      refine va_get (D := w.1) (ci := 6) (v := .ref (w.2.2 13)) (C := RX5) (T := TX5) (N := 33) hx hb hts iw_X5_keep_X5 hown hK.1 hP 0 rfl rfl 15 (by decide) (hts _ fl_X5_keep_49) (fun _ h9 => h9) rfl dX5_keep_51 ?_
      refine lv_iload_n hx hb dX5_keep_54 rfl (lv_at hl 2 rfl) ?_
      refine lv_aload_n hx hb dX5_keep_55 rfl (lv_at hl 0 rfl) ?_
      refine va_get (D := w.1) (ci := 6) (v := .ref (w.2.2 15)) (C := RX5) (T := TX5) (N := 33) hx hb hts iw_X5_keep_X5 hown hK.1 hP 0 rfl rfl 17 (by decide) (hts _ fl_X5_keep_55) (fun _ h9 => h9) rfl dX5_keep_56 ?_
      refine lv_iload_n hx hb dX5_keep_59 rfl (lv_at hl 2 rfl) ?_
      have o15 := k14.1
      have k16 := k14.2
      refine va_iald hx hb hK.1 hP 15 0 rfl rfl o15 dX5_keep_60 ?_
      have o17 := k16.1
      have k18 := k16.2
      refine va_iast hx hb hK.1 hP (wM_D hA) hS 13 0 rfl rfl o17 dX5_keep_61 (fun H locs hP _ hS => ?_)
      have hP : va_P w.1 vwCl (wM w me mb mc mt (mkv.1, upd mkv.2.1 i.toNatClampNeg (mr.2.1 i.toNatClampNeg), upd mkv.2.2.1 i.toNatClampNeg (mr.2.2.1 i.toNatClampNeg), vp_updL mkv.2.2.2 i.toNatClampNeg (mr.2.2.2 i.toNatClampNeg)) mr mq mv) H := hP
      refine lv_iinc (v := i + (1 : Int32)) (lv' := [(2, .int (i + (1 : Int32))), (0, .ref (w.2.2 0)), (1, .int gd)]) hx hb dX5_keep_62 hl (k := 2) rfl rfl (by decide) rfl (fun ls hl => ?_)
      refine lv_goto (tgt := 18) hx hb dX5_keep_65 (by decide) ?_
      exact ih (i + (1 : Int32)) (mkv.1, upd mkv.2.1 i.toNatClampNeg (mr.2.1 i.toNatClampNeg), upd mkv.2.2.1 i.toNatClampNeg (mr.2.2.1 i.toNatClampNeg), vp_updL mkv.2.2.2 i.toNatClampNeg (mr.2.2.2 i.toNatClampNeg)) _ _ hP hS k18 (Eq.trans hg (if_neg b1)) ls (lv_sub hl [1, 2, 0] rfl)
set_option maxHeartbeats 4000000 in
set_option maxRecDepth 100000 in
theorem c_X5_keep (l : Launch) (w : WG) (hA : wAp w 25) (me : ME) (mb : AI) (mc : MC) (mt : MT) (mk : MK) (mr : MR) (mq : MQS) (mv : MV) (gd : Int32) (hok : OK_X5_keep mk mr gd) : Met l yX5_keep wsX5_keep { frames := 0, cells := 0, slots := 0, locals := 0 } (va_Pc [.ref (w.2.2 0), .int gd] (wPK w (wM w me mb mc mt mk mr mq mv))) (xM (some (.int ((G_X5_keep mk mr gd).1))) (fun H => va_P w.1 vwCl (wM w me mb mc mt ((G_X5_keep mk mr gd).2) mr mq mv) H) (wA w 25)) 0 0 (wA w 25) := by
  refine xOf (cc := cX5_keep) (maxL := 3) (ret := (some .int)) (lv := [(0, .ref (w.2.2 0)), (1, .int gd)]) (by decide) rfl (Nat.le_of_ble_eq_true rfl) rfl ?_
  intro pP eE S mM below meth C hx hb hr hml hts hown hlk hnm hw ls hl
  obtain ⟨hP, hK⟩ := hw
  have hS : va_S (wA w 25) S.heap S.heap [] := va_S.rf
  have hP : va_P w.1 vwCl (wM w me mb mc mt mk mr mq mv) S.heap := hP
  refine lv_aload_n hx hb dX5_keep_0 rfl (lv_at hl 0 rfl) ?_
  refine lv_iload_n hx hb dX5_keep_1 rfl (lv_at hl 1 rfl) ?_
  refine lv_if_eq (tgt := 12) hx hb dX5_keep_2 (by decide) (fun b1 => ?_) (fun b1 => ?_)
  ·
    have k2 := Eq.mp (if_pos b1) hok
    refine lv_iconst (v := 0) hx hb dX5_keep_12 (by decide) ?_
    refine va_put (D := w.1) (ci := 6) (v := .int (0 : Int32)) (ty := .int) (C := RX5) (T := TX5) (N := 33) hx hb hts iw_X5_keep_X5 tyX5 tyX5_ok nmX5 hown hK.1 hP (wM_D hA) hS 0 rfl rfl 20 (by decide) (hts _ fl_X5_keep_167) (fun _ h9 => h9) rfl (by decide +kernel) rfl rfl (Nat.le_of_ble_eq_true rfl) dX5_keep_13 (fun H locs hP _ hS => ?_)
    have hP : va_P w.1 vwCl (wM w me mb mc mt ((0 : Int32), mk.2.1, mk.2.2.1, mk.2.2.2) mr mq mv) H := hP
    refine lv_iconst (v := 0) hx hb dX5_keep_16 (by decide) ?_
    refine lv_istore_n (lv' := [(2, .int (0 : Int32)), (0, .ref (w.2.2 0)), (1, .int gd)]) hx hb dX5_keep_17 rfl hl (by decide) rfl (fun ls hl => ?_)
    exact L_X5_keep_L18 l w hA me mb mc mt mk mr mq mv gd  hx hb hr hml hts hown hlk hK _ 402 (0 : Int32) ((0 : Int32), mk.2.1, mk.2.2.1, mk.2.2.2) _ _ hP hS k2 (Eq.trans rfl (if_pos b1)) ls (lv_sub hl [1, 2, 0] rfl)
  ·
    have k3 := Eq.mp (if_neg b1) hok
    refine lv_aload_n hx hb dX5_keep_5 rfl (lv_at hl 0 rfl) ?_
    refine va_get (D := w.1) (ci := 6) (v := .int mr.1) (C := RX5) (T := TX5) (N := 33) hx hb hts iw_X5_keep_X5 hown hK.1 hP 0 rfl rfl 21 (by decide) (hts _ fl_X5_keep_149) (fun _ h9 => h9) rfl dX5_keep_6 ?_
    refine lv_goto (tgt := 13) hx hb dX5_keep_9 (by decide) ?_
    refine va_put (D := w.1) (ci := 6) (v := .int mr.1) (ty := .int) (C := RX5) (T := TX5) (N := 33) hx hb hts iw_X5_keep_X5 tyX5 tyX5_ok nmX5 hown hK.1 hP (wM_D hA) hS 0 rfl rfl 20 (by decide) (hts _ fl_X5_keep_167) (fun _ h9 => h9) rfl (by decide +kernel) rfl rfl (Nat.le_of_ble_eq_true rfl) dX5_keep_13 (fun H locs hP _ hS => ?_)
    have hP : va_P w.1 vwCl (wM w me mb mc mt (mr.1, mk.2.1, mk.2.2.1, mk.2.2.2) mr mq mv) H := hP
    refine lv_iconst (v := 0) hx hb dX5_keep_16 (by decide) ?_
    refine lv_istore_n (lv' := [(2, .int (0 : Int32)), (0, .ref (w.2.2 0)), (1, .int gd)]) hx hb dX5_keep_17 rfl hl (by decide) rfl (fun ls hl => ?_)
    exact L_X5_keep_L18 l w hA me mb mc mt mk mr mq mv gd  hx hb hr hml hts hown hlk hK _ 402 (0 : Int32) (mr.1, mk.2.1, mk.2.2.1, mk.2.2.2) _ _ hP hS k3 (Eq.trans rfl (if_neg b1)) ls (lv_sub hl [1, 2, 0] rfl)
set_option maxRecDepth 20000 in
theorem iw_X5_make_X5 : ∀ w ∈ wsX50, w ∈ wsX5_make := by decide +kernel
set_option maxRecDepth 20000 in
theorem fl_X5_make_85 : Cond.fieldLink RX5 85 "ProcedureCodeModel" "code" "I" ∈ wsX5_make := by decide +kernel
set_option maxRecDepth 20000 in
theorem dv_X5_made : yX5_made.cls = RX5 ∧ yX5_made.cls ≠ "java/lang/invoke/MethodHandle" ∧ yX5_made.cls ≠ "java/lang/invoke/VarHandle" ∧ (parseMethodDescriptor yX5_made.desc).map (fun d => d.parameters.length) = some 1 := by decide +kernel
set_option maxRecDepth 20000 in
theorem dv_X5_keep : yX5_keep.cls = RX5 ∧ yX5_keep.cls ≠ "java/lang/invoke/MethodHandle" ∧ yX5_keep.cls ≠ "java/lang/invoke/VarHandle" ∧ (parseMethodDescriptor yX5_keep.desc).map (fun d => d.parameters.length) = some 1 := by decide +kernel
def G_X5_make (me : ME) (mt : MT) (mk : MK) (mr : MR) (mq : MQS) (n : Int32) (fm : Nat) : Int32 × ME × MK × MR × MQS := if (G_X5_isNode mt n) = 0 then (((-2 : Int32), ((0 : Int32), me.2.1, me.2.2), mk, mr, mq)) else (((G_X5_keep mk ((G_X5_made mt mr mq n fm).2.1) ((G_X5_made mt mr mq n fm).1)).1, ((0 : Int32), me.2.1, me.2.2), (G_X5_keep mk ((G_X5_made mt mr mq n fm).2.1) ((G_X5_made mt mr mq n fm).1)).2, (G_X5_made mt mr mq n fm).2.1, (G_X5_made mt mr mq n fm).2.2))
def OK_X5_make (me : ME) (mt : MT) (mk : MK) (mr : MR) (mq : MQS) (n : Int32) (fm : Nat) : Prop := if (G_X5_isNode mt n) = 0 then (True) else ((OK_X5_made mt mr mq n fm) ∧ ((OK_X5_keep mk ((G_X5_made mt mr mq n fm).2.1) ((G_X5_made mt mr mq n fm).1)) ∧ (True)))
set_option maxHeartbeats 4000000 in
set_option maxRecDepth 100000 in
theorem c_X5_make (l : Launch) (w : WG) (hA : wAp w 25) (me : ME) (mb : AI) (mc : MC) (mt : MT) (mk : MK) (mr : MR) (mq : MQS) (mv : MV) (n : Int32) (fm : Nat) (hok : OK_X5_make me mt mk mr mq n fm) : Met l yX5_make wsX5_make { frames := 3, cells := 0, slots := 0, locals := 71 } (va_Pc [.ref (w.2.2 0), .int n] (wPK w (wM w me mb mc mt mk mr mq mv))) (xM (some (.int ((G_X5_make me mt mk mr mq n fm).1))) (fun H => va_P w.1 vwCl (wM w ((G_X5_make me mt mk mr mq n fm).2.1) mb mc mt ((G_X5_make me mt mk mr mq n fm).2.2.1) ((G_X5_make me mt mk mr mq n fm).2.2.2.1) ((G_X5_make me mt mk mr mq n fm).2.2.2.2) mv) H) (wA w 25)) 0 0 (wA w 25) := by
  refine xOf (cc := cX5_make) (maxL := 2) (ret := (some .int)) (lv := [(0, .ref (w.2.2 0)), (1, .int n)]) (by decide) rfl (Nat.le_of_ble_eq_true rfl) rfl ?_
  intro pP eE S mM below meth C hx hb hr hml hts hown hlk hnm hw ls hl
  obtain ⟨hP, hK⟩ := hw
  have hS : va_S (wA w 25) S.heap S.heap [] := va_S.rf
  have hP : va_P w.1 vwCl (wM w me mb mc mt mk mr mq mv) S.heap := hP
  refine lv_aload_n hx hb dX5_make_0 rfl (lv_at hl 0 rfl) ?_
  refine lv_iconst (v := 0) hx hb dX5_make_1 (by decide) ?_
  refine va_put (D := w.1) (ci := 6) (v := .int (0 : Int32)) (ty := .int) (C := RX5) (T := TX5) (N := 33) hx hb hts iw_X5_make_X5 tyX5 tyX5_ok nmX5 hown hK.1 hP (wM_D hA) hS 0 rfl rfl 0 (by decide) (hts _ fl_X5_make_85) (fun _ h9 => h9) rfl (by decide +kernel) rfl rfl (Nat.le_of_ble_eq_true rfl) dX5_make_2 (fun H locs hP _ hS => ?_)
  have hP : va_P w.1 vwCl (wM w ((0 : Int32), me.2.1, me.2.2) mb mc mt mk mr mq mv) H := hP
  refine lv_aload_n hx hb dX5_make_5 rfl (lv_at hl 0 rfl) ?_
  refine lv_iload_n hx hb dX5_make_6 rfl (lv_at hl 1 rfl) ?_
  refine xR_i (va_runV (As := [.int n]) (rest := []) ⟨hx, hb, hml, hown, hts⟩ (c_X5_isNode l w ((0 : Int32), me.2.1, me.2.2) mb mc mt mk mr mq mv n ) (cwV 1 hts gX5_make_X5_isNode rfl rfl rfl dv_X5_isNode ⟨Nat.le_of_ble_eq_true rfl, Nat.le_of_ble_eq_true rfl⟩) (wPreV hP hK (ci := 6) (q0 := 0) rfl rfl) rfl rfl hl.1 rfl (lv_room (Nat.le_of_ble_eq_true rfl)) dX5_make_7 ⟨Nat.zero_le _, Nat.zero_le _⟩) ?_
  refine lv_if_ne (tgt := 16) hx hb dX5_make_10 (by decide) (fun b1 => ?_) (fun b1 => ?_)
  ·
    have k2 := Eq.mp (if_neg b1) hok
    refine lv_aload_n hx hb dX5_make_16 rfl (lv_at hl 0 rfl) ?_
    refine lv_aload_n hx hb dX5_make_17 rfl (lv_at hl 0 rfl) ?_
    refine lv_iload_n hx hb dX5_make_18 rfl (lv_at hl 1 rfl) ?_
    have o3 := k2.1
    have k4 := k2.2
    refine xM_i (va_runV (As := [.int n]) (rest := [.ref (w.2.2 0)]) ⟨hx, hb, hml, hown, hts⟩ (c_X5_made l w hA ((0 : Int32), me.2.1, me.2.2) mb mc mt mk mr mq mv n fm o3) (cwV 1 hts gX5_make_X5_made rfl rfl rfl dv_X5_made ⟨Nat.le_of_ble_eq_true rfl, Nat.le_of_ble_eq_true rfl⟩) (wPreV hP hK (ci := 6) (q0 := 0) rfl rfl) rfl rfl hl.1 rfl (lv_room (Nat.le_of_ble_eq_true rfl)) dX5_make_19 ⟨Nat.zero_le _, Nat.zero_le _⟩) hS (fun H locs hP hS => ?_)
    have hP : va_P w.1 vwCl (wM w ((0 : Int32), me.2.1, me.2.2) mb mc mt mk ((G_X5_made mt mr mq n fm).2.1) ((G_X5_made mt mr mq n fm).2.2) mv) H := hP
    have o5 := k4.1
    have k6 := k4.2
    refine xM_i (va_runV (As := [.int ((G_X5_made mt mr mq n fm).1)]) (rest := []) ⟨hx, hb, hml, hown, hts⟩ (c_X5_keep l w hA ((0 : Int32), me.2.1, me.2.2) mb mc mt mk ((G_X5_made mt mr mq n fm).2.1) ((G_X5_made mt mr mq n fm).2.2) mv ((G_X5_made mt mr mq n fm).1) o5) (cwV 1 hts gX5_make_X5_keep rfl rfl rfl dv_X5_keep ⟨Nat.le_of_ble_eq_true rfl, Nat.le_of_ble_eq_true rfl⟩) (wPreV hP hK (ci := 6) (q0 := 0) rfl rfl) rfl rfl hl.1 rfl (lv_room (Nat.le_of_ble_eq_true rfl)) dX5_make_22 ⟨Nat.zero_le _, Nat.zero_le _⟩) hS (fun H locs hP hS => ?_)
    have hP : va_P w.1 vwCl (wM w ((0 : Int32), me.2.1, me.2.2) mb mc mt ((G_X5_keep mk ((G_X5_made mt mr mq n fm).2.1) ((G_X5_made mt mr mq n fm).1)).2) ((G_X5_made mt mr mq n fm).2.1) ((G_X5_made mt mr mq n fm).2.2) mv) H := hP
    have e9 : G_X5_make me mt mk mr mq n fm = ((G_X5_keep mk ((G_X5_made mt mr mq n fm).2.1) ((G_X5_made mt mr mq n fm).1)).1, ((0 : Int32), me.2.1, me.2.2), (G_X5_keep mk ((G_X5_made mt mr mq n fm).2.1) ((G_X5_made mt mr mq n fm).1)).2, (G_X5_made mt mr mq n fm).2.1, (G_X5_made mt mr mq n fm).2.2) := Eq.trans rfl (if_neg b1)
    exact xM_iret hx hb hr hlk  hS (by rw [e9]) (by rw [e9]; exact hP) dX5_make_25
  ·
    have k7 := Eq.mp (if_pos b1) hok
    refine lv_bipush (v := -2) hx hb dX5_make_13 (by decide) ?_
    have e9 : G_X5_make me mt mk mr mq n fm = ((-2 : Int32), ((0 : Int32), me.2.1, me.2.2), mk, mr, mq) := Eq.trans rfl (if_pos b1)
    exact xM_iret hx hb hr hlk  hS (by rw [e9]) (by rw [e9]; exact hP) dX5_make_15
