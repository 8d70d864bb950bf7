set_option maxRecDepth 20000 in
theorem mw_X5_placeOf_k177 : Cond.constantLong RX5 177 (-64) ∈ wsX5_placeOf := by decide +kernel
set_option maxRecDepth 20000 in
theorem mw_X5_placeOf_k179 : Cond.constantLong RX5 179 (64) ∈ wsX5_placeOf := by decide +kernel
set_option maxRecDepth 20000 in
theorem iw_X5_placeOf_X5 : ∀ w ∈ wsX50, w ∈ wsX5_placeOf := by decide +kernel
set_option maxRecDepth 20000 in
theorem fl_X5_placeOf_23 : Cond.fieldLink RX5 23 "ProcedureCodeModel" "places" "[I" ∈ wsX5_placeOf := by decide +kernel
set_option maxRecDepth 20000 in
theorem fl_X5_placeOf_20 : Cond.fieldLink RX5 20 "ProcedureCodeModel" "sizes" "[I" ∈ wsX5_placeOf := by decide +kernel
def G_X5_placeOf (mc : MC) (n : Int32) (z : Int64) : Int32 := if (lg_cmp z (-64 : Int64)) < 0 then ((-1 : Int32)) else (if (lg_cmp z (64 : Int64)) ≤ 0 then (if (lg_cmp (((mc.2.2.2.2 n.toNatClampNeg).toInt64) + (z * ((mc.2.2.2.1 n.toNatClampNeg).toInt64))) (0 : Int64)) < 0 then ((-1 : Int32)) else (if (lg_cmp (((mc.2.2.2.2 n.toNatClampNeg).toInt64) + (z * ((mc.2.2.2.1 n.toNatClampNeg).toInt64))) (((64 : Int32) - (mc.2.2.2.1 n.toNatClampNeg)).toInt64)) ≤ 0 then ((((mc.2.2.2.2 n.toNatClampNeg).toInt64) + (z * ((mc.2.2.2.1 n.toNatClampNeg).toInt64))).toInt32) else ((-1 : Int32)))) else ((-1 : Int32)))
def OK_X5_placeOf (mc : MC) (n : Int32) (z : Int64) : Prop := if (lg_cmp z (-64 : Int64)) < 0 then (True) else (if (lg_cmp z (64 : Int64)) ≤ 0 then ((vp_in n 40) ∧ ((vp_in n 40) ∧ (if (lg_cmp (((mc.2.2.2.2 n.toNatClampNeg).toInt64) + (z * ((mc.2.2.2.1 n.toNatClampNeg).toInt64))) (0 : Int64)) < 0 then (True) else ((vp_in n 40) ∧ (if (lg_cmp (((mc.2.2.2.2 n.toNatClampNeg).toInt64) + (z * ((mc.2.2.2.1 n.toNatClampNeg).toInt64))) (((64 : Int32) - (mc.2.2.2.1 n.toNatClampNeg)).toInt64)) ≤ 0 then (True) else (True)))))) else (True))
set_option maxHeartbeats 4000000 in
set_option maxRecDepth 100000 in
theorem c_X5_placeOf (l : Launch) (w : WG) (me : ME) (mb : AI) (mc : MC) (mt : MT) (mk : MK) (mr : MR) (mq : MQS) (mv : MV) (n : Int32) (z : Int64) (hok : OK_X5_placeOf mc n z) : Met l yX5_placeOf wsX5_placeOf { frames := 0, cells := 0, slots := 0, locals := 0 } (va_Pc [.ref (w.2.2 0), .int n, .long z] (wPK w (wM w me mb mc mt mk mr mq mv))) (xR (some (.int (G_X5_placeOf mc n z)))) 0 0 xNo := by
  refine xOf (cc := cX5_placeOf) (maxL := 6) (ret := (some .int)) (lv := [(0, .ref (w.2.2 0)), (1, .int n), (2, .long z)]) (by decide) rfl (Nat.le_of_ble_eq_true rfl) rfl ?_
  intro pP eE S mM below meth C hx hb hr hml hts hown hlk hnm hw ls hl
  obtain ⟨hP, hK⟩ := hw
  refine lv_lload_n hx hb dX5_placeOf_0 rfl (lv_at hl 2 rfl) ?_
  refine lv_ldc2 (v := -64) hx hb hown (hts _ mw_X5_placeOf_k177) dX5_placeOf_1 ?_
  refine W.lcmp hx hb dX5_placeOf_4 ?_
  refine lv_if_lt (tgt := 16) hx hb dX5_placeOf_5 (by decide) (fun b1 => ?_) (fun b1 => ?_)
  ·
    have k2 := Eq.mp (if_pos b1) hok
    refine lv_iconst (v := -1) hx hb dX5_placeOf_16 (by decide) ?_
    exact xR_iret hx hb hr hlk  (Eq.trans rfl (if_pos b1)) dX5_placeOf_17
  ·
    have k3 := Eq.mp (if_neg b1) hok
    refine lv_lload_n hx hb dX5_placeOf_8 rfl (lv_at hl 2 rfl) ?_
    refine lv_ldc2 (v := 64) hx hb hown (hts _ mw_X5_placeOf_k179) dX5_placeOf_9 ?_
    refine W.lcmp hx hb dX5_placeOf_12 ?_
    refine lv_if_le (tgt := 18) hx hb dX5_placeOf_13 (by decide) (fun b4 => ?_) (fun b4 => ?_)
    ·
      have k5 := Eq.mp (if_pos b4) k3
      refine lv_aload_n hx hb dX5_placeOf_18 rfl (lv_at hl 0 rfl) ?_
      refine va_get (D := w.1) (ci := 6) (v := .ref (w.2.2 5)) (C := RX5) (T := TX5) (N := 33) hx hb hts iw_X5_placeOf_X5 hown hK.1 hP 0 rfl rfl 5 (by decide) (hts _ fl_X5_placeOf_23) (fun _ h9 => h9) rfl dX5_placeOf_19 ?_
      refine lv_iload_n hx hb dX5_placeOf_22 rfl (lv_at hl 1 rfl) ?_
      have o6 := k5.1
      have k7 := k5.2
      refine va_iald hx hb hK.1 hP 5 0 rfl rfl o6 dX5_placeOf_23 ?_
      refine lv_i2l hx hb dX5_placeOf_24 rfl ?_
      refine lv_lload_n hx hb dX5_placeOf_25 rfl (lv_at hl 2 rfl) ?_
      refine lv_aload_n hx hb dX5_placeOf_26 rfl (lv_at hl 0 rfl) ?_
      refine va_get (D := w.1) (ci := 6) (v := .ref (w.2.2 4)) (C := RX5) (T := TX5) (N := 33) hx hb hts iw_X5_placeOf_X5 hown hK.1 hP 0 rfl rfl 4 (by decide) (hts _ fl_X5_placeOf_20) (fun _ h9 => h9) rfl dX5_placeOf_27 ?_
      refine lv_iload_n hx hb dX5_placeOf_30 rfl (lv_at hl 1 rfl) ?_
      have o8 := k7.1
      have k9 := k7.2
      refine va_iald hx hb hK.1 hP 4 0 rfl rfl o8 dX5_placeOf_31 ?_
      refine lv_i2l hx hb dX5_placeOf_32 rfl ?_
      refine lv_lmul hx hb dX5_placeOf_33 ?_
      refine lv_ladd hx hb dX5_placeOf_34 ?_
      refine lv_lstore (lv' := [(4, .long (((mc.2.2.2.2 n.toNatClampNeg).toInt64) + (z * ((mc.2.2.2.1 n.toNatClampNeg).toInt64)))), (0, .ref (w.2.2 0)), (1, .int n), (2, .long z)]) hx hb dX5_placeOf_35 hl (by decide) rfl (fun ls hl => ?_)
      refine lv_lload hx hb dX5_placeOf_37 (lv_at hl 0 rfl) ?_
      refine lv_lconst (v := 0) hx hb dX5_placeOf_39 (by decide) ?_
      refine W.lcmp hx hb dX5_placeOf_40 ?_
      refine lv_if_lt (tgt := 60) hx hb dX5_placeOf_41 (by decide) (fun b10 => ?_) (fun b10 => ?_)
      ·
        have k11 := Eq.mp (if_pos b10) k9
        refine lv_iconst (v := -1) hx hb dX5_placeOf_60 (by decide) ?_
        refine lv_goto (tgt := 67) hx hb dX5_placeOf_61 (by decide) ?_
        exact xR_iret hx hb hr hlk  (Eq.trans (Eq.trans (Eq.trans rfl (if_neg b1)) (if_pos b4)) (if_pos b10)) dX5_placeOf_67
      ·
        have k12 := Eq.mp (if_neg b10) k9
        refine lv_lload hx hb dX5_placeOf_44 (lv_at hl 0 rfl) ?_
        refine lv_bipush (v := 64) hx hb dX5_placeOf_46 (by decide) ?_
        refine lv_aload_n hx hb dX5_placeOf_48 rfl (lv_at hl 1 rfl) ?_
        refine va_get (D := w.1) (ci := 6) (v := .ref (w.2.2 4)) (C := RX5) (T := TX5) (N := 33) hx hb hts iw_X5_placeOf_X5 hown hK.1 hP 0 rfl rfl 4 (by decide) (hts _ fl_X5_placeOf_20) (fun _ h9 => h9) rfl dX5_placeOf_49 ?_
        refine lv_iload_n hx hb dX5_placeOf_52 rfl (lv_at hl 2 rfl) ?_
        have o13 := k12.1
        have k14 := k12.2
        refine va_iald hx hb hK.1 hP 4 0 rfl rfl o13 dX5_placeOf_53 ?_
        refine lv_isub hx hb dX5_placeOf_54 ?_
        refine lv_i2l hx hb dX5_placeOf_55 rfl ?_
        refine W.lcmp hx hb dX5_placeOf_56 ?_
        refine lv_if_le (tgt := 64) hx hb dX5_placeOf_57 (by decide) (fun b15 => ?_) (fun b15 => ?_)
        ·
          have k16 := Eq.mp (if_pos b15) k14
          refine lv_lload hx hb dX5_placeOf_64 (lv_at hl 0 rfl) ?_
          refine lv_l2i hx hb dX5_placeOf_66 rfl ?_
          exact xR_iret hx hb hr hlk  (Eq.trans (Eq.trans (Eq.trans (Eq.trans rfl (if_neg b1)) (if_pos b4)) (if_neg b10)) (if_pos b15)) dX5_placeOf_67
        ·
          have k17 := Eq.mp (if_neg b15) k14
          refine lv_iconst (v := -1) hx hb dX5_placeOf_60 (by decide) ?_
          refine lv_goto (tgt := 67) hx hb dX5_placeOf_61 (by decide) ?_
          exact xR_iret hx hb hr hlk  (Eq.trans (Eq.trans (Eq.trans (Eq.trans rfl (if_neg b1)) (if_pos b4)) (if_neg b10)) (if_neg b15)) dX5_placeOf_67
    ·
      have k18 := Eq.mp (if_neg b4) k3
      refine lv_iconst (v := -1) hx hb dX5_placeOf_16 (by decide) ?_
      exact xR_iret hx hb hr hlk  (Eq.trans (Eq.trans rfl (if_neg b1)) (if_neg b4)) dX5_placeOf_17
set_option maxRecDepth 20000 in
theorem iw_X5_step_X5 : ∀ w ∈ wsX50, w ∈ wsX5_step := by decide +kernel
set_option maxRecDepth 20000 in
theorem fl_X5_step_149 : Cond.fieldLink RX5 149 "ProcedureCodeModel" "rows" "I" ∈ wsX5_step := by decide +kernel
set_option maxRecDepth 20000 in
theorem fl_X5_step_52 : Cond.fieldLink RX5 52 "ProcedureCodeModel" "ops" "[I" ∈ wsX5_step := by decide +kernel
set_option maxRecDepth 20000 in
theorem fl_X5_step_61 : Cond.fieldLink RX5 61 "ProcedureCodeModel" "numbers" "[J" ∈ wsX5_step := by decide +kernel
set_option maxRecDepth 20000 in
theorem fl_X5_step_79 : Cond.fieldLink RX5 79 "ProcedureCodeModel" "values" "[J" ∈ wsX5_step := by decide +kernel
set_option maxRecDepth 20000 in
theorem fl_X5_step_23 : Cond.fieldLink RX5 23 "ProcedureCodeModel" "places" "[I" ∈ wsX5_step := by decide +kernel
set_option maxRecDepth 20000 in
theorem dv_X5_read : yX5_read.cls = RX5 ∧ yX5_read.cls ≠ "java/lang/invoke/MethodHandle" ∧ yX5_read.cls ≠ "java/lang/invoke/VarHandle" ∧ (parseMethodDescriptor yX5_read.desc).map (fun d => d.parameters.length) = some 3 := by decide +kernel
set_option maxRecDepth 20000 in
theorem dv_X5_placeOf : yX5_placeOf.cls = RX5 ∧ yX5_placeOf.cls ≠ "java/lang/invoke/MethodHandle" ∧ yX5_placeOf.cls ≠ "java/lang/invoke/VarHandle" ∧ (parseMethodDescriptor yX5_placeOf.desc).map (fun d => d.parameters.length) = some 2 := by decide +kernel
set_option maxRecDepth 20000 in
theorem dv_X5_store : yX5_store.cls = RX5 ∧ yX5_store.cls ≠ "java/lang/invoke/MethodHandle" ∧ yX5_store.cls ≠ "java/lang/invoke/VarHandle" ∧ (parseMethodDescriptor yX5_store.desc).map (fun d => d.parameters.length) = some 4 := by decide +kernel
set_option maxRecDepth 20000 in
theorem fl_X5_step_82 : Cond.fieldLink RX5 82 "ProcedureCodeModel" "turns" "[J" ∈ wsX5_step := by decide +kernel
def G_X5_step_L10 (mb : AI) (mc : MC) (mr : MR) (mv : MV) (s : Int32) (fs : Nat) : Nat → Int32 → Int32 → Int32 → Int32 → AI → MV → Int32 × AI × MV
  | 0, _, _, _, _, _, _ => (0, mb, mv)
  | fu + 1, n, lo, co, pc, mbv, mvv => if mr.1 ≤ pc then (((0 : Int32), mbv, mvv)) else (if (mr.2.1 pc.toNatClampNeg) = (0 : Int32) then (G_X5_step_L10 mb mc mr mv s fs fu (n + (1 : Int32)) lo co (pc + (1 : Int32)) mbv (vp_updL mvv.1 n.toNatClampNeg (mr.2.2.2 pc.toNatClampNeg), mvv.2)) else (if (mr.2.1 pc.toNatClampNeg) = (1 : Int32) then (G_X5_step_L10 mb mc mr mv s fs fu (n + (1 : Int32)) lo co (pc + (1 : Int32)) mbv (vp_updL mvv.1 n.toNatClampNeg (G_X5_read mbv mc s ((mr.2.2.2 pc.toNatClampNeg).toInt32) (mc.2.2.2.2 ((mr.2.2.2 pc.toNatClampNeg).toInt32).toNatClampNeg)), mvv.2)) else (if (mr.2.1 pc.toNatClampNeg) = (2 : Int32) then (if (G_X5_placeOf mc ((mr.2.2.2 pc.toNatClampNeg).toInt32) (mvv.1 (n - (1 : Int32)).toNatClampNeg)) = (-1 : Int32) then (((1 : Int32), mbv, mvv)) else (G_X5_step_L10 mb mc mr mv s fs fu n lo co (pc + (1 : Int32)) mbv (vp_updL mvv.1 (n - (1 : Int32)).toNatClampNeg (G_X5_read mbv mc s ((mr.2.2.2 pc.toNatClampNeg).toInt32) (G_X5_placeOf mc ((mr.2.2.2 pc.toNatClampNeg).toInt32) (mvv.1 (n - (1 : Int32)).toNatClampNeg))), mvv.2))) else (if (mr.2.1 pc.toNatClampNeg) = (9 : Int32) then (if (mr.2.1 pc.toNatClampNeg) = (9 : Int32) then (if (mc.2.2.2.2 ((mr.2.2.2 pc.toNatClampNeg).toInt32).toNatClampNeg) = (-1 : Int32) then (((1 : Int32), mbv, mvv)) else (if (co + (1 : Int32)) ≤ (1000 : Int32) then (if (mr.2.1 pc.toNatClampNeg) = (9 : Int32) then (G_X5_step_L10 mb mc mr mv s fs fu (n - (1 : Int32)) lo (co + (1 : Int32)) (pc + (1 : Int32)) (G_X5_store mbv mc s ((mr.2.2.2 pc.toNatClampNeg).toInt32) (mc.2.2.2.2 ((mr.2.2.2 pc.toNatClampNeg).toInt32).toNatClampNeg) (mvv.1 (n - (1 : Int32)).toNatClampNeg)) mvv) else (G_X5_step_L10 mb mc mr mv s fs fu (n - (2 : Int32)) lo (co + (1 : Int32)) (pc + (1 : Int32)) (G_X5_store mbv mc s ((mr.2.2.2 pc.toNatClampNeg).toInt32) (mc.2.2.2.2 ((mr.2.2.2 pc.toNatClampNeg).toInt32).toNatClampNeg) (mvv.1 (n - (1 : Int32)).toNatClampNeg)) mvv)) else (((3 : Int32), mbv, mvv)))) else (if (G_X5_placeOf mc ((mr.2.2.2 pc.toNatClampNeg).toInt32) (mvv.1 (n - (2 : Int32)).toNatClampNeg)) = (-1 : Int32) then (((1 : Int32), mbv, mvv)) else (if (co + (1 : Int32)) ≤ (1000 : Int32) then (if (mr.2.1 pc.toNatClampNeg) = (9 : Int32) then (G_X5_step_L10 mb mc mr mv s fs fu (n - (1 : Int32)) lo (co + (1 : Int32)) (pc + (1 : Int32)) (G_X5_store mbv mc s ((mr.2.2.2 pc.toNatClampNeg).toInt32) (G_X5_placeOf mc ((mr.2.2.2 pc.toNatClampNeg).toInt32) (mvv.1 (n - (2 : Int32)).toNatClampNeg)) (mvv.1 (n - (1 : Int32)).toNatClampNeg)) mvv) else (G_X5_step_L10 mb mc mr mv s fs fu (n - (2 : Int32)) lo (co + (1 : Int32)) (pc + (1 : Int32)) (G_X5_store mbv mc s ((mr.2.2.2 pc.toNatClampNeg).toInt32) (G_X5_placeOf mc ((mr.2.2.2 pc.toNatClampNeg).toInt32) (mvv.1 (n - (2 : Int32)).toNatClampNeg)) (mvv.1 (n - (1 : Int32)).toNatClampNeg)) mvv)) else (((3 : Int32), mbv, mvv))))) else (if (mr.2.1 pc.toNatClampNeg) = (10 : Int32) then (if (mr.2.1 pc.toNatClampNeg) = (9 : Int32) then (if (mc.2.2.2.2 ((mr.2.2.2 pc.toNatClampNeg).toInt32).toNatClampNeg) = (-1 : Int32) then (((1 : Int32), mbv, mvv)) else (if (co + (1 : Int32)) ≤ (1000 : Int32) then (if (mr.2.1 pc.toNatClampNeg) = (9 : Int32) then (G_X5_step_L10 mb mc mr mv s fs fu (n - (1 : Int32)) lo (co + (1 : Int32)) (pc + (1 : Int32)) (G_X5_store mbv mc s ((mr.2.2.2 pc.toNatClampNeg).toInt32) (mc.2.2.2.2 ((mr.2.2.2 pc.toNatClampNeg).toInt32).toNatClampNeg) (mvv.1 (n - (1 : Int32)).toNatClampNeg)) mvv) else (G_X5_step_L10 mb mc mr mv s fs fu (n - (2 : Int32)) lo (co + (1 : Int32)) (pc + (1 : Int32)) (G_X5_store mbv mc s ((mr.2.2.2 pc.toNatClampNeg).toInt32) (mc.2.2.2.2 ((mr.2.2.2 pc.toNatClampNeg).toInt32).toNatClampNeg) (mvv.1 (n - (1 : Int32)).toNatClampNeg)) mvv)) else (((3 : Int32), mbv, mvv)))) else (if (G_X5_placeOf mc ((mr.2.2.2 pc.toNatClampNeg).toInt32) (mvv.1 (n - (2 : Int32)).toNatClampNeg)) = (-1 : Int32) then (((1 : Int32), mbv, mvv)) else (if (co + (1 : Int32)) ≤ (1000 : Int32) then (if (mr.2.1 pc.toNatClampNeg) = (9 : Int32) then (G_X5_step_L10 mb mc mr mv s fs fu (n - (1 : Int32)) lo (co + (1 : Int32)) (pc + (1 : Int32)) (G_X5_store mbv mc s ((mr.2.2.2 pc.toNatClampNeg).toInt32) (G_X5_placeOf mc ((mr.2.2.2 pc.toNatClampNeg).toInt32) (mvv.1 (n - (2 : Int32)).toNatClampNeg)) (mvv.1 (n - (1 : Int32)).toNatClampNeg)) mvv) else (G_X5_step_L10 mb mc mr mv s fs fu (n - (2 : Int32)) lo (co + (1 : Int32)) (pc + (1 : Int32)) (G_X5_store mbv mc s ((mr.2.2.2 pc.toNatClampNeg).toInt32) (G_X5_placeOf mc ((mr.2.2.2 pc.toNatClampNeg).toInt32) (mvv.1 (n - (2 : Int32)).toNatClampNeg)) (mvv.1 (n - (1 : Int32)).toNatClampNeg)) mvv)) else (((3 : Int32), mbv, mvv))))) else (if (mr.2.1 pc.toNatClampNeg) = (12 : Int32) then (if (lg_cmp (mvv.1 (n + (-1 : Int32)).toNatClampNeg) (0 : Int64)) = 0 then (G_X5_step_L10 mb mc mr mv s fs fu (n + (-1 : Int32)) lo co ((mr.2.2.2 pc.toNatClampNeg).toInt32) mbv mvv) else (G_X5_step_L10 mb mc mr mv s fs fu (n + (-1 : Int32)) lo co (pc + (1 : Int32)) mbv mvv)) else (if (mr.2.1 pc.toNatClampNeg) = (13 : Int32) then (if (mr.2.1 pc.toNatClampNeg) = (13 : Int32) then (if (lg_cmp ((vp_updL mvv.2 lo.toNatClampNeg (mvv.1 (n + (-1 : Int32)).toNatClampNeg)) ((lo + (1 : Int32)) - (1 : Int32)).toNatClampNeg) (0 : Int64)) ≤ 0 then (if (mr.2.1 pc.toNatClampNeg) = (13 : Int32) then (G_X5_step_L10 mb mc mr mv s fs fu (n + (-1 : Int32)) ((lo + (1 : Int32)) + (-1 : Int32)) co ((mr.2.2.2 pc.toNatClampNeg).toInt32) mbv (mvv.1, vp_updL mvv.2 lo.toNatClampNeg (mvv.1 (n + (-1 : Int32)).toNatClampNeg))) else (G_X5_step_L10 mb mc mr mv s fs fu (n + (-1 : Int32)) ((lo + (1 : Int32)) + (-1 : Int32)) co (pc + (1 : Int32)) mbv (mvv.1, vp_updL mvv.2 lo.toNatClampNeg (mvv.1 (n + (-1 : Int32)).toNatClampNeg)))) else (if (co + (1 : Int32)) ≤ (1000 : Int32) then (if (mr.2.1 pc.toNatClampNeg) = (14 : Int32) then (G_X5_step_L10 mb mc mr mv s fs fu (n + (-1 : Int32)) (lo + (1 : Int32)) (co + (1 : Int32)) ((mr.2.2.2 pc.toNatClampNeg).toInt32) mbv (mvv.1, vp_updL mvv.2 lo.toNatClampNeg (mvv.1 (n + (-1 : Int32)).toNatClampNeg))) else (G_X5_step_L10 mb mc mr mv s fs fu (n + (-1 : Int32)) (lo + (1 : Int32)) (co + (1 : Int32)) (pc + (1 : Int32)) mbv (mvv.1, vp_updL mvv.2 lo.toNatClampNeg (mvv.1 (n + (-1 : Int32)).toNatClampNeg)))) else (((3 : Int32), mbv, (mvv.1, vp_updL mvv.2 lo.toNatClampNeg (mvv.1 (n + (-1 : Int32)).toNatClampNeg)))))) else (if (lg_cmp ((vp_updL mvv.2 (lo - (1 : Int32)).toNatClampNeg ((mvv.2 (lo - (1 : Int32)).toNatClampNeg) - (1 : Int64))) (lo - (1 : Int32)).toNatClampNeg) (0 : Int64)) ≤ 0 then (if (mr.2.1 pc.toNatClampNeg) = (13 : Int32) then (G_X5_step_L10 mb mc mr mv s fs fu n (lo + (-1 : Int32)) co ((mr.2.2.2 pc.toNatClampNeg).toInt32) mbv (mvv.1, vp_updL mvv.2 (lo - (1 : Int32)).toNatClampNeg ((mvv.2 (lo - (1 : Int32)).toNatClampNeg) - (1 : Int64)))) else (G_X5_step_L10 mb mc mr mv s fs fu n (lo + (-1 : Int32)) co (pc + (1 : Int32)) mbv (mvv.1, vp_updL mvv.2 (lo - (1 : Int32)).toNatClampNeg ((mvv.2 (lo - (1 : Int32)).toNatClampNeg) - (1 : Int64))))) else (if (co + (1 : Int32)) ≤ (1000 : Int32) then (if (mr.2.1 pc.toNatClampNeg) = (14 : Int32) then (G_X5_step_L10 mb mc mr mv s fs fu n lo (co + (1 : Int32)) ((mr.2.2.2 pc.toNatClampNeg).toInt32) mbv (mvv.1, vp_updL mvv.2 (lo - (1 : Int32)).toNatClampNeg ((mvv.2 (lo - (1 : Int32)).toNatClampNeg) - (1 : Int64)))) else (G_X5_step_L10 mb mc mr mv s fs fu n lo (co + (1 : Int32)) (pc + (1 : Int32)) mbv (mvv.1, vp_updL mvv.2 (lo - (1 : Int32)).toNatClampNeg ((mvv.2 (lo - (1 : Int32)).toNatClampNeg) - (1 : Int64))))) else (((3 : Int32), mbv, (mvv.1, vp_updL mvv.2 (lo - (1 : Int32)).toNatClampNeg ((mvv.2 (lo - (1 : Int32)).toNatClampNeg) - (1 : Int64)))))))) else (if (mr.2.1 pc.toNatClampNeg) = (14 : Int32) then (if (mr.2.1 pc.toNatClampNeg) = (13 : Int32) then (if (lg_cmp ((vp_updL mvv.2 lo.toNatClampNeg (mvv.1 (n + (-1 : Int32)).toNatClampNeg)) ((lo + (1 : Int32)) - (1 : Int32)).toNatClampNeg) (0 : Int64)) ≤ 0 then (if (mr.2.1 pc.toNatClampNeg) = (13 : Int32) then (G_X5_step_L10 mb mc mr mv s fs fu (n + (-1 : Int32)) ((lo + (1 : Int32)) + (-1 : Int32)) co ((mr.2.2.2 pc.toNatClampNeg).toInt32) mbv (mvv.1, vp_updL mvv.2 lo.toNatClampNeg (mvv.1 (n + (-1 : Int32)).toNatClampNeg))) else (G_X5_step_L10 mb mc mr mv s fs fu (n + (-1 : Int32)) ((lo + (1 : Int32)) + (-1 : Int32)) co (pc + (1 : Int32)) mbv (mvv.1, vp_updL mvv.2 lo.toNatClampNeg (mvv.1 (n + (-1 : Int32)).toNatClampNeg)))) else (if (co + (1 : Int32)) ≤ (1000 : Int32) then (if (mr.2.1 pc.toNatClampNeg) = (14 : Int32) then (G_X5_step_L10 mb mc mr mv s fs fu (n + (-1 : Int32)) (lo + (1 : Int32)) (co + (1 : Int32)) ((mr.2.2.2 pc.toNatClampNeg).toInt32) mbv (mvv.1, vp_updL mvv.2 lo.toNatClampNeg (mvv.1 (n + (-1 : Int32)).toNatClampNeg))) else (G_X5_step_L10 mb mc mr mv s fs fu (n + (-1 : Int32)) (lo + (1 : Int32)) (co + (1 : Int32)) (pc + (1 : Int32)) mbv (mvv.1, vp_updL mvv.2 lo.toNatClampNeg (mvv.1 (n + (-1 : Int32)).toNatClampNeg)))) else (((3 : Int32), mbv, (mvv.1, vp_updL mvv.2 lo.toNatClampNeg (mvv.1 (n + (-1 : Int32)).toNatClampNeg)))))) else (if (lg_cmp ((vp_updL mvv.2 (lo - (1 : Int32)).toNatClampNeg ((mvv.2 (lo - (1 : Int32)).toNatClampNeg) - (1 : Int64))) (lo - (1 : Int32)).toNatClampNeg) (0 : Int64)) ≤ 0 then (if (mr.2.1 pc.toNatClampNeg) = (13 : Int32) then (G_X5_step_L10 mb mc mr mv s fs fu n (lo + (-1 : Int32)) co ((mr.2.2.2 pc.toNatClampNeg).toInt32) mbv (mvv.1, vp_updL mvv.2 (lo - (1 : Int32)).toNatClampNeg ((mvv.2 (lo - (1 : Int32)).toNatClampNeg) - (1 : Int64)))) else (G_X5_step_L10 mb mc mr mv s fs fu n (lo + (-1 : Int32)) co (pc + (1 : Int32)) mbv (mvv.1, vp_updL mvv.2 (lo - (1 : Int32)).toNatClampNeg ((mvv.2 (lo - (1 : Int32)).toNatClampNeg) - (1 : Int64))))) else (if (co + (1 : Int32)) ≤ (1000 : Int32) then (if (mr.2.1 pc.toNatClampNeg) = (14 : Int32) then (G_X5_step_L10 mb mc mr mv s fs fu n lo (co + (1 : Int32)) ((mr.2.2.2 pc.toNatClampNeg).toInt32) mbv (mvv.1, vp_updL mvv.2 (lo - (1 : Int32)).toNatClampNeg ((mvv.2 (lo - (1 : Int32)).toNatClampNeg) - (1 : Int64)))) else (G_X5_step_L10 mb mc mr mv s fs fu n lo (co + (1 : Int32)) (pc + (1 : Int32)) mbv (mvv.1, vp_updL mvv.2 (lo - (1 : Int32)).toNatClampNeg ((mvv.2 (lo - (1 : Int32)).toNatClampNeg) - (1 : Int64))))) else (((3 : Int32), mbv, (mvv.1, vp_updL mvv.2 (lo - (1 : Int32)).toNatClampNeg ((mvv.2 (lo - (1 : Int32)).toNatClampNeg) - (1 : Int64)))))))) else (if (mr.2.1 pc.toNatClampNeg) = (15 : Int32) then (G_X5_step_L10 mb mc mr mv s fs fu (n + (-1 : Int32)) lo co (pc + (1 : Int32)) mbv mvv) else (if (mr.2.1 pc.toNatClampNeg) = (6 : Int32) then (if (lg_cmp (mvv.1 (n + (-1 : Int32)).toNatClampNeg) (0 : Int64)) = 0 then (((2 : Int32), mbv, mvv)) else (G_X5_step_L10 mb mc mr mv s fs fu (n + (-1 : Int32)) lo co (pc + (1 : Int32)) mbv (vp_updL mvv.1 ((n + (-1 : Int32)) - (1 : Int32)).toNatClampNeg (G_X5_reckoned (mr.2.1 pc.toNatClampNeg) (mvv.1 ((n + (-1 : Int32)) - (1 : Int32)).toNatClampNeg) (mvv.1 (n + (-1 : Int32)).toNatClampNeg)), mvv.2))) else (G_X5_step_L10 mb mc mr mv s fs fu (n + (-1 : Int32)) lo co (pc + (1 : Int32)) mbv (vp_updL mvv.1 ((n + (-1 : Int32)) - (1 : Int32)).toNatClampNeg (G_X5_reckoned (mr.2.1 pc.toNatClampNeg) (mvv.1 ((n + (-1 : Int32)) - (1 : Int32)).toNatClampNeg) (mvv.1 (n + (-1 : Int32)).toNatClampNeg)), mvv.2))))))))))))
def OK_X5_step_L10 (mb : AI) (mc : MC) (mr : MR) (mv : MV) (s : Int32) (fs : Nat) : Nat → Int32 → Int32 → Int32 → Int32 → AI → MV → Prop
  | 0, _, _, _, _, _, _ => False
  | fu + 1, n, lo, co, pc, mbv, mvv => if mr.1 ≤ pc then (True) else ((vp_in pc 401) ∧ ((vp_in pc 401) ∧ (if (mr.2.1 pc.toNatClampNeg) = (0 : Int32) then ((vp_in n 500) ∧ (OK_X5_step_L10 mb mc mr mv s fs fu (n + (1 : Int32)) lo co (pc + (1 : Int32)) mbv (vp_updL mvv.1 n.toNatClampNeg (mr.2.2.2 pc.toNatClampNeg), mvv.2))) else (if (mr.2.1 pc.toNatClampNeg) = (1 : Int32) then ((vp_in ((mr.2.2.2 pc.toNatClampNeg).toInt32) 40) ∧ ((OK_X5_read mbv mc s ((mr.2.2.2 pc.toNatClampNeg).toInt32) (mc.2.2.2.2 ((mr.2.2.2 pc.toNatClampNeg).toInt32).toNatClampNeg)) ∧ ((vp_in n 500) ∧ (OK_X5_step_L10 mb mc mr mv s fs fu (n + (1 : Int32)) lo co (pc + (1 : Int32)) mbv (vp_updL mvv.1 n.toNatClampNeg (G_X5_read mbv mc s ((mr.2.2.2 pc.toNatClampNeg).toInt32) (mc.2.2.2.2 ((mr.2.2.2 pc.toNatClampNeg).toInt32).toNatClampNeg)), mvv.2))))) else (if (mr.2.1 pc.toNatClampNeg) = (2 : Int32) then ((vp_in (n - (1 : Int32)) 500) ∧ ((OK_X5_placeOf mc ((mr.2.2.2 pc.toNatClampNeg).toInt32) (mvv.1 (n - (1 : Int32)).toNatClampNeg)) ∧ (if (G_X5_placeOf mc ((mr.2.2.2 pc.toNatClampNeg).toInt32) (mvv.1 (n - (1 : Int32)).toNatClampNeg)) = (-1 : Int32) then (True) else ((OK_X5_read mbv mc s ((mr.2.2.2 pc.toNatClampNeg).toInt32) (G_X5_placeOf mc ((mr.2.2.2 pc.toNatClampNeg).toInt32) (mvv.1 (n - (1 : Int32)).toNatClampNeg))) ∧ ((vp_in (n - (1 : Int32)) 500) ∧ (OK_X5_step_L10 mb mc mr mv s fs fu n lo co (pc + (1 : Int32)) mbv (vp_updL mvv.1 (n - (1 : Int32)).toNatClampNeg (G_X5_read mbv mc s ((mr.2.2.2 pc.toNatClampNeg).toInt32) (G_X5_placeOf mc ((mr.2.2.2 pc.toNatClampNeg).toInt32) (mvv.1 (n - (1 : Int32)).toNatClampNeg))), mvv.2))))))) else (if (mr.2.1 pc.toNatClampNeg) = (9 : Int32) then (if (mr.2.1 pc.toNatClampNeg) = (9 : Int32) then ((vp_in ((mr.2.2.2 pc.toNatClampNeg).toInt32) 40) ∧ (if (mc.2.2.2.2 ((mr.2.2.2 pc.toNatClampNeg).toInt32).toNatClampNeg) = (-1 : Int32) then (True) else (if (co + (1 : Int32)) ≤ (1000 : Int32) then ((vp_in (n - (1 : Int32)) 500) ∧ ((OK_X5_store mbv mc s ((mr.2.2.2 pc.toNatClampNeg).toInt32) (mc.2.2.2.2 ((mr.2.2.2 pc.toNatClampNeg).toInt32).toNatClampNeg) (mvv.1 (n - (1 : Int32)).toNatClampNeg)) ∧ (if (mr.2.1 pc.toNatClampNeg) = (9 : Int32) then (OK_X5_step_L10 mb mc mr mv s fs fu (n - (1 : Int32)) lo (co + (1 : Int32)) (pc + (1 : Int32)) (G_X5_store mbv mc s ((mr.2.2.2 pc.toNatClampNeg).toInt32) (mc.2.2.2.2 ((mr.2.2.2 pc.toNatClampNeg).toInt32).toNatClampNeg) (mvv.1 (n - (1 : Int32)).toNatClampNeg)) mvv) else (OK_X5_step_L10 mb mc mr mv s fs fu (n - (2 : Int32)) lo (co + (1 : Int32)) (pc + (1 : Int32)) (G_X5_store mbv mc s ((mr.2.2.2 pc.toNatClampNeg).toInt32) (mc.2.2.2.2 ((mr.2.2.2 pc.toNatClampNeg).toInt32).toNatClampNeg) (mvv.1 (n - (1 : Int32)).toNatClampNeg)) mvv)))) else (True)))) else ((vp_in (n - (2 : Int32)) 500) ∧ ((OK_X5_placeOf mc ((mr.2.2.2 pc.toNatClampNeg).toInt32) (mvv.1 (n - (2 : Int32)).toNatClampNeg)) ∧ (if (G_X5_placeOf mc ((mr.2.2.2 pc.toNatClampNeg).toInt32) (mvv.1 (n - (2 : Int32)).toNatClampNeg)) = (-1 : Int32) then (True) else (if (co + (1 : Int32)) ≤ (1000 : Int32) then ((vp_in (n - (1 : Int32)) 500) ∧ ((OK_X5_store mbv mc s ((mr.2.2.2 pc.toNatClampNeg).toInt32) (G_X5_placeOf mc ((mr.2.2.2 pc.toNatClampNeg).toInt32) (mvv.1 (n - (2 : Int32)).toNatClampNeg)) (mvv.1 (n - (1 : Int32)).toNatClampNeg)) ∧ (if (mr.2.1 pc.toNatClampNeg) = (9 : Int32) then (OK_X5_step_L10 mb mc mr mv s fs fu (n - (1 : Int32)) lo (co + (1 : Int32)) (pc + (1 : Int32)) (G_X5_store mbv mc s ((mr.2.2.2 pc.toNatClampNeg).toInt32) (G_X5_placeOf mc ((mr.2.2.2 pc.toNatClampNeg).toInt32) (mvv.1 (n - (2 : Int32)).toNatClampNeg)) (mvv.1 (n - (1 : Int32)).toNatClampNeg)) mvv) else (OK_X5_step_L10 mb mc mr mv s fs fu (n - (2 : Int32)) lo (co + (1 : Int32)) (pc + (1 : Int32)) (G_X5_store mbv mc s ((mr.2.2.2 pc.toNatClampNeg).toInt32) (G_X5_placeOf mc ((mr.2.2.2 pc.toNatClampNeg).toInt32) (mvv.1 (n - (2 : Int32)).toNatClampNeg)) (mvv.1 (n - (1 : Int32)).toNatClampNeg)) mvv)))) else (True)))))) else (if (mr.2.1 pc.toNatClampNeg) = (10 : Int32) then (if (mr.2.1 pc.toNatClampNeg) = (9 : Int32) then ((vp_in ((mr.2.2.2 pc.toNatClampNeg).toInt32) 40) ∧ (if (mc.2.2.2.2 ((mr.2.2.2 pc.toNatClampNeg).toInt32).toNatClampNeg) = (-1 : Int32) then (True) else (if (co + (1 : Int32)) ≤ (1000 : Int32) then ((vp_in (n - (1 : Int32)) 500) ∧ ((OK_X5_store mbv mc s ((mr.2.2.2 pc.toNatClampNeg).toInt32) (mc.2.2.2.2 ((mr.2.2.2 pc.toNatClampNeg).toInt32).toNatClampNeg) (mvv.1 (n - (1 : Int32)).toNatClampNeg)) ∧ (if (mr.2.1 pc.toNatClampNeg) = (9 : Int32) then (OK_X5_step_L10 mb mc mr mv s fs fu (n - (1 : Int32)) lo (co + (1 : Int32)) (pc + (1 : Int32)) (G_X5_store mbv mc s ((mr.2.2.2 pc.toNatClampNeg).toInt32) (mc.2.2.2.2 ((mr.2.2.2 pc.toNatClampNeg).toInt32).toNatClampNeg) (mvv.1 (n - (1 : Int32)).toNatClampNeg)) mvv) else (OK_X5_step_L10 mb mc mr mv s fs fu (n - (2 : Int32)) lo (co + (1 : Int32)) (pc + (1 : Int32)) (G_X5_store mbv mc s ((mr.2.2.2 pc.toNatClampNeg).toInt32) (mc.2.2.2.2 ((mr.2.2.2 pc.toNatClampNeg).toInt32).toNatClampNeg) (mvv.1 (n - (1 : Int32)).toNatClampNeg)) mvv)))) else (True)))) else ((vp_in (n - (2 : Int32)) 500) ∧ ((OK_X5_placeOf mc ((mr.2.2.2 pc.toNatClampNeg).toInt32) (mvv.1 (n - (2 : Int32)).toNatClampNeg)) ∧ (if (G_X5_placeOf mc ((mr.2.2.2 pc.toNatClampNeg).toInt32) (mvv.1 (n - (2 : Int32)).toNatClampNeg)) = (-1 : Int32) then (True) else (if (co + (1 : Int32)) ≤ (1000 : Int32) then ((vp_in (n - (1 : Int32)) 500) ∧ ((OK_X5_store mbv mc s ((mr.2.2.2 pc.toNatClampNeg).toInt32) (G_X5_placeOf mc ((mr.2.2.2 pc.toNatClampNeg).toInt32) (mvv.1 (n - (2 : Int32)).toNatClampNeg)) (mvv.1 (n - (1 : Int32)).toNatClampNeg)) ∧ (if (mr.2.1 pc.toNatClampNeg) = (9 : Int32) then (OK_X5_step_L10 mb mc mr mv s fs fu (n - (1 : Int32)) lo (co + (1 : Int32)) (pc + (1 : Int32)) (G_X5_store mbv mc s ((mr.2.2.2 pc.toNatClampNeg).toInt32) (G_X5_placeOf mc ((mr.2.2.2 pc.toNatClampNeg).toInt32) (mvv.1 (n - (2 : Int32)).toNatClampNeg)) (mvv.1 (n - (1 : Int32)).toNatClampNeg)) mvv) else (OK_X5_step_L10 mb mc mr mv s fs fu (n - (2 : Int32)) lo (co + (1 : Int32)) (pc + (1 : Int32)) (G_X5_store mbv mc s ((mr.2.2.2 pc.toNatClampNeg).toInt32) (G_X5_placeOf mc ((mr.2.2.2 pc.toNatClampNeg).toInt32) (mvv.1 (n - (2 : Int32)).toNatClampNeg)) (mvv.1 (n - (1 : Int32)).toNatClampNeg)) mvv)))) else (True)))))) else (if (mr.2.1 pc.toNatClampNeg) = (12 : Int32) then ((vp_in (n + (-1 : Int32)) 500) ∧ (if (lg_cmp (mvv.1 (n + (-1 : Int32)).toNatClampNeg) (0 : Int64)) = 0 then (OK_X5_step_L10 mb mc mr mv s fs fu (n + (-1 : Int32)) lo co ((mr.2.2.2 pc.toNatClampNeg).toInt32) mbv mvv) else (OK_X5_step_L10 mb mc mr mv s fs fu (n + (-1 : Int32)) lo co (pc + (1 : Int32)) mbv mvv))) else (if (mr.2.1 pc.toNatClampNeg) = (13 : Int32) then (if (mr.2.1 pc.toNatClampNeg) = (13 : Int32) then ((vp_in (n + (-1 : Int32)) 500) ∧ ((vp_in lo 500) ∧ ((vp_in ((lo + (1 : Int32)) - (1 : Int32)) 500) ∧ (if (lg_cmp ((vp_updL mvv.2 lo.toNatClampNeg (mvv.1 (n + (-1 : Int32)).toNatClampNeg)) ((lo + (1 : Int32)) - (1 : Int32)).toNatClampNeg) (0 : Int64)) ≤ 0 then (if (mr.2.1 pc.toNatClampNeg) = (13 : Int32) then (OK_X5_step_L10 mb mc mr mv s fs fu (n + (-1 : Int32)) ((lo + (1 : Int32)) + (-1 : Int32)) co ((mr.2.2.2 pc.toNatClampNeg).toInt32) mbv (mvv.1, vp_updL mvv.2 lo.toNatClampNeg (mvv.1 (n + (-1 : Int32)).toNatClampNeg))) else (OK_X5_step_L10 mb mc mr mv s fs fu (n + (-1 : Int32)) ((lo + (1 : Int32)) + (-1 : Int32)) co (pc + (1 : Int32)) mbv (mvv.1, vp_updL mvv.2 lo.toNatClampNeg (mvv.1 (n + (-1 : Int32)).toNatClampNeg)))) else (if (co + (1 : Int32)) ≤ (1000 : Int32) then (if (mr.2.1 pc.toNatClampNeg) = (14 : Int32) then (OK_X5_step_L10 mb mc mr mv s fs fu (n + (-1 : Int32)) (lo + (1 : Int32)) (co + (1 : Int32)) ((mr.2.2.2 pc.toNatClampNeg).toInt32) mbv (mvv.1, vp_updL mvv.2 lo.toNatClampNeg (mvv.1 (n + (-1 : Int32)).toNatClampNeg))) else (OK_X5_step_L10 mb mc mr mv s fs fu (n + (-1 : Int32)) (lo + (1 : Int32)) (co + (1 : Int32)) (pc + (1 : Int32)) mbv (mvv.1, vp_updL mvv.2 lo.toNatClampNeg (mvv.1 (n + (-1 : Int32)).toNatClampNeg)))) else (True)))))) else ((vp_in (lo - (1 : Int32)) 500) ∧ ((vp_in (lo - (1 : Int32)) 500) ∧ ((vp_in (lo - (1 : Int32)) 500) ∧ (if (lg_cmp ((vp_updL mvv.2 (lo - (1 : Int32)).toNatClampNeg ((mvv.2 (lo - (1 : Int32)).toNatClampNeg) - (1 : Int64))) (lo - (1 : Int32)).toNatClampNeg) (0 : Int64)) ≤ 0 then (if (mr.2.1 pc.toNatClampNeg) = (13 : Int32) then (OK_X5_step_L10 mb mc mr mv s fs fu n (lo + (-1 : Int32)) co ((mr.2.2.2 pc.toNatClampNeg).toInt32) mbv (mvv.1, vp_updL mvv.2 (lo - (1 : Int32)).toNatClampNeg ((mvv.2 (lo - (1 : Int32)).toNatClampNeg) - (1 : Int64)))) else (OK_X5_step_L10 mb mc mr mv s fs fu n (lo + (-1 : Int32)) co (pc + (1 : Int32)) mbv (mvv.1, vp_updL mvv.2 (lo - (1 : Int32)).toNatClampNeg ((mvv.2 (lo - (1 : Int32)).toNatClampNeg) - (1 : Int64))))) else (if (co + (1 : Int32)) ≤ (1000 : Int32) then (if (mr.2.1 pc.toNatClampNeg) = (14 : Int32) then (OK_X5_step_L10 mb mc mr mv s fs fu n lo (co + (1 : Int32)) ((mr.2.2.2 pc.toNatClampNeg).toInt32) mbv (mvv.1, vp_updL mvv.2 (lo - (1 : Int32)).toNatClampNeg ((mvv.2 (lo - (1 : Int32)).toNatClampNeg) - (1 : Int64)))) else (OK_X5_step_L10 mb mc mr mv s fs fu n lo (co + (1 : Int32)) (pc + (1 : Int32)) mbv (mvv.1, vp_updL mvv.2 (lo - (1 : Int32)).toNatClampNeg ((mvv.2 (lo - (1 : Int32)).toNatClampNeg) - (1 : Int64))))) else (True))))))) else (if (mr.2.1 pc.toNatClampNeg) = (14 : Int32) then (if (mr.2.1 pc.toNatClampNeg) = (13 : Int32) then ((vp_in (n + (-1 : Int32)) 500) ∧ ((vp_in lo 500) ∧ ((vp_in ((lo + (1 : Int32)) - (1 : Int32)) 500) ∧ (if (lg_cmp ((vp_updL mvv.2 lo.toNatClampNeg (mvv.1 (n + (-1 : Int32)).toNatClampNeg)) ((lo + (1 : Int32)) - (1 : Int32)).toNatClampNeg) (0 : Int64)) ≤ 0 then (if (mr.2.1 pc.toNatClampNeg) = (13 : Int32) then (OK_X5_step_L10 mb mc mr mv s fs fu (n + (-1 : Int32)) ((lo + (1 : Int32)) + (-1 : Int32)) co ((mr.2.2.2 pc.toNatClampNeg).toInt32) mbv (mvv.1, vp_updL mvv.2 lo.toNatClampNeg (mvv.1 (n + (-1 : Int32)).toNatClampNeg))) else (OK_X5_step_L10 mb mc mr mv s fs fu (n + (-1 : Int32)) ((lo + (1 : Int32)) + (-1 : Int32)) co (pc + (1 : Int32)) mbv (mvv.1, vp_updL mvv.2 lo.toNatClampNeg (mvv.1 (n + (-1 : Int32)).toNatClampNeg)))) else (if (co + (1 : Int32)) ≤ (1000 : Int32) then (if (mr.2.1 pc.toNatClampNeg) = (14 : Int32) then (OK_X5_step_L10 mb mc mr mv s fs fu (n + (-1 : Int32)) (lo + (1 : Int32)) (co + (1 : Int32)) ((mr.2.2.2 pc.toNatClampNeg).toInt32) mbv (mvv.1, vp_updL mvv.2 lo.toNatClampNeg (mvv.1 (n + (-1 : Int32)).toNatClampNeg))) else (OK_X5_step_L10 mb mc mr mv s fs fu (n + (-1 : Int32)) (lo + (1 : Int32)) (co + (1 : Int32)) (pc + (1 : Int32)) mbv (mvv.1, vp_updL mvv.2 lo.toNatClampNeg (mvv.1 (n + (-1 : Int32)).toNatClampNeg)))) else (True)))))) else ((vp_in (lo - (1 : Int32)) 500) ∧ ((vp_in (lo - (1 : Int32)) 500) ∧ ((vp_in (lo - (1 : Int32)) 500) ∧ (if (lg_cmp ((vp_updL mvv.2 (lo - (1 : Int32)).toNatClampNeg ((mvv.2 (lo - (1 : Int32)).toNatClampNeg) - (1 : Int64))) (lo - (1 : Int32)).toNatClampNeg) (0 : Int64)) ≤ 0 then (if (mr.2.1 pc.toNatClampNeg) = (13 : Int32) then (OK_X5_step_L10 mb mc mr mv s fs fu n (lo + (-1 : Int32)) co ((mr.2.2.2 pc.toNatClampNeg).toInt32) mbv (mvv.1, vp_updL mvv.2 (lo - (1 : Int32)).toNatClampNeg ((mvv.2 (lo - (1 : Int32)).toNatClampNeg) - (1 : Int64)))) else (OK_X5_step_L10 mb mc mr mv s fs fu n (lo + (-1 : Int32)) co (pc + (1 : Int32)) mbv (mvv.1, vp_updL mvv.2 (lo - (1 : Int32)).toNatClampNeg ((mvv.2 (lo - (1 : Int32)).toNatClampNeg) - (1 : Int64))))) else (if (co + (1 : Int32)) ≤ (1000 : Int32) then (if (mr.2.1 pc.toNatClampNeg) = (14 : Int32) then (OK_X5_step_L10 mb mc mr mv s fs fu n lo (co + (1 : Int32)) ((mr.2.2.2 pc.toNatClampNeg).toInt32) mbv (mvv.1, vp_updL mvv.2 (lo - (1 : Int32)).toNatClampNeg ((mvv.2 (lo - (1 : Int32)).toNatClampNeg) - (1 : Int64)))) else (OK_X5_step_L10 mb mc mr mv s fs fu n lo (co + (1 : Int32)) (pc + (1 : Int32)) mbv (mvv.1, vp_updL mvv.2 (lo - (1 : Int32)).toNatClampNeg ((mvv.2 (lo - (1 : Int32)).toNatClampNeg) - (1 : Int64))))) else (True))))))) else (if (mr.2.1 pc.toNatClampNeg) = (15 : Int32) then (OK_X5_step_L10 mb mc mr mv s fs fu (n + (-1 : Int32)) lo co (pc + (1 : Int32)) mbv mvv) else (if (mr.2.1 pc.toNatClampNeg) = (6 : Int32) then ((vp_in (n + (-1 : Int32)) 500) ∧ (if (lg_cmp (mvv.1 (n + (-1 : Int32)).toNatClampNeg) (0 : Int64)) = 0 then (True) else ((vp_in ((n + (-1 : Int32)) - (1 : Int32)) 500) ∧ ((vp_in (n + (-1 : Int32)) 500) ∧ ((OK_X5_reckoned (mr.2.1 pc.toNatClampNeg) (mvv.1 ((n + (-1 : Int32)) - (1 : Int32)).toNatClampNeg) (mvv.1 (n + (-1 : Int32)).toNatClampNeg)) ∧ ((vp_in ((n + (-1 : Int32)) - (1 : Int32)) 500) ∧ (OK_X5_step_L10 mb mc mr mv s fs fu (n + (-1 : Int32)) lo co (pc + (1 : Int32)) mbv (vp_updL mvv.1 ((n + (-1 : Int32)) - (1 : Int32)).toNatClampNeg (G_X5_reckoned (mr.2.1 pc.toNatClampNeg) (mvv.1 ((n + (-1 : Int32)) - (1 : Int32)).toNatClampNeg) (mvv.1 (n + (-1 : Int32)).toNatClampNeg)), mvv.2)))))))) else ((vp_in ((n + (-1 : Int32)) - (1 : Int32)) 500) ∧ ((vp_in (n + (-1 : Int32)) 500) ∧ ((OK_X5_reckoned (mr.2.1 pc.toNatClampNeg) (mvv.1 ((n + (-1 : Int32)) - (1 : Int32)).toNatClampNeg) (mvv.1 (n + (-1 : Int32)).toNatClampNeg)) ∧ ((vp_in ((n + (-1 : Int32)) - (1 : Int32)) 500) ∧ (OK_X5_step_L10 mb mc mr mv s fs fu (n + (-1 : Int32)) lo co (pc + (1 : Int32)) mbv (vp_updL mvv.1 ((n + (-1 : Int32)) - (1 : Int32)).toNatClampNeg (G_X5_reckoned (mr.2.1 pc.toNatClampNeg) (mvv.1 ((n + (-1 : Int32)) - (1 : Int32)).toNatClampNeg) (mvv.1 (n + (-1 : Int32)).toNatClampNeg)), mvv.2))))))))))))))))))
def G_X5_step (mb : AI) (mc : MC) (mr : MR) (mv : MV) (s : Int32) (fs : Nat) : Int32 × AI × MV := G_X5_step_L10 mb mc mr mv s fs fs (0 : Int32) (0 : Int32) (0 : Int32) (0 : Int32) mb mv
def OK_X5_step (mb : AI) (mc : MC) (mr : MR) (mv : MV) (s : Int32) (fs : Nat) : Prop := OK_X5_step_L10 mb mc mr mv s fs fs (0 : Int32) (0 : Int32) (0 : Int32) (0 : Int32) mb mv
set_option maxHeartbeats 4000000 in
set_option maxRecDepth 100000 in
theorem L_X5_step_L10 (l : Launch) (w : WG) (hA : wAp w 25) (me : ME) (mb : AI) (mc : MC) (mt : MT) (mk : MK) (mr : MR) (mq : MQS) (mv : MV) (s : Int32) (fs : Nat) {pP : Program} {eE : Env} {S : State} {mM : MethodId} {below : List Frame} {meth : Method} {C : Code} (hx : pP.tables.exec = Jvm.exec) (hb : C.code = cX5_step) (hr : meth.sig.returnType = (some .int)) (hml : C.maxLocals = 11) (hts : ∀ q9 ∈ wsX5_step, q9.before ([.ref (w.2.2 0), .int s] : List Value).toArray S = true) (hown : S.vm.findClass yX5_step.cls = some mM.cls) (hlk : meth.locks = false) (hK : wK w S) (g : Int32 × AI × MV) :
    ∀ (fu : Nat) (n : Int32) (lo : Int32) (co : Int32) (pc : Int32) (mbv : AI) (mvv : MV) (H : Heap) (locs : List Loc), va_P w.1 vwCl (wM w me mbv mc mt mk mr mq mvv) H → va_S (wA w 25) S.heap H locs → OK_X5_step_L10 mb mc mr mv s fs fu n lo co pc mbv mvv → g = G_X5_step_L10 mb mc mr mv s fs fu n lo co pc mbv mvv → ∀ ls : Array Slot, lv_has ls 11 [(0, .ref (w.2.2 0)), (1, .int s), (2, .int n), (3, .int lo), (4, .int co), (5, .int pc)] → W pP l eE { frames := 3, cells := 0, slots := 0, locals := 73 } S mM ([.ref (w.2.2 0), .int s] : List Value).toArray below meth C H locs 0 0 (MQ below (xM (some (.int g.1)) (fun H => va_P w.1 vwCl (wM w me g.2.1 mc mt mk mr mq g.2.2) H) (wA w 25)) ([.ref (w.2.2 0), .int s] : List Value).toArray S 0 0 (wA w 25)) (F0 mM 10 ls []) := by
  intro fu
  induction fu with
  | zero =>
    intro n lo co pc mbv mvv H locs hP hS hok hg ls hl
    exact hok.elim
  | succ fu ih =>
    intro n lo co pc mbv mvv H locs hP hS hok hg ls hl
    refine lv_iload hx hb dX5_step_10 (lv_at hl 5 rfl) ?_
    refine lv_aload_n hx hb dX5_step_12 rfl (lv_at hl 0 rfl) ?_
    refine va_get (D := w.1) (ci := 6) (v := .int mr.1) (C := RX5) (T := TX5) (N := 33) hx hb hts iw_X5_step_X5 hown hK.1 hP 0 rfl rfl 21 (by decide) (hts _ fl_X5_step_149) (fun _ h9 => h9) rfl dX5_step_13 ?_
    refine lv_icmp_ge (tgt := 493) hx hb dX5_step_16 (by decide) (fun b1 => ?_) (fun b1 => ?_)
    ·
      have k2 := Eq.mp (if_pos b1) hok
      refine lv_iconst (v := 0) hx hb dX5_step_493 (by decide) ?_
      have e9 : g = ((0 : Int32), mbv, mvv) := Eq.trans hg (if_pos b1)
      exact xM_iret hx hb hr hlk  hS (by rw [e9]) (by rw [e9]; exact hP) dX5_step_494
    ·
      have k3 := Eq.mp (if_neg b1) hok
      refine lv_aload_n hx hb dX5_step_19 rfl (lv_at hl 0 rfl) ?_
      refine va_get (D := w.1) (ci := 6) (v := .ref (w.2.2 14)) (C := RX5) (T := TX5) (N := 33) hx hb hts iw_X5_step_X5 hown hK.1 hP 0 rfl rfl 16 (by decide) (hts _ fl_X5_step_52) (fun _ h9 => h9) rfl dX5_step_20 ?_
      refine lv_iload hx hb dX5_step_23 (lv_at hl 5 rfl) ?_
      have o4 := k3.1
      have k5 := k3.2
      refine va_iald hx hb hK.1 hP 14 0 rfl rfl o4 dX5_step_25 ?_
      refine lv_istore (lv' := [(6, .int (mr.2.1 pc.toNatClampNeg)), (0, .ref (w.2.2 0)), (1, .int s), (2, .int n), (3, .int lo), (4, .int co), (5, .int pc)]) hx hb dX5_step_26 hl (by decide) rfl (fun ls hl => ?_)
      refine lv_aload_n hx hb dX5_step_28 rfl (lv_at hl 1 rfl) ?_
      refine va_get (D := w.1) (ci := 6) (v := .ref (w.2.2 17)) (C := RX5) (T := TX5) (N := 33) hx hb hts iw_X5_step_X5 hown hK.1 hP 0 rfl rfl 19 (by decide) (hts _ fl_X5_step_61) (fun _ h9 => h9) rfl dX5_step_29 ?_
      refine lv_iload hx hb dX5_step_32 (lv_at hl 6 rfl) ?_
      have o6 := k5.1
      have k7 := k5.2
      refine va_lald hx hb hK.1 hP 17 3 rfl rfl o6 dX5_step_34 ?_
      refine lv_lstore (lv' := [(7, .long (mr.2.2.2 pc.toNatClampNeg)), (6, .int (mr.2.1 pc.toNatClampNeg)), (0, .ref (w.2.2 0)), (1, .int s), (2, .int n), (3, .int lo), (4, .int co), (5, .int pc)]) hx hb dX5_step_35 hl (by decide) rfl (fun ls hl => ?_)
      refine lv_lload hx hb dX5_step_37 (lv_at hl 0 rfl) ?_
      refine lv_l2i hx hb dX5_step_39 rfl ?_
      refine lv_istore (lv' := [(9, .int ((mr.2.2.2 pc.toNatClampNeg).toInt32)), (7, .long (mr.2.2.2 pc.toNatClampNeg)), (6, .int (mr.2.1 pc.toNatClampNeg)), (0, .ref (w.2.2 0)), (1, .int s), (2, .int n), (3, .int lo), (4, .int co), (5, .int pc)]) hx hb dX5_step_40 hl (by decide) rfl (fun ls hl => ?_)
      refine lv_iinc (v := pc + (1 : Int32)) (lv' := [(5, .int (pc + (1 : Int32))), (9, .int ((mr.2.2.2 pc.toNatClampNeg).toInt32)), (7, .long (mr.2.2.2 pc.toNatClampNeg)), (6, .int (mr.2.1 pc.toNatClampNeg)), (0, .ref (w.2.2 0)), (1, .int s), (2, .int n), (3, .int lo), (4, .int co)]) hx hb dX5_step_42 hl (k := 8) rfl rfl (by decide) rfl (fun ls hl => ?_)
      refine lv_iconst (v := 0) hx hb dX5_step_45 (by decide) ?_
      refine lv_istore (lv' := [(10, .int (0 : Int32)), (5, .int (pc + (1 : Int32))), (9, .int ((mr.2.2.2 pc.toNatClampNeg).toInt32)), (7, .long (mr.2.2.2 pc.toNatClampNeg)), (6, .int (mr.2.1 pc.toNatClampNeg)), (0, .ref (w.2.2 0)), (1, .int s), (2, .int n), (3, .int lo), (4, .int co)]) hx hb dX5_step_46 hl (by decide) rfl (fun ls hl => ?_)
      refine lv_iload hx hb dX5_step_48 (lv_at hl 4 rfl) ?_
      by_cases b8 : (mr.2.1 pc.toNatClampNeg) = (0 : Int32)
      ·
        have k9 := Eq.mp (if_pos b8) k7
        refine xTabK (tgt := 128) (z := 0) hx hb dX5_step_50 (by rw [b8]; decide) (by decide +kernel) ?_
        refine lv_aload_n hx hb dX5_step_128 rfl (lv_at hl 5 rfl) ?_
        refine va_get (D := w.1) (ci := 6) (v := .ref (w.2.2 23)) (C := RX5) (T := TX5) (N := 33) hx hb hts iw_X5_step_X5 hown hK.1 hP 0 rfl rfl 29 (by decide) (hts _ fl_X5_step_79) (fun _ h9 => h9) rfl dX5_step_129 ?_
        refine lv_iload_n hx hb dX5_step_132 rfl (lv_at hl 7 rfl) ?_
        refine lv_lload hx hb dX5_step_133 (lv_at hl 3 rfl) ?_
        have o10 := k9.1
        have k11 := k9.2
        refine va_last hx hb hK.1 hP (wM_D hA) hS 23 3 rfl rfl o10 dX5_step_135 (fun H locs hP _ hS => ?_)
        have hP : va_P w.1 vwCl (wM w me mbv mc mt mk mr mq (vp_updL mvv.1 n.toNatClampNeg (mr.2.2.2 pc.toNatClampNeg), mvv.2)) H := hP
        refine lv_iinc (v := n + (1 : Int32)) (lv' := [(2, .int (n + (1 : Int32))), (10, .int (0 : Int32)), (5, .int (pc + (1 : Int32))), (9, .int ((mr.2.2.2 pc.toNatClampNeg).toInt32)), (7, .long (mr.2.2.2 pc.toNatClampNeg)), (6, .int (mr.2.1 pc.toNatClampNeg)), (0, .ref (w.2.2 0)), (1, .int s), (3, .int lo), (4, .int co)]) hx hb dX5_step_136 hl (k := 7) rfl rfl (by decide) rfl (fun ls hl => ?_)
        refine lv_goto (tgt := 490) hx hb dX5_step_139 (by decide) ?_
        refine lv_goto (tgt := 10) hx hb dX5_step_490 (by decide) ?_
        exact ih (n + (1 : Int32)) lo co (pc + (1 : Int32)) mbv (vp_updL mvv.1 n.toNatClampNeg (mr.2.2.2 pc.toNatClampNeg), mvv.2) _ _ hP hS k11 (Eq.trans (Eq.trans hg (if_neg b1)) (if_pos b8)) ls (lv_sub hl [6, 7, 0, 8, 9, 2] rfl)
      have k12 := Eq.mp (if_neg b8) k7
      by_cases b13 : (mr.2.1 pc.toNatClampNeg) = (1 : Int32)
      ·
        have k14 := Eq.mp (if_pos b13) k12
        refine xTabK (tgt := 142) (z := 1) hx hb dX5_step_50 (by rw [b13]; decide) (by decide +kernel) ?_
        refine lv_aload_n hx hb dX5_step_142 rfl (lv_at hl 5 rfl) ?_
        refine va_get (D := w.1) (ci := 6) (v := .ref (w.2.2 23)) (C := RX5) (T := TX5) (N := 33) hx hb hts iw_X5_step_X5 hown hK.1 hP 0 rfl rfl 29 (by decide) (hts _ fl_X5_step_79) (fun _ h9 => h9) rfl dX5_step_143 ?_
        refine lv_iload_n hx hb dX5_step_146 rfl (lv_at hl 7 rfl) ?_
        refine lv_aload_n hx hb dX5_step_147 rfl (lv_at hl 5 rfl) ?_
        refine lv_iload_n hx hb dX5_step_148 rfl (lv_at hl 6 rfl) ?_
        refine lv_iload hx hb dX5_step_149 (lv_at hl 2 rfl) ?_
        refine lv_aload_n hx hb dX5_step_151 rfl (lv_at hl 5 rfl) ?_
        refine va_get (D := w.1) (ci := 6) (v := .ref (w.2.2 5)) (C := RX5) (T := TX5) (N := 33) hx hb hts iw_X5_step_X5 hown hK.1 hP 0 rfl rfl 5 (by decide) (hts _ fl_X5_step_23) (fun _ h9 => h9) rfl dX5_step_152 ?_
        refine lv_iload hx hb dX5_step_155 (lv_at hl 2 rfl) ?_
        have o15 := k14.1
        have k16 := k14.2
        refine va_iald hx hb hK.1 hP 5 0 rfl rfl o15 dX5_step_157 ?_
        have o17 := k16.1
        have k18 := k16.2
        refine xR_l (va_runV (As := [.int s, .int ((mr.2.2.2 pc.toNatClampNeg).toInt32), .int (mc.2.2.2.2 ((mr.2.2.2 pc.toNatClampNeg).toInt32).toNatClampNeg)]) (rest := [.int n, .ref (w.2.2 23)]) ⟨hx, hb, hml, hown, hts⟩ (c_X5_read l w me mbv mc mt mk mr mq mvv s ((mr.2.2.2 pc.toNatClampNeg).toInt32) (mc.2.2.2.2 ((mr.2.2.2 pc.toNatClampNeg).toInt32).toNatClampNeg) o17) (cwV 3 hts gX5_step_X5_read rfl rfl rfl dv_X5_read ⟨Nat.le_of_ble_eq_true rfl, Nat.le_of_ble_eq_true rfl⟩) (wPreV hP hK (ci := 6) (q0 := 0) rfl rfl) rfl rfl hl.1 rfl (lv_room (Nat.le_of_ble_eq_true rfl)) dX5_step_158 ⟨Nat.zero_le _, Nat.zero_le _⟩) ?_
        have o19 := k18.1
        have k20 := k18.2
        refine va_last hx hb hK.1 hP (wM_D hA) hS 23 3 rfl rfl o19 dX5_step_161 (fun H locs hP _ hS => ?_)
        have hP : va_P w.1 vwCl (wM w me mbv mc mt mk mr mq (vp_updL mvv.1 n.toNatClampNeg (G_X5_read mbv mc s ((mr.2.2.2 pc.toNatClampNeg).toInt32) (mc.2.2.2.2 ((mr.2.2.2 pc.toNatClampNeg).toInt32).toNatClampNeg)), mvv.2)) H := hP
        refine lv_iinc (v := n + (1 : Int32)) (lv' := [(2, .int (n + (1 : Int32))), (10, .int (0 : Int32)), (5, .int (pc + (1 : Int32))), (9, .int ((mr.2.2.2 pc.toNatClampNeg).toInt32)), (7, .long (mr.2.2.2 pc.toNatClampNeg)), (6, .int (mr.2.1 pc.toNatClampNeg)), (0, .ref (w.2.2 0)), (1, .int s), (3, .int lo), (4, .int co)]) hx hb dX5_step_162 hl (k := 7) rfl rfl (by decide) rfl (fun ls hl => ?_)
        refine lv_goto (tgt := 490) hx hb dX5_step_165 (by decide) ?_
        refine lv_goto (tgt := 10) hx hb dX5_step_490 (by decide) ?_
        exact ih (n + (1 : Int32)) lo co (pc + (1 : Int32)) mbv (vp_updL mvv.1 n.toNatClampNeg (G_X5_read mbv mc s ((mr.2.2.2 pc.toNatClampNeg).toInt32) (mc.2.2.2.2 ((mr.2.2.2 pc.toNatClampNeg).toInt32).toNatClampNeg)), mvv.2) _ _ hP hS k20 (Eq.trans (Eq.trans (Eq.trans hg (if_neg b1)) (if_neg b8)) (if_pos b13)) ls (lv_sub hl [6, 7, 0, 8, 9, 2] rfl)
      have k21 := Eq.mp (if_neg b13) k12
      by_cases b22 : (mr.2.1 pc.toNatClampNeg) = (2 : Int32)
      ·
        have k23 := Eq.mp (if_pos b22) k21
        refine xTabK (tgt := 168) (z := 2) hx hb dX5_step_50 (by rw [b22]; decide) (by decide +kernel) ?_
        refine lv_aload_n hx hb dX5_step_168 rfl (lv_at hl 5 rfl) ?_
        refine lv_iload hx hb dX5_step_169 (lv_at hl 2 rfl) ?_
        refine lv_aload_n hx hb dX5_step_171 rfl (lv_at hl 5 rfl) ?_
        refine va_get (D := w.1) (ci := 6) (v := .ref (w.2.2 23)) (C := RX5) (T := TX5) (N := 33) hx hb hts iw_X5_step_X5 hown hK.1 hP 0 rfl rfl 29 (by decide) (hts _ fl_X5_step_79) (fun _ h9 => h9) rfl dX5_step_172 ?_
        refine lv_iload_n hx hb dX5_step_175 rfl (lv_at hl 7 rfl) ?_
        refine lv_iconst (v := 1) hx hb dX5_step_176 (by decide) ?_
        refine lv_isub hx hb dX5_step_177 ?_
        have o24 := k23.1
        have k25 := k23.2
        refine va_lald hx hb hK.1 hP 23 3 rfl rfl o24 dX5_step_178 ?_
        have o26 := k25.1
        have k27 := k25.2
        refine xR_i (va_runV (As := [.int ((mr.2.2.2 pc.toNatClampNeg).toInt32), .long (mvv.1 (n - (1 : Int32)).toNatClampNeg)]) (rest := []) ⟨hx, hb, hml, hown, hts⟩ (c_X5_placeOf l w me mbv mc mt mk mr mq mvv ((mr.2.2.2 pc.toNatClampNeg).toInt32) (mvv.1 (n - (1 : Int32)).toNatClampNeg) o26) (cwV 2 hts gX5_step_X5_placeOf rfl rfl rfl dv_X5_placeOf ⟨Nat.le_of_ble_eq_true rfl, Nat.le_of_ble_eq_true rfl⟩) (wPreV hP hK (ci := 6) (q0 := 0) rfl rfl) rfl rfl hl.1 rfl (lv_room (Nat.le_of_ble_eq_true rfl)) dX5_step_179 ⟨Nat.zero_le _, Nat.zero_le _⟩) ?_
        refine lv_istore (lv' := [(10, .int (G_X5_placeOf mc ((mr.2.2.2 pc.toNatClampNeg).toInt32) (mvv.1 (n - (1 : Int32)).toNatClampNeg))), (5, .int (pc + (1 : Int32))), (9, .int ((mr.2.2.2 pc.toNatClampNeg).toInt32)), (7, .long (mr.2.2.2 pc.toNatClampNeg)), (6, .int (mr.2.1 pc.toNatClampNeg)), (0, .ref (w.2.2 0)), (1, .int s), (2, .int n), (3, .int lo), (4, .int co)]) hx hb dX5_step_182 hl (by decide) rfl (fun ls hl => ?_)
        refine lv_iload hx hb dX5_step_184 (lv_at hl 0 rfl) ?_
        refine lv_iconst (v := -1) hx hb dX5_step_186 (by decide) ?_
        refine lv_icmp_ne (tgt := 192) hx hb dX5_step_187 (by decide) (fun b28 => ?_) (fun b28 => ?_)
        ·
          have k29 := Eq.mp (if_neg b28) k27
          refine lv_aload_n hx hb dX5_step_192 rfl (lv_at hl 5 rfl) ?_
          refine va_get (D := w.1) (ci := 6) (v := .ref (w.2.2 23)) (C := RX5) (T := TX5) (N := 33) hx hb hts iw_X5_step_X5 hown hK.1 hP 0 rfl rfl 29 (by decide) (hts _ fl_X5_step_79) (fun _ h9 => h9) rfl dX5_step_193 ?_
          refine lv_iload_n hx hb dX5_step_196 rfl (lv_at hl 7 rfl) ?_
          refine lv_iconst (v := 1) hx hb dX5_step_197 (by decide) ?_
          refine lv_isub hx hb dX5_step_198 ?_
          refine lv_aload_n hx hb dX5_step_199 rfl (lv_at hl 5 rfl) ?_
          refine lv_iload_n hx hb dX5_step_200 rfl (lv_at hl 6 rfl) ?_
          refine lv_iload hx hb dX5_step_201 (lv_at hl 2 rfl) ?_
          refine lv_iload hx hb dX5_step_203 (lv_at hl 0 rfl) ?_
          have o30 := k29.1
          have k31 := k29.2
          refine xR_l (va_runV (As := [.int s, .int ((mr.2.2.2 pc.toNatClampNeg).toInt32), .int (G_X5_placeOf mc ((mr.2.2.2 pc.toNatClampNeg).toInt32) (mvv.1 (n - (1 : Int32)).toNatClampNeg))]) (rest := [.int (n - (1 : Int32)), .ref (w.2.2 23)]) ⟨hx, hb, hml, hown, hts⟩ (c_X5_read l w me mbv mc mt mk mr mq mvv s ((mr.2.2.2 pc.toNatClampNeg).toInt32) (G_X5_placeOf mc ((mr.2.2.2 pc.toNatClampNeg).toInt32) (mvv.1 (n - (1 : Int32)).toNatClampNeg)) o30) (cwV 3 hts gX5_step_X5_read rfl rfl rfl dv_X5_read ⟨Nat.le_of_ble_eq_true rfl, Nat.le_of_ble_eq_true rfl⟩) (wPreV hP hK (ci := 6) (q0 := 0) rfl rfl) rfl rfl hl.1 rfl (lv_room (Nat.le_of_ble_eq_true rfl)) dX5_step_205 ⟨Nat.zero_le _, Nat.zero_le _⟩) ?_
          have o32 := k31.1
          have k33 := k31.2
          refine va_last hx hb hK.1 hP (wM_D hA) hS 23 3 rfl rfl o32 dX5_step_208 (fun H locs hP _ hS => ?_)
          have hP : va_P w.1 vwCl (wM w me mbv mc mt mk mr mq (vp_updL mvv.1 (n - (1 : Int32)).toNatClampNeg (G_X5_read mbv mc s ((mr.2.2.2 pc.toNatClampNeg).toInt32) (G_X5_placeOf mc ((mr.2.2.2 pc.toNatClampNeg).toInt32) (mvv.1 (n - (1 : Int32)).toNatClampNeg))), mvv.2)) H := hP
          refine lv_goto (tgt := 490) hx hb dX5_step_209 (by decide) ?_
          refine lv_goto (tgt := 10) hx hb dX5_step_490 (by decide) ?_
          exact ih n lo co (pc + (1 : Int32)) mbv (vp_updL mvv.1 (n - (1 : Int32)).toNatClampNeg (G_X5_read mbv mc s ((mr.2.2.2 pc.toNatClampNeg).toInt32) (G_X5_placeOf mc ((mr.2.2.2 pc.toNatClampNeg).toInt32) (mvv.1 (n - (1 : Int32)).toNatClampNeg))), mvv.2) _ _ hP hS k33 (Eq.trans (Eq.trans (Eq.trans (Eq.trans (Eq.trans hg (if_neg b1)) (if_neg b8)) (if_neg b13)) (if_pos b22)) (if_neg b28)) ls (lv_sub hl [5, 6, 7, 8, 9, 1] rfl)
        ·
          have k34 := Eq.mp (if_pos b28) k27
          refine lv_iconst (v := 1) hx hb dX5_step_190 (by decide) ?_
          have e9 : g = ((1 : Int32), mbv, mvv) := Eq.trans (Eq.trans (Eq.trans (Eq.trans (Eq.trans hg (if_neg b1)) (if_neg b8)) (if_neg b13)) (if_pos b22)) (if_pos b28)
          exact xM_iret hx hb hr hlk  hS (by rw [e9]) (by rw [e9]; exact hP) dX5_step_191
      have k35 := Eq.mp (if_neg b22) k21
      by_cases b36 : (mr.2.1 pc.toNatClampNeg) = (9 : Int32)
      ·
        have k37 := Eq.mp (if_pos b36) k35
        refine xTabK (tgt := 212) (z := 9) hx hb dX5_step_50 (by rw [b36]; decide) (by decide +kernel) ?_
        refine lv_iload hx hb dX5_step_212 (lv_at hl 4 rfl) ?_
        refine lv_bipush (v := 9) hx hb dX5_step_214 (by decide) ?_
        refine lv_icmp_ne (tgt := 229) hx hb dX5_step_216 (by decide) (fun b38 => ?_) (fun b38 => ?_)
        ·
          have k39 := Eq.mp (if_neg b38) k37
          refine lv_aload_n hx hb dX5_step_229 rfl (lv_at hl 5 rfl) ?_
          refine lv_iload hx hb dX5_step_230 (lv_at hl 2 rfl) ?_
          refine lv_aload_n hx hb dX5_step_232 rfl (lv_at hl 5 rfl) ?_
          refine va_get (D := w.1) (ci := 6) (v := .ref (w.2.2 23)) (C := RX5) (T := TX5) (N := 33) hx hb hts iw_X5_step_X5 hown hK.1 hP 0 rfl rfl 29 (by decide) (hts _ fl_X5_step_79) (fun _ h9 => h9) rfl dX5_step_233 ?_
          refine lv_iload_n hx hb dX5_step_236 rfl (lv_at hl 7 rfl) ?_
          refine lv_iconst (v := 2) hx hb dX5_step_237 (by decide) ?_
          refine lv_isub hx hb dX5_step_238 ?_
          have o40 := k39.1
          have k41 := k39.2
          refine va_lald hx hb hK.1 hP 23 3 rfl rfl o40 dX5_step_239 ?_
          have o42 := k41.1
          have k43 := k41.2
          refine xR_i (va_runV (As := [.int ((mr.2.2.2 pc.toNatClampNeg).toInt32), .long (mvv.1 (n - (2 : Int32)).toNatClampNeg)]) (rest := []) ⟨hx, hb, hml, hown, hts⟩ (c_X5_placeOf l w me mbv mc mt mk mr mq mvv ((mr.2.2.2 pc.toNatClampNeg).toInt32) (mvv.1 (n - (2 : Int32)).toNatClampNeg) o42) (cwV 2 hts gX5_step_X5_placeOf rfl rfl rfl dv_X5_placeOf ⟨Nat.le_of_ble_eq_true rfl, Nat.le_of_ble_eq_true rfl⟩) (wPreV hP hK (ci := 6) (q0 := 0) rfl rfl) rfl rfl hl.1 rfl (lv_room (Nat.le_of_ble_eq_true rfl)) dX5_step_240 ⟨Nat.zero_le _, Nat.zero_le _⟩) ?_
          refine lv_istore (lv' := [(10, .int (G_X5_placeOf mc ((mr.2.2.2 pc.toNatClampNeg).toInt32) (mvv.1 (n - (2 : Int32)).toNatClampNeg))), (5, .int (pc + (1 : Int32))), (9, .int ((mr.2.2.2 pc.toNatClampNeg).toInt32)), (7, .long (mr.2.2.2 pc.toNatClampNeg)), (6, .int (mr.2.1 pc.toNatClampNeg)), (0, .ref (w.2.2 0)), (1, .int s), (2, .int n), (3, .int lo), (4, .int co)]) hx hb dX5_step_243 hl (by decide) rfl (fun ls hl => ?_)
          refine lv_iload hx hb dX5_step_245 (lv_at hl 0 rfl) ?_
          refine lv_iconst (v := -1) hx hb dX5_step_247 (by decide) ?_
          refine lv_icmp_ne (tgt := 253) hx hb dX5_step_248 (by decide) (fun b44 => ?_) (fun b44 => ?_)
          ·
            have k45 := Eq.mp (if_neg b44) k43
            refine lv_iinc (v := co + (1 : Int32)) (lv' := [(4, .int (co + (1 : Int32))), (10, .int (G_X5_placeOf mc ((mr.2.2.2 pc.toNatClampNeg).toInt32) (mvv.1 (n - (2 : Int32)).toNatClampNeg))), (5, .int (pc + (1 : Int32))), (9, .int ((mr.2.2.2 pc.toNatClampNeg).toInt32)), (7, .long (mr.2.2.2 pc.toNatClampNeg)), (6, .int (mr.2.1 pc.toNatClampNeg)), (0, .ref (w.2.2 0)), (1, .int s), (2, .int n), (3, .int lo)]) hx hb dX5_step_253 hl (k := 9) rfl rfl (by decide) rfl (fun ls hl => ?_)
            refine lv_iload hx hb dX5_step_256 (lv_at hl 0 rfl) ?_
            refine lv_sipush (v := 1000) hx hb dX5_step_258 (by decide) ?_
            refine lv_icmp_le (tgt := 266) hx hb dX5_step_261 (by decide) (fun b46 => ?_) (fun b46 => ?_)
            ·
              have k47 := Eq.mp (if_pos b46) k45
              refine lv_aload_n hx hb dX5_step_266 rfl (lv_at hl 6 rfl) ?_
              refine lv_iload_n hx hb dX5_step_267 rfl (lv_at hl 7 rfl) ?_
              refine lv_iload hx hb dX5_step_268 (lv_at hl 3 rfl) ?_
              refine lv_iload hx hb dX5_step_270 (lv_at hl 1 rfl) ?_
              refine lv_aload_n hx hb dX5_step_272 rfl (lv_at hl 6 rfl) ?_
              refine va_get (D := w.1) (ci := 6) (v := .ref (w.2.2 23)) (C := RX5) (T := TX5) (N := 33) hx hb hts iw_X5_step_X5 hown hK.1 hP 0 rfl rfl 29 (by decide) (hts _ fl_X5_step_79) (fun _ h9 => h9) rfl dX5_step_273 ?_
              refine lv_iload_n hx hb dX5_step_276 rfl (lv_at hl 8 rfl) ?_
              refine lv_iconst (v := 1) hx hb dX5_step_277 (by decide) ?_
              refine lv_isub hx hb dX5_step_278 ?_
              have o48 := k47.1
              have k49 := k47.2
              refine va_lald hx hb hK.1 hP 23 3 rfl rfl o48 dX5_step_279 ?_
              have o50 := k49.1
              have k51 := k49.2
              refine xM_v (va_runV (As := [.int s, .int ((mr.2.2.2 pc.toNatClampNeg).toInt32), .int (G_X5_placeOf mc ((mr.2.2.2 pc.toNatClampNeg).toInt32) (mvv.1 (n - (2 : Int32)).toNatClampNeg)), .long (mvv.1 (n - (1 : Int32)).toNatClampNeg)]) (rest := []) ⟨hx, hb, hml, hown, hts⟩ (c_X5_store l w hA me mbv mc mt mk mr mq mvv s ((mr.2.2.2 pc.toNatClampNeg).toInt32) (G_X5_placeOf mc ((mr.2.2.2 pc.toNatClampNeg).toInt32) (mvv.1 (n - (2 : Int32)).toNatClampNeg)) (mvv.1 (n - (1 : Int32)).toNatClampNeg) o50) (cwV 4 hts gX5_step_X5_store rfl rfl rfl dv_X5_store ⟨Nat.le_of_ble_eq_true rfl, Nat.le_of_ble_eq_true rfl⟩) (wPreV hP hK (ci := 6) (q0 := 0) rfl rfl) rfl rfl hl.1 rfl (lv_room (Nat.le_of_ble_eq_true rfl)) dX5_step_280 ⟨Nat.zero_le _, Nat.zero_le _⟩) hS (fun H locs hP hS => ?_)
              have hP : va_P w.1 vwCl (wM w me (G_X5_store mbv mc s ((mr.2.2.2 pc.toNatClampNeg).toInt32) (G_X5_placeOf mc ((mr.2.2.2 pc.toNatClampNeg).toInt32) (mvv.1 (n - (2 : Int32)).toNatClampNeg)) (mvv.1 (n - (1 : Int32)).toNatClampNeg)) mc mt mk mr mq mvv) H := hP
              refine lv_iload_n hx hb dX5_step_283 rfl (lv_at hl 8 rfl) ?_
              refine lv_iload hx hb dX5_step_284 (lv_at hl 5 rfl) ?_
              refine lv_bipush (v := 9) hx hb dX5_step_286 (by decide) ?_
              refine lv_icmp_ne (tgt := 295) hx hb dX5_step_288 (by decide) (fun b52 => ?_) (fun b52 => ?_)
              ·
                have k53 := Eq.mp (if_neg b52) k51
                refine lv_iconst (v := 2) hx hb dX5_step_295 (by decide) ?_
                refine lv_isub hx hb dX5_step_296 ?_
                refine lv_istore_n (lv' := [(2, .int (n - (2 : Int32))), (4, .int (co + (1 : Int32))), (10, .int (G_X5_placeOf mc ((mr.2.2.2 pc.toNatClampNeg).toInt32) (mvv.1 (n - (2 : Int32)).toNatClampNeg))), (5, .int (pc + (1 : Int32))), (9, .int ((mr.2.2.2 pc.toNatClampNeg).toInt32)), (7, .long (mr.2.2.2 pc.toNatClampNeg)), (6, .int (mr.2.1 pc.toNatClampNeg)), (0, .ref (w.2.2 0)), (1, .int s), (3, .int lo)]) hx hb dX5_step_297 rfl hl (by decide) rfl (fun ls hl => ?_)
                refine lv_goto (tgt := 490) hx hb dX5_step_298 (by decide) ?_
                refine lv_goto (tgt := 10) hx hb dX5_step_490 (by decide) ?_
                exact ih (n - (2 : Int32)) lo (co + (1 : Int32)) (pc + (1 : Int32)) (G_X5_store mbv mc s ((mr.2.2.2 pc.toNatClampNeg).toInt32) (G_X5_placeOf mc ((mr.2.2.2 pc.toNatClampNeg).toInt32) (mvv.1 (n - (2 : Int32)).toNatClampNeg)) (mvv.1 (n - (1 : Int32)).toNatClampNeg)) mvv _ _ hP hS k53 (Eq.trans (Eq.trans (Eq.trans (Eq.trans (Eq.trans (Eq.trans (Eq.trans (Eq.trans (Eq.trans hg (if_neg b1)) (if_neg b8)) (if_neg b13)) (if_neg b22)) (if_pos b36)) (if_neg b38)) (if_neg b44)) (if_pos b46)) (if_neg b52)) ls (lv_sub hl [7, 8, 0, 9, 1, 3] rfl)
              ·
                have k54 := Eq.mp (if_pos b52) k51
                refine lv_iconst (v := 1) hx hb dX5_step_291 (by decide) ?_
                refine lv_goto (tgt := 296) hx hb dX5_step_292 (by decide) ?_
                refine lv_isub hx hb dX5_step_296 ?_
                refine lv_istore_n (lv' := [(2, .int (n - (1 : Int32))), (4, .int (co + (1 : Int32))), (10, .int (G_X5_placeOf mc ((mr.2.2.2 pc.toNatClampNeg).toInt32) (mvv.1 (n - (2 : Int32)).toNatClampNeg))), (5, .int (pc + (1 : Int32))), (9, .int ((mr.2.2.2 pc.toNatClampNeg).toInt32)), (7, .long (mr.2.2.2 pc.toNatClampNeg)), (6, .int (mr.2.1 pc.toNatClampNeg)), (0, .ref (w.2.2 0)), (1, .int s), (3, .int lo)]) hx hb dX5_step_297 rfl hl (by decide) rfl (fun ls hl => ?_)
                refine lv_goto (tgt := 490) hx hb dX5_step_298 (by decide) ?_
                refine lv_goto (tgt := 10) hx hb dX5_step_490 (by decide) ?_
                exact ih (n - (1 : Int32)) lo (co + (1 : Int32)) (pc + (1 : Int32)) (G_X5_store mbv mc s ((mr.2.2.2 pc.toNatClampNeg).toInt32) (G_X5_placeOf mc ((mr.2.2.2 pc.toNatClampNeg).toInt32) (mvv.1 (n - (2 : Int32)).toNatClampNeg)) (mvv.1 (n - (1 : Int32)).toNatClampNeg)) mvv _ _ hP hS k54 (Eq.trans (Eq.trans (Eq.trans (Eq.trans (Eq.trans (Eq.trans (Eq.trans (Eq.trans (Eq.trans hg (if_neg b1)) (if_neg b8)) (if_neg b13)) (if_neg b22)) (if_pos b36)) (if_neg b38)) (if_neg b44)) (if_pos b46)) (if_pos b52)) ls (lv_sub hl [7, 8, 0, 9, 1, 3] rfl)
            ·
              have k55 := Eq.mp (if_neg b46) k45
              refine lv_iconst (v := 3) hx hb dX5_step_264 (by decide) ?_
              have e9 : g = ((3 : Int32), mbv, mvv) := Eq.trans (Eq.trans (Eq.trans (Eq.trans (Eq.trans (Eq.trans (Eq.trans (Eq.trans hg (if_neg b1)) (if_neg b8)) (if_neg b13)) (if_neg b22)) (if_pos b36)) (if_neg b38)) (if_neg b44)) (if_neg b46)
              exact xM_iret hx hb hr hlk  hS (by rw [e9]) (by rw [e9]; exact hP) dX5_step_265
          ·
            have k56 := Eq.mp (if_pos b44) k43
            refine lv_iconst (v := 1) hx hb dX5_step_251 (by decide) ?_
            have e9 : g = ((1 : Int32), mbv, mvv) := Eq.trans (Eq.trans (Eq.trans (Eq.trans (Eq.trans (Eq.trans (Eq.trans hg (if_neg b1)) (if_neg b8)) (if_neg b13)) (if_neg b22)) (if_pos b36)) (if_neg b38)) (if_pos b44)
            exact xM_iret hx hb hr hlk  hS (by rw [e9]) (by rw [e9]; exact hP) dX5_step_252
        ·
          have k57 := Eq.mp (if_pos b38) k37
          refine lv_aload_n hx hb dX5_step_219 rfl (lv_at hl 5 rfl) ?_
          refine va_get (D := w.1) (ci := 6) (v := .ref (w.2.2 5)) (C := RX5) (T := TX5) (N := 33) hx hb hts iw_X5_step_X5 hown hK.1 hP 0 rfl rfl 5 (by decide) (hts _ fl_X5_step_23) (fun _ h9 => h9) rfl dX5_step_220 ?_
          refine lv_iload hx hb dX5_step_223 (lv_at hl 2 rfl) ?_
          have o58 := k57.1
          have k59 := k57.2
          refine va_iald hx hb hK.1 hP 5 0 rfl rfl o58 dX5_step_225 ?_
          refine lv_goto (tgt := 243) hx hb dX5_step_226 (by decide) ?_
          refine lv_istore (lv' := [(10, .int (mc.2.2.2.2 ((mr.2.2.2 pc.toNatClampNeg).toInt32).toNatClampNeg)), (5, .int (pc + (1 : Int32))), (9, .int ((mr.2.2.2 pc.toNatClampNeg).toInt32)), (7, .long (mr.2.2.2 pc.toNatClampNeg)), (6, .int (mr.2.1 pc.toNatClampNeg)), (0, .ref (w.2.2 0)), (1, .int s), (2, .int n), (3, .int lo), (4, .int co)]) hx hb dX5_step_243 hl (by decide) rfl (fun ls hl => ?_)
          refine lv_iload hx hb dX5_step_245 (lv_at hl 0 rfl) ?_
          refine lv_iconst (v := -1) hx hb dX5_step_247 (by decide) ?_
          refine lv_icmp_ne (tgt := 253) hx hb dX5_step_248 (by decide) (fun b60 => ?_) (fun b60 => ?_)
          ·
            have k61 := Eq.mp (if_neg b60) k59
            refine lv_iinc (v := co + (1 : Int32)) (lv' := [(4, .int (co + (1 : Int32))), (10, .int (mc.2.2.2.2 ((mr.2.2.2 pc.toNatClampNeg).toInt32).toNatClampNeg)), (5, .int (pc + (1 : Int32))), (9, .int ((mr.2.2.2 pc.toNatClampNeg).toInt32)), (7, .long (mr.2.2.2 pc.toNatClampNeg)), (6, .int (mr.2.1 pc.toNatClampNeg)), (0, .ref (w.2.2 0)), (1, .int s), (2, .int n), (3, .int lo)]) hx hb dX5_step_253 hl (k := 9) rfl rfl (by decide) rfl (fun ls hl => ?_)
            refine lv_iload hx hb dX5_step_256 (lv_at hl 0 rfl) ?_
            refine lv_sipush (v := 1000) hx hb dX5_step_258 (by decide) ?_
            refine lv_icmp_le (tgt := 266) hx hb dX5_step_261 (by decide) (fun b62 => ?_) (fun b62 => ?_)
            ·
              have k63 := Eq.mp (if_pos b62) k61
              refine lv_aload_n hx hb dX5_step_266 rfl (lv_at hl 6 rfl) ?_
              refine lv_iload_n hx hb dX5_step_267 rfl (lv_at hl 7 rfl) ?_
              refine lv_iload hx hb dX5_step_268 (lv_at hl 3 rfl) ?_
              refine lv_iload hx hb dX5_step_270 (lv_at hl 1 rfl) ?_
              refine lv_aload_n hx hb dX5_step_272 rfl (lv_at hl 6 rfl) ?_
              refine va_get (D := w.1) (ci := 6) (v := .ref (w.2.2 23)) (C := RX5) (T := TX5) (N := 33) hx hb hts iw_X5_step_X5 hown hK.1 hP 0 rfl rfl 29 (by decide) (hts _ fl_X5_step_79) (fun _ h9 => h9) rfl dX5_step_273 ?_
              refine lv_iload_n hx hb dX5_step_276 rfl (lv_at hl 8 rfl) ?_
              refine lv_iconst (v := 1) hx hb dX5_step_277 (by decide) ?_
              refine lv_isub hx hb dX5_step_278 ?_
              have o64 := k63.1
              have k65 := k63.2
              refine va_lald hx hb hK.1 hP 23 3 rfl rfl o64 dX5_step_279 ?_
              have o66 := k65.1
              have k67 := k65.2
              refine xM_v (va_runV (As := [.int s, .int ((mr.2.2.2 pc.toNatClampNeg).toInt32), .int (mc.2.2.2.2 ((mr.2.2.2 pc.toNatClampNeg).toInt32).toNatClampNeg), .long (mvv.1 (n - (1 : Int32)).toNatClampNeg)]) (rest := []) ⟨hx, hb, hml, hown, hts⟩ (c_X5_store l w hA me mbv mc mt mk mr mq mvv s ((mr.2.2.2 pc.toNatClampNeg).toInt32) (mc.2.2.2.2 ((mr.2.2.2 pc.toNatClampNeg).toInt32).toNatClampNeg) (mvv.1 (n - (1 : Int32)).toNatClampNeg) o66) (cwV 4 hts gX5_step_X5_store rfl rfl rfl dv_X5_store ⟨Nat.le_of_ble_eq_true rfl, Nat.le_of_ble_eq_true rfl⟩) (wPreV hP hK (ci := 6) (q0 := 0) rfl rfl) rfl rfl hl.1 rfl (lv_room (Nat.le_of_ble_eq_true rfl)) dX5_step_280 ⟨Nat.zero_le _, Nat.zero_le _⟩) hS (fun H locs hP hS => ?_)
              have hP : va_P w.1 vwCl (wM w me (G_X5_store mbv mc s ((mr.2.2.2 pc.toNatClampNeg).toInt32) (mc.2.2.2.2 ((mr.2.2.2 pc.toNatClampNeg).toInt32).toNatClampNeg) (mvv.1 (n - (1 : Int32)).toNatClampNeg)) mc mt mk mr mq mvv) H := hP
              refine lv_iload_n hx hb dX5_step_283 rfl (lv_at hl 8 rfl) ?_
              refine lv_iload hx hb dX5_step_284 (lv_at hl 5 rfl) ?_
              refine lv_bipush (v := 9) hx hb dX5_step_286 (by decide) ?_
              refine lv_icmp_ne (tgt := 295) hx hb dX5_step_288 (by decide) (fun b68 => ?_) (fun b68 => ?_)
              ·
                have k69 := Eq.mp (if_neg b68) k67
                refine lv_iconst (v := 2) hx hb dX5_step_295 (by decide) ?_
                refine lv_isub hx hb dX5_step_296 ?_
                refine lv_istore_n (lv' := [(2, .int (n - (2 : Int32))), (4, .int (co + (1 : Int32))), (10, .int (mc.2.2.2.2 ((mr.2.2.2 pc.toNatClampNeg).toInt32).toNatClampNeg)), (5, .int (pc + (1 : Int32))), (9, .int ((mr.2.2.2 pc.toNatClampNeg).toInt32)), (7, .long (mr.2.2.2 pc.toNatClampNeg)), (6, .int (mr.2.1 pc.toNatClampNeg)), (0, .ref (w.2.2 0)), (1, .int s), (3, .int lo)]) hx hb dX5_step_297 rfl hl (by decide) rfl (fun ls hl => ?_)
                refine lv_goto (tgt := 490) hx hb dX5_step_298 (by decide) ?_
                refine lv_goto (tgt := 10) hx hb dX5_step_490 (by decide) ?_
                exact ih (n - (2 : Int32)) lo (co + (1 : Int32)) (pc + (1 : Int32)) (G_X5_store mbv mc s ((mr.2.2.2 pc.toNatClampNeg).toInt32) (mc.2.2.2.2 ((mr.2.2.2 pc.toNatClampNeg).toInt32).toNatClampNeg) (mvv.1 (n - (1 : Int32)).toNatClampNeg)) mvv _ _ hP hS k69 (Eq.trans (Eq.trans (Eq.trans (Eq.trans (Eq.trans (Eq.trans (Eq.trans (Eq.trans (Eq.trans hg (if_neg b1)) (if_neg b8)) (if_neg b13)) (if_neg b22)) (if_pos b36)) (if_pos b38)) (if_neg b60)) (if_pos b62)) (if_neg b68)) ls (lv_sub hl [7, 8, 0, 9, 1, 3] rfl)
              ·
                have k70 := Eq.mp (if_pos b68) k67
                refine lv_iconst (v := 1) hx hb dX5_step_291 (by decide) ?_
                refine lv_goto (tgt := 296) hx hb dX5_step_292 (by decide) ?_
                refine lv_isub hx hb dX5_step_296 ?_
                refine lv_istore_n (lv' := [(2, .int (n - (1 : Int32))), (4, .int (co + (1 : Int32))), (10, .int (mc.2.2.2.2 ((mr.2.2.2 pc.toNatClampNeg).toInt32).toNatClampNeg)), (5, .int (pc + (1 : Int32))), (9, .int ((mr.2.2.2 pc.toNatClampNeg).toInt32)), (7, .long (mr.2.2.2 pc.toNatClampNeg)), (6, .int (mr.2.1 pc.toNatClampNeg)), (0, .ref (w.2.2 0)), (1, .int s), (3, .int lo)]) hx hb dX5_step_297 rfl hl (by decide) rfl (fun ls hl => ?_)
                refine lv_goto (tgt := 490) hx hb dX5_step_298 (by decide) ?_
                refine lv_goto (tgt := 10) hx hb dX5_step_490 (by decide) ?_
                exact ih (n - (1 : Int32)) lo (co + (1 : Int32)) (pc + (1 : Int32)) (G_X5_store mbv mc s ((mr.2.2.2 pc.toNatClampNeg).toInt32) (mc.2.2.2.2 ((mr.2.2.2 pc.toNatClampNeg).toInt32).toNatClampNeg) (mvv.1 (n - (1 : Int32)).toNatClampNeg)) mvv _ _ hP hS k70 (Eq.trans (Eq.trans (Eq.trans (Eq.trans (Eq.trans (Eq.trans (Eq.trans (Eq.trans (Eq.trans hg (if_neg b1)) (if_neg b8)) (if_neg b13)) (if_neg b22)) (if_pos b36)) (if_pos b38)) (if_neg b60)) (if_pos b62)) (if_pos b68)) ls (lv_sub hl [7, 8, 0, 9, 1, 3] rfl)
            ·
              have k71 := Eq.mp (if_neg b62) k61
              refine lv_iconst (v := 3) hx hb dX5_step_264 (by decide) ?_
              have e9 : g = ((3 : Int32), mbv, mvv) := Eq.trans (Eq.trans (Eq.trans (Eq.trans (Eq.trans (Eq.trans (Eq.trans (Eq.trans hg (if_neg b1)) (if_neg b8)) (if_neg b13)) (if_neg b22)) (if_pos b36)) (if_pos b38)) (if_neg b60)) (if_neg b62)
              exact xM_iret hx hb hr hlk  hS (by rw [e9]) (by rw [e9]; exact hP) dX5_step_265
          ·
            have k72 := Eq.mp (if_pos b60) k59
            refine lv_iconst (v := 1) hx hb dX5_step_251 (by decide) ?_
            have e9 : g = ((1 : Int32), mbv, mvv) := Eq.trans (Eq.trans (Eq.trans (Eq.trans (Eq.trans (Eq.trans (Eq.trans hg (if_neg b1)) (if_neg b8)) (if_neg b13)) (if_neg b22)) (if_pos b36)) (if_pos b38)) (if_pos b60)
            exact xM_iret hx hb hr hlk  hS (by rw [e9]) (by rw [e9]; exact hP) dX5_step_252
      have k73 := Eq.mp (if_neg b36) k35
      by_cases b74 : (mr.2.1 pc.toNatClampNeg) = (10 : Int32)
      ·
        have k75 := Eq.mp (if_pos b74) k73
        refine xTabK (tgt := 212) (z := 10) hx hb dX5_step_50 (by rw [b74]; decide) (by decide +kernel) ?_
        refine lv_iload hx hb dX5_step_212 (lv_at hl 4 rfl) ?_
        refine lv_bipush (v := 9) hx hb dX5_step_214 (by decide) ?_
        refine lv_icmp_ne (tgt := 229) hx hb dX5_step_216 (by decide) (fun b76 => ?_) (fun b76 => ?_)
        ·
          have k77 := Eq.mp (if_neg b76) k75
          refine lv_aload_n hx hb dX5_step_229 rfl (lv_at hl 5 rfl) ?_
          refine lv_iload hx hb dX5_step_230 (lv_at hl 2 rfl) ?_
          refine lv_aload_n hx hb dX5_step_232 rfl (lv_at hl 5 rfl) ?_
          refine va_get (D := w.1) (ci := 6) (v := .ref (w.2.2 23)) (C := RX5) (T := TX5) (N := 33) hx hb hts iw_X5_step_X5 hown hK.1 hP 0 rfl rfl 29 (by decide) (hts _ fl_X5_step_79) (fun _ h9 => h9) rfl dX5_step_233 ?_
          refine lv_iload_n hx hb dX5_step_236 rfl (lv_at hl 7 rfl) ?_
          refine lv_iconst (v := 2) hx hb dX5_step_237 (by decide) ?_
          refine lv_isub hx hb dX5_step_238 ?_
          have o78 := k77.1
          have k79 := k77.2
          refine va_lald hx hb hK.1 hP 23 3 rfl rfl o78 dX5_step_239 ?_
          have o80 := k79.1
          have k81 := k79.2
          refine xR_i (va_runV (As := [.int ((mr.2.2.2 pc.toNatClampNeg).toInt32), .long (mvv.1 (n - (2 : Int32)).toNatClampNeg)]) (rest := []) ⟨hx, hb, hml, hown, hts⟩ (c_X5_placeOf l w me mbv mc mt mk mr mq mvv ((mr.2.2.2 pc.toNatClampNeg).toInt32) (mvv.1 (n - (2 : Int32)).toNatClampNeg) o80) (cwV 2 hts gX5_step_X5_placeOf rfl rfl rfl dv_X5_placeOf ⟨Nat.le_of_ble_eq_true rfl, Nat.le_of_ble_eq_true rfl⟩) (wPreV hP hK (ci := 6) (q0 := 0) rfl rfl) rfl rfl hl.1 rfl (lv_room (Nat.le_of_ble_eq_true rfl)) dX5_step_240 ⟨Nat.zero_le _, Nat.zero_le _⟩) ?_
          refine lv_istore (lv' := [(10, .int (G_X5_placeOf mc ((mr.2.2.2 pc.toNatClampNeg).toInt32) (mvv.1 (n - (2 : Int32)).toNatClampNeg))), (5, .int (pc + (1 : Int32))), (9, .int ((mr.2.2.2 pc.toNatClampNeg).toInt32)), (7, .long (mr.2.2.2 pc.toNatClampNeg)), (6, .int (mr.2.1 pc.toNatClampNeg)), (0, .ref (w.2.2 0)), (1, .int s), (2, .int n), (3, .int lo), (4, .int co)]) hx hb dX5_step_243 hl (by decide) rfl (fun ls hl => ?_)
          refine lv_iload hx hb dX5_step_245 (lv_at hl 0 rfl) ?_
          refine lv_iconst (v := -1) hx hb dX5_step_247 (by decide) ?_
          refine lv_icmp_ne (tgt := 253) hx hb dX5_step_248 (by decide) (fun b82 => ?_) (fun b82 => ?_)
          ·
            have k83 := Eq.mp (if_neg b82) k81
            refine lv_iinc (v := co + (1 : Int32)) (lv' := [(4, .int (co + (1 : Int32))), (10, .int (G_X5_placeOf mc ((mr.2.2.2 pc.toNatClampNeg).toInt32) (mvv.1 (n - (2 : Int32)).toNatClampNeg))), (5, .int (pc + (1 : Int32))), (9, .int ((mr.2.2.2 pc.toNatClampNeg).toInt32)), (7, .long (mr.2.2.2 pc.toNatClampNeg)), (6, .int (mr.2.1 pc.toNatClampNeg)), (0, .ref (w.2.2 0)), (1, .int s), (2, .int n), (3, .int lo)]) hx hb dX5_step_253 hl (k := 9) rfl rfl (by decide) rfl (fun ls hl => ?_)
            refine lv_iload hx hb dX5_step_256 (lv_at hl 0 rfl) ?_
            refine lv_sipush (v := 1000) hx hb dX5_step_258 (by decide) ?_
            refine lv_icmp_le (tgt := 266) hx hb dX5_step_261 (by decide) (fun b84 => ?_) (fun b84 => ?_)
            ·
              have k85 := Eq.mp (if_pos b84) k83
              refine lv_aload_n hx hb dX5_step_266 rfl (lv_at hl 6 rfl) ?_
              refine lv_iload_n hx hb dX5_step_267 rfl (lv_at hl 7 rfl) ?_
              refine lv_iload hx hb dX5_step_268 (lv_at hl 3 rfl) ?_
              refine lv_iload hx hb dX5_step_270 (lv_at hl 1 rfl) ?_
              refine lv_aload_n hx hb dX5_step_272 rfl (lv_at hl 6 rfl) ?_
              refine va_get (D := w.1) (ci := 6) (v := .ref (w.2.2 23)) (C := RX5) (T := TX5) (N := 33) hx hb hts iw_X5_step_X5 hown hK.1 hP 0 rfl rfl 29 (by decide) (hts _ fl_X5_step_79) (fun _ h9 => h9) rfl dX5_step_273 ?_
              refine lv_iload_n hx hb dX5_step_276 rfl (lv_at hl 8 rfl) ?_
              refine lv_iconst (v := 1) hx hb dX5_step_277 (by decide) ?_
              refine lv_isub hx hb dX5_step_278 ?_
              have o86 := k85.1
              have k87 := k85.2
              refine va_lald hx hb hK.1 hP 23 3 rfl rfl o86 dX5_step_279 ?_
              have o88 := k87.1
              have k89 := k87.2
              refine xM_v (va_runV (As := [.int s, .int ((mr.2.2.2 pc.toNatClampNeg).toInt32), .int (G_X5_placeOf mc ((mr.2.2.2 pc.toNatClampNeg).toInt32) (mvv.1 (n - (2 : Int32)).toNatClampNeg)), .long (mvv.1 (n - (1 : Int32)).toNatClampNeg)]) (rest := []) ⟨hx, hb, hml, hown, hts⟩ (c_X5_store l w hA me mbv mc mt mk mr mq mvv s ((mr.2.2.2 pc.toNatClampNeg).toInt32) (G_X5_placeOf mc ((mr.2.2.2 pc.toNatClampNeg).toInt32) (mvv.1 (n - (2 : Int32)).toNatClampNeg)) (mvv.1 (n - (1 : Int32)).toNatClampNeg) o88) (cwV 4 hts gX5_step_X5_store rfl rfl rfl dv_X5_store ⟨Nat.le_of_ble_eq_true rfl, Nat.le_of_ble_eq_true rfl⟩) (wPreV hP hK (ci := 6) (q0 := 0) rfl rfl) rfl rfl hl.1 rfl (lv_room (Nat.le_of_ble_eq_true rfl)) dX5_step_280 ⟨Nat.zero_le _, Nat.zero_le _⟩) hS (fun H locs hP hS => ?_)
              have hP : va_P w.1 vwCl (wM w me (G_X5_store mbv mc s ((mr.2.2.2 pc.toNatClampNeg).toInt32) (G_X5_placeOf mc ((mr.2.2.2 pc.toNatClampNeg).toInt32) (mvv.1 (n - (2 : Int32)).toNatClampNeg)) (mvv.1 (n - (1 : Int32)).toNatClampNeg)) mc mt mk mr mq mvv) H := hP
              refine lv_iload_n hx hb dX5_step_283 rfl (lv_at hl 8 rfl) ?_
              refine lv_iload hx hb dX5_step_284 (lv_at hl 5 rfl) ?_
              refine lv_bipush (v := 9) hx hb dX5_step_286 (by decide) ?_
              refine lv_icmp_ne (tgt := 295) hx hb dX5_step_288 (by decide) (fun b90 => ?_) (fun b90 => ?_)
              ·
                have k91 := Eq.mp (if_neg b90) k89
                refine lv_iconst (v := 2) hx hb dX5_step_295 (by decide) ?_
                refine lv_isub hx hb dX5_step_296 ?_
                refine lv_istore_n (lv' := [(2, .int (n - (2 : Int32))), (4, .int (co + (1 : Int32))), (10, .int (G_X5_placeOf mc ((mr.2.2.2 pc.toNatClampNeg).toInt32) (mvv.1 (n - (2 : Int32)).toNatClampNeg))), (5, .int (pc + (1 : Int32))), (9, .int ((mr.2.2.2 pc.toNatClampNeg).toInt32)), (7, .long (mr.2.2.2 pc.toNatClampNeg)), (6, .int (mr.2.1 pc.toNatClampNeg)), (0, .ref (w.2.2 0)), (1, .int s), (3, .int lo)]) hx hb dX5_step_297 rfl hl (by decide) rfl (fun ls hl => ?_)
                refine lv_goto (tgt := 490) hx hb dX5_step_298 (by decide) ?_
                refine lv_goto (tgt := 10) hx hb dX5_step_490 (by decide) ?_
                exact ih (n - (2 : Int32)) lo (co + (1 : Int32)) (pc + (1 : Int32)) (G_X5_store mbv mc s ((mr.2.2.2 pc.toNatClampNeg).toInt32) (G_X5_placeOf mc ((mr.2.2.2 pc.toNatClampNeg).toInt32) (mvv.1 (n - (2 : Int32)).toNatClampNeg)) (mvv.1 (n - (1 : Int32)).toNatClampNeg)) mvv _ _ hP hS k91 (Eq.trans (Eq.trans (Eq.trans (Eq.trans (Eq.trans (Eq.trans (Eq.trans (Eq.trans (Eq.trans (Eq.trans hg (if_neg b1)) (if_neg b8)) (if_neg b13)) (if_neg b22)) (if_neg b36)) (if_pos b74)) (if_neg b76)) (if_neg b82)) (if_pos b84)) (if_neg b90)) ls (lv_sub hl [7, 8, 0, 9, 1, 3] rfl)
              ·
                have k92 := Eq.mp (if_pos b90) k89
                refine lv_iconst (v := 1) hx hb dX5_step_291 (by decide) ?_
                refine lv_goto (tgt := 296) hx hb dX5_step_292 (by decide) ?_
                refine lv_isub hx hb dX5_step_296 ?_
                refine lv_istore_n (lv' := [(2, .int (n - (1 : Int32))), (4, .int (co + (1 : Int32))), (10, .int (G_X5_placeOf mc ((mr.2.2.2 pc.toNatClampNeg).toInt32) (mvv.1 (n - (2 : Int32)).toNatClampNeg))), (5, .int (pc + (1 : Int32))), (9, .int ((mr.2.2.2 pc.toNatClampNeg).toInt32)), (7, .long (mr.2.2.2 pc.toNatClampNeg)), (6, .int (mr.2.1 pc.toNatClampNeg)), (0, .ref (w.2.2 0)), (1, .int s), (3, .int lo)]) hx hb dX5_step_297 rfl hl (by decide) rfl (fun ls hl => ?_)
                refine lv_goto (tgt := 490) hx hb dX5_step_298 (by decide) ?_
                refine lv_goto (tgt := 10) hx hb dX5_step_490 (by decide) ?_
                exact ih (n - (1 : Int32)) lo (co + (1 : Int32)) (pc + (1 : Int32)) (G_X5_store mbv mc s ((mr.2.2.2 pc.toNatClampNeg).toInt32) (G_X5_placeOf mc ((mr.2.2.2 pc.toNatClampNeg).toInt32) (mvv.1 (n - (2 : Int32)).toNatClampNeg)) (mvv.1 (n - (1 : Int32)).toNatClampNeg)) mvv _ _ hP hS k92 (Eq.trans (Eq.trans (Eq.trans (Eq.trans (Eq.trans (Eq.trans (Eq.trans (Eq.trans (Eq.trans (Eq.trans hg (if_neg b1)) (if_neg b8)) (if_neg b13)) (if_neg b22)) (if_neg b36)) (if_pos b74)) (if_neg b76)) (if_neg b82)) (if_pos b84)) (if_pos b90)) ls (lv_sub hl [7, 8, 0, 9, 1, 3] rfl)
            ·
              have k93 := Eq.mp (if_neg b84) k83
              refine lv_iconst (v := 3) hx hb dX5_step_264 (by decide) ?_
              have e9 : g = ((3 : Int32), mbv, mvv) := Eq.trans (Eq.trans (Eq.trans (Eq.trans (Eq.trans (Eq.trans (Eq.trans (Eq.trans (Eq.trans hg (if_neg b1)) (if_neg b8)) (if_neg b13)) (if_neg b22)) (if_neg b36)) (if_pos b74)) (if_neg b76)) (if_neg b82)) (if_neg b84)
              exact xM_iret hx hb hr hlk  hS (by rw [e9]) (by rw [e9]; exact hP) dX5_step_265
          ·
            have k94 := Eq.mp (if_pos b82) k81
            refine lv_iconst (v := 1) hx hb dX5_step_251 (by decide) ?_
            have e9 : g = ((1 : Int32), mbv, mvv) := Eq.trans (Eq.trans (Eq.trans (Eq.trans (Eq.trans (Eq.trans (Eq.trans (Eq.trans hg (if_neg b1)) (if_neg b8)) (if_neg b13)) (if_neg b22)) (if_neg b36)) (if_pos b74)) (if_neg b76)) (if_pos b82)
            exact xM_iret hx hb hr hlk  hS (by rw [e9]) (by rw [e9]; exact hP) dX5_step_252
        ·
          have k95 := Eq.mp (if_pos b76) k75
          refine lv_aload_n hx hb dX5_step_219 rfl (lv_at hl 5 rfl) ?_
          refine va_get (D := w.1) (ci := 6) (v := .ref (w.2.2 5)) (C := RX5) (T := TX5) (N := 33) hx hb hts iw_X5_step_X5 hown hK.1 hP 0 rfl rfl 5 (by decide) (hts _ fl_X5_step_23) (fun _ h9 => h9) rfl dX5_step_220 ?_
          refine lv_iload hx hb dX5_step_223 (lv_at hl 2 rfl) ?_
          have o96 := k95.1
          have k97 := k95.2
          refine va_iald hx hb hK.1 hP 5 0 rfl rfl o96 dX5_step_225 ?_
          refine lv_goto (tgt := 243) hx hb dX5_step_226 (by decide) ?_
          refine lv_istore (lv' := [(10, .int (mc.2.2.2.2 ((mr.2.2.2 pc.toNatClampNeg).toInt32).toNatClampNeg)), (5, .int (pc + (1 : Int32))), (9, .int ((mr.2.2.2 pc.toNatClampNeg).toInt32)), (7, .long (mr.2.2.2 pc.toNatClampNeg)), (6, .int (mr.2.1 pc.toNatClampNeg)), (0, .ref (w.2.2 0)), (1, .int s), (2, .int n), (3, .int lo), (4, .int co)]) hx hb dX5_step_243 hl (by decide) rfl (fun ls hl => ?_)
          refine lv_iload hx hb dX5_step_245 (lv_at hl 0 rfl) ?_
          refine lv_iconst (v := -1) hx hb dX5_step_247 (by decide) ?_
          refine lv_icmp_ne (tgt := 253) hx hb dX5_step_248 (by decide) (fun b98 => ?_) (fun b98 => ?_)
          ·
            have k99 := Eq.mp (if_neg b98) k97
            refine lv_iinc (v := co + (1 : Int32)) (lv' := [(4, .int (co + (1 : Int32))), (10, .int (mc.2.2.2.2 ((mr.2.2.2 pc.toNatClampNeg).toInt32).toNatClampNeg)), (5, .int (pc + (1 : Int32))), (9, .int ((mr.2.2.2 pc.toNatClampNeg).toInt32)), (7, .long (mr.2.2.2 pc.toNatClampNeg)), (6, .int (mr.2.1 pc.toNatClampNeg)), (0, .ref (w.2.2 0)), (1, .int s), (2, .int n), (3, .int lo)]) hx hb dX5_step_253 hl (k := 9) rfl rfl (by decide) rfl (fun ls hl => ?_)
            refine lv_iload hx hb dX5_step_256 (lv_at hl 0 rfl) ?_
            refine lv_sipush (v := 1000) hx hb dX5_step_258 (by decide) ?_
            refine lv_icmp_le (tgt := 266) hx hb dX5_step_261 (by decide) (fun b100 => ?_) (fun b100 => ?_)
            ·
              have k101 := Eq.mp (if_pos b100) k99
              refine lv_aload_n hx hb dX5_step_266 rfl (lv_at hl 6 rfl) ?_
              refine lv_iload_n hx hb dX5_step_267 rfl (lv_at hl 7 rfl) ?_
              refine lv_iload hx hb dX5_step_268 (lv_at hl 3 rfl) ?_
              refine lv_iload hx hb dX5_step_270 (lv_at hl 1 rfl) ?_
              refine lv_aload_n hx hb dX5_step_272 rfl (lv_at hl 6 rfl) ?_
              refine va_get (D := w.1) (ci := 6) (v := .ref (w.2.2 23)) (C := RX5) (T := TX5) (N := 33) hx hb hts iw_X5_step_X5 hown hK.1 hP 0 rfl rfl 29 (by decide) (hts _ fl_X5_step_79) (fun _ h9 => h9) rfl dX5_step_273 ?_
              refine lv_iload_n hx hb dX5_step_276 rfl (lv_at hl 8 rfl) ?_
              refine lv_iconst (v := 1) hx hb dX5_step_277 (by decide) ?_
              refine lv_isub hx hb dX5_step_278 ?_
              have o102 := k101.1
              have k103 := k101.2
              refine va_lald hx hb hK.1 hP 23 3 rfl rfl o102 dX5_step_279 ?_
              have o104 := k103.1
              have k105 := k103.2
              refine xM_v (va_runV (As := [.int s, .int ((mr.2.2.2 pc.toNatClampNeg).toInt32), .int (mc.2.2.2.2 ((mr.2.2.2 pc.toNatClampNeg).toInt32).toNatClampNeg), .long (mvv.1 (n - (1 : Int32)).toNatClampNeg)]) (rest := []) ⟨hx, hb, hml, hown, hts⟩ (c_X5_store l w hA me mbv mc mt mk mr mq mvv s ((mr.2.2.2 pc.toNatClampNeg).toInt32) (mc.2.2.2.2 ((mr.2.2.2 pc.toNatClampNeg).toInt32).toNatClampNeg) (mvv.1 (n - (1 : Int32)).toNatClampNeg) o104) (cwV 4 hts gX5_step_X5_store rfl rfl rfl dv_X5_store ⟨Nat.le_of_ble_eq_true rfl, Nat.le_of_ble_eq_true rfl⟩) (wPreV hP hK (ci := 6) (q0 := 0) rfl rfl) rfl rfl hl.1 rfl (lv_room (Nat.le_of_ble_eq_true rfl)) dX5_step_280 ⟨Nat.zero_le _, Nat.zero_le _⟩) hS (fun H locs hP hS => ?_)
              have hP : va_P w.1 vwCl (wM w me (G_X5_store mbv mc s ((mr.2.2.2 pc.toNatClampNeg).toInt32) (mc.2.2.2.2 ((mr.2.2.2 pc.toNatClampNeg).toInt32).toNatClampNeg) (mvv.1 (n - (1 : Int32)).toNatClampNeg)) mc mt mk mr mq mvv) H := hP
              refine lv_iload_n hx hb dX5_step_283 rfl (lv_at hl 8 rfl) ?_
              refine lv_iload hx hb dX5_step_284 (lv_at hl 5 rfl) ?_
              refine lv_bipush (v := 9) hx hb dX5_step_286 (by decide) ?_
              refine lv_icmp_ne (tgt := 295) hx hb dX5_step_288 (by decide) (fun b106 => ?_) (fun b106 => ?_)
              ·
                have k107 := Eq.mp (if_neg b106) k105
                refine lv_iconst (v := 2) hx hb dX5_step_295 (by decide) ?_
                refine lv_isub hx hb dX5_step_296 ?_
                refine lv_istore_n (lv' := [(2, .int (n - (2 : Int32))), (4, .int (co + (1 : Int32))), (10, .int (mc.2.2.2.2 ((mr.2.2.2 pc.toNatClampNeg).toInt32).toNatClampNeg)), (5, .int (pc + (1 : Int32))), (9, .int ((mr.2.2.2 pc.toNatClampNeg).toInt32)), (7, .long (mr.2.2.2 pc.toNatClampNeg)), (6, .int (mr.2.1 pc.toNatClampNeg)), (0, .ref (w.2.2 0)), (1, .int s), (3, .int lo)]) hx hb dX5_step_297 rfl hl (by decide) rfl (fun ls hl => ?_)
                refine lv_goto (tgt := 490) hx hb dX5_step_298 (by decide) ?_
                refine lv_goto (tgt := 10) hx hb dX5_step_490 (by decide) ?_
                exact ih (n - (2 : Int32)) lo (co + (1 : Int32)) (pc + (1 : Int32)) (G_X5_store mbv mc s ((mr.2.2.2 pc.toNatClampNeg).toInt32) (mc.2.2.2.2 ((mr.2.2.2 pc.toNatClampNeg).toInt32).toNatClampNeg) (mvv.1 (n - (1 : Int32)).toNatClampNeg)) mvv _ _ hP hS k107 (Eq.trans (Eq.trans (Eq.trans (Eq.trans (Eq.trans (Eq.trans (Eq.trans (Eq.trans (Eq.trans (Eq.trans hg (if_neg b1)) (if_neg b8)) (if_neg b13)) (if_neg b22)) (if_neg b36)) (if_pos b74)) (if_pos b76)) (if_neg b98)) (if_pos b100)) (if_neg b106)) ls (lv_sub hl [7, 8, 0, 9, 1, 3] rfl)
              ·
                have k108 := Eq.mp (if_pos b106) k105
                refine lv_iconst (v := 1) hx hb dX5_step_291 (by decide) ?_
                refine lv_goto (tgt := 296) hx hb dX5_step_292 (by decide) ?_
                refine lv_isub hx hb dX5_step_296 ?_
                refine lv_istore_n (lv' := [(2, .int (n - (1 : Int32))), (4, .int (co + (1 : Int32))), (10, .int (mc.2.2.2.2 ((mr.2.2.2 pc.toNatClampNeg).toInt32).toNatClampNeg)), (5, .int (pc + (1 : Int32))), (9, .int ((mr.2.2.2 pc.toNatClampNeg).toInt32)), (7, .long (mr.2.2.2 pc.toNatClampNeg)), (6, .int (mr.2.1 pc.toNatClampNeg)), (0, .ref (w.2.2 0)), (1, .int s), (3, .int lo)]) hx hb dX5_step_297 rfl hl (by decide) rfl (fun ls hl => ?_)
                refine lv_goto (tgt := 490) hx hb dX5_step_298 (by decide) ?_
                refine lv_goto (tgt := 10) hx hb dX5_step_490 (by decide) ?_
                exact ih (n - (1 : Int32)) lo (co + (1 : Int32)) (pc + (1 : Int32)) (G_X5_store mbv mc s ((mr.2.2.2 pc.toNatClampNeg).toInt32) (mc.2.2.2.2 ((mr.2.2.2 pc.toNatClampNeg).toInt32).toNatClampNeg) (mvv.1 (n - (1 : Int32)).toNatClampNeg)) mvv _ _ hP hS k108 (Eq.trans (Eq.trans (Eq.trans (Eq.trans (Eq.trans (Eq.trans (Eq.trans (Eq.trans (Eq.trans (Eq.trans hg (if_neg b1)) (if_neg b8)) (if_neg b13)) (if_neg b22)) (if_neg b36)) (if_pos b74)) (if_pos b76)) (if_neg b98)) (if_pos b100)) (if_pos b106)) ls (lv_sub hl [7, 8, 0, 9, 1, 3] rfl)
            ·
              have k109 := Eq.mp (if_neg b100) k99
              refine lv_iconst (v := 3) hx hb dX5_step_264 (by decide) ?_
              have e9 : g = ((3 : Int32), mbv, mvv) := Eq.trans (Eq.trans (Eq.trans (Eq.trans (Eq.trans (Eq.trans (Eq.trans (Eq.trans (Eq.trans hg (if_neg b1)) (if_neg b8)) (if_neg b13)) (if_neg b22)) (if_neg b36)) (if_pos b74)) (if_pos b76)) (if_neg b98)) (if_neg b100)
              exact xM_iret hx hb hr hlk  hS (by rw [e9]) (by rw [e9]; exact hP) dX5_step_265
          ·
            have k110 := Eq.mp (if_pos b98) k97
            refine lv_iconst (v := 1) hx hb dX5_step_251 (by decide) ?_
            have e9 : g = ((1 : Int32), mbv, mvv) := Eq.trans (Eq.trans (Eq.trans (Eq.trans (Eq.trans (Eq.trans (Eq.trans (Eq.trans hg (if_neg b1)) (if_neg b8)) (if_neg b13)) (if_neg b22)) (if_neg b36)) (if_pos b74)) (if_pos b76)) (if_pos b98)
            exact xM_iret hx hb hr hlk  hS (by rw [e9]) (by rw [e9]; exact hP) dX5_step_252
      have k111 := Eq.mp (if_neg b74) k73
      by_cases b112 : (mr.2.1 pc.toNatClampNeg) = (12 : Int32)
      ·
        have k113 := Eq.mp (if_pos b112) k111
        refine xTabK (tgt := 301) (z := 12) hx hb dX5_step_50 (by rw [b112]; decide) (by decide +kernel) ?_
        refine lv_iinc (v := n + (-1 : Int32)) (lv' := [(2, .int (n + (-1 : Int32))), (10, .int (0 : Int32)), (5, .int (pc + (1 : Int32))), (9, .int ((mr.2.2.2 pc.toNatClampNeg).toInt32)), (7, .long (mr.2.2.2 pc.toNatClampNeg)), (6, .int (mr.2.1 pc.toNatClampNeg)), (0, .ref (w.2.2 0)), (1, .int s), (3, .int lo), (4, .int co)]) hx hb dX5_step_301 hl (k := 7) rfl rfl (by decide) rfl (fun ls hl => ?_)
        refine lv_aload_n hx hb dX5_step_304 rfl (lv_at hl 6 rfl) ?_
        refine va_get (D := w.1) (ci := 6) (v := .ref (w.2.2 23)) (C := RX5) (T := TX5) (N := 33) hx hb hts iw_X5_step_X5 hown hK.1 hP 0 rfl rfl 29 (by decide) (hts _ fl_X5_step_79) (fun _ h9 => h9) rfl dX5_step_305 ?_
        refine lv_iload_n hx hb dX5_step_308 rfl (lv_at hl 0 rfl) ?_
        have o114 := k113.1
        have k115 := k113.2
        refine va_lald hx hb hK.1 hP 23 3 rfl rfl o114 dX5_step_309 ?_
        refine lv_lconst (v := 0) hx hb dX5_step_310 (by decide) ?_
        refine W.lcmp hx hb dX5_step_311 ?_
        refine lv_if_ne (tgt := 320) hx hb dX5_step_312 (by decide) (fun b116 => ?_) (fun b116 => ?_)
        ·
          have k117 := Eq.mp (if_neg b116) k115
          refine lv_iload hx hb dX5_step_320 (lv_at hl 2 rfl) ?_
          refine lv_istore (lv' := [(5, .int (pc + (1 : Int32))), (2, .int (n + (-1 : Int32))), (10, .int (0 : Int32)), (9, .int ((mr.2.2.2 pc.toNatClampNeg).toInt32)), (7, .long (mr.2.2.2 pc.toNatClampNeg)), (6, .int (mr.2.1 pc.toNatClampNeg)), (0, .ref (w.2.2 0)), (1, .int s), (3, .int lo), (4, .int co)]) hx hb dX5_step_322 hl (by decide) rfl (fun ls hl => ?_)
          refine lv_goto (tgt := 490) hx hb dX5_step_324 (by decide) ?_
          refine lv_goto (tgt := 10) hx hb dX5_step_490 (by decide) ?_
          exact ih (n + (-1 : Int32)) lo co (pc + (1 : Int32)) mbv mvv _ _ hP hS k117 (Eq.trans (Eq.trans (Eq.trans (Eq.trans (Eq.trans (Eq.trans (Eq.trans (Eq.trans hg (if_neg b1)) (if_neg b8)) (if_neg b13)) (if_neg b22)) (if_neg b36)) (if_neg b74)) (if_pos b112)) (if_neg b116)) ls (lv_sub hl [6, 7, 1, 8, 9, 0] rfl)
        ·
          have k118 := Eq.mp (if_pos b116) k115
          refine lv_iload hx hb dX5_step_315 (lv_at hl 3 rfl) ?_
          refine lv_goto (tgt := 322) hx hb dX5_step_317 (by decide) ?_
          refine lv_istore (lv' := [(5, .int ((mr.2.2.2 pc.toNatClampNeg).toInt32)), (2, .int (n + (-1 : Int32))), (10, .int (0 : Int32)), (9, .int ((mr.2.2.2 pc.toNatClampNeg).toInt32)), (7, .long (mr.2.2.2 pc.toNatClampNeg)), (6, .int (mr.2.1 pc.toNatClampNeg)), (0, .ref (w.2.2 0)), (1, .int s), (3, .int lo), (4, .int co)]) hx hb dX5_step_322 hl (by decide) rfl (fun ls hl => ?_)
          refine lv_goto (tgt := 490) hx hb dX5_step_324 (by decide) ?_
          refine lv_goto (tgt := 10) hx hb dX5_step_490 (by decide) ?_
          exact ih (n + (-1 : Int32)) lo co ((mr.2.2.2 pc.toNatClampNeg).toInt32) mbv mvv _ _ hP hS k118 (Eq.trans (Eq.trans (Eq.trans (Eq.trans (Eq.trans (Eq.trans (Eq.trans (Eq.trans hg (if_neg b1)) (if_neg b8)) (if_neg b13)) (if_neg b22)) (if_neg b36)) (if_neg b74)) (if_pos b112)) (if_pos b116)) ls (lv_sub hl [6, 7, 1, 8, 9, 0] rfl)
      have k119 := Eq.mp (if_neg b112) k111
      by_cases b120 : (mr.2.1 pc.toNatClampNeg) = (13 : Int32)
      ·
        have k121 := Eq.mp (if_pos b120) k119
        refine xTabK (tgt := 327) (z := 13) hx hb dX5_step_50 (by rw [b120]; decide) (by decide +kernel) ?_
        refine lv_iload hx hb dX5_step_327 (lv_at hl 4 rfl) ?_
        refine lv_bipush (v := 13) hx hb dX5_step_329 (by decide) ?_
        refine lv_icmp_ne (tgt := 355) hx hb dX5_step_331 (by decide) (fun b122 => ?_) (fun b122 => ?_)
        ·
          have k123 := Eq.mp (if_neg b122) k121
          refine lv_aload_n hx hb dX5_step_355 rfl (lv_at hl 5 rfl) ?_
          refine va_get (D := w.1) (ci := 6) (v := .ref (w.2.2 24)) (C := RX5) (T := TX5) (N := 33) hx hb hts iw_X5_step_X5 hown hK.1 hP 0 rfl rfl 30 (by decide) (hts _ fl_X5_step_82) (fun _ h9 => h9) rfl dX5_step_356 ?_
          refine lv_iload_n hx hb dX5_step_359 rfl (lv_at hl 8 rfl) ?_
          refine lv_iconst (v := 1) hx hb dX5_step_360 (by decide) ?_
          refine lv_isub hx hb dX5_step_361 ?_
          refine lv_dup2_11 hx hb dX5_step_362 rfl rfl ?_
          have o124 := k123.1
          have k125 := k123.2
          refine va_lald hx hb hK.1 hP 24 3 rfl rfl o124 dX5_step_363 ?_
          refine lv_lconst (v := 1) hx hb dX5_step_364 (by decide) ?_
          refine lv_lsub hx hb dX5_step_365 ?_
          have o126 := k125.1
          have k127 := k125.2
          refine va_last hx hb hK.1 hP (wM_D hA) hS 24 3 rfl rfl o126 dX5_step_366 (fun H locs hP _ hS => ?_)
          have hP : va_P w.1 vwCl (wM w me mbv mc mt mk mr mq (mvv.1, vp_updL mvv.2 (lo - (1 : Int32)).toNatClampNeg ((mvv.2 (lo - (1 : Int32)).toNatClampNeg) - (1 : Int64)))) H := hP
          refine lv_aload_n hx hb dX5_step_367 rfl (lv_at hl 5 rfl) ?_
          refine va_get (D := w.1) (ci := 6) (v := .ref (w.2.2 24)) (C := RX5) (T := TX5) (N := 33) hx hb hts iw_X5_step_X5 hown hK.1 hP 0 rfl rfl 30 (by decide) (hts _ fl_X5_step_82) (fun _ h9 => h9) rfl dX5_step_368 ?_
          refine lv_iload_n hx hb dX5_step_371 rfl (lv_at hl 8 rfl) ?_
          refine lv_iconst (v := 1) hx hb dX5_step_372 (by decide) ?_
          refine lv_isub hx hb dX5_step_373 ?_
          have o128 := k127.1
          have k129 := k127.2
          refine va_lald hx hb hK.1 hP 24 3 rfl rfl o128 dX5_step_374 ?_
          refine lv_lconst (v := 0) hx hb dX5_step_375 (by decide) ?_
          refine W.lcmp hx hb dX5_step_376 ?_
          refine lv_if_le (tgt := 412) hx hb dX5_step_377 (by decide) (fun b130 => ?_) (fun b130 => ?_)
          ·
            have k131 := Eq.mp (if_pos b130) k129
            refine lv_iinc (v := lo + (-1 : Int32)) (lv' := [(3, .int (lo + (-1 : Int32))), (10, .int (0 : Int32)), (5, .int (pc + (1 : Int32))), (9, .int ((mr.2.2.2 pc.toNatClampNeg).toInt32)), (7, .long (mr.2.2.2 pc.toNatClampNeg)), (6, .int (mr.2.1 pc.toNatClampNeg)), (0, .ref (w.2.2 0)), (1, .int s), (2, .int n), (4, .int co)]) hx hb dX5_step_412 hl (k := 8) rfl rfl (by decide) rfl (fun ls hl => ?_)
            refine lv_iload hx hb dX5_step_415 (lv_at hl 5 rfl) ?_
            refine lv_bipush (v := 13) hx hb dX5_step_417 (by decide) ?_
            refine lv_icmp_ne (tgt := 427) hx hb dX5_step_419 (by decide) (fun b132 => ?_) (fun b132 => ?_)
            ·
              have k133 := Eq.mp (if_neg b132) k131
              refine lv_iload hx hb dX5_step_427 (lv_at hl 2 rfl) ?_
              refine lv_istore (lv' := [(5, .int (pc + (1 : Int32))), (3, .int (lo + (-1 : Int32))), (10, .int (0 : Int32)), (9, .int ((mr.2.2.2 pc.toNatClampNeg).toInt32)), (7, .long (mr.2.2.2 pc.toNatClampNeg)), (6, .int (mr.2.1 pc.toNatClampNeg)), (0, .ref (w.2.2 0)), (1, .int s), (2, .int n), (4, .int co)]) hx hb dX5_step_429 hl (by decide) rfl (fun ls hl => ?_)
              refine lv_goto (tgt := 490) hx hb dX5_step_431 (by decide) ?_
              refine lv_goto (tgt := 10) hx hb dX5_step_490 (by decide) ?_
              exact ih n (lo + (-1 : Int32)) co (pc + (1 : Int32)) mbv (mvv.1, vp_updL mvv.2 (lo - (1 : Int32)).toNatClampNeg ((mvv.2 (lo - (1 : Int32)).toNatClampNeg) - (1 : Int64))) _ _ hP hS k133 (Eq.trans (Eq.trans (Eq.trans (Eq.trans (Eq.trans (Eq.trans (Eq.trans (Eq.trans (Eq.trans (Eq.trans (Eq.trans hg (if_neg b1)) (if_neg b8)) (if_neg b13)) (if_neg b22)) (if_neg b36)) (if_neg b74)) (if_neg b112)) (if_pos b120)) (if_neg b122)) (if_pos b130)) (if_neg b132)) ls (lv_sub hl [6, 7, 8, 1, 9, 0] rfl)
            ·
              have k134 := Eq.mp (if_pos b132) k131
              refine lv_iload hx hb dX5_step_422 (lv_at hl 3 rfl) ?_
              refine lv_goto (tgt := 429) hx hb dX5_step_424 (by decide) ?_
              refine lv_istore (lv' := [(5, .int ((mr.2.2.2 pc.toNatClampNeg).toInt32)), (3, .int (lo + (-1 : Int32))), (10, .int (0 : Int32)), (9, .int ((mr.2.2.2 pc.toNatClampNeg).toInt32)), (7, .long (mr.2.2.2 pc.toNatClampNeg)), (6, .int (mr.2.1 pc.toNatClampNeg)), (0, .ref (w.2.2 0)), (1, .int s), (2, .int n), (4, .int co)]) hx hb dX5_step_429 hl (by decide) rfl (fun ls hl => ?_)
              refine lv_goto (tgt := 490) hx hb dX5_step_431 (by decide) ?_
              refine lv_goto (tgt := 10) hx hb dX5_step_490 (by decide) ?_
              exact ih n (lo + (-1 : Int32)) co ((mr.2.2.2 pc.toNatClampNeg).toInt32) mbv (mvv.1, vp_updL mvv.2 (lo - (1 : Int32)).toNatClampNeg ((mvv.2 (lo - (1 : Int32)).toNatClampNeg) - (1 : Int64))) _ _ hP hS k134 (Eq.trans (Eq.trans (Eq.trans (Eq.trans (Eq.trans (Eq.trans (Eq.trans (Eq.trans (Eq.trans (Eq.trans (Eq.trans hg (if_neg b1)) (if_neg b8)) (if_neg b13)) (if_neg b22)) (if_neg b36)) (if_neg b74)) (if_neg b112)) (if_pos b120)) (if_neg b122)) (if_pos b130)) (if_pos b132)) ls (lv_sub hl [6, 7, 8, 1, 9, 0] rfl)
          ·
            have k135 := Eq.mp (if_neg b130) k129
            refine lv_iinc (v := co + (1 : Int32)) (lv' := [(4, .int (co + (1 : Int32))), (10, .int (0 : Int32)), (5, .int (pc + (1 : Int32))), (9, .int ((mr.2.2.2 pc.toNatClampNeg).toInt32)), (7, .long (mr.2.2.2 pc.toNatClampNeg)), (6, .int (mr.2.1 pc.toNatClampNeg)), (0, .ref (w.2.2 0)), (1, .int s), (2, .int n), (3, .int lo)]) hx hb dX5_step_380 hl (k := 9) rfl rfl (by decide) rfl (fun ls hl => ?_)
            refine lv_iload hx hb dX5_step_383 (lv_at hl 0 rfl) ?_
            refine lv_sipush (v := 1000) hx hb dX5_step_385 (by decide) ?_
            refine lv_icmp_le (tgt := 393) hx hb dX5_step_388 (by decide) (fun b136 => ?_) (fun b136 => ?_)
            ·
              have k137 := Eq.mp (if_pos b136) k135
              refine lv_iload hx hb dX5_step_393 (lv_at hl 5 rfl) ?_
              refine lv_bipush (v := 14) hx hb dX5_step_395 (by decide) ?_
              refine lv_icmp_ne (tgt := 405) hx hb dX5_step_397 (by decide) (fun b138 => ?_) (fun b138 => ?_)
              ·
                have k139 := Eq.mp (if_neg b138) k137
                refine lv_iload hx hb dX5_step_405 (lv_at hl 2 rfl) ?_
                refine lv_istore (lv' := [(5, .int (pc + (1 : Int32))), (4, .int (co + (1 : Int32))), (10, .int (0 : Int32)), (9, .int ((mr.2.2.2 pc.toNatClampNeg).toInt32)), (7, .long (mr.2.2.2 pc.toNatClampNeg)), (6, .int (mr.2.1 pc.toNatClampNeg)), (0, .ref (w.2.2 0)), (1, .int s), (2, .int n), (3, .int lo)]) hx hb dX5_step_407 hl (by decide) rfl (fun ls hl => ?_)
                refine lv_goto (tgt := 490) hx hb dX5_step_409 (by decide) ?_
                refine lv_goto (tgt := 10) hx hb dX5_step_490 (by decide) ?_
                exact ih n lo (co + (1 : Int32)) (pc + (1 : Int32)) mbv (mvv.1, vp_updL mvv.2 (lo - (1 : Int32)).toNatClampNeg ((mvv.2 (lo - (1 : Int32)).toNatClampNeg) - (1 : Int64))) _ _ hP hS k139 (Eq.trans (Eq.trans (Eq.trans (Eq.trans (Eq.trans (Eq.trans (Eq.trans (Eq.trans (Eq.trans (Eq.trans (Eq.trans (Eq.trans hg (if_neg b1)) (if_neg b8)) (if_neg b13)) (if_neg b22)) (if_neg b36)) (if_neg b74)) (if_neg b112)) (if_pos b120)) (if_neg b122)) (if_neg b130)) (if_pos b136)) (if_neg b138)) ls (lv_sub hl [6, 7, 8, 9, 1, 0] rfl)
              ·
                have k140 := Eq.mp (if_pos b138) k137
                refine lv_iload hx hb dX5_step_400 (lv_at hl 3 rfl) ?_
                refine lv_goto (tgt := 407) hx hb dX5_step_402 (by decide) ?_
                refine lv_istore (lv' := [(5, .int ((mr.2.2.2 pc.toNatClampNeg).toInt32)), (4, .int (co + (1 : Int32))), (10, .int (0 : Int32)), (9, .int ((mr.2.2.2 pc.toNatClampNeg).toInt32)), (7, .long (mr.2.2.2 pc.toNatClampNeg)), (6, .int (mr.2.1 pc.toNatClampNeg)), (0, .ref (w.2.2 0)), (1, .int s), (2, .int n), (3, .int lo)]) hx hb dX5_step_407 hl (by decide) rfl (fun ls hl => ?_)
                refine lv_goto (tgt := 490) hx hb dX5_step_409 (by decide) ?_
                refine lv_goto (tgt := 10) hx hb dX5_step_490 (by decide) ?_
                exact ih n lo (co + (1 : Int32)) ((mr.2.2.2 pc.toNatClampNeg).toInt32) mbv (mvv.1, vp_updL mvv.2 (lo - (1 : Int32)).toNatClampNeg ((mvv.2 (lo - (1 : Int32)).toNatClampNeg) - (1 : Int64))) _ _ hP hS k140 (Eq.trans (Eq.trans (Eq.trans (Eq.trans (Eq.trans (Eq.trans (Eq.trans (Eq.trans (Eq.trans (Eq.trans (Eq.trans (Eq.trans hg (if_neg b1)) (if_neg b8)) (if_neg b13)) (if_neg b22)) (if_neg b36)) (if_neg b74)) (if_neg b112)) (if_pos b120)) (if_neg b122)) (if_neg b130)) (if_pos b136)) (if_pos b138)) ls (lv_sub hl [6, 7, 8, 9, 1, 0] rfl)
            ·
              have k141 := Eq.mp (if_neg b136) k135
              refine lv_iconst (v := 3) hx hb dX5_step_391 (by decide) ?_
              have e9 : g = ((3 : Int32), mbv, (mvv.1, vp_updL mvv.2 (lo - (1 : Int32)).toNatClampNeg ((mvv.2 (lo - (1 : Int32)).toNatClampNeg) - (1 : Int64)))) := Eq.trans (Eq.trans (Eq.trans (Eq.trans (Eq.trans (Eq.trans (Eq.trans (Eq.trans (Eq.trans (Eq.trans (Eq.trans hg (if_neg b1)) (if_neg b8)) (if_neg b13)) (if_neg b22)) (if_neg b36)) (if_neg b74)) (if_neg b112)) (if_pos b120)) (if_neg b122)) (if_neg b130)) (if_neg b136)
              exact xM_iret hx hb hr hlk  hS (by rw [e9]) (by rw [e9]; exact hP) dX5_step_392
        ·
          have k142 := Eq.mp (if_pos b122) k121
          refine lv_iinc (v := n + (-1 : Int32)) (lv' := [(2, .int (n + (-1 : Int32))), (10, .int (0 : Int32)), (5, .int (pc + (1 : Int32))), (9, .int ((mr.2.2.2 pc.toNatClampNeg).toInt32)), (7, .long (mr.2.2.2 pc.toNatClampNeg)), (6, .int (mr.2.1 pc.toNatClampNeg)), (0, .ref (w.2.2 0)), (1, .int s), (3, .int lo), (4, .int co)]) hx hb dX5_step_334 hl (k := 7) rfl rfl (by decide) rfl (fun ls hl => ?_)
          refine lv_aload_n hx hb dX5_step_337 rfl (lv_at hl 6 rfl) ?_
          refine va_get (D := w.1) (ci := 6) (v := .ref (w.2.2 24)) (C := RX5) (T := TX5) (N := 33) hx hb hts iw_X5_step_X5 hown hK.1 hP 0 rfl rfl 30 (by decide) (hts _ fl_X5_step_82) (fun _ h9 => h9) rfl dX5_step_338 ?_
          refine lv_iload_n hx hb dX5_step_341 rfl (lv_at hl 8 rfl) ?_
          refine lv_aload_n hx hb dX5_step_342 rfl (lv_at hl 6 rfl) ?_
          refine va_get (D := w.1) (ci := 6) (v := .ref (w.2.2 23)) (C := RX5) (T := TX5) (N := 33) hx hb hts iw_X5_step_X5 hown hK.1 hP 0 rfl rfl 29 (by decide) (hts _ fl_X5_step_79) (fun _ h9 => h9) rfl dX5_step_343 ?_
          refine lv_iload_n hx hb dX5_step_346 rfl (lv_at hl 0 rfl) ?_
          have o143 := k142.1
          have k144 := k142.2
          refine va_lald hx hb hK.1 hP 23 3 rfl rfl o143 dX5_step_347 ?_
          have o145 := k144.1
          have k146 := k144.2
          refine va_last hx hb hK.1 hP (wM_D hA) hS 24 3 rfl rfl o145 dX5_step_348 (fun H locs hP _ hS => ?_)
          have hP : va_P w.1 vwCl (wM w me mbv mc mt mk mr mq (mvv.1, vp_updL mvv.2 lo.toNatClampNeg (mvv.1 (n + (-1 : Int32)).toNatClampNeg))) H := hP
          refine lv_iinc (v := lo + (1 : Int32)) (lv' := [(3, .int (lo + (1 : Int32))), (2, .int (n + (-1 : Int32))), (10, .int (0 : Int32)), (5, .int (pc + (1 : Int32))), (9, .int ((mr.2.2.2 pc.toNatClampNeg).toInt32)), (7, .long (mr.2.2.2 pc.toNatClampNeg)), (6, .int (mr.2.1 pc.toNatClampNeg)), (0, .ref (w.2.2 0)), (1, .int s), (4, .int co)]) hx hb dX5_step_349 hl (k := 8) rfl rfl (by decide) rfl (fun ls hl => ?_)
          refine lv_goto (tgt := 367) hx hb dX5_step_352 (by decide) ?_
          refine lv_aload_n hx hb dX5_step_367 rfl (lv_at hl 7 rfl) ?_
          refine va_get (D := w.1) (ci := 6) (v := .ref (w.2.2 24)) (C := RX5) (T := TX5) (N := 33) hx hb hts iw_X5_step_X5 hown hK.1 hP 0 rfl rfl 30 (by decide) (hts _ fl_X5_step_82) (fun _ h9 => h9) rfl dX5_step_368 ?_
          refine lv_iload_n hx hb dX5_step_371 rfl (lv_at hl 0 rfl) ?_
          refine lv_iconst (v := 1) hx hb dX5_step_372 (by decide) ?_
          refine lv_isub hx hb dX5_step_373 ?_
          have o147 := k146.1
          have k148 := k146.2
          refine va_lald hx hb hK.1 hP 24 3 rfl rfl o147 dX5_step_374 ?_
          refine lv_lconst (v := 0) hx hb dX5_step_375 (by decide) ?_
          refine W.lcmp hx hb dX5_step_376 ?_
          refine lv_if_le (tgt := 412) hx hb dX5_step_377 (by decide) (fun b149 => ?_) (fun b149 => ?_)
          ·
            have k150 := Eq.mp (if_pos b149) k148
            refine lv_iinc (v := (lo + (1 : Int32)) + (-1 : Int32)) (lv' := [(3, .int ((lo + (1 : Int32)) + (-1 : Int32))), (2, .int (n + (-1 : Int32))), (10, .int (0 : Int32)), (5, .int (pc + (1 : Int32))), (9, .int ((mr.2.2.2 pc.toNatClampNeg).toInt32)), (7, .long (mr.2.2.2 pc.toNatClampNeg)), (6, .int (mr.2.1 pc.toNatClampNeg)), (0, .ref (w.2.2 0)), (1, .int s), (4, .int co)]) hx hb dX5_step_412 hl (k := 0) rfl rfl (by decide) rfl (fun ls hl => ?_)
            refine lv_iload hx hb dX5_step_415 (lv_at hl 6 rfl) ?_
            refine lv_bipush (v := 13) hx hb dX5_step_417 (by decide) ?_
            refine lv_icmp_ne (tgt := 427) hx hb dX5_step_419 (by decide) (fun b151 => ?_) (fun b151 => ?_)
            ·
              have k152 := Eq.mp (if_neg b151) k150
              refine lv_iload hx hb dX5_step_427 (lv_at hl 3 rfl) ?_
              refine lv_istore (lv' := [(5, .int (pc + (1 : Int32))), (3, .int ((lo + (1 : Int32)) + (-1 : Int32))), (2, .int (n + (-1 : Int32))), (10, .int (0 : Int32)), (9, .int ((mr.2.2.2 pc.toNatClampNeg).toInt32)), (7, .long (mr.2.2.2 pc.toNatClampNeg)), (6, .int (mr.2.1 pc.toNatClampNeg)), (0, .ref (w.2.2 0)), (1, .int s), (4, .int co)]) hx hb dX5_step_429 hl (by decide) rfl (fun ls hl => ?_)
              refine lv_goto (tgt := 490) hx hb dX5_step_431 (by decide) ?_
              refine lv_goto (tgt := 10) hx hb dX5_step_490 (by decide) ?_
              exact ih (n + (-1 : Int32)) ((lo + (1 : Int32)) + (-1 : Int32)) co (pc + (1 : Int32)) mbv (mvv.1, vp_updL mvv.2 lo.toNatClampNeg (mvv.1 (n + (-1 : Int32)).toNatClampNeg)) _ _ hP hS k152 (Eq.trans (Eq.trans (Eq.trans (Eq.trans (Eq.trans (Eq.trans (Eq.trans (Eq.trans (Eq.trans (Eq.trans (Eq.trans hg (if_neg b1)) (if_neg b8)) (if_neg b13)) (if_neg b22)) (if_neg b36)) (if_neg b74)) (if_neg b112)) (if_pos b120)) (if_pos b122)) (if_pos b149)) (if_neg b151)) ls (lv_sub hl [7, 8, 2, 1, 9, 0] rfl)
            ·
              have k153 := Eq.mp (if_pos b151) k150
              refine lv_iload hx hb dX5_step_422 (lv_at hl 4 rfl) ?_
              refine lv_goto (tgt := 429) hx hb dX5_step_424 (by decide) ?_
              refine lv_istore (lv' := [(5, .int ((mr.2.2.2 pc.toNatClampNeg).toInt32)), (3, .int ((lo + (1 : Int32)) + (-1 : Int32))), (2, .int (n + (-1 : Int32))), (10, .int (0 : Int32)), (9, .int ((mr.2.2.2 pc.toNatClampNeg).toInt32)), (7, .long (mr.2.2.2 pc.toNatClampNeg)), (6, .int (mr.2.1 pc.toNatClampNeg)), (0, .ref (w.2.2 0)), (1, .int s), (4, .int co)]) hx hb dX5_step_429 hl (by decide) rfl (fun ls hl => ?_)
              refine lv_goto (tgt := 490) hx hb dX5_step_431 (by decide) ?_
              refine lv_goto (tgt := 10) hx hb dX5_step_490 (by decide) ?_
              exact ih (n + (-1 : Int32)) ((lo + (1 : Int32)) + (-1 : Int32)) co ((mr.2.2.2 pc.toNatClampNeg).toInt32) mbv (mvv.1, vp_updL mvv.2 lo.toNatClampNeg (mvv.1 (n + (-1 : Int32)).toNatClampNeg)) _ _ hP hS k153 (Eq.trans (Eq.trans (Eq.trans (Eq.trans (Eq.trans (Eq.trans (Eq.trans (Eq.trans (Eq.trans (Eq.trans (Eq.trans hg (if_neg b1)) (if_neg b8)) (if_neg b13)) (if_neg b22)) (if_neg b36)) (if_neg b74)) (if_neg b112)) (if_pos b120)) (if_pos b122)) (if_pos b149)) (if_pos b151)) ls (lv_sub hl [7, 8, 2, 1, 9, 0] rfl)
          ·
            have k154 := Eq.mp (if_neg b149) k148
            refine lv_iinc (v := co + (1 : Int32)) (lv' := [(4, .int (co + (1 : Int32))), (3, .int (lo + (1 : Int32))), (2, .int (n + (-1 : Int32))), (10, .int (0 : Int32)), (5, .int (pc + (1 : Int32))), (9, .int ((mr.2.2.2 pc.toNatClampNeg).toInt32)), (7, .long (mr.2.2.2 pc.toNatClampNeg)), (6, .int (mr.2.1 pc.toNatClampNeg)), (0, .ref (w.2.2 0)), (1, .int s)]) hx hb dX5_step_380 hl (k := 9) rfl rfl (by decide) rfl (fun ls hl => ?_)
            refine lv_iload hx hb dX5_step_383 (lv_at hl 0 rfl) ?_
            refine lv_sipush (v := 1000) hx hb dX5_step_385 (by decide) ?_
            refine lv_icmp_le (tgt := 393) hx hb dX5_step_388 (by decide) (fun b155 => ?_) (fun b155 => ?_)
            ·
              have k156 := Eq.mp (if_pos b155) k154
              refine lv_iload hx hb dX5_step_393 (lv_at hl 7 rfl) ?_
              refine lv_bipush (v := 14) hx hb dX5_step_395 (by decide) ?_
              refine lv_icmp_ne (tgt := 405) hx hb dX5_step_397 (by decide) (fun b157 => ?_) (fun b157 => ?_)
              ·
                have k158 := Eq.mp (if_neg b157) k156
                refine lv_iload hx hb dX5_step_405 (lv_at hl 4 rfl) ?_
                refine lv_istore (lv' := [(5, .int (pc + (1 : Int32))), (4, .int (co + (1 : Int32))), (3, .int (lo + (1 : Int32))), (2, .int (n + (-1 : Int32))), (10, .int (0 : Int32)), (9, .int ((mr.2.2.2 pc.toNatClampNeg).toInt32)), (7, .long (mr.2.2.2 pc.toNatClampNeg)), (6, .int (mr.2.1 pc.toNatClampNeg)), (0, .ref (w.2.2 0)), (1, .int s)]) hx hb dX5_step_407 hl (by decide) rfl (fun ls hl => ?_)
                refine lv_goto (tgt := 490) hx hb dX5_step_409 (by decide) ?_
                refine lv_goto (tgt := 10) hx hb dX5_step_490 (by decide) ?_
                exact ih (n + (-1 : Int32)) (lo + (1 : Int32)) (co + (1 : Int32)) (pc + (1 : Int32)) mbv (mvv.1, vp_updL mvv.2 lo.toNatClampNeg (mvv.1 (n + (-1 : Int32)).toNatClampNeg)) _ _ hP hS k158 (Eq.trans (Eq.trans (Eq.trans (Eq.trans (Eq.trans (Eq.trans (Eq.trans (Eq.trans (Eq.trans (Eq.trans (Eq.trans (Eq.trans hg (if_neg b1)) (if_neg b8)) (if_neg b13)) (if_neg b22)) (if_neg b36)) (if_neg b74)) (if_neg b112)) (if_pos b120)) (if_pos b122)) (if_neg b149)) (if_pos b155)) (if_neg b157)) ls (lv_sub hl [8, 9, 3, 2, 1, 0] rfl)
              ·
                have k159 := Eq.mp (if_pos b157) k156
                refine lv_iload hx hb dX5_step_400 (lv_at hl 5 rfl) ?_
                refine lv_goto (tgt := 407) hx hb dX5_step_402 (by decide) ?_
                refine lv_istore (lv' := [(5, .int ((mr.2.2.2 pc.toNatClampNeg).toInt32)), (4, .int (co + (1 : Int32))), (3, .int (lo + (1 : Int32))), (2, .int (n + (-1 : Int32))), (10, .int (0 : Int32)), (9, .int ((mr.2.2.2 pc.toNatClampNeg).toInt32)), (7, .long (mr.2.2.2 pc.toNatClampNeg)), (6, .int (mr.2.1 pc.toNatClampNeg)), (0, .ref (w.2.2 0)), (1, .int s)]) hx hb dX5_step_407 hl (by decide) rfl (fun ls hl => ?_)
                refine lv_goto (tgt := 490) hx hb dX5_step_409 (by decide) ?_
                refine lv_goto (tgt := 10) hx hb dX5_step_490 (by decide) ?_
                exact ih (n + (-1 : Int32)) (lo + (1 : Int32)) (co + (1 : Int32)) ((mr.2.2.2 pc.toNatClampNeg).toInt32) mbv (mvv.1, vp_updL mvv.2 lo.toNatClampNeg (mvv.1 (n + (-1 : Int32)).toNatClampNeg)) _ _ hP hS k159 (Eq.trans (Eq.trans (Eq.trans (Eq.trans (Eq.trans (Eq.trans (Eq.trans (Eq.trans (Eq.trans (Eq.trans (Eq.trans (Eq.trans hg (if_neg b1)) (if_neg b8)) (if_neg b13)) (if_neg b22)) (if_neg b36)) (if_neg b74)) (if_neg b112)) (if_pos b120)) (if_pos b122)) (if_neg b149)) (if_pos b155)) (if_pos b157)) ls (lv_sub hl [8, 9, 3, 2, 1, 0] rfl)
            ·
              have k160 := Eq.mp (if_neg b155) k154
              refine lv_iconst (v := 3) hx hb dX5_step_391 (by decide) ?_
              have e9 : g = ((3 : Int32), mbv, (mvv.1, vp_updL mvv.2 lo.toNatClampNeg (mvv.1 (n + (-1 : Int32)).toNatClampNeg))) := Eq.trans (Eq.trans (Eq.trans (Eq.trans (Eq.trans (Eq.trans (Eq.trans (Eq.trans (Eq.trans (Eq.trans (Eq.trans hg (if_neg b1)) (if_neg b8)) (if_neg b13)) (if_neg b22)) (if_neg b36)) (if_neg b74)) (if_neg b112)) (if_pos b120)) (if_pos b122)) (if_neg b149)) (if_neg b155)
              exact xM_iret hx hb hr hlk  hS (by rw [e9]) (by rw [e9]; exact hP) dX5_step_392
      have k161 := Eq.mp (if_neg b120) k119
      by_cases b162 : (mr.2.1 pc.toNatClampNeg) = (14 : Int32)
      ·
        have k163 := Eq.mp (if_pos b162) k161
        refine xTabK (tgt := 327) (z := 14) hx hb dX5_step_50 (by rw [b162]; decide) (by decide +kernel) ?_
        refine lv_iload hx hb dX5_step_327 (lv_at hl 4 rfl) ?_
        refine lv_bipush (v := 13) hx hb dX5_step_329 (by decide) ?_
        refine lv_icmp_ne (tgt := 355) hx hb dX5_step_331 (by decide) (fun b164 => ?_) (fun b164 => ?_)
        ·
          have k165 := Eq.mp (if_neg b164) k163
          refine lv_aload_n hx hb dX5_step_355 rfl (lv_at hl 5 rfl) ?_
          refine va_get (D := w.1) (ci := 6) (v := .ref (w.2.2 24)) (C := RX5) (T := TX5) (N := 33) hx hb hts iw_X5_step_X5 hown hK.1 hP 0 rfl rfl 30 (by decide) (hts _ fl_X5_step_82) (fun _ h9 => h9) rfl dX5_step_356 ?_
          refine lv_iload_n hx hb dX5_step_359 rfl (lv_at hl 8 rfl) ?_
          refine lv_iconst (v := 1) hx hb dX5_step_360 (by decide) ?_
          refine lv_isub hx hb dX5_step_361 ?_
          refine lv_dup2_11 hx hb dX5_step_362 rfl rfl ?_
          have o166 := k165.1
          have k167 := k165.2
          refine va_lald hx hb hK.1 hP 24 3 rfl rfl o166 dX5_step_363 ?_
          refine lv_lconst (v := 1) hx hb dX5_step_364 (by decide) ?_
          refine lv_lsub hx hb dX5_step_365 ?_
          have o168 := k167.1
          have k169 := k167.2
          refine va_last hx hb hK.1 hP (wM_D hA) hS 24 3 rfl rfl o168 dX5_step_366 (fun H locs hP _ hS => ?_)
          have hP : va_P w.1 vwCl (wM w me mbv mc mt mk mr mq (mvv.1, vp_updL mvv.2 (lo - (1 : Int32)).toNatClampNeg ((mvv.2 (lo - (1 : Int32)).toNatClampNeg) - (1 : Int64)))) H := hP
          refine lv_aload_n hx hb dX5_step_367 rfl (lv_at hl 5 rfl) ?_
          refine va_get (D := w.1) (ci := 6) (v := .ref (w.2.2 24)) (C := RX5) (T := TX5) (N := 33) hx hb hts iw_X5_step_X5 hown hK.1 hP 0 rfl rfl 30 (by decide) (hts _ fl_X5_step_82) (fun _ h9 => h9) rfl dX5_step_368 ?_
          refine lv_iload_n hx hb dX5_step_371 rfl (lv_at hl 8 rfl) ?_
          refine lv_iconst (v := 1) hx hb dX5_step_372 (by decide) ?_
          refine lv_isub hx hb dX5_step_373 ?_
          have o170 := k169.1
          have k171 := k169.2
          refine va_lald hx hb hK.1 hP 24 3 rfl rfl o170 dX5_step_374 ?_
          refine lv_lconst (v := 0) hx hb dX5_step_375 (by decide) ?_
          refine W.lcmp hx hb dX5_step_376 ?_
          refine lv_if_le (tgt := 412) hx hb dX5_step_377 (by decide) (fun b172 => ?_) (fun b172 => ?_)
          ·
            have k173 := Eq.mp (if_pos b172) k171
            refine lv_iinc (v := lo + (-1 : Int32)) (lv' := [(3, .int (lo + (-1 : Int32))), (10, .int (0 : Int32)), (5, .int (pc + (1 : Int32))), (9, .int ((mr.2.2.2 pc.toNatClampNeg).toInt32)), (7, .long (mr.2.2.2 pc.toNatClampNeg)), (6, .int (mr.2.1 pc.toNatClampNeg)), (0, .ref (w.2.2 0)), (1, .int s), (2, .int n), (4, .int co)]) hx hb dX5_step_412 hl (k := 8) rfl rfl (by decide) rfl (fun ls hl => ?_)
            refine lv_iload hx hb dX5_step_415 (lv_at hl 5 rfl) ?_
            refine lv_bipush (v := 13) hx hb dX5_step_417 (by decide) ?_
            refine lv_icmp_ne (tgt := 427) hx hb dX5_step_419 (by decide) (fun b174 => ?_) (fun b174 => ?_)
            ·
              have k175 := Eq.mp (if_neg b174) k173
              refine lv_iload hx hb dX5_step_427 (lv_at hl 2 rfl) ?_
              refine lv_istore (lv' := [(5, .int (pc + (1 : Int32))), (3, .int (lo + (-1 : Int32))), (10, .int (0 : Int32)), (9, .int ((mr.2.2.2 pc.toNatClampNeg).toInt32)), (7, .long (mr.2.2.2 pc.toNatClampNeg)), (6, .int (mr.2.1 pc.toNatClampNeg)), (0, .ref (w.2.2 0)), (1, .int s), (2, .int n), (4, .int co)]) hx hb dX5_step_429 hl (by decide) rfl (fun ls hl => ?_)
              refine lv_goto (tgt := 490) hx hb dX5_step_431 (by decide) ?_
              refine lv_goto (tgt := 10) hx hb dX5_step_490 (by decide) ?_
              exact ih n (lo + (-1 : Int32)) co (pc + (1 : Int32)) mbv (mvv.1, vp_updL mvv.2 (lo - (1 : Int32)).toNatClampNeg ((mvv.2 (lo - (1 : Int32)).toNatClampNeg) - (1 : Int64))) _ _ hP hS k175 (Eq.trans (Eq.trans (Eq.trans (Eq.trans (Eq.trans (Eq.trans (Eq.trans (Eq.trans (Eq.trans (Eq.trans (Eq.trans (Eq.trans hg (if_neg b1)) (if_neg b8)) (if_neg b13)) (if_neg b22)) (if_neg b36)) (if_neg b74)) (if_neg b112)) (if_neg b120)) (if_pos b162)) (if_neg b164)) (if_pos b172)) (if_neg b174)) ls (lv_sub hl [6, 7, 8, 1, 9, 0] rfl)
            ·
              have k176 := Eq.mp (if_pos b174) k173
              refine lv_iload hx hb dX5_step_422 (lv_at hl 3 rfl) ?_
              refine lv_goto (tgt := 429) hx hb dX5_step_424 (by decide) ?_
              refine lv_istore (lv' := [(5, .int ((mr.2.2.2 pc.toNatClampNeg).toInt32)), (3, .int (lo + (-1 : Int32))), (10, .int (0 : Int32)), (9, .int ((mr.2.2.2 pc.toNatClampNeg).toInt32)), (7, .long (mr.2.2.2 pc.toNatClampNeg)), (6, .int (mr.2.1 pc.toNatClampNeg)), (0, .ref (w.2.2 0)), (1, .int s), (2, .int n), (4, .int co)]) hx hb dX5_step_429 hl (by decide) rfl (fun ls hl => ?_)
              refine lv_goto (tgt := 490) hx hb dX5_step_431 (by decide) ?_
              refine lv_goto (tgt := 10) hx hb dX5_step_490 (by decide) ?_
              exact ih n (lo + (-1 : Int32)) co ((mr.2.2.2 pc.toNatClampNeg).toInt32) mbv (mvv.1, vp_updL mvv.2 (lo - (1 : Int32)).toNatClampNeg ((mvv.2 (lo - (1 : Int32)).toNatClampNeg) - (1 : Int64))) _ _ hP hS k176 (Eq.trans (Eq.trans (Eq.trans (Eq.trans (Eq.trans (Eq.trans (Eq.trans (Eq.trans (Eq.trans (Eq.trans (Eq.trans (Eq.trans hg (if_neg b1)) (if_neg b8)) (if_neg b13)) (if_neg b22)) (if_neg b36)) (if_neg b74)) (if_neg b112)) (if_neg b120)) (if_pos b162)) (if_neg b164)) (if_pos b172)) (if_pos b174)) ls (lv_sub hl [6, 7, 8, 1, 9, 0] rfl)
          ·
            have k177 := Eq.mp (if_neg b172) k171
            refine lv_iinc (v := co + (1 : Int32)) (lv' := [(4, .int (co + (1 : Int32))), (10, .int (0 : Int32)), (5, .int (pc + (1 : Int32))), (9, .int ((mr.2.2.2 pc.toNatClampNeg).toInt32)), (7, .long (mr.2.2.2 pc.toNatClampNeg)), (6, .int (mr.2.1 pc.toNatClampNeg)), (0, .ref (w.2.2 0)), (1, .int s), (2, .int n), (3, .int lo)]) hx hb dX5_step_380 hl (k := 9) rfl rfl (by decide) rfl (fun ls hl => ?_)
            refine lv_iload hx hb dX5_step_383 (lv_at hl 0 rfl) ?_
            refine lv_sipush (v := 1000) hx hb dX5_step_385 (by decide) ?_
            refine lv_icmp_le (tgt := 393) hx hb dX5_step_388 (by decide) (fun b178 => ?_) (fun b178 => ?_)
            ·
              have k179 := Eq.mp (if_pos b178) k177
              refine lv_iload hx hb dX5_step_393 (lv_at hl 5 rfl) ?_
              refine lv_bipush (v := 14) hx hb dX5_step_395 (by decide) ?_
              refine lv_icmp_ne (tgt := 405) hx hb dX5_step_397 (by decide) (fun b180 => ?_) (fun b180 => ?_)
              ·
                have k181 := Eq.mp (if_neg b180) k179
                refine lv_iload hx hb dX5_step_405 (lv_at hl 2 rfl) ?_
                refine lv_istore (lv' := [(5, .int (pc + (1 : Int32))), (4, .int (co + (1 : Int32))), (10, .int (0 : Int32)), (9, .int ((mr.2.2.2 pc.toNatClampNeg).toInt32)), (7, .long (mr.2.2.2 pc.toNatClampNeg)), (6, .int (mr.2.1 pc.toNatClampNeg)), (0, .ref (w.2.2 0)), (1, .int s), (2, .int n), (3, .int lo)]) hx hb dX5_step_407 hl (by decide) rfl (fun ls hl => ?_)
                refine lv_goto (tgt := 490) hx hb dX5_step_409 (by decide) ?_
                refine lv_goto (tgt := 10) hx hb dX5_step_490 (by decide) ?_
                exact ih n lo (co + (1 : Int32)) (pc + (1 : Int32)) mbv (mvv.1, vp_updL mvv.2 (lo - (1 : Int32)).toNatClampNeg ((mvv.2 (lo - (1 : Int32)).toNatClampNeg) - (1 : Int64))) _ _ hP hS k181 (Eq.trans (Eq.trans (Eq.trans (Eq.trans (Eq.trans (Eq.trans (Eq.trans (Eq.trans (Eq.trans (Eq.trans (Eq.trans (Eq.trans (Eq.trans hg (if_neg b1)) (if_neg b8)) (if_neg b13)) (if_neg b22)) (if_neg b36)) (if_neg b74)) (if_neg b112)) (if_neg b120)) (if_pos b162)) (if_neg b164)) (if_neg b172)) (if_pos b178)) (if_neg b180)) ls (lv_sub hl [6, 7, 8, 9, 1, 0] rfl)
              ·
                have k182 := Eq.mp (if_pos b180) k179
                refine lv_iload hx hb dX5_step_400 (lv_at hl 3 rfl) ?_
                refine lv_goto (tgt := 407) hx hb dX5_step_402 (by decide) ?_
                refine lv_istore (lv' := [(5, .int ((mr.2.2.2 pc.toNatClampNeg).toInt32)), (4, .int (co + (1 : Int32))), (10, .int (0 : Int32)), (9, .int ((mr.2.2.2 pc.toNatClampNeg).toInt32)), (7, .long (mr.2.2.2 pc.toNatClampNeg)), (6, .int (mr.2.1 pc.toNatClampNeg)), (0, .ref (w.2.2 0)), (1, .int s), (2, .int n), (3, .int lo)]) hx hb dX5_step_407 hl (by decide) rfl (fun ls hl => ?_)
                refine lv_goto (tgt := 490) hx hb dX5_step_409 (by decide) ?_
                refine lv_goto (tgt := 10) hx hb dX5_step_490 (by decide) ?_
                exact ih n lo (co + (1 : Int32)) ((mr.2.2.2 pc.toNatClampNeg).toInt32) mbv (mvv.1, vp_updL mvv.2 (lo - (1 : Int32)).toNatClampNeg ((mvv.2 (lo - (1 : Int32)).toNatClampNeg) - (1 : Int64))) _ _ hP hS k182 (Eq.trans (Eq.trans (Eq.trans (Eq.trans (Eq.trans (Eq.trans (Eq.trans (Eq.trans (Eq.trans (Eq.trans (Eq.trans (Eq.trans (Eq.trans hg (if_neg b1)) (if_neg b8)) (if_neg b13)) (if_neg b22)) (if_neg b36)) (if_neg b74)) (if_neg b112)) (if_neg b120)) (if_pos b162)) (if_neg b164)) (if_neg b172)) (if_pos b178)) (if_pos b180)) ls (lv_sub hl [6, 7, 8, 9, 1, 0] rfl)
            ·
              have k183 := Eq.mp (if_neg b178) k177
              refine lv_iconst (v := 3) hx hb dX5_step_391 (by decide) ?_
              have e9 : g = ((3 : Int32), mbv, (mvv.1, vp_updL mvv.2 (lo - (1 : Int32)).toNatClampNeg ((mvv.2 (lo - (1 : Int32)).toNatClampNeg) - (1 : Int64)))) := Eq.trans (Eq.trans (Eq.trans (Eq.trans (Eq.trans (Eq.trans (Eq.trans (Eq.trans (Eq.trans (Eq.trans (Eq.trans (Eq.trans hg (if_neg b1)) (if_neg b8)) (if_neg b13)) (if_neg b22)) (if_neg b36)) (if_neg b74)) (if_neg b112)) (if_neg b120)) (if_pos b162)) (if_neg b164)) (if_neg b172)) (if_neg b178)
              exact xM_iret hx hb hr hlk  hS (by rw [e9]) (by rw [e9]; exact hP) dX5_step_392
        ·
          have k184 := Eq.mp (if_pos b164) k163
          refine lv_iinc (v := n + (-1 : Int32)) (lv' := [(2, .int (n + (-1 : Int32))), (10, .int (0 : Int32)), (5, .int (pc + (1 : Int32))), (9, .int ((mr.2.2.2 pc.toNatClampNeg).toInt32)), (7, .long (mr.2.2.2 pc.toNatClampNeg)), (6, .int (mr.2.1 pc.toNatClampNeg)), (0, .ref (w.2.2 0)), (1, .int s), (3, .int lo), (4, .int co)]) hx hb dX5_step_334 hl (k := 7) rfl rfl (by decide) rfl (fun ls hl => ?_)
          refine lv_aload_n hx hb dX5_step_337 rfl (lv_at hl 6 rfl) ?_
          refine va_get (D := w.1) (ci := 6) (v := .ref (w.2.2 24)) (C := RX5) (T := TX5) (N := 33) hx hb hts iw_X5_step_X5 hown hK.1 hP 0 rfl rfl 30 (by decide) (hts _ fl_X5_step_82) (fun _ h9 => h9) rfl dX5_step_338 ?_
          refine lv_iload_n hx hb dX5_step_341 rfl (lv_at hl 8 rfl) ?_
          refine lv_aload_n hx hb dX5_step_342 rfl (lv_at hl 6 rfl) ?_
          refine va_get (D := w.1) (ci := 6) (v := .ref (w.2.2 23)) (C := RX5) (T := TX5) (N := 33) hx hb hts iw_X5_step_X5 hown hK.1 hP 0 rfl rfl 29 (by decide) (hts _ fl_X5_step_79) (fun _ h9 => h9) rfl dX5_step_343 ?_
          refine lv_iload_n hx hb dX5_step_346 rfl (lv_at hl 0 rfl) ?_
          have o185 := k184.1
          have k186 := k184.2
          refine va_lald hx hb hK.1 hP 23 3 rfl rfl o185 dX5_step_347 ?_
          have o187 := k186.1
          have k188 := k186.2
          refine va_last hx hb hK.1 hP (wM_D hA) hS 24 3 rfl rfl o187 dX5_step_348 (fun H locs hP _ hS => ?_)
          have hP : va_P w.1 vwCl (wM w me mbv mc mt mk mr mq (mvv.1, vp_updL mvv.2 lo.toNatClampNeg (mvv.1 (n + (-1 : Int32)).toNatClampNeg))) H := hP
          refine lv_iinc (v := lo + (1 : Int32)) (lv' := [(3, .int (lo + (1 : Int32))), (2, .int (n + (-1 : Int32))), (10, .int (0 : Int32)), (5, .int (pc + (1 : Int32))), (9, .int ((mr.2.2.2 pc.toNatClampNeg).toInt32)), (7, .long (mr.2.2.2 pc.toNatClampNeg)), (6, .int (mr.2.1 pc.toNatClampNeg)), (0, .ref (w.2.2 0)), (1, .int s), (4, .int co)]) hx hb dX5_step_349 hl (k := 8) rfl rfl (by decide) rfl (fun ls hl => ?_)
          refine lv_goto (tgt := 367) hx hb dX5_step_352 (by decide) ?_
          refine lv_aload_n hx hb dX5_step_367 rfl (lv_at hl 7 rfl) ?_
          refine va_get (D := w.1) (ci := 6) (v := .ref (w.2.2 24)) (C := RX5) (T := TX5) (N := 33) hx hb hts iw_X5_step_X5 hown hK.1 hP 0 rfl rfl 30 (by decide) (hts _ fl_X5_step_82) (fun _ h9 => h9) rfl dX5_step_368 ?_
          refine lv_iload_n hx hb dX5_step_371 rfl (lv_at hl 0 rfl) ?_
          refine lv_iconst (v := 1) hx hb dX5_step_372 (by decide) ?_
          refine lv_isub hx hb dX5_step_373 ?_
          have o189 := k188.1
          have k190 := k188.2
          refine va_lald hx hb hK.1 hP 24 3 rfl rfl o189 dX5_step_374 ?_
          refine lv_lconst (v := 0) hx hb dX5_step_375 (by decide) ?_
          refine W.lcmp hx hb dX5_step_376 ?_
          refine lv_if_le (tgt := 412) hx hb dX5_step_377 (by decide) (fun b191 => ?_) (fun b191 => ?_)
          ·
            have k192 := Eq.mp (if_pos b191) k190
            refine lv_iinc (v := (lo + (1 : Int32)) + (-1 : Int32)) (lv' := [(3, .int ((lo + (1 : Int32)) + (-1 : Int32))), (2, .int (n + (-1 : Int32))), (10, .int (0 : Int32)), (5, .int (pc + (1 : Int32))), (9, .int ((mr.2.2.2 pc.toNatClampNeg).toInt32)), (7, .long (mr.2.2.2 pc.toNatClampNeg)), (6, .int (mr.2.1 pc.toNatClampNeg)), (0, .ref (w.2.2 0)), (1, .int s), (4, .int co)]) hx hb dX5_step_412 hl (k := 0) rfl rfl (by decide) rfl (fun ls hl => ?_)
            refine lv_iload hx hb dX5_step_415 (lv_at hl 6 rfl) ?_
            refine lv_bipush (v := 13) hx hb dX5_step_417 (by decide) ?_
            refine lv_icmp_ne (tgt := 427) hx hb dX5_step_419 (by decide) (fun b193 => ?_) (fun b193 => ?_)
            ·
              have k194 := Eq.mp (if_neg b193) k192
              refine lv_iload hx hb dX5_step_427 (lv_at hl 3 rfl) ?_
              refine lv_istore (lv' := [(5, .int (pc + (1 : Int32))), (3, .int ((lo + (1 : Int32)) + (-1 : Int32))), (2, .int (n + (-1 : Int32))), (10, .int (0 : Int32)), (9, .int ((mr.2.2.2 pc.toNatClampNeg).toInt32)), (7, .long (mr.2.2.2 pc.toNatClampNeg)), (6, .int (mr.2.1 pc.toNatClampNeg)), (0, .ref (w.2.2 0)), (1, .int s), (4, .int co)]) hx hb dX5_step_429 hl (by decide) rfl (fun ls hl => ?_)
              refine lv_goto (tgt := 490) hx hb dX5_step_431 (by decide) ?_
              refine lv_goto (tgt := 10) hx hb dX5_step_490 (by decide) ?_
              exact ih (n + (-1 : Int32)) ((lo + (1 : Int32)) + (-1 : Int32)) co (pc + (1 : Int32)) mbv (mvv.1, vp_updL mvv.2 lo.toNatClampNeg (mvv.1 (n + (-1 : Int32)).toNatClampNeg)) _ _ hP hS k194 (Eq.trans (Eq.trans (Eq.trans (Eq.trans (Eq.trans (Eq.trans (Eq.trans (Eq.trans (Eq.trans (Eq.trans (Eq.trans (Eq.trans hg (if_neg b1)) (if_neg b8)) (if_neg b13)) (if_neg b22)) (if_neg b36)) (if_neg b74)) (if_neg b112)) (if_neg b120)) (if_pos b162)) (if_pos b164)) (if_pos b191)) (if_neg b193)) ls (lv_sub hl [7, 8, 2, 1, 9, 0] rfl)
            ·
              have k195 := Eq.mp (if_pos b193) k192
              refine lv_iload hx hb dX5_step_422 (lv_at hl 4 rfl) ?_
              refine lv_goto (tgt := 429) hx hb dX5_step_424 (by decide) ?_
              refine lv_istore (lv' := [(5, .int ((mr.2.2.2 pc.toNatClampNeg).toInt32)), (3, .int ((lo + (1 : Int32)) + (-1 : Int32))), (2, .int (n + (-1 : Int32))), (10, .int (0 : Int32)), (9, .int ((mr.2.2.2 pc.toNatClampNeg).toInt32)), (7, .long (mr.2.2.2 pc.toNatClampNeg)), (6, .int (mr.2.1 pc.toNatClampNeg)), (0, .ref (w.2.2 0)), (1, .int s), (4, .int co)]) hx hb dX5_step_429 hl (by decide) rfl (fun ls hl => ?_)
              refine lv_goto (tgt := 490) hx hb dX5_step_431 (by decide) ?_
              refine lv_goto (tgt := 10) hx hb dX5_step_490 (by decide) ?_
              exact ih (n + (-1 : Int32)) ((lo + (1 : Int32)) + (-1 : Int32)) co ((mr.2.2.2 pc.toNatClampNeg).toInt32) mbv (mvv.1, vp_updL mvv.2 lo.toNatClampNeg (mvv.1 (n + (-1 : Int32)).toNatClampNeg)) _ _ hP hS k195 (Eq.trans (Eq.trans (Eq.trans (Eq.trans (Eq.trans (Eq.trans (Eq.trans (Eq.trans (Eq.trans (Eq.trans (Eq.trans (Eq.trans hg (if_neg b1)) (if_neg b8)) (if_neg b13)) (if_neg b22)) (if_neg b36)) (if_neg b74)) (if_neg b112)) (if_neg b120)) (if_pos b162)) (if_pos b164)) (if_pos b191)) (if_pos b193)) ls (lv_sub hl [7, 8, 2, 1, 9, 0] rfl)
          ·
            have k196 := Eq.mp (if_neg b191) k190
            refine lv_iinc (v := co + (1 : Int32)) (lv' := [(4, .int (co + (1 : Int32))), (3, .int (lo + (1 : Int32))), (2, .int (n + (-1 : Int32))), (10, .int (0 : Int32)), (5, .int (pc + (1 : Int32))), (9, .int ((mr.2.2.2 pc.toNatClampNeg).toInt32)), (7, .long (mr.2.2.2 pc.toNatClampNeg)), (6, .int (mr.2.1 pc.toNatClampNeg)), (0, .ref (w.2.2 0)), (1, .int s)]) hx hb dX5_step_380 hl (k := 9) rfl rfl (by decide) rfl (fun ls hl => ?_)
            refine lv_iload hx hb dX5_step_383 (lv_at hl 0 rfl) ?_
            refine lv_sipush (v := 1000) hx hb dX5_step_385 (by decide) ?_
            refine lv_icmp_le (tgt := 393) hx hb dX5_step_388 (by decide) (fun b197 => ?_) (fun b197 => ?_)
            ·
              have k198 := Eq.mp (if_pos b197) k196
              refine lv_iload hx hb dX5_step_393 (lv_at hl 7 rfl) ?_
              refine lv_bipush (v := 14) hx hb dX5_step_395 (by decide) ?_
              refine lv_icmp_ne (tgt := 405) hx hb dX5_step_397 (by decide) (fun b199 => ?_) (fun b199 => ?_)
              ·
                have k200 := Eq.mp (if_neg b199) k198
                refine lv_iload hx hb dX5_step_405 (lv_at hl 4 rfl) ?_
                refine lv_istore (lv' := [(5, .int (pc + (1 : Int32))), (4, .int (co + (1 : Int32))), (3, .int (lo + (1 : Int32))), (2, .int (n + (-1 : Int32))), (10, .int (0 : Int32)), (9, .int ((mr.2.2.2 pc.toNatClampNeg).toInt32)), (7, .long (mr.2.2.2 pc.toNatClampNeg)), (6, .int (mr.2.1 pc.toNatClampNeg)), (0, .ref (w.2.2 0)), (1, .int s)]) hx hb dX5_step_407 hl (by decide) rfl (fun ls hl => ?_)
                refine lv_goto (tgt := 490) hx hb dX5_step_409 (by decide) ?_
                refine lv_goto (tgt := 10) hx hb dX5_step_490 (by decide) ?_
                exact ih (n + (-1 : Int32)) (lo + (1 : Int32)) (co + (1 : Int32)) (pc + (1 : Int32)) mbv (mvv.1, vp_updL mvv.2 lo.toNatClampNeg (mvv.1 (n + (-1 : Int32)).toNatClampNeg)) _ _ hP hS k200 (Eq.trans (Eq.trans (Eq.trans (Eq.trans (Eq.trans (Eq.trans (Eq.trans (Eq.trans (Eq.trans (Eq.trans (Eq.trans (Eq.trans (Eq.trans hg (if_neg b1)) (if_neg b8)) (if_neg b13)) (if_neg b22)) (if_neg b36)) (if_neg b74)) (if_neg b112)) (if_neg b120)) (if_pos b162)) (if_pos b164)) (if_neg b191)) (if_pos b197)) (if_neg b199)) ls (lv_sub hl [8, 9, 3, 2, 1, 0] rfl)
              ·
                have k201 := Eq.mp (if_pos b199) k198
                refine lv_iload hx hb dX5_step_400 (lv_at hl 5 rfl) ?_
                refine lv_goto (tgt := 407) hx hb dX5_step_402 (by decide) ?_
                refine lv_istore (lv' := [(5, .int ((mr.2.2.2 pc.toNatClampNeg).toInt32)), (4, .int (co + (1 : Int32))), (3, .int (lo + (1 : Int32))), (2, .int (n + (-1 : Int32))), (10, .int (0 : Int32)), (9, .int ((mr.2.2.2 pc.toNatClampNeg).toInt32)), (7, .long (mr.2.2.2 pc.toNatClampNeg)), (6, .int (mr.2.1 pc.toNatClampNeg)), (0, .ref (w.2.2 0)), (1, .int s)]) hx hb dX5_step_407 hl (by decide) rfl (fun ls hl => ?_)
                refine lv_goto (tgt := 490) hx hb dX5_step_409 (by decide) ?_
                refine lv_goto (tgt := 10) hx hb dX5_step_490 (by decide) ?_
                exact ih (n + (-1 : Int32)) (lo + (1 : Int32)) (co + (1 : Int32)) ((mr.2.2.2 pc.toNatClampNeg).toInt32) mbv (mvv.1, vp_updL mvv.2 lo.toNatClampNeg (mvv.1 (n + (-1 : Int32)).toNatClampNeg)) _ _ hP hS k201 (Eq.trans (Eq.trans (Eq.trans (Eq.trans (Eq.trans (Eq.trans (Eq.trans (Eq.trans (Eq.trans (Eq.trans (Eq.trans (Eq.trans (Eq.trans hg (if_neg b1)) (if_neg b8)) (if_neg b13)) (if_neg b22)) (if_neg b36)) (if_neg b74)) (if_neg b112)) (if_neg b120)) (if_pos b162)) (if_pos b164)) (if_neg b191)) (if_pos b197)) (if_pos b199)) ls (lv_sub hl [8, 9, 3, 2, 1, 0] rfl)
            ·
              have k202 := Eq.mp (if_neg b197) k196
              refine lv_iconst (v := 3) hx hb dX5_step_391 (by decide) ?_
              have e9 : g = ((3 : Int32), mbv, (mvv.1, vp_updL mvv.2 lo.toNatClampNeg (mvv.1 (n + (-1 : Int32)).toNatClampNeg))) := Eq.trans (Eq.trans (Eq.trans (Eq.trans (Eq.trans (Eq.trans (Eq.trans (Eq.trans (Eq.trans (Eq.trans (Eq.trans (Eq.trans hg (if_neg b1)) (if_neg b8)) (if_neg b13)) (if_neg b22)) (if_neg b36)) (if_neg b74)) (if_neg b112)) (if_neg b120)) (if_pos b162)) (if_pos b164)) (if_neg b191)) (if_neg b197)
              exact xM_iret hx hb hr hlk  hS (by rw [e9]) (by rw [e9]; exact hP) dX5_step_392
      have k203 := Eq.mp (if_neg b162) k161
      by_cases b204 : (mr.2.1 pc.toNatClampNeg) = (15 : Int32)
      ·
        have k205 := Eq.mp (if_pos b204) k203
        refine xTabK (tgt := 434) (z := 15) hx hb dX5_step_50 (by rw [b204]; decide) (by decide +kernel) ?_
        refine lv_iinc (v := n + (-1 : Int32)) (lv' := [(2, .int (n + (-1 : Int32))), (10, .int (0 : Int32)), (5, .int (pc + (1 : Int32))), (9, .int ((mr.2.2.2 pc.toNatClampNeg).toInt32)), (7, .long (mr.2.2.2 pc.toNatClampNeg)), (6, .int (mr.2.1 pc.toNatClampNeg)), (0, .ref (w.2.2 0)), (1, .int s), (3, .int lo), (4, .int co)]) hx hb dX5_step_434 hl (k := 7) rfl rfl (by decide) rfl (fun ls hl => ?_)
        refine lv_goto (tgt := 490) hx hb dX5_step_437 (by decide) ?_
        refine lv_goto (tgt := 10) hx hb dX5_step_490 (by decide) ?_
        exact ih (n + (-1 : Int32)) lo co (pc + (1 : Int32)) mbv mvv _ _ hP hS k205 (Eq.trans (Eq.trans (Eq.trans (Eq.trans (Eq.trans (Eq.trans (Eq.trans (Eq.trans (Eq.trans (Eq.trans hg (if_neg b1)) (if_neg b8)) (if_neg b13)) (if_neg b22)) (if_neg b36)) (if_neg b74)) (if_neg b112)) (if_neg b120)) (if_neg b162)) (if_pos b204)) ls (lv_sub hl [6, 7, 0, 8, 9, 2] rfl)
      have k206 := Eq.mp (if_neg b204) k203
      refine xTabD (tgt := 440) (exc := [0, 1, 2, 9, 10, 12, 13, 14, 15]) hx hb dX5_step_50 (xCons (lv_neT b8 (by decide)) (xCons (lv_neT b13 (by decide)) (xCons (lv_neT b22 (by decide)) (xCons (lv_neT b36 (by decide)) (xCons (lv_neT b74 (by decide)) (xCons (lv_neT b112 (by decide)) (xCons (lv_neT b120 (by decide)) (xCons (lv_neT b162 (by decide)) (xCons (lv_neT b204 (by decide)) xNil))))))))) (by decide) (by decide +kernel) ?_
      refine lv_iinc (v := n + (-1 : Int32)) (lv' := [(2, .int (n + (-1 : Int32))), (10, .int (0 : Int32)), (5, .int (pc + (1 : Int32))), (9, .int ((mr.2.2.2 pc.toNatClampNeg).toInt32)), (7, .long (mr.2.2.2 pc.toNatClampNeg)), (6, .int (mr.2.1 pc.toNatClampNeg)), (0, .ref (w.2.2 0)), (1, .int s), (3, .int lo), (4, .int co)]) hx hb dX5_step_440 hl (k := 7) rfl rfl (by decide) rfl (fun ls hl => ?_)
      refine lv_iload hx hb dX5_step_443 (lv_at hl 5 rfl) ?_
      refine lv_bipush (v := 6) hx hb dX5_step_445 (by decide) ?_
      refine lv_icmp_ne (tgt := 463) hx hb dX5_step_447 (by decide) (fun b207 => ?_) (fun b207 => ?_)
      ·
        have k208 := Eq.mp (if_neg b207) k206
        refine lv_aload_n hx hb dX5_step_463 rfl (lv_at hl 6 rfl) ?_
        refine va_get (D := w.1) (ci := 6) (v := .ref (w.2.2 23)) (C := RX5) (T := TX5) (N := 33) hx hb hts iw_X5_step_X5 hown hK.1 hP 0 rfl rfl 29 (by decide) (hts _ fl_X5_step_79) (fun _ h9 => h9) rfl dX5_step_464 ?_
        refine lv_iload_n hx hb dX5_step_467 rfl (lv_at hl 0 rfl) ?_
        refine lv_iconst (v := 1) hx hb dX5_step_468 (by decide) ?_
        refine lv_isub hx hb dX5_step_469 ?_
        refine lv_iload hx hb dX5_step_470 (lv_at hl 5 rfl) ?_
        refine lv_aload_n hx hb dX5_step_472 rfl (lv_at hl 6 rfl) ?_
        refine va_get (D := w.1) (ci := 6) (v := .ref (w.2.2 23)) (C := RX5) (T := TX5) (N := 33) hx hb hts iw_X5_step_X5 hown hK.1 hP 0 rfl rfl 29 (by decide) (hts _ fl_X5_step_79) (fun _ h9 => h9) rfl dX5_step_473 ?_
        refine lv_iload_n hx hb dX5_step_476 rfl (lv_at hl 0 rfl) ?_
        refine lv_iconst (v := 1) hx hb dX5_step_477 (by decide) ?_
        refine lv_isub hx hb dX5_step_478 ?_
        have o209 := k208.1
        have k210 := k208.2
        refine va_lald hx hb hK.1 hP 23 3 rfl rfl o209 dX5_step_479 ?_
        refine lv_aload_n hx hb dX5_step_480 rfl (lv_at hl 6 rfl) ?_
        refine va_get (D := w.1) (ci := 6) (v := .ref (w.2.2 23)) (C := RX5) (T := TX5) (N := 33) hx hb hts iw_X5_step_X5 hown hK.1 hP 0 rfl rfl 29 (by decide) (hts _ fl_X5_step_79) (fun _ h9 => h9) rfl dX5_step_481 ?_
        refine lv_iload_n hx hb dX5_step_484 rfl (lv_at hl 0 rfl) ?_
        have o211 := k210.1
        have k212 := k210.2
        refine va_lald hx hb hK.1 hP 23 3 rfl rfl o211 dX5_step_485 ?_
        have o213 := k212.1
        have k214 := k212.2
        refine xR_l (va_runS (As := [.int (mr.2.1 pc.toNatClampNeg), .long (mvv.1 ((n + (-1 : Int32)) - (1 : Int32)).toNatClampNeg), .long (mvv.1 (n + (-1 : Int32)).toNatClampNeg)]) (rest := [.int ((n + (-1 : Int32)) - (1 : Int32)), .ref (w.2.2 23)]) ⟨hx, hb, hml, hown, hts⟩ (c_X5_reckoned l w me mbv mc mt mk mr mq mvv (mr.2.1 pc.toNatClampNeg) (mvv.1 ((n + (-1 : Int32)) - (1 : Int32)).toNatClampNeg) (mvv.1 (n + (-1 : Int32)).toNatClampNeg) o213) (va_cwS 3 hts gX5_step_X5_reckoned rfl rfl rfl ds_X5_reckoned ⟨Nat.le_of_ble_eq_true rfl, Nat.le_of_ble_eq_true rfl⟩) (wPre hP hK) rfl rfl hl.1 rfl (lv_room (Nat.le_of_ble_eq_true rfl)) dX5_step_486 ⟨Nat.zero_le _, Nat.zero_le _⟩) ?_
        have o215 := k214.1
        have k216 := k214.2
        refine va_last hx hb hK.1 hP (wM_D hA) hS 23 3 rfl rfl o215 dX5_step_489 (fun H locs hP _ hS => ?_)
        have hP : va_P w.1 vwCl (wM w me mbv mc mt mk mr mq (vp_updL mvv.1 ((n + (-1 : Int32)) - (1 : Int32)).toNatClampNeg (G_X5_reckoned (mr.2.1 pc.toNatClampNeg) (mvv.1 ((n + (-1 : Int32)) - (1 : Int32)).toNatClampNeg) (mvv.1 (n + (-1 : Int32)).toNatClampNeg)), mvv.2)) H := hP
        refine lv_goto (tgt := 10) hx hb dX5_step_490 (by decide) ?_
        exact ih (n + (-1 : Int32)) lo co (pc + (1 : Int32)) mbv (vp_updL mvv.1 ((n + (-1 : Int32)) - (1 : Int32)).toNatClampNeg (G_X5_reckoned (mr.2.1 pc.toNatClampNeg) (mvv.1 ((n + (-1 : Int32)) - (1 : Int32)).toNatClampNeg) (mvv.1 (n + (-1 : Int32)).toNatClampNeg)), mvv.2) _ _ hP hS k216 (Eq.trans (Eq.trans (Eq.trans (Eq.trans (Eq.trans (Eq.trans (Eq.trans (Eq.trans (Eq.trans (Eq.trans (Eq.trans hg (if_neg b1)) (if_neg b8)) (if_neg b13)) (if_neg b22)) (if_neg b36)) (if_neg b74)) (if_neg b112)) (if_neg b120)) (if_neg b162)) (if_neg b204)) (if_neg b207)) ls (lv_sub hl [6, 7, 0, 8, 9, 2] rfl)
      ·
        have k217 := Eq.mp (if_pos b207) k206
        refine lv_aload_n hx hb dX5_step_450 rfl (lv_at hl 6 rfl) ?_
        refine va_get (D := w.1) (ci := 6) (v := .ref (w.2.2 23)) (C := RX5) (T := TX5) (N := 33) hx hb hts iw_X5_step_X5 hown hK.1 hP 0 rfl rfl 29 (by decide) (hts _ fl_X5_step_79) (fun _ h9 => h9) rfl dX5_step_451 ?_
        refine lv_iload_n hx hb dX5_step_454 rfl (lv_at hl 0 rfl) ?_
        have o218 := k217.1
        have k219 := k217.2
        refine va_lald hx hb hK.1 hP 23 3 rfl rfl o218 dX5_step_455 ?_
        refine lv_lconst (v := 0) hx hb dX5_step_456 (by decide) ?_
        refine W.lcmp hx hb dX5_step_457 ?_
        refine lv_if_ne (tgt := 463) hx hb dX5_step_458 (by decide) (fun b220 => ?_) (fun b220 => ?_)
        ·
          have k221 := Eq.mp (if_neg b220) k219
          refine lv_aload_n hx hb dX5_step_463 rfl (lv_at hl 6 rfl) ?_
          refine va_get (D := w.1) (ci := 6) (v := .ref (w.2.2 23)) (C := RX5) (T := TX5) (N := 33) hx hb hts iw_X5_step_X5 hown hK.1 hP 0 rfl rfl 29 (by decide) (hts _ fl_X5_step_79) (fun _ h9 => h9) rfl dX5_step_464 ?_
          refine lv_iload_n hx hb dX5_step_467 rfl (lv_at hl 0 rfl) ?_
          refine lv_iconst (v := 1) hx hb dX5_step_468 (by decide) ?_
          refine lv_isub hx hb dX5_step_469 ?_
          refine lv_iload hx hb dX5_step_470 (lv_at hl 5 rfl) ?_
          refine lv_aload_n hx hb dX5_step_472 rfl (lv_at hl 6 rfl) ?_
          refine va_get (D := w.1) (ci := 6) (v := .ref (w.2.2 23)) (C := RX5) (T := TX5) (N := 33) hx hb hts iw_X5_step_X5 hown hK.1 hP 0 rfl rfl 29 (by decide) (hts _ fl_X5_step_79) (fun _ h9 => h9) rfl dX5_step_473 ?_
          refine lv_iload_n hx hb dX5_step_476 rfl (lv_at hl 0 rfl) ?_
          refine lv_iconst (v := 1) hx hb dX5_step_477 (by decide) ?_
          refine lv_isub hx hb dX5_step_478 ?_
          have o222 := k221.1
          have k223 := k221.2
          refine va_lald hx hb hK.1 hP 23 3 rfl rfl o222 dX5_step_479 ?_
          refine lv_aload_n hx hb dX5_step_480 rfl (lv_at hl 6 rfl) ?_
          refine va_get (D := w.1) (ci := 6) (v := .ref (w.2.2 23)) (C := RX5) (T := TX5) (N := 33) hx hb hts iw_X5_step_X5 hown hK.1 hP 0 rfl rfl 29 (by decide) (hts _ fl_X5_step_79) (fun _ h9 => h9) rfl dX5_step_481 ?_
          refine lv_iload_n hx hb dX5_step_484 rfl (lv_at hl 0 rfl) ?_
          have o224 := k223.1
          have k225 := k223.2
          refine va_lald hx hb hK.1 hP 23 3 rfl rfl o224 dX5_step_485 ?_
          have o226 := k225.1
          have k227 := k225.2
          refine xR_l (va_runS (As := [.int (mr.2.1 pc.toNatClampNeg), .long (mvv.1 ((n + (-1 : Int32)) - (1 : Int32)).toNatClampNeg), .long (mvv.1 (n + (-1 : Int32)).toNatClampNeg)]) (rest := [.int ((n + (-1 : Int32)) - (1 : Int32)), .ref (w.2.2 23)]) ⟨hx, hb, hml, hown, hts⟩ (c_X5_reckoned l w me mbv mc mt mk mr mq mvv (mr.2.1 pc.toNatClampNeg) (mvv.1 ((n + (-1 : Int32)) - (1 : Int32)).toNatClampNeg) (mvv.1 (n + (-1 : Int32)).toNatClampNeg) o226) (va_cwS 3 hts gX5_step_X5_reckoned rfl rfl rfl ds_X5_reckoned ⟨Nat.le_of_ble_eq_true rfl, Nat.le_of_ble_eq_true rfl⟩) (wPre hP hK) rfl rfl hl.1 rfl (lv_room (Nat.le_of_ble_eq_true rfl)) dX5_step_486 ⟨Nat.zero_le _, Nat.zero_le _⟩) ?_
          have o228 := k227.1
          have k229 := k227.2
          refine va_last hx hb hK.1 hP (wM_D hA) hS 23 3 rfl rfl o228 dX5_step_489 (fun H locs hP _ hS => ?_)
          have hP : va_P w.1 vwCl (wM w me mbv mc mt mk mr mq (vp_updL mvv.1 ((n + (-1 : Int32)) - (1 : Int32)).toNatClampNeg (G_X5_reckoned (mr.2.1 pc.toNatClampNeg) (mvv.1 ((n + (-1 : Int32)) - (1 : Int32)).toNatClampNeg) (mvv.1 (n + (-1 : Int32)).toNatClampNeg)), mvv.2)) H := hP
          refine lv_goto (tgt := 10) hx hb dX5_step_490 (by decide) ?_
          exact ih (n + (-1 : Int32)) lo co (pc + (1 : Int32)) mbv (vp_updL mvv.1 ((n + (-1 : Int32)) - (1 : Int32)).toNatClampNeg (G_X5_reckoned (mr.2.1 pc.toNatClampNeg) (mvv.1 ((n + (-1 : Int32)) - (1 : Int32)).toNatClampNeg) (mvv.1 (n + (-1 : Int32)).toNatClampNeg)), mvv.2) _ _ hP hS k229 (Eq.trans (Eq.trans (Eq.trans (Eq.trans (Eq.trans (Eq.trans (Eq.trans (Eq.trans (Eq.trans (Eq.trans (Eq.trans (Eq.trans hg (if_neg b1)) (if_neg b8)) (if_neg b13)) (if_neg b22)) (if_neg b36)) (if_neg b74)) (if_neg b112)) (if_neg b120)) (if_neg b162)) (if_neg b204)) (if_pos b207)) (if_neg b220)) ls (lv_sub hl [6, 7, 0, 8, 9, 2] rfl)
        ·
          have k230 := Eq.mp (if_pos b220) k219
          refine lv_iconst (v := 2) hx hb dX5_step_461 (by decide) ?_
          have e9 : g = ((2 : Int32), mbv, mvv) := Eq.trans (Eq.trans (Eq.trans (Eq.trans (Eq.trans (Eq.trans (Eq.trans (Eq.trans (Eq.trans (Eq.trans (Eq.trans (Eq.trans hg (if_neg b1)) (if_neg b8)) (if_neg b13)) (if_neg b22)) (if_neg b36)) (if_neg b74)) (if_neg b112)) (if_neg b120)) (if_neg b162)) (if_neg b204)) (if_pos b207)) (if_pos b220)
          exact xM_iret hx hb hr hlk  hS (by rw [e9]) (by rw [e9]; exact hP) dX5_step_462
set_option maxHeartbeats 4000000 in
set_option maxRecDepth 100000 in
theorem c_X5_step (l : Launch) (w : WG) (hA : wAp w 25) (me : ME) (mb : AI) (mc : MC) (mt : MT) (mk : MK) (mr : MR) (mq : MQS) (mv : MV) (s : Int32) (fs : Nat) (hok : OK_X5_step mb mc mr mv s fs) : Met l yX5_step wsX5_step { frames := 3, cells := 0, slots := 0, locals := 73 } (va_Pc [.ref (w.2.2 0), .int s] (wPK w (wM w me mb mc mt mk mr mq mv))) (xM (some (.int ((G_X5_step mb mc mr mv s fs).1))) (fun H => va_P w.1 vwCl (wM w me ((G_X5_step mb mc mr mv s fs).2.1) mc mt mk mr mq ((G_X5_step mb mc mr mv s fs).2.2)) H) (wA w 25)) 0 0 (wA w 25) := by
  refine xOf (cc := cX5_step) (maxL := 11) (ret := (some .int)) (lv := [(0, .ref (w.2.2 0)), (1, .int s)]) (by decide) rfl (Nat.le_of_ble_eq_true rfl) rfl ?_
  intro pP eE S mM below meth C hx hb hr hml hts hown hlk hnm hw ls hl
  obtain ⟨hP, hK⟩ := hw
  have hS : va_S (wA w 25) S.heap S.heap [] := va_S.rf
  have hP : va_P w.1 vwCl (wM w me mb mc mt mk mr mq mv) S.heap := hP
  refine lv_iconst (v := 0) hx hb dX5_step_0 (by decide) ?_
  refine lv_istore_n (lv' := [(2, .int (0 : Int32)), (0, .ref (w.2.2 0)), (1, .int s)]) hx hb dX5_step_1 rfl hl (by decide) rfl (fun ls hl => ?_)
  refine lv_iconst (v := 0) hx hb dX5_step_2 (by decide) ?_
  refine lv_istore_n (lv' := [(3, .int (0 : Int32)), (2, .int (0 : Int32)), (0, .ref (w.2.2 0)), (1, .int s)]) hx hb dX5_step_3 rfl hl (by decide) rfl (fun ls hl => ?_)
  refine lv_iconst (v := 0) hx hb dX5_step_4 (by decide) ?_
  refine lv_istore (lv' := [(4, .int (0 : Int32)), (3, .int (0 : Int32)), (2, .int (0 : Int32)), (0, .ref (w.2.2 0)), (1, .int s)]) hx hb dX5_step_5 hl (by decide) rfl (fun ls hl => ?_)
  refine lv_iconst (v := 0) hx hb dX5_step_7 (by decide) ?_
  refine lv_istore (lv' := [(5, .int (0 : Int32)), (4, .int (0 : Int32)), (3, .int (0 : Int32)), (2, .int (0 : Int32)), (0, .ref (w.2.2 0)), (1, .int s)]) hx hb dX5_step_8 hl (by decide) rfl (fun ls hl => ?_)
  exact L_X5_step_L10 l w hA me mb mc mt mk mr mq mv s fs  hx hb hr hml hts hown hlk hK _ fs (0 : Int32) (0 : Int32) (0 : Int32) (0 : Int32) mb mv _ _ hP hS hok rfl ls (lv_sub hl [4, 5, 3, 2, 1, 0] rfl)
