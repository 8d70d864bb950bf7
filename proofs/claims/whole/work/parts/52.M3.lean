theorem G_X5_isCell_01 (mc : MC) (n : Int32) : G_X5_isCell mc n = 0 ∨ G_X5_isCell mc n = 1 := by
  unfold G_X5_isCell
  repeat' split
  all_goals first | exact Or.inl rfl | exact Or.inr rfl
set_option maxRecDepth 20000 in
theorem dv_X5_isCell : yX5_isCell.cls = RX5 ∧ yX5_isCell.cls ≠ "java/lang/invoke/MethodHandle" ∧ yX5_isCell.cls ≠ "java/lang/invoke/VarHandle" ∧ (parseMethodDescriptor yX5_isCell.desc).map (fun d => d.parameters.length) = some 1 := by decide +kernel
set_option maxRecDepth 20000 in
theorem dv_X5_isValue : yX5_isValue.cls = RX5 ∧ yX5_isValue.cls ≠ "java/lang/invoke/MethodHandle" ∧ yX5_isValue.cls ≠ "java/lang/invoke/VarHandle" ∧ (parseMethodDescriptor yX5_isValue.desc).map (fun d => d.parameters.length) = some 1 := by decide +kernel
set_option maxRecDepth 20000 in
theorem iw_X5_isSo_X5 : ∀ w ∈ wsX50, w ∈ wsX5_isSo := by decide +kernel
set_option maxRecDepth 20000 in
theorem fl_X5_isSo_26 : Cond.fieldLink RX5 26 "ProcedureCodeModel" "kinds" "[I" ∈ wsX5_isSo := by decide +kernel
set_option maxRecDepth 20000 in
theorem fl_X5_isSo_29 : Cond.fieldLink RX5 29 "ProcedureCodeModel" "as" "[I" ∈ wsX5_isSo := by decide +kernel
set_option maxRecDepth 20000 in
theorem fl_X5_isSo_32 : Cond.fieldLink RX5 32 "ProcedureCodeModel" "bs" "[I" ∈ wsX5_isSo := by decide +kernel
def G_X5_isSo (mc : MC) (mt : MT) (kd : Int32) (a : Int32) (b : Int32) : Int32 := if kd = (0 : Int32) then ((1 : Int32)) else (if kd = (1 : Int32) then (G_X5_isCell mc a) else (if kd = (2 : Int32) then (if (G_X5_isCell mc a) = 0 then ((0 : Int32)) else (if (G_X5_isValue mt b) = 0 then ((0 : Int32)) else ((1 : Int32)))) else (if kd = (9 : Int32) then (if (G_X5_isCell mc a) = 0 then ((0 : Int32)) else (if (G_X5_isValue mt b) = 0 then ((0 : Int32)) else ((1 : Int32)))) else (if kd = (10 : Int32) then (if (G_X5_isCell mc a) = 0 then ((0 : Int32)) else (if (G_X5_isNode mt b) = 0 then ((0 : Int32)) else (if (mt.2.1 b.toNatClampNeg) = (11 : Int32) then (if (G_X5_isValue mt (mt.2.2.1 b.toNatClampNeg)) = 0 then ((0 : Int32)) else (if (G_X5_isValue mt (mt.2.2.2.1 b.toNatClampNeg)) = 0 then ((0 : Int32)) else ((1 : Int32)))) else ((0 : Int32))))) else (if kd = (11 : Int32) then (if (G_X5_isNode mt a) = 0 then ((0 : Int32)) else (if (G_X5_isNode mt b) = 0 then ((0 : Int32)) else ((1 : Int32)))) else (if kd = (12 : Int32) then (if (G_X5_isValue mt a) = 0 then ((0 : Int32)) else (if (G_X5_isNode mt b) = 0 then ((0 : Int32)) else ((1 : Int32)))) else (if kd = (13 : Int32) then (if (G_X5_isValue mt a) = 0 then ((0 : Int32)) else (if (G_X5_isNode mt b) = 0 then ((0 : Int32)) else ((1 : Int32)))) else (if (G_X5_isValue mt a) = 0 then ((0 : Int32)) else (if (G_X5_isValue mt b) = 0 then ((0 : Int32)) else ((1 : Int32)))))))))))
def OK_X5_isSo (mc : MC) (mt : MT) (kd : Int32) (a : Int32) (b : Int32) : Prop := if kd = (0 : Int32) then (True) else (if kd = (1 : Int32) then (True) else (if kd = (2 : Int32) then (if (G_X5_isCell mc a) = 0 then (True) else ((OK_X5_isValue mt b) ∧ (if (G_X5_isValue mt b) = 0 then (True) else (True)))) else (if kd = (9 : Int32) then (if (G_X5_isCell mc a) = 0 then (True) else ((OK_X5_isValue mt b) ∧ (if (G_X5_isValue mt b) = 0 then (True) else (True)))) else (if kd = (10 : Int32) then (if (G_X5_isCell mc a) = 0 then (True) else (if (G_X5_isNode mt b) = 0 then (True) else ((vp_in b 201) ∧ (if (mt.2.1 b.toNatClampNeg) = (11 : Int32) then ((vp_in b 201) ∧ ((OK_X5_isValue mt (mt.2.2.1 b.toNatClampNeg)) ∧ (if (G_X5_isValue mt (mt.2.2.1 b.toNatClampNeg)) = 0 then (True) else ((vp_in b 201) ∧ ((OK_X5_isValue mt (mt.2.2.2.1 b.toNatClampNeg)) ∧ (if (G_X5_isValue mt (mt.2.2.2.1 b.toNatClampNeg)) = 0 then (True) else (True))))))) else (True))))) else (if kd = (11 : Int32) then (if (G_X5_isNode mt a) = 0 then (True) else (if (G_X5_isNode mt b) = 0 then (True) else (True))) else (if kd = (12 : Int32) then ((OK_X5_isValue mt a) ∧ (if (G_X5_isValue mt a) = 0 then (True) else (if (G_X5_isNode mt b) = 0 then (True) else (True)))) else (if kd = (13 : Int32) then ((OK_X5_isValue mt a) ∧ (if (G_X5_isValue mt a) = 0 then (True) else (if (G_X5_isNode mt b) = 0 then (True) else (True)))) else ((OK_X5_isValue mt a) ∧ (if (G_X5_isValue mt a) = 0 then (True) else ((OK_X5_isValue mt b) ∧ (if (G_X5_isValue mt b) = 0 then (True) else (True))))))))))))
set_option maxHeartbeats 4000000 in
set_option maxRecDepth 100000 in
theorem c_X5_isSo (l : Launch) (w : WG) (me : ME) (mb : AI) (mc : MC) (mt : MT) (mk : MK) (mr : MR) (mq : MQS) (mv : MV) (kd : Int32) (a : Int32) (b : Int32) (hok : OK_X5_isSo mc mt kd a b) : Met l yX5_isSo wsX5_isSo { frames := 2, cells := 0, slots := 0, locals := 42 } (va_Pc [.ref (w.2.2 0), .int kd, .int a, .int b] (wPK w (wM w me mb mc mt mk mr mq mv))) (xR (some (.int (G_X5_isSo mc mt kd a b)))) 0 0 xNo := by
  refine xOf (cc := cX5_isSo) (maxL := 4) (ret := (some .boolean)) (lv := [(0, .ref (w.2.2 0)), (1, .int kd), (2, .int a), (3, .int b)]) (by decide) rfl (Nat.le_of_ble_eq_true rfl) rfl ?_
  intro pP eE S mM below meth C hx hb hr hml hts hown hlk hnm hw ls hl
  obtain ⟨hP, hK⟩ := hw
  refine lv_iload_n hx hb dX5_isSo_0 rfl (lv_at hl 1 rfl) ?_
  by_cases b1 : kd = (0 : Int32)
  ·
    have k2 := Eq.mp (if_pos b1) hok
    refine xTabK (tgt := 72) (z := 0) hx hb dX5_isSo_1 (by rw [b1]; decide) (by decide +kernel) ?_
    refine lv_iconst (v := 1) hx hb dX5_isSo_72 (by decide) ?_
    exact xR_zret hx hb hr hlk (by first | rfl | exact narZ (G_X5_isCell_01 _ _)) (Eq.trans rfl (if_pos b1)) dX5_isSo_73
  have k3 := Eq.mp (if_neg b1) hok
  by_cases b4 : kd = (1 : Int32)
  ·
    have k5 := Eq.mp (if_pos b4) k3
    refine xTabK (tgt := 74) (z := 1) hx hb dX5_isSo_1 (by rw [b4]; decide) (by decide +kernel) ?_
    refine lv_aload_n hx hb dX5_isSo_74 rfl (lv_at hl 0 rfl) ?_
    refine lv_iload_n hx hb dX5_isSo_75 rfl (lv_at hl 2 rfl) ?_
    refine xR_i (va_runV (As := [.int a]) (rest := []) ⟨hx, hb, hml, hown, hts⟩ (c_X5_isCell l w me mb mc mt mk mr mq mv a ) (cwV 1 hts gX5_isSo_X5_isCell rfl rfl rfl dv_X5_isCell ⟨Nat.le_of_ble_eq_true rfl, Nat.le_of_ble_eq_true rfl⟩) (wPreV hP hK (ci := 6) (q0 := 0) rfl rfl) rfl rfl hl.1 rfl (lv_room (Nat.le_of_ble_eq_true rfl)) dX5_isSo_76 ⟨Nat.zero_le _, Nat.zero_le _⟩) ?_
    exact xR_zret hx hb hr hlk (by first | rfl | exact narZ (G_X5_isCell_01 _ _)) (Eq.trans (Eq.trans rfl (if_neg b1)) (if_pos b4)) dX5_isSo_79
  have k6 := Eq.mp (if_neg b4) k3
  by_cases b7 : kd = (2 : Int32)
  ·
    have k8 := Eq.mp (if_pos b7) k6
    refine xTabK (tgt := 80) (z := 2) hx hb dX5_isSo_1 (by rw [b7]; decide) (by decide +kernel) ?_
    refine lv_aload_n hx hb dX5_isSo_80 rfl (lv_at hl 0 rfl) ?_
    refine lv_iload_n hx hb dX5_isSo_81 rfl (lv_at hl 2 rfl) ?_
    refine xR_i (va_runV (As := [.int a]) (rest := []) ⟨hx, hb, hml, hown, hts⟩ (c_X5_isCell l w me mb mc mt mk mr mq mv a ) (cwV 1 hts gX5_isSo_X5_isCell rfl rfl rfl dv_X5_isCell ⟨Nat.le_of_ble_eq_true rfl, Nat.le_of_ble_eq_true rfl⟩) (wPreV hP hK (ci := 6) (q0 := 0) rfl rfl) rfl rfl hl.1 rfl (lv_room (Nat.le_of_ble_eq_true rfl)) dX5_isSo_82 ⟨Nat.zero_le _, Nat.zero_le _⟩) ?_
    refine lv_if_eq (tgt := 100) hx hb dX5_isSo_85 (by decide) (fun b9 => ?_) (fun b9 => ?_)
    ·
      have k10 := Eq.mp (if_pos b9) k8
      refine lv_iconst (v := 0) hx hb dX5_isSo_100 (by decide) ?_
      exact xR_zret hx hb hr hlk (by first | rfl | exact narZ (G_X5_isCell_01 _ _)) (Eq.trans (Eq.trans (Eq.trans (Eq.trans rfl (if_neg b1)) (if_neg b4)) (if_pos b7)) (if_pos b9)) dX5_isSo_101
    ·
      have k11 := Eq.mp (if_neg b9) k8
      refine lv_aload_n hx hb dX5_isSo_88 rfl (lv_at hl 0 rfl) ?_
      refine lv_iload_n hx hb dX5_isSo_89 rfl (lv_at hl 3 rfl) ?_
      have o12 := k11.1
      have k13 := k11.2
      refine xR_i (va_runV (As := [.int b]) (rest := []) ⟨hx, hb, hml, hown, hts⟩ (c_X5_isValue l w me mb mc mt mk mr mq mv b o12) (cwV 1 hts gX5_isSo_X5_isValue rfl rfl rfl dv_X5_isValue ⟨Nat.le_of_ble_eq_true rfl, Nat.le_of_ble_eq_true rfl⟩) (wPreV hP hK (ci := 6) (q0 := 0) rfl rfl) rfl rfl hl.1 rfl (lv_room (Nat.le_of_ble_eq_true rfl)) dX5_isSo_90 ⟨Nat.zero_le _, Nat.zero_le _⟩) ?_
      refine lv_if_eq (tgt := 100) hx hb dX5_isSo_93 (by decide) (fun b14 => ?_) (fun b14 => ?_)
      ·
        have k15 := Eq.mp (if_pos b14) k13
        refine lv_iconst (v := 0) hx hb dX5_isSo_100 (by decide) ?_
        exact xR_zret hx hb hr hlk (by first | rfl | exact narZ (G_X5_isCell_01 _ _)) (Eq.trans (Eq.trans (Eq.trans (Eq.trans (Eq.trans rfl (if_neg b1)) (if_neg b4)) (if_pos b7)) (if_neg b9)) (if_pos b14)) dX5_isSo_101
      ·
        have k16 := Eq.mp (if_neg b14) k13
        refine lv_iconst (v := 1) hx hb dX5_isSo_96 (by decide) ?_
        refine lv_goto (tgt := 101) hx hb dX5_isSo_97 (by decide) ?_
        exact xR_zret hx hb hr hlk (by first | rfl | exact narZ (G_X5_isCell_01 _ _)) (Eq.trans (Eq.trans (Eq.trans (Eq.trans (Eq.trans rfl (if_neg b1)) (if_neg b4)) (if_pos b7)) (if_neg b9)) (if_neg b14)) dX5_isSo_101
  have k17 := Eq.mp (if_neg b7) k6
  by_cases b18 : kd = (9 : Int32)
  ·
    have k19 := Eq.mp (if_pos b18) k17
    refine xTabK (tgt := 80) (z := 9) hx hb dX5_isSo_1 (by rw [b18]; decide) (by decide +kernel) ?_
    refine lv_aload_n hx hb dX5_isSo_80 rfl (lv_at hl 0 rfl) ?_
    refine lv_iload_n hx hb dX5_isSo_81 rfl (lv_at hl 2 rfl) ?_
    refine xR_i (va_runV (As := [.int a]) (rest := []) ⟨hx, hb, hml, hown, hts⟩ (c_X5_isCell l w me mb mc mt mk mr mq mv a ) (cwV 1 hts gX5_isSo_X5_isCell rfl rfl rfl dv_X5_isCell ⟨Nat.le_of_ble_eq_true rfl, Nat.le_of_ble_eq_true rfl⟩) (wPreV hP hK (ci := 6) (q0 := 0) rfl rfl) rfl rfl hl.1 rfl (lv_room (Nat.le_of_ble_eq_true rfl)) dX5_isSo_82 ⟨Nat.zero_le _, Nat.zero_le _⟩) ?_
    refine lv_if_eq (tgt := 100) hx hb dX5_isSo_85 (by decide) (fun b20 => ?_) (fun b20 => ?_)
    ·
      have k21 := Eq.mp (if_pos b20) k19
      refine lv_iconst (v := 0) hx hb dX5_isSo_100 (by decide) ?_
      exact xR_zret hx hb hr hlk (by first | rfl | exact narZ (G_X5_isCell_01 _ _)) (Eq.trans (Eq.trans (Eq.trans (Eq.trans (Eq.trans rfl (if_neg b1)) (if_neg b4)) (if_neg b7)) (if_pos b18)) (if_pos b20)) dX5_isSo_101
    ·
      have k22 := Eq.mp (if_neg b20) k19
      refine lv_aload_n hx hb dX5_isSo_88 rfl (lv_at hl 0 rfl) ?_
      refine lv_iload_n hx hb dX5_isSo_89 rfl (lv_at hl 3 rfl) ?_
      have o23 := k22.1
      have k24 := k22.2
      refine xR_i (va_runV (As := [.int b]) (rest := []) ⟨hx, hb, hml, hown, hts⟩ (c_X5_isValue l w me mb mc mt mk mr mq mv b o23) (cwV 1 hts gX5_isSo_X5_isValue rfl rfl rfl dv_X5_isValue ⟨Nat.le_of_ble_eq_true rfl, Nat.le_of_ble_eq_true rfl⟩) (wPreV hP hK (ci := 6) (q0 := 0) rfl rfl) rfl rfl hl.1 rfl (lv_room (Nat.le_of_ble_eq_true rfl)) dX5_isSo_90 ⟨Nat.zero_le _, Nat.zero_le _⟩) ?_
      refine lv_if_eq (tgt := 100) hx hb dX5_isSo_93 (by decide) (fun b25 => ?_) (fun b25 => ?_)
      ·
        have k26 := Eq.mp (if_pos b25) k24
        refine lv_iconst (v := 0) hx hb dX5_isSo_100 (by decide) ?_
        exact xR_zret hx hb hr hlk (by first | rfl | exact narZ (G_X5_isCell_01 _ _)) (Eq.trans (Eq.trans (Eq.trans (Eq.trans (Eq.trans (Eq.trans rfl (if_neg b1)) (if_neg b4)) (if_neg b7)) (if_pos b18)) (if_neg b20)) (if_pos b25)) dX5_isSo_101
      ·
        have k27 := Eq.mp (if_neg b25) k24
        refine lv_iconst (v := 1) hx hb dX5_isSo_96 (by decide) ?_
        refine lv_goto (tgt := 101) hx hb dX5_isSo_97 (by decide) ?_
        exact xR_zret hx hb hr hlk (by first | rfl | exact narZ (G_X5_isCell_01 _ _)) (Eq.trans (Eq.trans (Eq.trans (Eq.trans (Eq.trans (Eq.trans rfl (if_neg b1)) (if_neg b4)) (if_neg b7)) (if_pos b18)) (if_neg b20)) (if_neg b25)) dX5_isSo_101
  have k28 := Eq.mp (if_neg b18) k17
  by_cases b29 : kd = (10 : Int32)
  ·
    have k30 := Eq.mp (if_pos b29) k28
    refine xTabK (tgt := 102) (z := 10) hx hb dX5_isSo_1 (by rw [b29]; decide) (by decide +kernel) ?_
    refine lv_aload_n hx hb dX5_isSo_102 rfl (lv_at hl 0 rfl) ?_
    refine lv_iload_n hx hb dX5_isSo_103 rfl (lv_at hl 2 rfl) ?_
    refine xR_i (va_runV (As := [.int a]) (rest := []) ⟨hx, hb, hml, hown, hts⟩ (c_X5_isCell l w me mb mc mt mk mr mq mv a ) (cwV 1 hts gX5_isSo_X5_isCell rfl rfl rfl dv_X5_isCell ⟨Nat.le_of_ble_eq_true rfl, Nat.le_of_ble_eq_true rfl⟩) (wPreV hP hK (ci := 6) (q0 := 0) rfl rfl) rfl rfl hl.1 rfl (lv_room (Nat.le_of_ble_eq_true rfl)) dX5_isSo_104 ⟨Nat.zero_le _, Nat.zero_le _⟩) ?_
    refine lv_if_eq (tgt := 159) hx hb dX5_isSo_107 (by decide) (fun b31 => ?_) (fun b31 => ?_)
    ·
      have k32 := Eq.mp (if_pos b31) k30
      refine lv_iconst (v := 0) hx hb dX5_isSo_159 (by decide) ?_
      exact xR_zret hx hb hr hlk (by first | rfl | exact narZ (G_X5_isCell_01 _ _)) (Eq.trans (Eq.trans (Eq.trans (Eq.trans (Eq.trans (Eq.trans rfl (if_neg b1)) (if_neg b4)) (if_neg b7)) (if_neg b18)) (if_pos b29)) (if_pos b31)) dX5_isSo_160
    ·
      have k33 := Eq.mp (if_neg b31) k30
      refine lv_aload_n hx hb dX5_isSo_110 rfl (lv_at hl 0 rfl) ?_
      refine lv_iload_n hx hb dX5_isSo_111 rfl (lv_at hl 3 rfl) ?_
      refine xR_i (va_runV (As := [.int b]) (rest := []) ⟨hx, hb, hml, hown, hts⟩ (c_X5_isNode l w me mb mc mt mk mr mq mv b ) (cwV 1 hts gX5_isSo_X5_isNode rfl rfl rfl dv_X5_isNode ⟨Nat.le_of_ble_eq_true rfl, Nat.le_of_ble_eq_true rfl⟩) (wPreV hP hK (ci := 6) (q0 := 0) rfl rfl) rfl rfl hl.1 rfl (lv_room (Nat.le_of_ble_eq_true rfl)) dX5_isSo_112 ⟨Nat.zero_le _, Nat.zero_le _⟩) ?_
      refine lv_if_eq (tgt := 159) hx hb dX5_isSo_115 (by decide) (fun b34 => ?_) (fun b34 => ?_)
      ·
        have k35 := Eq.mp (if_pos b34) k33
        refine lv_iconst (v := 0) hx hb dX5_isSo_159 (by decide) ?_
        exact xR_zret hx hb hr hlk (by first | rfl | exact narZ (G_X5_isCell_01 _ _)) (Eq.trans (Eq.trans (Eq.trans (Eq.trans (Eq.trans (Eq.trans (Eq.trans rfl (if_neg b1)) (if_neg b4)) (if_neg b7)) (if_neg b18)) (if_pos b29)) (if_neg b31)) (if_pos b34)) dX5_isSo_160
      ·
        have k36 := Eq.mp (if_neg b34) k33
        refine lv_aload_n hx hb dX5_isSo_118 rfl (lv_at hl 0 rfl) ?_
        refine va_get (D := w.1) (ci := 6) (v := .ref (w.2.2 6)) (C := RX5) (T := TX5) (N := 33) hx hb hts iw_X5_isSo_X5 hown hK.1 hP 0 rfl rfl 7 (by decide) (hts _ fl_X5_isSo_26) (fun _ h9 => h9) rfl dX5_isSo_119 ?_
        refine lv_iload_n hx hb dX5_isSo_122 rfl (lv_at hl 3 rfl) ?_
        have o37 := k36.1
        have k38 := k36.2
        refine va_iald hx hb hK.1 hP 6 0 rfl rfl o37 dX5_isSo_123 ?_
        refine lv_bipush (v := 11) hx hb dX5_isSo_124 (by decide) ?_
        refine lv_icmp_ne (tgt := 159) hx hb dX5_isSo_126 (by decide) (fun b39 => ?_) (fun b39 => ?_)
        ·
          have k40 := Eq.mp (if_neg b39) k38
          refine lv_iconst (v := 0) hx hb dX5_isSo_159 (by decide) ?_
          exact xR_zret hx hb hr hlk (by first | rfl | exact narZ (G_X5_isCell_01 _ _)) (Eq.trans (Eq.trans (Eq.trans (Eq.trans (Eq.trans (Eq.trans (Eq.trans (Eq.trans rfl (if_neg b1)) (if_neg b4)) (if_neg b7)) (if_neg b18)) (if_pos b29)) (if_neg b31)) (if_neg b34)) (if_neg b39)) dX5_isSo_160
        ·
          have k41 := Eq.mp (if_pos b39) k38
          refine lv_aload_n hx hb dX5_isSo_129 rfl (lv_at hl 0 rfl) ?_
          refine lv_aload_n hx hb dX5_isSo_130 rfl (lv_at hl 0 rfl) ?_
          refine va_get (D := w.1) (ci := 6) (v := .ref (w.2.2 7)) (C := RX5) (T := TX5) (N := 33) hx hb hts iw_X5_isSo_X5 hown hK.1 hP 0 rfl rfl 8 (by decide) (hts _ fl_X5_isSo_29) (fun _ h9 => h9) rfl dX5_isSo_131 ?_
          refine lv_iload_n hx hb dX5_isSo_134 rfl (lv_at hl 3 rfl) ?_
          have o42 := k41.1
          have k43 := k41.2
          refine va_iald hx hb hK.1 hP 7 0 rfl rfl o42 dX5_isSo_135 ?_
          have o44 := k43.1
          have k45 := k43.2
          refine xR_i (va_runV (As := [.int (mt.2.2.1 b.toNatClampNeg)]) (rest := []) ⟨hx, hb, hml, hown, hts⟩ (c_X5_isValue l w me mb mc mt mk mr mq mv (mt.2.2.1 b.toNatClampNeg) o44) (cwV 1 hts gX5_isSo_X5_isValue rfl rfl rfl dv_X5_isValue ⟨Nat.le_of_ble_eq_true rfl, Nat.le_of_ble_eq_true rfl⟩) (wPreV hP hK (ci := 6) (q0 := 0) rfl rfl) rfl rfl hl.1 rfl (lv_room (Nat.le_of_ble_eq_true rfl)) dX5_isSo_136 ⟨Nat.zero_le _, Nat.zero_le _⟩) ?_
          refine lv_if_eq (tgt := 159) hx hb dX5_isSo_139 (by decide) (fun b46 => ?_) (fun b46 => ?_)
          ·
            have k47 := Eq.mp (if_pos b46) k45
            refine lv_iconst (v := 0) hx hb dX5_isSo_159 (by decide) ?_
            exact xR_zret hx hb hr hlk (by first | rfl | exact narZ (G_X5_isCell_01 _ _)) (Eq.trans (Eq.trans (Eq.trans (Eq.trans (Eq.trans (Eq.trans (Eq.trans (Eq.trans (Eq.trans rfl (if_neg b1)) (if_neg b4)) (if_neg b7)) (if_neg b18)) (if_pos b29)) (if_neg b31)) (if_neg b34)) (if_pos b39)) (if_pos b46)) dX5_isSo_160
          ·
            have k48 := Eq.mp (if_neg b46) k45
            refine lv_aload_n hx hb dX5_isSo_142 rfl (lv_at hl 0 rfl) ?_
            refine lv_aload_n hx hb dX5_isSo_143 rfl (lv_at hl 0 rfl) ?_
            refine va_get (D := w.1) (ci := 6) (v := .ref (w.2.2 8)) (C := RX5) (T := TX5) (N := 33) hx hb hts iw_X5_isSo_X5 hown hK.1 hP 0 rfl rfl 9 (by decide) (hts _ fl_X5_isSo_32) (fun _ h9 => h9) rfl dX5_isSo_144 ?_
            refine lv_iload_n hx hb dX5_isSo_147 rfl (lv_at hl 3 rfl) ?_
            have o49 := k48.1
            have k50 := k48.2
            refine va_iald hx hb hK.1 hP 8 0 rfl rfl o49 dX5_isSo_148 ?_
            have o51 := k50.1
            have k52 := k50.2
            refine xR_i (va_runV (As := [.int (mt.2.2.2.1 b.toNatClampNeg)]) (rest := []) ⟨hx, hb, hml, hown, hts⟩ (c_X5_isValue l w me mb mc mt mk mr mq mv (mt.2.2.2.1 b.toNatClampNeg) o51) (cwV 1 hts gX5_isSo_X5_isValue rfl rfl rfl dv_X5_isValue ⟨Nat.le_of_ble_eq_true rfl, Nat.le_of_ble_eq_true rfl⟩) (wPreV hP hK (ci := 6) (q0 := 0) rfl rfl) rfl rfl hl.1 rfl (lv_room (Nat.le_of_ble_eq_true rfl)) dX5_isSo_149 ⟨Nat.zero_le _, Nat.zero_le _⟩) ?_
            refine lv_if_eq (tgt := 159) hx hb dX5_isSo_152 (by decide) (fun b53 => ?_) (fun b53 => ?_)
            ·
              have k54 := Eq.mp (if_pos b53) k52
              refine lv_iconst (v := 0) hx hb dX5_isSo_159 (by decide) ?_
              exact xR_zret hx hb hr hlk (by first | rfl | exact narZ (G_X5_isCell_01 _ _)) (Eq.trans (Eq.trans (Eq.trans (Eq.trans (Eq.trans (Eq.trans (Eq.trans (Eq.trans (Eq.trans (Eq.trans rfl (if_neg b1)) (if_neg b4)) (if_neg b7)) (if_neg b18)) (if_pos b29)) (if_neg b31)) (if_neg b34)) (if_pos b39)) (if_neg b46)) (if_pos b53)) dX5_isSo_160
            ·
              have k55 := Eq.mp (if_neg b53) k52
              refine lv_iconst (v := 1) hx hb dX5_isSo_155 (by decide) ?_
              refine lv_goto (tgt := 160) hx hb dX5_isSo_156 (by decide) ?_
              exact xR_zret hx hb hr hlk (by first | rfl | exact narZ (G_X5_isCell_01 _ _)) (Eq.trans (Eq.trans (Eq.trans (Eq.trans (Eq.trans (Eq.trans (Eq.trans (Eq.trans (Eq.trans (Eq.trans rfl (if_neg b1)) (if_neg b4)) (if_neg b7)) (if_neg b18)) (if_pos b29)) (if_neg b31)) (if_neg b34)) (if_pos b39)) (if_neg b46)) (if_neg b53)) dX5_isSo_160
  have k56 := Eq.mp (if_neg b29) k28
  by_cases b57 : kd = (11 : Int32)
  ·
    have k58 := Eq.mp (if_pos b57) k56
    refine xTabK (tgt := 161) (z := 11) hx hb dX5_isSo_1 (by rw [b57]; decide) (by decide +kernel) ?_
    refine lv_aload_n hx hb dX5_isSo_161 rfl (lv_at hl 0 rfl) ?_
    refine lv_iload_n hx hb dX5_isSo_162 rfl (lv_at hl 2 rfl) ?_
    refine xR_i (va_runV (As := [.int a]) (rest := []) ⟨hx, hb, hml, hown, hts⟩ (c_X5_isNode l w me mb mc mt mk mr mq mv a ) (cwV 1 hts gX5_isSo_X5_isNode rfl rfl rfl dv_X5_isNode ⟨Nat.le_of_ble_eq_true rfl, Nat.le_of_ble_eq_true rfl⟩) (wPreV hP hK (ci := 6) (q0 := 0) rfl rfl) rfl rfl hl.1 rfl (lv_room (Nat.le_of_ble_eq_true rfl)) dX5_isSo_163 ⟨Nat.zero_le _, Nat.zero_le _⟩) ?_
    refine lv_if_eq (tgt := 181) hx hb dX5_isSo_166 (by decide) (fun b59 => ?_) (fun b59 => ?_)
    ·
      have k60 := Eq.mp (if_pos b59) k58
      refine lv_iconst (v := 0) hx hb dX5_isSo_181 (by decide) ?_
      exact xR_zret hx hb hr hlk (by first | rfl | exact narZ (G_X5_isCell_01 _ _)) (Eq.trans (Eq.trans (Eq.trans (Eq.trans (Eq.trans (Eq.trans (Eq.trans rfl (if_neg b1)) (if_neg b4)) (if_neg b7)) (if_neg b18)) (if_neg b29)) (if_pos b57)) (if_pos b59)) dX5_isSo_182
    ·
      have k61 := Eq.mp (if_neg b59) k58
      refine lv_aload_n hx hb dX5_isSo_169 rfl (lv_at hl 0 rfl) ?_
      refine lv_iload_n hx hb dX5_isSo_170 rfl (lv_at hl 3 rfl) ?_
      refine xR_i (va_runV (As := [.int b]) (rest := []) ⟨hx, hb, hml, hown, hts⟩ (c_X5_isNode l w me mb mc mt mk mr mq mv b ) (cwV 1 hts gX5_isSo_X5_isNode rfl rfl rfl dv_X5_isNode ⟨Nat.le_of_ble_eq_true rfl, Nat.le_of_ble_eq_true rfl⟩) (wPreV hP hK (ci := 6) (q0 := 0) rfl rfl) rfl rfl hl.1 rfl (lv_room (Nat.le_of_ble_eq_true rfl)) dX5_isSo_171 ⟨Nat.zero_le _, Nat.zero_le _⟩) ?_
      refine lv_if_eq (tgt := 181) hx hb dX5_isSo_174 (by decide) (fun b62 => ?_) (fun b62 => ?_)
      ·
        have k63 := Eq.mp (if_pos b62) k61
        refine lv_iconst (v := 0) hx hb dX5_isSo_181 (by decide) ?_
        exact xR_zret hx hb hr hlk (by first | rfl | exact narZ (G_X5_isCell_01 _ _)) (Eq.trans (Eq.trans (Eq.trans (Eq.trans (Eq.trans (Eq.trans (Eq.trans (Eq.trans rfl (if_neg b1)) (if_neg b4)) (if_neg b7)) (if_neg b18)) (if_neg b29)) (if_pos b57)) (if_neg b59)) (if_pos b62)) dX5_isSo_182
      ·
        have k64 := Eq.mp (if_neg b62) k61
        refine lv_iconst (v := 1) hx hb dX5_isSo_177 (by decide) ?_
        refine lv_goto (tgt := 182) hx hb dX5_isSo_178 (by decide) ?_
        exact xR_zret hx hb hr hlk (by first | rfl | exact narZ (G_X5_isCell_01 _ _)) (Eq.trans (Eq.trans (Eq.trans (Eq.trans (Eq.trans (Eq.trans (Eq.trans (Eq.trans rfl (if_neg b1)) (if_neg b4)) (if_neg b7)) (if_neg b18)) (if_neg b29)) (if_pos b57)) (if_neg b59)) (if_neg b62)) dX5_isSo_182
  have k65 := Eq.mp (if_neg b57) k56
  by_cases b66 : kd = (12 : Int32)
  ·
    have k67 := Eq.mp (if_pos b66) k65
    refine xTabK (tgt := 183) (z := 12) hx hb dX5_isSo_1 (by rw [b66]; decide) (by decide +kernel) ?_
    refine lv_aload_n hx hb dX5_isSo_183 rfl (lv_at hl 0 rfl) ?_
    refine lv_iload_n hx hb dX5_isSo_184 rfl (lv_at hl 2 rfl) ?_
    have o68 := k67.1
    have k69 := k67.2
    refine xR_i (va_runV (As := [.int a]) (rest := []) ⟨hx, hb, hml, hown, hts⟩ (c_X5_isValue l w me mb mc mt mk mr mq mv a o68) (cwV 1 hts gX5_isSo_X5_isValue rfl rfl rfl dv_X5_isValue ⟨Nat.le_of_ble_eq_true rfl, Nat.le_of_ble_eq_true rfl⟩) (wPreV hP hK (ci := 6) (q0 := 0) rfl rfl) rfl rfl hl.1 rfl (lv_room (Nat.le_of_ble_eq_true rfl)) dX5_isSo_185 ⟨Nat.zero_le _, Nat.zero_le _⟩) ?_
    refine lv_if_eq (tgt := 203) hx hb dX5_isSo_188 (by decide) (fun b70 => ?_) (fun b70 => ?_)
    ·
      have k71 := Eq.mp (if_pos b70) k69
      refine lv_iconst (v := 0) hx hb dX5_isSo_203 (by decide) ?_
      exact xR_zret hx hb hr hlk (by first | rfl | exact narZ (G_X5_isCell_01 _ _)) (Eq.trans (Eq.trans (Eq.trans (Eq.trans (Eq.trans (Eq.trans (Eq.trans (Eq.trans rfl (if_neg b1)) (if_neg b4)) (if_neg b7)) (if_neg b18)) (if_neg b29)) (if_neg b57)) (if_pos b66)) (if_pos b70)) dX5_isSo_204
    ·
      have k72 := Eq.mp (if_neg b70) k69
      refine lv_aload_n hx hb dX5_isSo_191 rfl (lv_at hl 0 rfl) ?_
      refine lv_iload_n hx hb dX5_isSo_192 rfl (lv_at hl 3 rfl) ?_
      refine xR_i (va_runV (As := [.int b]) (rest := []) ⟨hx, hb, hml, hown, hts⟩ (c_X5_isNode l w me mb mc mt mk mr mq mv b ) (cwV 1 hts gX5_isSo_X5_isNode rfl rfl rfl dv_X5_isNode ⟨Nat.le_of_ble_eq_true rfl, Nat.le_of_ble_eq_true rfl⟩) (wPreV hP hK (ci := 6) (q0 := 0) rfl rfl) rfl rfl hl.1 rfl (lv_room (Nat.le_of_ble_eq_true rfl)) dX5_isSo_193 ⟨Nat.zero_le _, Nat.zero_le _⟩) ?_
      refine lv_if_eq (tgt := 203) hx hb dX5_isSo_196 (by decide) (fun b73 => ?_) (fun b73 => ?_)
      ·
        have k74 := Eq.mp (if_pos b73) k72
        refine lv_iconst (v := 0) hx hb dX5_isSo_203 (by decide) ?_
        exact xR_zret hx hb hr hlk (by first | rfl | exact narZ (G_X5_isCell_01 _ _)) (Eq.trans (Eq.trans (Eq.trans (Eq.trans (Eq.trans (Eq.trans (Eq.trans (Eq.trans (Eq.trans rfl (if_neg b1)) (if_neg b4)) (if_neg b7)) (if_neg b18)) (if_neg b29)) (if_neg b57)) (if_pos b66)) (if_neg b70)) (if_pos b73)) dX5_isSo_204
      ·
        have k75 := Eq.mp (if_neg b73) k72
        refine lv_iconst (v := 1) hx hb dX5_isSo_199 (by decide) ?_
        refine lv_goto (tgt := 204) hx hb dX5_isSo_200 (by decide) ?_
        exact xR_zret hx hb hr hlk (by first | rfl | exact narZ (G_X5_isCell_01 _ _)) (Eq.trans (Eq.trans (Eq.trans (Eq.trans (Eq.trans (Eq.trans (Eq.trans (Eq.trans (Eq.trans rfl (if_neg b1)) (if_neg b4)) (if_neg b7)) (if_neg b18)) (if_neg b29)) (if_neg b57)) (if_pos b66)) (if_neg b70)) (if_neg b73)) dX5_isSo_204
  have k76 := Eq.mp (if_neg b66) k65
  by_cases b77 : kd = (13 : Int32)
  ·
    have k78 := Eq.mp (if_pos b77) k76
    refine xTabK (tgt := 183) (z := 13) hx hb dX5_isSo_1 (by rw [b77]; decide) (by decide +kernel) ?_
    refine lv_aload_n hx hb dX5_isSo_183 rfl (lv_at hl 0 rfl) ?_
    refine lv_iload_n hx hb dX5_isSo_184 rfl (lv_at hl 2 rfl) ?_
    have o79 := k78.1
    have k80 := k78.2
    refine xR_i (va_runV (As := [.int a]) (rest := []) ⟨hx, hb, hml, hown, hts⟩ (c_X5_isValue l w me mb mc mt mk mr mq mv a o79) (cwV 1 hts gX5_isSo_X5_isValue rfl rfl rfl dv_X5_isValue ⟨Nat.le_of_ble_eq_true rfl, Nat.le_of_ble_eq_true rfl⟩) (wPreV hP hK (ci := 6) (q0 := 0) rfl rfl) rfl rfl hl.1 rfl (lv_room (Nat.le_of_ble_eq_true rfl)) dX5_isSo_185 ⟨Nat.zero_le _, Nat.zero_le _⟩) ?_
    refine lv_if_eq (tgt := 203) hx hb dX5_isSo_188 (by decide) (fun b81 => ?_) (fun b81 => ?_)
    ·
      have k82 := Eq.mp (if_pos b81) k80
      refine lv_iconst (v := 0) hx hb dX5_isSo_203 (by decide) ?_
      exact xR_zret hx hb hr hlk (by first | rfl | exact narZ (G_X5_isCell_01 _ _)) (Eq.trans (Eq.trans (Eq.trans (Eq.trans (Eq.trans (Eq.trans (Eq.trans (Eq.trans (Eq.trans rfl (if_neg b1)) (if_neg b4)) (if_neg b7)) (if_neg b18)) (if_neg b29)) (if_neg b57)) (if_neg b66)) (if_pos b77)) (if_pos b81)) dX5_isSo_204
    ·
      have k83 := Eq.mp (if_neg b81) k80
      refine lv_aload_n hx hb dX5_isSo_191 rfl (lv_at hl 0 rfl) ?_
      refine lv_iload_n hx hb dX5_isSo_192 rfl (lv_at hl 3 rfl) ?_
      refine xR_i (va_runV (As := [.int b]) (rest := []) ⟨hx, hb, hml, hown, hts⟩ (c_X5_isNode l w me mb mc mt mk mr mq mv b ) (cwV 1 hts gX5_isSo_X5_isNode rfl rfl rfl dv_X5_isNode ⟨Nat.le_of_ble_eq_true rfl, Nat.le_of_ble_eq_true rfl⟩) (wPreV hP hK (ci := 6) (q0 := 0) rfl rfl) rfl rfl hl.1 rfl (lv_room (Nat.le_of_ble_eq_true rfl)) dX5_isSo_193 ⟨Nat.zero_le _, Nat.zero_le _⟩) ?_
      refine lv_if_eq (tgt := 203) hx hb dX5_isSo_196 (by decide) (fun b84 => ?_) (fun b84 => ?_)
      ·
        have k85 := Eq.mp (if_pos b84) k83
        refine lv_iconst (v := 0) hx hb dX5_isSo_203 (by decide) ?_
        exact xR_zret hx hb hr hlk (by first | rfl | exact narZ (G_X5_isCell_01 _ _)) (Eq.trans (Eq.trans (Eq.trans (Eq.trans (Eq.trans (Eq.trans (Eq.trans (Eq.trans (Eq.trans (Eq.trans rfl (if_neg b1)) (if_neg b4)) (if_neg b7)) (if_neg b18)) (if_neg b29)) (if_neg b57)) (if_neg b66)) (if_pos b77)) (if_neg b81)) (if_pos b84)) dX5_isSo_204
      ·
        have k86 := Eq.mp (if_neg b84) k83
        refine lv_iconst (v := 1) hx hb dX5_isSo_199 (by decide) ?_
        refine lv_goto (tgt := 204) hx hb dX5_isSo_200 (by decide) ?_
        exact xR_zret hx hb hr hlk (by first | rfl | exact narZ (G_X5_isCell_01 _ _)) (Eq.trans (Eq.trans (Eq.trans (Eq.trans (Eq.trans (Eq.trans (Eq.trans (Eq.trans (Eq.trans (Eq.trans rfl (if_neg b1)) (if_neg b4)) (if_neg b7)) (if_neg b18)) (if_neg b29)) (if_neg b57)) (if_neg b66)) (if_pos b77)) (if_neg b81)) (if_neg b84)) dX5_isSo_204
  have k87 := Eq.mp (if_neg b77) k76
  refine xTabD (tgt := 205) (exc := [0, 1, 2, 9, 10, 11, 12, 13]) hx hb dX5_isSo_1 (xCons (lv_neT b1 (by decide)) (xCons (lv_neT b4 (by decide)) (xCons (lv_neT b7 (by decide)) (xCons (lv_neT b18 (by decide)) (xCons (lv_neT b29 (by decide)) (xCons (lv_neT b57 (by decide)) (xCons (lv_neT b66 (by decide)) (xCons (lv_neT b77 (by decide)) xNil)))))))) (by decide) (by decide +kernel) ?_
  refine lv_aload_n hx hb dX5_isSo_205 rfl (lv_at hl 0 rfl) ?_
  refine lv_iload_n hx hb dX5_isSo_206 rfl (lv_at hl 2 rfl) ?_
  have o88 := k87.1
  have k89 := k87.2
  refine xR_i (va_runV (As := [.int a]) (rest := []) ⟨hx, hb, hml, hown, hts⟩ (c_X5_isValue l w me mb mc mt mk mr mq mv a o88) (cwV 1 hts gX5_isSo_X5_isValue rfl rfl rfl dv_X5_isValue ⟨Nat.le_of_ble_eq_true rfl, Nat.le_of_ble_eq_true rfl⟩) (wPreV hP hK (ci := 6) (q0 := 0) rfl rfl) rfl rfl hl.1 rfl (lv_room (Nat.le_of_ble_eq_true rfl)) dX5_isSo_207 ⟨Nat.zero_le _, Nat.zero_le _⟩) ?_
  refine lv_if_eq (tgt := 225) hx hb dX5_isSo_210 (by decide) (fun b90 => ?_) (fun b90 => ?_)
  ·
    have k91 := Eq.mp (if_pos b90) k89
    refine lv_iconst (v := 0) hx hb dX5_isSo_225 (by decide) ?_
    exact xR_zret hx hb hr hlk (by first | rfl | exact narZ (G_X5_isCell_01 _ _)) (Eq.trans (Eq.trans (Eq.trans (Eq.trans (Eq.trans (Eq.trans (Eq.trans (Eq.trans (Eq.trans rfl (if_neg b1)) (if_neg b4)) (if_neg b7)) (if_neg b18)) (if_neg b29)) (if_neg b57)) (if_neg b66)) (if_neg b77)) (if_pos b90)) dX5_isSo_226
  ·
    have k92 := Eq.mp (if_neg b90) k89
    refine lv_aload_n hx hb dX5_isSo_213 rfl (lv_at hl 0 rfl) ?_
    refine lv_iload_n hx hb dX5_isSo_214 rfl (lv_at hl 3 rfl) ?_
    have o93 := k92.1
    have k94 := k92.2
    refine xR_i (va_runV (As := [.int b]) (rest := []) ⟨hx, hb, hml, hown, hts⟩ (c_X5_isValue l w me mb mc mt mk mr mq mv b o93) (cwV 1 hts gX5_isSo_X5_isValue rfl rfl rfl dv_X5_isValue ⟨Nat.le_of_ble_eq_true rfl, Nat.le_of_ble_eq_true rfl⟩) (wPreV hP hK (ci := 6) (q0 := 0) rfl rfl) rfl rfl hl.1 rfl (lv_room (Nat.le_of_ble_eq_true rfl)) dX5_isSo_215 ⟨Nat.zero_le _, Nat.zero_le _⟩) ?_
    refine lv_if_eq (tgt := 225) hx hb dX5_isSo_218 (by decide) (fun b95 => ?_) (fun b95 => ?_)
    ·
      have k96 := Eq.mp (if_pos b95) k94
      refine lv_iconst (v := 0) hx hb dX5_isSo_225 (by decide) ?_
      exact xR_zret hx hb hr hlk (by first | rfl | exact narZ (G_X5_isCell_01 _ _)) (Eq.trans (Eq.trans (Eq.trans (Eq.trans (Eq.trans (Eq.trans (Eq.trans (Eq.trans (Eq.trans (Eq.trans rfl (if_neg b1)) (if_neg b4)) (if_neg b7)) (if_neg b18)) (if_neg b29)) (if_neg b57)) (if_neg b66)) (if_neg b77)) (if_neg b90)) (if_pos b95)) dX5_isSo_226
    ·
      have k97 := Eq.mp (if_neg b95) k94
      refine lv_iconst (v := 1) hx hb dX5_isSo_221 (by decide) ?_
      refine lv_goto (tgt := 226) hx hb dX5_isSo_222 (by decide) ?_
      exact xR_zret hx hb hr hlk (by first | rfl | exact narZ (G_X5_isCell_01 _ _)) (Eq.trans (Eq.trans (Eq.trans (Eq.trans (Eq.trans (Eq.trans (Eq.trans (Eq.trans (Eq.trans (Eq.trans rfl (if_neg b1)) (if_neg b4)) (if_neg b7)) (if_neg b18)) (if_neg b29)) (if_neg b57)) (if_neg b66)) (if_neg b77)) (if_neg b90)) (if_neg b95)) dX5_isSo_226
def G_X5_reckoned  (kd : Int32) (y : Int64) (z : Int64) : Int64 := if kd = (3 : Int32) then (y + z) else (if kd = (4 : Int32) then (y - z) else (if kd = (5 : Int32) then (y * z) else (if kd = (6 : Int32) then (y / z) else (if kd = (7 : Int32) then (if 0 ≤ (lg_cmp y z) then ((0 : Int64)) else ((1 : Int64))) else (if (lg_cmp y z) = 0 then ((1 : Int64)) else ((0 : Int64)))))))
def OK_X5_reckoned  (kd : Int32) (y : Int64) (z : Int64) : Prop := if kd = (3 : Int32) then (True) else (if kd = (4 : Int32) then (True) else (if kd = (5 : Int32) then (True) else (if kd = (6 : Int32) then ((¬ z = 0) ∧ (True)) else (if kd = (7 : Int32) then (if 0 ≤ (lg_cmp y z) then (True) else (True)) else (if (lg_cmp y z) = 0 then (True) else (True))))))
set_option maxHeartbeats 4000000 in
set_option maxRecDepth 100000 in
theorem c_X5_reckoned (l : Launch) (w : WG) (me : ME) (mb : AI) (mc : MC) (mt : MT) (mk : MK) (mr : MR) (mq : MQS) (mv : MV) (kd : Int32) (y : Int64) (z : Int64) (hok : OK_X5_reckoned kd y z) : Met l yX5_reckoned wsX5_reckoned { frames := 0, cells := 0, slots := 0, locals := 0 } (va_Pc [.int kd, .long y, .long z] (wPK w (wM w me mb mc mt mk mr mq mv))) (xR (some (.long (G_X5_reckoned kd y z)))) 0 0 xNo := by
  refine xOf (cc := cX5_reckoned) (maxL := 5) (ret := (some .long)) (lv := [(0, .int kd), (1, .long y), (3, .long z)]) (by decide) rfl (Nat.le_of_ble_eq_true rfl) rfl ?_
  intro pP eE S mM below meth C hx hb hr hml hts hown hlk hnm hw ls hl
  obtain ⟨hP, hK⟩ := hw
  refine lv_iload_n hx hb dX5_reckoned_0 rfl (lv_at hl 0 rfl) ?_
  by_cases b1 : kd = (3 : Int32)
  ·
    have k2 := Eq.mp (if_pos b1) hok
    refine xTabK (tgt := 36) (z := 3) hx hb dX5_reckoned_1 (by rw [b1]; decide) (by decide +kernel) ?_
    refine lv_lload_n hx hb dX5_reckoned_36 rfl (lv_at hl 1 rfl) ?_
    refine lv_lload_n hx hb dX5_reckoned_37 rfl (lv_at hl 2 rfl) ?_
    refine lv_ladd hx hb dX5_reckoned_38 ?_
    exact xR_lret hx hb hr hlk  (Eq.trans rfl (if_pos b1)) dX5_reckoned_39
  have k3 := Eq.mp (if_neg b1) hok
  by_cases b4 : kd = (4 : Int32)
  ·
    have k5 := Eq.mp (if_pos b4) k3
    refine xTabK (tgt := 40) (z := 4) hx hb dX5_reckoned_1 (by rw [b4]; decide) (by decide +kernel) ?_
    refine lv_lload_n hx hb dX5_reckoned_40 rfl (lv_at hl 1 rfl) ?_
    refine lv_lload_n hx hb dX5_reckoned_41 rfl (lv_at hl 2 rfl) ?_
    refine lv_lsub hx hb dX5_reckoned_42 ?_
    exact xR_lret hx hb hr hlk  (Eq.trans (Eq.trans rfl (if_neg b1)) (if_pos b4)) dX5_reckoned_43
  have k6 := Eq.mp (if_neg b4) k3
  by_cases b7 : kd = (5 : Int32)
  ·
    have k8 := Eq.mp (if_pos b7) k6
    refine xTabK (tgt := 44) (z := 5) hx hb dX5_reckoned_1 (by rw [b7]; decide) (by decide +kernel) ?_
    refine lv_lload_n hx hb dX5_reckoned_44 rfl (lv_at hl 1 rfl) ?_
    refine lv_lload_n hx hb dX5_reckoned_45 rfl (lv_at hl 2 rfl) ?_
    refine lv_lmul hx hb dX5_reckoned_46 ?_
    exact xR_lret hx hb hr hlk  (Eq.trans (Eq.trans (Eq.trans rfl (if_neg b1)) (if_neg b4)) (if_pos b7)) dX5_reckoned_47
  have k9 := Eq.mp (if_neg b7) k6
  by_cases b10 : kd = (6 : Int32)
  ·
    have k11 := Eq.mp (if_pos b10) k9
    refine xTabK (tgt := 48) (z := 6) hx hb dX5_reckoned_1 (by rw [b10]; decide) (by decide +kernel) ?_
    refine lv_lload_n hx hb dX5_reckoned_48 rfl (lv_at hl 1 rfl) ?_
    refine lv_lload_n hx hb dX5_reckoned_49 rfl (lv_at hl 2 rfl) ?_
    have o12 := k11.1
    have k13 := k11.2
    refine lv_ldiv hx hb dX5_reckoned_50 o12 ?_
    exact xR_lret hx hb hr hlk  (Eq.trans (Eq.trans (Eq.trans (Eq.trans rfl (if_neg b1)) (if_neg b4)) (if_neg b7)) (if_pos b10)) dX5_reckoned_51
  have k14 := Eq.mp (if_neg b10) k9
  by_cases b15 : kd = (7 : Int32)
  ·
    have k16 := Eq.mp (if_pos b15) k14
    refine xTabK (tgt := 52) (z := 7) hx hb dX5_reckoned_1 (by rw [b15]; decide) (by decide +kernel) ?_
    refine lv_lload_n hx hb dX5_reckoned_52 rfl (lv_at hl 1 rfl) ?_
    refine lv_lload_n hx hb dX5_reckoned_53 rfl (lv_at hl 2 rfl) ?_
    refine W.lcmp hx hb dX5_reckoned_54 ?_
    refine lv_if_ge (tgt := 62) hx hb dX5_reckoned_55 (by decide) (fun b17 => ?_) (fun b17 => ?_)
    ·
      have k18 := Eq.mp (if_pos b17) k16
      refine lv_lconst (v := 0) hx hb dX5_reckoned_62 (by decide) ?_
      exact xR_lret hx hb hr hlk  (Eq.trans (Eq.trans (Eq.trans (Eq.trans (Eq.trans (Eq.trans rfl (if_neg b1)) (if_neg b4)) (if_neg b7)) (if_neg b10)) (if_pos b15)) (if_pos b17)) dX5_reckoned_63
    ·
      have k19 := Eq.mp (if_neg b17) k16
      refine lv_lconst (v := 1) hx hb dX5_reckoned_58 (by decide) ?_
      refine lv_goto (tgt := 63) hx hb dX5_reckoned_59 (by decide) ?_
      exact xR_lret hx hb hr hlk  (Eq.trans (Eq.trans (Eq.trans (Eq.trans (Eq.trans (Eq.trans rfl (if_neg b1)) (if_neg b4)) (if_neg b7)) (if_neg b10)) (if_pos b15)) (if_neg b17)) dX5_reckoned_63
  have k20 := Eq.mp (if_neg b15) k14
  refine xTabD (tgt := 64) (exc := [3, 4, 5, 6, 7]) hx hb dX5_reckoned_1 (xCons (lv_neT b1 (by decide)) (xCons (lv_neT b4 (by decide)) (xCons (lv_neT b7 (by decide)) (xCons (lv_neT b10 (by decide)) (xCons (lv_neT b15 (by decide)) xNil))))) (by decide) (by decide +kernel) ?_
  refine lv_lload_n hx hb dX5_reckoned_64 rfl (lv_at hl 1 rfl) ?_
  refine lv_lload_n hx hb dX5_reckoned_65 rfl (lv_at hl 2 rfl) ?_
  refine W.lcmp hx hb dX5_reckoned_66 ?_
  refine lv_if_ne (tgt := 74) hx hb dX5_reckoned_67 (by decide) (fun b21 => ?_) (fun b21 => ?_)
  ·
    have k22 := Eq.mp (if_neg b21) k20
    refine lv_lconst (v := 0) hx hb dX5_reckoned_74 (by decide) ?_
    exact xR_lret hx hb hr hlk  (Eq.trans (Eq.trans (Eq.trans (Eq.trans (Eq.trans (Eq.trans rfl (if_neg b1)) (if_neg b4)) (if_neg b7)) (if_neg b10)) (if_neg b15)) (if_neg b21)) dX5_reckoned_75
  ·
    have k23 := Eq.mp (if_pos b21) k20
    refine lv_lconst (v := 1) hx hb dX5_reckoned_70 (by decide) ?_
    refine lv_goto (tgt := 75) hx hb dX5_reckoned_71 (by decide) ?_
    exact xR_lret hx hb hr hlk  (Eq.trans (Eq.trans (Eq.trans (Eq.trans (Eq.trans (Eq.trans rfl (if_neg b1)) (if_neg b4)) (if_neg b7)) (if_neg b10)) (if_neg b15)) (if_pos b21)) dX5_reckoned_75
set_option maxRecDepth 20000 in
theorem mw_X5_digitsOf_k92 : Cond.constantLong RX5 92 (10) ∈ wsX5_digitsOf := by decide +kernel
def G_X5_digitsOf_L20  (v : Int64) : Nat → Int32 → Int64 → Int32
  | 0, _, _ => 0
  | fu + 1, n, lf => if (lg_cmp lf (0 : Int64)) ≤ 0 then (n) else (G_X5_digitsOf_L20 v fu (n + (1 : Int32)) (lf / (10 : Int64)))
def OK_X5_digitsOf_L20  (v : Int64) : Nat → Int32 → Int64 → Prop
  | 0, _, _ => False
  | fu + 1, n, lf => if (lg_cmp lf (0 : Int64)) ≤ 0 then (True) else (OK_X5_digitsOf_L20 v fu (n + (1 : Int32)) (lf / (10 : Int64)))
def G_X5_digitsOf  (v : Int64) : Int32 := if 0 ≤ (lg_cmp v (0 : Int64)) then (G_X5_digitsOf_L20 v 22 (1 : Int32) (v / (10 : Int64))) else (G_X5_digitsOf_L20 v 22 (1 : Int32) (((0 : Int64) - v) / (10 : Int64)))
def OK_X5_digitsOf  (v : Int64) : Prop := if 0 ≤ (lg_cmp v (0 : Int64)) then (OK_X5_digitsOf_L20 v 22 (1 : Int32) (v / (10 : Int64))) else (OK_X5_digitsOf_L20 v 22 (1 : Int32) (((0 : Int64) - v) / (10 : Int64)))
set_option maxHeartbeats 4000000 in
set_option maxRecDepth 100000 in
theorem L_X5_digitsOf_L20 (l : Launch) (w : WG) (me : ME) (mb : AI) (mc : MC) (mt : MT) (mk : MK) (mr : MR) (mq : MQS) (mv : MV) (v : Int64) {pP : Program} {eE : Env} {S : State} {mM : MethodId} {below : List Frame} {meth : Method} {C : Code} (hx : pP.tables.exec = Jvm.exec) (hb : C.code = cX5_digitsOf) (hr : meth.sig.returnType = (some .int)) (hml : C.maxLocals = 5) (hts : ∀ q9 ∈ wsX5_digitsOf, q9.before ([.long v] : List Value).toArray S = true) (hown : S.vm.findClass yX5_digitsOf.cls = some mM.cls) (hlk : meth.locks = false) (hK : wK w S) (g : Int32) :
    ∀ (fu : Nat) (n : Int32) (lf : Int64), va_P w.1 vwCl (wM w me mb mc mt mk mr mq mv) S.heap → OK_X5_digitsOf_L20 v fu n lf → g = G_X5_digitsOf_L20 v fu n lf → ∀ ls : Array Slot, lv_has ls 5 [(2, .int n), (3, .long lf)] → W pP l eE { frames := 0, cells := 0, slots := 0, locals := 0 } S mM ([.long v] : List Value).toArray below meth C S.heap [] 0 0 (MQ below (xR (some (.int g))) ([.long v] : List Value).toArray S 0 0 xNo) (F0 mM 20 ls []) := by
  intro fu
  induction fu with
  | zero =>
    intro n lf hP hok hg ls hl
    exact hok.elim
  | succ fu ih =>
    intro n lf hP hok hg ls hl
    refine lv_lload_n hx hb dX5_digitsOf_20 rfl (lv_at hl 1 rfl) ?_
    refine lv_lconst (v := 0) hx hb dX5_digitsOf_21 (by decide) ?_
    refine W.lcmp hx hb dX5_digitsOf_22 ?_
    refine lv_if_le (tgt := 38) hx hb dX5_digitsOf_23 (by decide) (fun b1 => ?_) (fun b1 => ?_)
    ·
      have k2 := Eq.mp (if_pos b1) hok
      refine lv_iload_n hx hb dX5_digitsOf_38 rfl (lv_at hl 0 rfl) ?_
      exact xR_iret hx hb hr hlk  (Eq.trans hg (if_pos b1)) dX5_digitsOf_39
    ·
      have k3 := Eq.mp (if_neg b1) hok
      refine lv_lload_n hx hb dX5_digitsOf_26 rfl (lv_at hl 1 rfl) ?_
      refine lv_ldc2 (v := 10) hx hb hown (hts _ mw_X5_digitsOf_k92) dX5_digitsOf_27 ?_
      refine lv_ldiv hx hb dX5_digitsOf_30 (by decide) ?_
      refine lv_lstore_n (lv' := [(3, .long (lf / (10 : Int64))), (2, .int n)]) hx hb dX5_digitsOf_31 rfl hl (by decide) rfl (fun ls hl => ?_)
      refine lv_iinc (v := n + (1 : Int32)) (lv' := [(2, .int (n + (1 : Int32))), (3, .long (lf / (10 : Int64)))]) hx hb dX5_digitsOf_32 hl (k := 1) rfl rfl (by decide) rfl (fun ls hl => ?_)
      refine lv_goto (tgt := 20) hx hb dX5_digitsOf_35 (by decide) ?_
      exact ih (n + (1 : Int32)) (lf / (10 : Int64)) hP k3 (Eq.trans hg (if_neg b1)) ls (lv_sub hl [0, 1] rfl)
set_option maxHeartbeats 4000000 in
set_option maxRecDepth 100000 in
theorem c_X5_digitsOf (l : Launch) (w : WG) (me : ME) (mb : AI) (mc : MC) (mt : MT) (mk : MK) (mr : MR) (mq : MQS) (mv : MV) (v : Int64) (hok : OK_X5_digitsOf v) : Met l yX5_digitsOf wsX5_digitsOf { frames := 0, cells := 0, slots := 0, locals := 0 } (va_Pc [.long v] (wPK w (wM w me mb mc mt mk mr mq mv))) (xR (some (.int (G_X5_digitsOf v)))) 0 0 xNo := by
  refine xOf (cc := cX5_digitsOf) (maxL := 5) (ret := (some .int)) (lv := [(0, .long v)]) (by decide) rfl (Nat.le_of_ble_eq_true rfl) rfl ?_
  intro pP eE S mM below meth C hx hb hr hml hts hown hlk hnm hw ls hl
  obtain ⟨hP, hK⟩ := hw
  refine lv_iconst (v := 1) hx hb dX5_digitsOf_0 (by decide) ?_
  refine lv_istore_n (lv' := [(2, .int (1 : Int32)), (0, .long v)]) hx hb dX5_digitsOf_1 rfl hl (by decide) rfl (fun ls hl => ?_)
  refine lv_lload_n hx hb dX5_digitsOf_2 rfl (lv_at hl 1 rfl) ?_
  refine lv_lconst (v := 0) hx hb dX5_digitsOf_3 (by decide) ?_
  refine W.lcmp hx hb dX5_digitsOf_4 ?_
  refine lv_if_ge (tgt := 14) hx hb dX5_digitsOf_5 (by decide) (fun b1 => ?_) (fun b1 => ?_)
  ·
    have k2 := Eq.mp (if_pos b1) hok
    refine lv_lload_n hx hb dX5_digitsOf_14 rfl (lv_at hl 1 rfl) ?_
    refine lv_ldc2 (v := 10) hx hb hown (hts _ mw_X5_digitsOf_k92) dX5_digitsOf_15 ?_
    refine lv_ldiv hx hb dX5_digitsOf_18 (by decide) ?_
    refine lv_lstore_n (lv' := [(3, .long (v / (10 : Int64))), (2, .int (1 : Int32)), (0, .long v)]) hx hb dX5_digitsOf_19 rfl hl (by decide) rfl (fun ls hl => ?_)
    exact L_X5_digitsOf_L20 l w me mb mc mt mk mr mq mv v  hx hb hr hml hts hown hlk hK _ 22 (1 : Int32) (v / (10 : Int64)) hP k2 (Eq.trans rfl (if_pos b1)) ls (lv_sub hl [1, 0] rfl)
  ·
    have k3 := Eq.mp (if_neg b1) hok
    refine lv_lconst (v := 0) hx hb dX5_digitsOf_8 (by decide) ?_
    refine lv_lload_n hx hb dX5_digitsOf_9 rfl (lv_at hl 1 rfl) ?_
    refine lv_lsub hx hb dX5_digitsOf_10 ?_
    refine lv_goto (tgt := 15) hx hb dX5_digitsOf_11 (by decide) ?_
    refine lv_ldc2 (v := 10) hx hb hown (hts _ mw_X5_digitsOf_k92) dX5_digitsOf_15 ?_
    refine lv_ldiv hx hb dX5_digitsOf_18 (by decide) ?_
    refine lv_lstore_n (lv' := [(3, .long (((0 : Int64) - v) / (10 : Int64))), (2, .int (1 : Int32)), (0, .long v)]) hx hb dX5_digitsOf_19 rfl hl (by decide) rfl (fun ls hl => ?_)
    exact L_X5_digitsOf_L20 l w me mb mc mt mk mr mq mv v  hx hb hr hml hts hown hlk hK _ 22 (1 : Int32) (((0 : Int64) - v) / (10 : Int64)) hP k3 (Eq.trans rfl (if_neg b1)) ls (lv_sub hl [1, 0] rfl)
set_option maxRecDepth 20000 in
theorem iw_X5_sureOf_X5 : ∀ w ∈ wsX50, w ∈ wsX5_sureOf := by decide +kernel
set_option maxRecDepth 20000 in
theorem fl_X5_sureOf_35 : Cond.fieldLink RX5 35 "ProcedureCodeModel" "sure" "[I" ∈ wsX5_sureOf := by decide +kernel
set_option maxRecDepth 20000 in
theorem fl_X5_sureOf_13 : Cond.fieldLink RX5 13 "ProcedureCodeModel" "usages" "[I" ∈ wsX5_sureOf := by decide +kernel
set_option maxRecDepth 20000 in
theorem fl_X5_sureOf_17 : Cond.fieldLink RX5 17 "ProcedureCodeModel" "digits" "[I" ∈ wsX5_sureOf := by decide +kernel
set_option maxRecDepth 20000 in
theorem ds_X5_digitsOf : yX5_digitsOf.cls ≠ "java/lang/invoke/MethodHandle" ∧ yX5_digitsOf.cls ≠ "java/lang/invoke/VarHandle" ∧ (parseMethodDescriptor yX5_digitsOf.desc).map (fun d => d.parameters.length) = some 1 := by decide +kernel
def G_X5_sureOf_L140 (mc : MC) (mt : MT) (kd : Int32) (a : Int32) (b : Int32) : Nat → Int32 → Int32
  | 0, _ => 0
  | fu + 1, n => if n ≤ (10000 : Int32) then (n) else ((10000 : Int32))
def OK_X5_sureOf_L140 (mc : MC) (mt : MT) (kd : Int32) (a : Int32) (b : Int32) : Nat → Int32 → Prop
  | 0, _ => False
  | fu + 1, n => if n ≤ (10000 : Int32) then (True) else (True)
def G_X5_sureOf_L125 (mc : MC) (mt : MT) (kd : Int32) (a : Int32) (b : Int32) : Nat → Int32 → Int32
  | 0, _ => 0
  | fu + 1, n => if kd = (7 : Int32) then (G_X5_sureOf_L140 mc mt kd a b 1 (1 : Int32)) else (if kd = (8 : Int32) then (G_X5_sureOf_L140 mc mt kd a b 1 (1 : Int32)) else (G_X5_sureOf_L140 mc mt kd a b 1 n))
def OK_X5_sureOf_L125 (mc : MC) (mt : MT) (kd : Int32) (a : Int32) (b : Int32) : Nat → Int32 → Prop
  | 0, _ => False
  | fu + 1, n => if kd = (7 : Int32) then (OK_X5_sureOf_L140 mc mt kd a b 1 (1 : Int32)) else (if kd = (8 : Int32) then (OK_X5_sureOf_L140 mc mt kd a b 1 (1 : Int32)) else (OK_X5_sureOf_L140 mc mt kd a b 1 n))
def G_X5_sureOf_L111 (mc : MC) (mt : MT) (kd : Int32) (a : Int32) (b : Int32) : Nat → Int32 → Int32
  | 0, _ => 0
  | fu + 1, n => if kd = (6 : Int32) then (G_X5_sureOf_L125 mc mt kd a b 1 (mt.2.2.2.2.1 a.toNatClampNeg)) else (G_X5_sureOf_L125 mc mt kd a b 1 n)
def OK_X5_sureOf_L111 (mc : MC) (mt : MT) (kd : Int32) (a : Int32) (b : Int32) : Nat → Int32 → Prop
  | 0, _ => False
  | fu + 1, n => if kd = (6 : Int32) then ((vp_in a 201) ∧ (OK_X5_sureOf_L125 mc mt kd a b 1 (mt.2.2.2.2.1 a.toNatClampNeg))) else (OK_X5_sureOf_L125 mc mt kd a b 1 n)
def G_X5_sureOf_L91 (mc : MC) (mt : MT) (kd : Int32) (a : Int32) (b : Int32) : Nat → Int32 → Int32
  | 0, _ => 0
  | fu + 1, n => if kd = (5 : Int32) then (G_X5_sureOf_L111 mc mt kd a b 1 ((mt.2.2.2.2.1 a.toNatClampNeg) + (mt.2.2.2.2.1 b.toNatClampNeg))) else (G_X5_sureOf_L111 mc mt kd a b 1 n)
def OK_X5_sureOf_L91 (mc : MC) (mt : MT) (kd : Int32) (a : Int32) (b : Int32) : Nat → Int32 → Prop
  | 0, _ => False
  | fu + 1, n => if kd = (5 : Int32) then ((vp_in a 201) ∧ ((vp_in b 201) ∧ (OK_X5_sureOf_L111 mc mt kd a b 1 ((mt.2.2.2.2.1 a.toNatClampNeg) + (mt.2.2.2.2.1 b.toNatClampNeg))))) else (OK_X5_sureOf_L111 mc mt kd a b 1 n)
def G_X5_sureOf_L47 (mc : MC) (mt : MT) (kd : Int32) (a : Int32) (b : Int32) : Nat → Int32 → Int32
  | 0, _ => 0
  | fu + 1, n => if kd = (3 : Int32) then (if (mt.2.2.2.2.1 a.toNatClampNeg) ≤ (mt.2.2.2.2.1 b.toNatClampNeg) then (G_X5_sureOf_L91 mc mt kd a b 1 ((1 : Int32) + (mt.2.2.2.2.1 b.toNatClampNeg))) else (G_X5_sureOf_L91 mc mt kd a b 1 ((1 : Int32) + (mt.2.2.2.2.1 a.toNatClampNeg)))) else (if kd = (4 : Int32) then (if (mt.2.2.2.2.1 a.toNatClampNeg) ≤ (mt.2.2.2.2.1 b.toNatClampNeg) then (G_X5_sureOf_L91 mc mt kd a b 1 ((1 : Int32) + (mt.2.2.2.2.1 b.toNatClampNeg))) else (G_X5_sureOf_L91 mc mt kd a b 1 ((1 : Int32) + (mt.2.2.2.2.1 a.toNatClampNeg)))) else (G_X5_sureOf_L91 mc mt kd a b 1 n))
def OK_X5_sureOf_L47 (mc : MC) (mt : MT) (kd : Int32) (a : Int32) (b : Int32) : Nat → Int32 → Prop
  | 0, _ => False
  | fu + 1, n => if kd = (3 : Int32) then ((vp_in a 201) ∧ ((vp_in b 201) ∧ (if (mt.2.2.2.2.1 a.toNatClampNeg) ≤ (mt.2.2.2.2.1 b.toNatClampNeg) then ((vp_in b 201) ∧ (OK_X5_sureOf_L91 mc mt kd a b 1 ((1 : Int32) + (mt.2.2.2.2.1 b.toNatClampNeg)))) else ((vp_in a 201) ∧ (OK_X5_sureOf_L91 mc mt kd a b 1 ((1 : Int32) + (mt.2.2.2.2.1 a.toNatClampNeg))))))) else (if kd = (4 : Int32) then ((vp_in a 201) ∧ ((vp_in b 201) ∧ (if (mt.2.2.2.2.1 a.toNatClampNeg) ≤ (mt.2.2.2.2.1 b.toNatClampNeg) then ((vp_in b 201) ∧ (OK_X5_sureOf_L91 mc mt kd a b 1 ((1 : Int32) + (mt.2.2.2.2.1 b.toNatClampNeg)))) else ((vp_in a 201) ∧ (OK_X5_sureOf_L91 mc mt kd a b 1 ((1 : Int32) + (mt.2.2.2.2.1 a.toNatClampNeg))))))) else (OK_X5_sureOf_L91 mc mt kd a b 1 n))
def G_X5_sureOf_L14 (mc : MC) (mt : MT) (kd : Int32) (a : Int32) (b : Int32) : Nat → Int32 → Int32
  | 0, _ => 0
  | fu + 1, n => if kd = (1 : Int32) then (if (mc.2.1 a.toNatClampNeg) = (2 : Int32) then (G_X5_sureOf_L47 mc mt kd a b 1 (10 : Int32)) else (G_X5_sureOf_L47 mc mt kd a b 1 (mc.2.2.1 a.toNatClampNeg))) else (if kd = (2 : Int32) then (if (mc.2.1 a.toNatClampNeg) = (2 : Int32) then (G_X5_sureOf_L47 mc mt kd a b 1 (10 : Int32)) else (G_X5_sureOf_L47 mc mt kd a b 1 (mc.2.2.1 a.toNatClampNeg))) else (G_X5_sureOf_L47 mc mt kd a b 1 n))
def OK_X5_sureOf_L14 (mc : MC) (mt : MT) (kd : Int32) (a : Int32) (b : Int32) : Nat → Int32 → Prop
  | 0, _ => False
  | fu + 1, n => if kd = (1 : Int32) then ((vp_in a 40) ∧ (if (mc.2.1 a.toNatClampNeg) = (2 : Int32) then (OK_X5_sureOf_L47 mc mt kd a b 1 (10 : Int32)) else ((vp_in a 40) ∧ (OK_X5_sureOf_L47 mc mt kd a b 1 (mc.2.2.1 a.toNatClampNeg))))) else (if kd = (2 : Int32) then ((vp_in a 40) ∧ (if (mc.2.1 a.toNatClampNeg) = (2 : Int32) then (OK_X5_sureOf_L47 mc mt kd a b 1 (10 : Int32)) else ((vp_in a 40) ∧ (OK_X5_sureOf_L47 mc mt kd a b 1 (mc.2.2.1 a.toNatClampNeg))))) else (OK_X5_sureOf_L47 mc mt kd a b 1 n))
def G_X5_sureOf (mc : MC) (mt : MT) (kd : Int32) (a : Int32) (b : Int32) : Int32 := if kd = 0 then (G_X5_sureOf_L14 mc mt kd a b 1 (G_X5_digitsOf a.toInt64)) else (G_X5_sureOf_L14 mc mt kd a b 1 (0 : Int32))
def OK_X5_sureOf (mc : MC) (mt : MT) (kd : Int32) (a : Int32) (b : Int32) : Prop := if kd = 0 then ((OK_X5_digitsOf a.toInt64) ∧ (OK_X5_sureOf_L14 mc mt kd a b 1 (G_X5_digitsOf a.toInt64))) else (OK_X5_sureOf_L14 mc mt kd a b 1 (0 : Int32))
set_option maxHeartbeats 4000000 in
set_option maxRecDepth 100000 in
theorem L_X5_sureOf_L140 (l : Launch) (w : WG) (me : ME) (mb : AI) (mc : MC) (mt : MT) (mk : MK) (mr : MR) (mq : MQS) (mv : MV) (kd : Int32) (a : Int32) (b : Int32) {pP : Program} {eE : Env} {S : State} {mM : MethodId} {below : List Frame} {meth : Method} {C : Code} (hx : pP.tables.exec = Jvm.exec) (hb : C.code = cX5_sureOf) (hr : meth.sig.returnType = (some .int)) (hml : C.maxLocals = 5) (hts : ∀ q9 ∈ wsX5_sureOf, q9.before ([.ref (w.2.2 0), .int kd, .int a, .int b] : List Value).toArray S = true) (hown : S.vm.findClass yX5_sureOf.cls = some mM.cls) (hlk : meth.locks = false) (hK : wK w S) (g : Int32) :
    ∀ (fu : Nat) (n : Int32), va_P w.1 vwCl (wM w me mb mc mt mk mr mq mv) S.heap → OK_X5_sureOf_L140 mc mt kd a b fu n → g = G_X5_sureOf_L140 mc mt kd a b fu n → ∀ ls : Array Slot, lv_has ls 5 [(0, .ref (w.2.2 0)), (1, .int kd), (2, .int a), (3, .int b), (4, .int n)] → W pP l eE { frames := 1, cells := 0, slots := 0, locals := 24 } S mM ([.ref (w.2.2 0), .int kd, .int a, .int b] : List Value).toArray below meth C S.heap [] 0 0 (MQ below (xR (some (.int g))) ([.ref (w.2.2 0), .int kd, .int a, .int b] : List Value).toArray S 0 0 xNo) (F0 mM 140 ls []) := by
  intro fu
  induction fu with
  | zero =>
    intro n hP hok hg ls hl
    exact hok.elim
  | succ fu ih =>
    intro n hP hok hg ls hl
    refine lv_iload hx hb dX5_sureOf_140 (lv_at hl 4 rfl) ?_
    refine lv_sipush (v := 10000) hx hb dX5_sureOf_142 (by decide) ?_
    refine lv_icmp_le (tgt := 154) hx hb dX5_sureOf_145 (by decide) (fun b1 => ?_) (fun b1 => ?_)
    ·
      have k2 := Eq.mp (if_pos b1) hok
      refine lv_iload hx hb dX5_sureOf_154 (lv_at hl 4 rfl) ?_
      exact xR_iret hx hb hr hlk  (Eq.trans hg (if_pos b1)) dX5_sureOf_156
    ·
      have k3 := Eq.mp (if_neg b1) hok
      refine lv_sipush (v := 10000) hx hb dX5_sureOf_148 (by decide) ?_
      refine lv_goto (tgt := 156) hx hb dX5_sureOf_151 (by decide) ?_
      exact xR_iret hx hb hr hlk  (Eq.trans hg (if_neg b1)) dX5_sureOf_156
set_option maxHeartbeats 4000000 in
set_option maxRecDepth 100000 in
theorem L_X5_sureOf_L125 (l : Launch) (w : WG) (me : ME) (mb : AI) (mc : MC) (mt : MT) (mk : MK) (mr : MR) (mq : MQS) (mv : MV) (kd : Int32) (a : Int32) (b : Int32) {pP : Program} {eE : Env} {S : State} {mM : MethodId} {below : List Frame} {meth : Method} {C : Code} (hx : pP.tables.exec = Jvm.exec) (hb : C.code = cX5_sureOf) (hr : meth.sig.returnType = (some .int)) (hml : C.maxLocals = 5) (hts : ∀ q9 ∈ wsX5_sureOf, q9.before ([.ref (w.2.2 0), .int kd, .int a, .int b] : List Value).toArray S = true) (hown : S.vm.findClass yX5_sureOf.cls = some mM.cls) (hlk : meth.locks = false) (hK : wK w S) (g : Int32) :
    ∀ (fu : Nat) (n : Int32), va_P w.1 vwCl (wM w me mb mc mt mk mr mq mv) S.heap → OK_X5_sureOf_L125 mc mt kd a b fu n → g = G_X5_sureOf_L125 mc mt kd a b fu n → ∀ ls : Array Slot, lv_has ls 5 [(0, .ref (w.2.2 0)), (1, .int kd), (2, .int a), (3, .int b), (4, .int n)] → W pP l eE { frames := 1, cells := 0, slots := 0, locals := 24 } S mM ([.ref (w.2.2 0), .int kd, .int a, .int b] : List Value).toArray below meth C S.heap [] 0 0 (MQ below (xR (some (.int g))) ([.ref (w.2.2 0), .int kd, .int a, .int b] : List Value).toArray S 0 0 xNo) (F0 mM 125 ls []) := by
  intro fu
  induction fu with
  | zero =>
    intro n hP hok hg ls hl
    exact hok.elim
  | succ fu ih =>
    intro n hP hok hg ls hl
    refine lv_iload_n hx hb dX5_sureOf_125 rfl (lv_at hl 1 rfl) ?_
    refine lv_bipush (v := 7) hx hb dX5_sureOf_126 (by decide) ?_
    refine lv_icmp_eq (tgt := 137) hx hb dX5_sureOf_128 (by decide) (fun b1 => ?_) (fun b1 => ?_)
    ·
      have k2 := Eq.mp (if_pos b1) hok
      refine lv_iconst (v := 1) hx hb dX5_sureOf_137 (by decide) ?_
      refine lv_istore (lv' := [(4, .int (1 : Int32)), (0, .ref (w.2.2 0)), (1, .int kd), (2, .int a), (3, .int b)]) hx hb dX5_sureOf_138 hl (by decide) rfl (fun ls hl => ?_)
      exact L_X5_sureOf_L140 l w me mb mc mt mk mr mq mv kd a b  hx hb hr hml hts hown hlk hK _ 1 (1 : Int32) hP k2 (Eq.trans hg (if_pos b1)) ls (lv_sub hl [1, 2, 3, 4, 0] rfl)
    ·
      have k3 := Eq.mp (if_neg b1) hok
      refine lv_iload_n hx hb dX5_sureOf_131 rfl (lv_at hl 1 rfl) ?_
      refine lv_bipush (v := 8) hx hb dX5_sureOf_132 (by decide) ?_
      refine lv_icmp_ne (tgt := 140) hx hb dX5_sureOf_134 (by decide) (fun b4 => ?_) (fun b4 => ?_)
      ·
        have k5 := Eq.mp (if_neg b4) k3
        exact L_X5_sureOf_L140 l w me mb mc mt mk mr mq mv kd a b  hx hb hr hml hts hown hlk hK _ 1 n hP k5 (Eq.trans (Eq.trans hg (if_neg b1)) (if_neg b4)) ls (lv_sub hl [0, 1, 2, 3, 4] rfl)
      ·
        have k6 := Eq.mp (if_pos b4) k3
        refine lv_iconst (v := 1) hx hb dX5_sureOf_137 (by decide) ?_
        refine lv_istore (lv' := [(4, .int (1 : Int32)), (0, .ref (w.2.2 0)), (1, .int kd), (2, .int a), (3, .int b)]) hx hb dX5_sureOf_138 hl (by decide) rfl (fun ls hl => ?_)
        exact L_X5_sureOf_L140 l w me mb mc mt mk mr mq mv kd a b  hx hb hr hml hts hown hlk hK _ 1 (1 : Int32) hP k6 (Eq.trans (Eq.trans hg (if_neg b1)) (if_pos b4)) ls (lv_sub hl [1, 2, 3, 4, 0] rfl)
set_option maxHeartbeats 4000000 in
set_option maxRecDepth 100000 in
theorem L_X5_sureOf_L111 (l : Launch) (w : WG) (me : ME) (mb : AI) (mc : MC) (mt : MT) (mk : MK) (mr : MR) (mq : MQS) (mv : MV) (kd : Int32) (a : Int32) (b : Int32) {pP : Program} {eE : Env} {S : State} {mM : MethodId} {below : List Frame} {meth : Method} {C : Code} (hx : pP.tables.exec = Jvm.exec) (hb : C.code = cX5_sureOf) (hr : meth.sig.returnType = (some .int)) (hml : C.maxLocals = 5) (hts : ∀ q9 ∈ wsX5_sureOf, q9.before ([.ref (w.2.2 0), .int kd, .int a, .int b] : List Value).toArray S = true) (hown : S.vm.findClass yX5_sureOf.cls = some mM.cls) (hlk : meth.locks = false) (hK : wK w S) (g : Int32) :
    ∀ (fu : Nat) (n : Int32), va_P w.1 vwCl (wM w me mb mc mt mk mr mq mv) S.heap → OK_X5_sureOf_L111 mc mt kd a b fu n → g = G_X5_sureOf_L111 mc mt kd a b fu n → ∀ ls : Array Slot, lv_has ls 5 [(0, .ref (w.2.2 0)), (1, .int kd), (2, .int a), (3, .int b), (4, .int n)] → W pP l eE { frames := 1, cells := 0, slots := 0, locals := 24 } S mM ([.ref (w.2.2 0), .int kd, .int a, .int b] : List Value).toArray below meth C S.heap [] 0 0 (MQ below (xR (some (.int g))) ([.ref (w.2.2 0), .int kd, .int a, .int b] : List Value).toArray S 0 0 xNo) (F0 mM 111 ls []) := by
  intro fu
  induction fu with
  | zero =>
    intro n hP hok hg ls hl
    exact hok.elim
  | succ fu ih =>
    intro n hP hok hg ls hl
    refine lv_iload_n hx hb dX5_sureOf_111 rfl (lv_at hl 1 rfl) ?_
    refine lv_bipush (v := 6) hx hb dX5_sureOf_112 (by decide) ?_
    refine lv_icmp_ne (tgt := 125) hx hb dX5_sureOf_114 (by decide) (fun b1 => ?_) (fun b1 => ?_)
    ·
      have k2 := Eq.mp (if_neg b1) hok
      exact L_X5_sureOf_L125 l w me mb mc mt mk mr mq mv kd a b  hx hb hr hml hts hown hlk hK _ 1 n hP k2 (Eq.trans hg (if_neg b1)) ls (lv_sub hl [0, 1, 2, 3, 4] rfl)
    ·
      have k3 := Eq.mp (if_pos b1) hok
      refine lv_aload_n hx hb dX5_sureOf_117 rfl (lv_at hl 0 rfl) ?_
      refine va_get (D := w.1) (ci := 6) (v := .ref (w.2.2 9)) (C := RX5) (T := TX5) (N := 33) hx hb hts iw_X5_sureOf_X5 hown hK.1 hP 0 rfl rfl 10 (by decide) (hts _ fl_X5_sureOf_35) (fun _ h9 => h9) rfl dX5_sureOf_118 ?_
      refine lv_iload_n hx hb dX5_sureOf_121 rfl (lv_at hl 2 rfl) ?_
      have o4 := k3.1
      have k5 := k3.2
      refine va_iald hx hb hK.1 hP 9 0 rfl rfl o4 dX5_sureOf_122 ?_
      refine lv_istore (lv' := [(4, .int (mt.2.2.2.2.1 a.toNatClampNeg)), (0, .ref (w.2.2 0)), (1, .int kd), (2, .int a), (3, .int b)]) hx hb dX5_sureOf_123 hl (by decide) rfl (fun ls hl => ?_)
      exact L_X5_sureOf_L125 l w me mb mc mt mk mr mq mv kd a b  hx hb hr hml hts hown hlk hK _ 1 (mt.2.2.2.2.1 a.toNatClampNeg) hP k5 (Eq.trans hg (if_pos b1)) ls (lv_sub hl [1, 2, 3, 4, 0] rfl)
set_option maxHeartbeats 4000000 in
set_option maxRecDepth 100000 in
theorem L_X5_sureOf_L91 (l : Launch) (w : WG) (me : ME) (mb : AI) (mc : MC) (mt : MT) (mk : MK) (mr : MR) (mq : MQS) (mv : MV) (kd : Int32) (a : Int32) (b : Int32) {pP : Program} {eE : Env} {S : State} {mM : MethodId} {below : List Frame} {meth : Method} {C : Code} (hx : pP.tables.exec = Jvm.exec) (hb : C.code = cX5_sureOf) (hr : meth.sig.returnType = (some .int)) (hml : C.maxLocals = 5) (hts : ∀ q9 ∈ wsX5_sureOf, q9.before ([.ref (w.2.2 0), .int kd, .int a, .int b] : List Value).toArray S = true) (hown : S.vm.findClass yX5_sureOf.cls = some mM.cls) (hlk : meth.locks = false) (hK : wK w S) (g : Int32) :
    ∀ (fu : Nat) (n : Int32), va_P w.1 vwCl (wM w me mb mc mt mk mr mq mv) S.heap → OK_X5_sureOf_L91 mc mt kd a b fu n → g = G_X5_sureOf_L91 mc mt kd a b fu n → ∀ ls : Array Slot, lv_has ls 5 [(0, .ref (w.2.2 0)), (1, .int kd), (2, .int a), (3, .int b), (4, .int n)] → W pP l eE { frames := 1, cells := 0, slots := 0, locals := 24 } S mM ([.ref (w.2.2 0), .int kd, .int a, .int b] : List Value).toArray below meth C S.heap [] 0 0 (MQ below (xR (some (.int g))) ([.ref (w.2.2 0), .int kd, .int a, .int b] : List Value).toArray S 0 0 xNo) (F0 mM 91 ls []) := by
  intro fu
  induction fu with
  | zero =>
    intro n hP hok hg ls hl
    exact hok.elim
  | succ fu ih =>
    intro n hP hok hg ls hl
    refine lv_iload_n hx hb dX5_sureOf_91 rfl (lv_at hl 1 rfl) ?_
    refine lv_iconst (v := 5) hx hb dX5_sureOf_92 (by decide) ?_
    refine lv_icmp_ne (tgt := 111) hx hb dX5_sureOf_93 (by decide) (fun b1 => ?_) (fun b1 => ?_)
    ·
      have k2 := Eq.mp (if_neg b1) hok
      exact L_X5_sureOf_L111 l w me mb mc mt mk mr mq mv kd a b  hx hb hr hml hts hown hlk hK _ 1 n hP k2 (Eq.trans hg (if_neg b1)) ls (lv_sub hl [0, 1, 2, 3, 4] rfl)
    ·
      have k3 := Eq.mp (if_pos b1) hok
      refine lv_aload_n hx hb dX5_sureOf_96 rfl (lv_at hl 0 rfl) ?_
      refine va_get (D := w.1) (ci := 6) (v := .ref (w.2.2 9)) (C := RX5) (T := TX5) (N := 33) hx hb hts iw_X5_sureOf_X5 hown hK.1 hP 0 rfl rfl 10 (by decide) (hts _ fl_X5_sureOf_35) (fun _ h9 => h9) rfl dX5_sureOf_97 ?_
      refine lv_iload_n hx hb dX5_sureOf_100 rfl (lv_at hl 2 rfl) ?_
      have o4 := k3.1
      have k5 := k3.2
      refine va_iald hx hb hK.1 hP 9 0 rfl rfl o4 dX5_sureOf_101 ?_
      refine lv_aload_n hx hb dX5_sureOf_102 rfl (lv_at hl 0 rfl) ?_
      refine va_get (D := w.1) (ci := 6) (v := .ref (w.2.2 9)) (C := RX5) (T := TX5) (N := 33) hx hb hts iw_X5_sureOf_X5 hown hK.1 hP 0 rfl rfl 10 (by decide) (hts _ fl_X5_sureOf_35) (fun _ h9 => h9) rfl dX5_sureOf_103 ?_
      refine lv_iload_n hx hb dX5_sureOf_106 rfl (lv_at hl 3 rfl) ?_
      have o6 := k5.1
      have k7 := k5.2
      refine va_iald hx hb hK.1 hP 9 0 rfl rfl o6 dX5_sureOf_107 ?_
      refine lv_iadd hx hb dX5_sureOf_108 ?_
      refine lv_istore (lv' := [(4, .int ((mt.2.2.2.2.1 a.toNatClampNeg) + (mt.2.2.2.2.1 b.toNatClampNeg))), (0, .ref (w.2.2 0)), (1, .int kd), (2, .int a), (3, .int b)]) hx hb dX5_sureOf_109 hl (by decide) rfl (fun ls hl => ?_)
      exact L_X5_sureOf_L111 l w me mb mc mt mk mr mq mv kd a b  hx hb hr hml hts hown hlk hK _ 1 ((mt.2.2.2.2.1 a.toNatClampNeg) + (mt.2.2.2.2.1 b.toNatClampNeg)) hP k7 (Eq.trans hg (if_pos b1)) ls (lv_sub hl [1, 2, 3, 4, 0] rfl)
set_option maxHeartbeats 4000000 in
set_option maxRecDepth 100000 in
theorem L_X5_sureOf_L47 (l : Launch) (w : WG) (me : ME) (mb : AI) (mc : MC) (mt : MT) (mk : MK) (mr : MR) (mq : MQS) (mv : MV) (kd : Int32) (a : Int32) (b : Int32) {pP : Program} {eE : Env} {S : State} {mM : MethodId} {below : List Frame} {meth : Method} {C : Code} (hx : pP.tables.exec = Jvm.exec) (hb : C.code = cX5_sureOf) (hr : meth.sig.returnType = (some .int)) (hml : C.maxLocals = 5) (hts : ∀ q9 ∈ wsX5_sureOf, q9.before ([.ref (w.2.2 0), .int kd, .int a, .int b] : List Value).toArray S = true) (hown : S.vm.findClass yX5_sureOf.cls = some mM.cls) (hlk : meth.locks = false) (hK : wK w S) (g : Int32) :
    ∀ (fu : Nat) (n : Int32), va_P w.1 vwCl (wM w me mb mc mt mk mr mq mv) S.heap → OK_X5_sureOf_L47 mc mt kd a b fu n → g = G_X5_sureOf_L47 mc mt kd a b fu n → ∀ ls : Array Slot, lv_has ls 5 [(0, .ref (w.2.2 0)), (1, .int kd), (2, .int a), (3, .int b), (4, .int n)] → W pP l eE { frames := 1, cells := 0, slots := 0, locals := 24 } S mM ([.ref (w.2.2 0), .int kd, .int a, .int b] : List Value).toArray below meth C S.heap [] 0 0 (MQ below (xR (some (.int g))) ([.ref (w.2.2 0), .int kd, .int a, .int b] : List Value).toArray S 0 0 xNo) (F0 mM 47 ls []) := by
  intro fu
  induction fu with
  | zero =>
    intro n hP hok hg ls hl
    exact hok.elim
  | succ fu ih =>
    intro n hP hok hg ls hl
    refine lv_iload_n hx hb dX5_sureOf_47 rfl (lv_at hl 1 rfl) ?_
    refine lv_iconst (v := 3) hx hb dX5_sureOf_48 (by decide) ?_
    refine lv_icmp_eq (tgt := 57) hx hb dX5_sureOf_49 (by decide) (fun b1 => ?_) (fun b1 => ?_)
    ·
      have k2 := Eq.mp (if_pos b1) hok
      refine lv_iconst (v := 1) hx hb dX5_sureOf_57 (by decide) ?_
      refine lv_aload_n hx hb dX5_sureOf_58 rfl (lv_at hl 0 rfl) ?_
      refine va_get (D := w.1) (ci := 6) (v := .ref (w.2.2 9)) (C := RX5) (T := TX5) (N := 33) hx hb hts iw_X5_sureOf_X5 hown hK.1 hP 0 rfl rfl 10 (by decide) (hts _ fl_X5_sureOf_35) (fun _ h9 => h9) rfl dX5_sureOf_59 ?_
      refine lv_iload_n hx hb dX5_sureOf_62 rfl (lv_at hl 2 rfl) ?_
      have o3 := k2.1
      have k4 := k2.2
      refine va_iald hx hb hK.1 hP 9 0 rfl rfl o3 dX5_sureOf_63 ?_
      refine lv_aload_n hx hb dX5_sureOf_64 rfl (lv_at hl 0 rfl) ?_
      refine va_get (D := w.1) (ci := 6) (v := .ref (w.2.2 9)) (C := RX5) (T := TX5) (N := 33) hx hb hts iw_X5_sureOf_X5 hown hK.1 hP 0 rfl rfl 10 (by decide) (hts _ fl_X5_sureOf_35) (fun _ h9 => h9) rfl dX5_sureOf_65 ?_
      refine lv_iload_n hx hb dX5_sureOf_68 rfl (lv_at hl 3 rfl) ?_
      have o5 := k4.1
      have k6 := k4.2
      refine va_iald hx hb hK.1 hP 9 0 rfl rfl o5 dX5_sureOf_69 ?_
      refine lv_icmp_le (tgt := 82) hx hb dX5_sureOf_70 (by decide) (fun b7 => ?_) (fun b7 => ?_)
      ·
        have k8 := Eq.mp (if_pos b7) k6
        refine lv_aload_n hx hb dX5_sureOf_82 rfl (lv_at hl 0 rfl) ?_
        refine va_get (D := w.1) (ci := 6) (v := .ref (w.2.2 9)) (C := RX5) (T := TX5) (N := 33) hx hb hts iw_X5_sureOf_X5 hown hK.1 hP 0 rfl rfl 10 (by decide) (hts _ fl_X5_sureOf_35) (fun _ h9 => h9) rfl dX5_sureOf_83 ?_
        refine lv_iload_n hx hb dX5_sureOf_86 rfl (lv_at hl 3 rfl) ?_
        have o9 := k8.1
        have k10 := k8.2
        refine va_iald hx hb hK.1 hP 9 0 rfl rfl o9 dX5_sureOf_87 ?_
        refine lv_iadd hx hb dX5_sureOf_88 ?_
        refine lv_istore (lv' := [(4, .int ((1 : Int32) + (mt.2.2.2.2.1 b.toNatClampNeg))), (0, .ref (w.2.2 0)), (1, .int kd), (2, .int a), (3, .int b)]) hx hb dX5_sureOf_89 hl (by decide) rfl (fun ls hl => ?_)
        exact L_X5_sureOf_L91 l w me mb mc mt mk mr mq mv kd a b  hx hb hr hml hts hown hlk hK _ 1 ((1 : Int32) + (mt.2.2.2.2.1 b.toNatClampNeg)) hP k10 (Eq.trans (Eq.trans hg (if_pos b1)) (if_pos b7)) ls (lv_sub hl [1, 2, 3, 4, 0] rfl)
      ·
        have k11 := Eq.mp (if_neg b7) k6
        refine lv_aload_n hx hb dX5_sureOf_73 rfl (lv_at hl 0 rfl) ?_
        refine va_get (D := w.1) (ci := 6) (v := .ref (w.2.2 9)) (C := RX5) (T := TX5) (N := 33) hx hb hts iw_X5_sureOf_X5 hown hK.1 hP 0 rfl rfl 10 (by decide) (hts _ fl_X5_sureOf_35) (fun _ h9 => h9) rfl dX5_sureOf_74 ?_
        refine lv_iload_n hx hb dX5_sureOf_77 rfl (lv_at hl 2 rfl) ?_
        have o12 := k11.1
        have k13 := k11.2
        refine va_iald hx hb hK.1 hP 9 0 rfl rfl o12 dX5_sureOf_78 ?_
        refine lv_goto (tgt := 88) hx hb dX5_sureOf_79 (by decide) ?_
        refine lv_iadd hx hb dX5_sureOf_88 ?_
        refine lv_istore (lv' := [(4, .int ((1 : Int32) + (mt.2.2.2.2.1 a.toNatClampNeg))), (0, .ref (w.2.2 0)), (1, .int kd), (2, .int a), (3, .int b)]) hx hb dX5_sureOf_89 hl (by decide) rfl (fun ls hl => ?_)
        exact L_X5_sureOf_L91 l w me mb mc mt mk mr mq mv kd a b  hx hb hr hml hts hown hlk hK _ 1 ((1 : Int32) + (mt.2.2.2.2.1 a.toNatClampNeg)) hP k13 (Eq.trans (Eq.trans hg (if_pos b1)) (if_neg b7)) ls (lv_sub hl [1, 2, 3, 4, 0] rfl)
    ·
      have k14 := Eq.mp (if_neg b1) hok
      refine lv_iload_n hx hb dX5_sureOf_52 rfl (lv_at hl 1 rfl) ?_
      refine lv_iconst (v := 4) hx hb dX5_sureOf_53 (by decide) ?_
      refine lv_icmp_ne (tgt := 91) hx hb dX5_sureOf_54 (by decide) (fun b15 => ?_) (fun b15 => ?_)
      ·
        have k16 := Eq.mp (if_neg b15) k14
        exact L_X5_sureOf_L91 l w me mb mc mt mk mr mq mv kd a b  hx hb hr hml hts hown hlk hK _ 1 n hP k16 (Eq.trans (Eq.trans hg (if_neg b1)) (if_neg b15)) ls (lv_sub hl [0, 1, 2, 3, 4] rfl)
      ·
        have k17 := Eq.mp (if_pos b15) k14
        refine lv_iconst (v := 1) hx hb dX5_sureOf_57 (by decide) ?_
        refine lv_aload_n hx hb dX5_sureOf_58 rfl (lv_at hl 0 rfl) ?_
        refine va_get (D := w.1) (ci := 6) (v := .ref (w.2.2 9)) (C := RX5) (T := TX5) (N := 33) hx hb hts iw_X5_sureOf_X5 hown hK.1 hP 0 rfl rfl 10 (by decide) (hts _ fl_X5_sureOf_35) (fun _ h9 => h9) rfl dX5_sureOf_59 ?_
        refine lv_iload_n hx hb dX5_sureOf_62 rfl (lv_at hl 2 rfl) ?_
        have o18 := k17.1
        have k19 := k17.2
        refine va_iald hx hb hK.1 hP 9 0 rfl rfl o18 dX5_sureOf_63 ?_
        refine lv_aload_n hx hb dX5_sureOf_64 rfl (lv_at hl 0 rfl) ?_
        refine va_get (D := w.1) (ci := 6) (v := .ref (w.2.2 9)) (C := RX5) (T := TX5) (N := 33) hx hb hts iw_X5_sureOf_X5 hown hK.1 hP 0 rfl rfl 10 (by decide) (hts _ fl_X5_sureOf_35) (fun _ h9 => h9) rfl dX5_sureOf_65 ?_
        refine lv_iload_n hx hb dX5_sureOf_68 rfl (lv_at hl 3 rfl) ?_
        have o20 := k19.1
        have k21 := k19.2
        refine va_iald hx hb hK.1 hP 9 0 rfl rfl o20 dX5_sureOf_69 ?_
        refine lv_icmp_le (tgt := 82) hx hb dX5_sureOf_70 (by decide) (fun b22 => ?_) (fun b22 => ?_)
        ·
          have k23 := Eq.mp (if_pos b22) k21
          refine lv_aload_n hx hb dX5_sureOf_82 rfl (lv_at hl 0 rfl) ?_
          refine va_get (D := w.1) (ci := 6) (v := .ref (w.2.2 9)) (C := RX5) (T := TX5) (N := 33) hx hb hts iw_X5_sureOf_X5 hown hK.1 hP 0 rfl rfl 10 (by decide) (hts _ fl_X5_sureOf_35) (fun _ h9 => h9) rfl dX5_sureOf_83 ?_
          refine lv_iload_n hx hb dX5_sureOf_86 rfl (lv_at hl 3 rfl) ?_
          have o24 := k23.1
          have k25 := k23.2
          refine va_iald hx hb hK.1 hP 9 0 rfl rfl o24 dX5_sureOf_87 ?_
          refine lv_iadd hx hb dX5_sureOf_88 ?_
          refine lv_istore (lv' := [(4, .int ((1 : Int32) + (mt.2.2.2.2.1 b.toNatClampNeg))), (0, .ref (w.2.2 0)), (1, .int kd), (2, .int a), (3, .int b)]) hx hb dX5_sureOf_89 hl (by decide) rfl (fun ls hl => ?_)
          exact L_X5_sureOf_L91 l w me mb mc mt mk mr mq mv kd a b  hx hb hr hml hts hown hlk hK _ 1 ((1 : Int32) + (mt.2.2.2.2.1 b.toNatClampNeg)) hP k25 (Eq.trans (Eq.trans (Eq.trans hg (if_neg b1)) (if_pos b15)) (if_pos b22)) ls (lv_sub hl [1, 2, 3, 4, 0] rfl)
        ·
          have k26 := Eq.mp (if_neg b22) k21
          refine lv_aload_n hx hb dX5_sureOf_73 rfl (lv_at hl 0 rfl) ?_
          refine va_get (D := w.1) (ci := 6) (v := .ref (w.2.2 9)) (C := RX5) (T := TX5) (N := 33) hx hb hts iw_X5_sureOf_X5 hown hK.1 hP 0 rfl rfl 10 (by decide) (hts _ fl_X5_sureOf_35) (fun _ h9 => h9) rfl dX5_sureOf_74 ?_
          refine lv_iload_n hx hb dX5_sureOf_77 rfl (lv_at hl 2 rfl) ?_
          have o27 := k26.1
          have k28 := k26.2
          refine va_iald hx hb hK.1 hP 9 0 rfl rfl o27 dX5_sureOf_78 ?_
          refine lv_goto (tgt := 88) hx hb dX5_sureOf_79 (by decide) ?_
          refine lv_iadd hx hb dX5_sureOf_88 ?_
          refine lv_istore (lv' := [(4, .int ((1 : Int32) + (mt.2.2.2.2.1 a.toNatClampNeg))), (0, .ref (w.2.2 0)), (1, .int kd), (2, .int a), (3, .int b)]) hx hb dX5_sureOf_89 hl (by decide) rfl (fun ls hl => ?_)
          exact L_X5_sureOf_L91 l w me mb mc mt mk mr mq mv kd a b  hx hb hr hml hts hown hlk hK _ 1 ((1 : Int32) + (mt.2.2.2.2.1 a.toNatClampNeg)) hP k28 (Eq.trans (Eq.trans (Eq.trans hg (if_neg b1)) (if_pos b15)) (if_neg b22)) ls (lv_sub hl [1, 2, 3, 4, 0] rfl)
set_option maxHeartbeats 4000000 in
set_option maxRecDepth 100000 in
theorem L_X5_sureOf_L14 (l : Launch) (w : WG) (me : ME) (mb : AI) (mc : MC) (mt : MT) (mk : MK) (mr : MR) (mq : MQS) (mv : MV) (kd : Int32) (a : Int32) (b : Int32) {pP : Program} {eE : Env} {S : State} {mM : MethodId} {below : List Frame} {meth : Method} {C : Code} (hx : pP.tables.exec = Jvm.exec) (hb : C.code = cX5_sureOf) (hr : meth.sig.returnType = (some .int)) (hml : C.maxLocals = 5) (hts : ∀ q9 ∈ wsX5_sureOf, q9.before ([.ref (w.2.2 0), .int kd, .int a, .int b] : List Value).toArray S = true) (hown : S.vm.findClass yX5_sureOf.cls = some mM.cls) (hlk : meth.locks = false) (hK : wK w S) (g : Int32) :
    ∀ (fu : Nat) (n : Int32), va_P w.1 vwCl (wM w me mb mc mt mk mr mq mv) S.heap → OK_X5_sureOf_L14 mc mt kd a b fu n → g = G_X5_sureOf_L14 mc mt kd a b fu n → ∀ ls : Array Slot, lv_has ls 5 [(0, .ref (w.2.2 0)), (1, .int kd), (2, .int a), (3, .int b), (4, .int n)] → W pP l eE { frames := 1, cells := 0, slots := 0, locals := 24 } S mM ([.ref (w.2.2 0), .int kd, .int a, .int b] : List Value).toArray below meth C S.heap [] 0 0 (MQ below (xR (some (.int g))) ([.ref (w.2.2 0), .int kd, .int a, .int b] : List Value).toArray S 0 0 xNo) (F0 mM 14 ls []) := by
  intro fu
  induction fu with
  | zero =>
    intro n hP hok hg ls hl
    exact hok.elim
  | succ fu ih =>
    intro n hP hok hg ls hl
    refine lv_iload_n hx hb dX5_sureOf_14 rfl (lv_at hl 1 rfl) ?_
    refine lv_iconst (v := 1) hx hb dX5_sureOf_15 (by decide) ?_
    refine lv_icmp_eq (tgt := 24) hx hb dX5_sureOf_16 (by decide) (fun b1 => ?_) (fun b1 => ?_)
    ·
      have k2 := Eq.mp (if_pos b1) hok
      refine lv_aload_n hx hb dX5_sureOf_24 rfl (lv_at hl 0 rfl) ?_
      refine va_get (D := w.1) (ci := 6) (v := .ref (w.2.2 2)) (C := RX5) (T := TX5) (N := 33) hx hb hts iw_X5_sureOf_X5 hown hK.1 hP 0 rfl rfl 2 (by decide) (hts _ fl_X5_sureOf_13) (fun _ h9 => h9) rfl dX5_sureOf_25 ?_
      refine lv_iload_n hx hb dX5_sureOf_28 rfl (lv_at hl 2 rfl) ?_
      have o3 := k2.1
      have k4 := k2.2
      refine va_iald hx hb hK.1 hP 2 0 rfl rfl o3 dX5_sureOf_29 ?_
      refine lv_iconst (v := 2) hx hb dX5_sureOf_30 (by decide) ?_
      refine lv_icmp_ne (tgt := 39) hx hb dX5_sureOf_31 (by decide) (fun b5 => ?_) (fun b5 => ?_)
      ·
        have k6 := Eq.mp (if_neg b5) k4
        refine lv_aload_n hx hb dX5_sureOf_39 rfl (lv_at hl 0 rfl) ?_
        refine va_get (D := w.1) (ci := 6) (v := .ref (w.2.2 3)) (C := RX5) (T := TX5) (N := 33) hx hb hts iw_X5_sureOf_X5 hown hK.1 hP 0 rfl rfl 3 (by decide) (hts _ fl_X5_sureOf_17) (fun _ h9 => h9) rfl dX5_sureOf_40 ?_
        refine lv_iload_n hx hb dX5_sureOf_43 rfl (lv_at hl 2 rfl) ?_
        have o7 := k6.1
        have k8 := k6.2
        refine va_iald hx hb hK.1 hP 3 0 rfl rfl o7 dX5_sureOf_44 ?_
        refine lv_istore (lv' := [(4, .int (mc.2.2.1 a.toNatClampNeg)), (0, .ref (w.2.2 0)), (1, .int kd), (2, .int a), (3, .int b)]) hx hb dX5_sureOf_45 hl (by decide) rfl (fun ls hl => ?_)
        exact L_X5_sureOf_L47 l w me mb mc mt mk mr mq mv kd a b  hx hb hr hml hts hown hlk hK _ 1 (mc.2.2.1 a.toNatClampNeg) hP k8 (Eq.trans (Eq.trans hg (if_pos b1)) (if_neg b5)) ls (lv_sub hl [1, 2, 3, 4, 0] rfl)
      ·
        have k9 := Eq.mp (if_pos b5) k4
        refine lv_bipush (v := 10) hx hb dX5_sureOf_34 (by decide) ?_
        refine lv_goto (tgt := 45) hx hb dX5_sureOf_36 (by decide) ?_
        refine lv_istore (lv' := [(4, .int (10 : Int32)), (0, .ref (w.2.2 0)), (1, .int kd), (2, .int a), (3, .int b)]) hx hb dX5_sureOf_45 hl (by decide) rfl (fun ls hl => ?_)
        exact L_X5_sureOf_L47 l w me mb mc mt mk mr mq mv kd a b  hx hb hr hml hts hown hlk hK _ 1 (10 : Int32) hP k9 (Eq.trans (Eq.trans hg (if_pos b1)) (if_pos b5)) ls (lv_sub hl [1, 2, 3, 4, 0] rfl)
    ·
      have k10 := Eq.mp (if_neg b1) hok
      refine lv_iload_n hx hb dX5_sureOf_19 rfl (lv_at hl 1 rfl) ?_
      refine lv_iconst (v := 2) hx hb dX5_sureOf_20 (by decide) ?_
      refine lv_icmp_ne (tgt := 47) hx hb dX5_sureOf_21 (by decide) (fun b11 => ?_) (fun b11 => ?_)
      ·
        have k12 := Eq.mp (if_neg b11) k10
        exact L_X5_sureOf_L47 l w me mb mc mt mk mr mq mv kd a b  hx hb hr hml hts hown hlk hK _ 1 n hP k12 (Eq.trans (Eq.trans hg (if_neg b1)) (if_neg b11)) ls (lv_sub hl [0, 1, 2, 3, 4] rfl)
      ·
        have k13 := Eq.mp (if_pos b11) k10
        refine lv_aload_n hx hb dX5_sureOf_24 rfl (lv_at hl 0 rfl) ?_
        refine va_get (D := w.1) (ci := 6) (v := .ref (w.2.2 2)) (C := RX5) (T := TX5) (N := 33) hx hb hts iw_X5_sureOf_X5 hown hK.1 hP 0 rfl rfl 2 (by decide) (hts _ fl_X5_sureOf_13) (fun _ h9 => h9) rfl dX5_sureOf_25 ?_
        refine lv_iload_n hx hb dX5_sureOf_28 rfl (lv_at hl 2 rfl) ?_
        have o14 := k13.1
        have k15 := k13.2
        refine va_iald hx hb hK.1 hP 2 0 rfl rfl o14 dX5_sureOf_29 ?_
        refine lv_iconst (v := 2) hx hb dX5_sureOf_30 (by decide) ?_
        refine lv_icmp_ne (tgt := 39) hx hb dX5_sureOf_31 (by decide) (fun b16 => ?_) (fun b16 => ?_)
        ·
          have k17 := Eq.mp (if_neg b16) k15
          refine lv_aload_n hx hb dX5_sureOf_39 rfl (lv_at hl 0 rfl) ?_
          refine va_get (D := w.1) (ci := 6) (v := .ref (w.2.2 3)) (C := RX5) (T := TX5) (N := 33) hx hb hts iw_X5_sureOf_X5 hown hK.1 hP 0 rfl rfl 3 (by decide) (hts _ fl_X5_sureOf_17) (fun _ h9 => h9) rfl dX5_sureOf_40 ?_
          refine lv_iload_n hx hb dX5_sureOf_43 rfl (lv_at hl 2 rfl) ?_
          have o18 := k17.1
          have k19 := k17.2
          refine va_iald hx hb hK.1 hP 3 0 rfl rfl o18 dX5_sureOf_44 ?_
          refine lv_istore (lv' := [(4, .int (mc.2.2.1 a.toNatClampNeg)), (0, .ref (w.2.2 0)), (1, .int kd), (2, .int a), (3, .int b)]) hx hb dX5_sureOf_45 hl (by decide) rfl (fun ls hl => ?_)
          exact L_X5_sureOf_L47 l w me mb mc mt mk mr mq mv kd a b  hx hb hr hml hts hown hlk hK _ 1 (mc.2.2.1 a.toNatClampNeg) hP k19 (Eq.trans (Eq.trans (Eq.trans hg (if_neg b1)) (if_pos b11)) (if_neg b16)) ls (lv_sub hl [1, 2, 3, 4, 0] rfl)
        ·
          have k20 := Eq.mp (if_pos b16) k15
          refine lv_bipush (v := 10) hx hb dX5_sureOf_34 (by decide) ?_
          refine lv_goto (tgt := 45) hx hb dX5_sureOf_36 (by decide) ?_
          refine lv_istore (lv' := [(4, .int (10 : Int32)), (0, .ref (w.2.2 0)), (1, .int kd), (2, .int a), (3, .int b)]) hx hb dX5_sureOf_45 hl (by decide) rfl (fun ls hl => ?_)
          exact L_X5_sureOf_L47 l w me mb mc mt mk mr mq mv kd a b  hx hb hr hml hts hown hlk hK _ 1 (10 : Int32) hP k20 (Eq.trans (Eq.trans (Eq.trans hg (if_neg b1)) (if_pos b11)) (if_pos b16)) ls (lv_sub hl [1, 2, 3, 4, 0] rfl)
set_option maxHeartbeats 4000000 in
set_option maxRecDepth 100000 in
theorem c_X5_sureOf (l : Launch) (w : WG) (me : ME) (mb : AI) (mc : MC) (mt : MT) (mk : MK) (mr : MR) (mq : MQS) (mv : MV) (kd : Int32) (a : Int32) (b : Int32) (hok : OK_X5_sureOf mc mt kd a b) : Met l yX5_sureOf wsX5_sureOf { frames := 1, cells := 0, slots := 0, locals := 24 } (va_Pc [.ref (w.2.2 0), .int kd, .int a, .int b] (wPK w (wM w me mb mc mt mk mr mq mv))) (xR (some (.int (G_X5_sureOf mc mt kd a b)))) 0 0 xNo := by
  refine xOf (cc := cX5_sureOf) (maxL := 5) (ret := (some .int)) (lv := [(0, .ref (w.2.2 0)), (1, .int kd), (2, .int a), (3, .int b)]) (by decide) rfl (Nat.le_of_ble_eq_true rfl) rfl ?_
  intro pP eE S mM below meth C hx hb hr hml hts hown hlk hnm hw ls hl
  obtain ⟨hP, hK⟩ := hw
  refine lv_iconst (v := 0) hx hb dX5_sureOf_0 (by decide) ?_
  refine lv_istore (lv' := [(4, .int (0 : Int32)), (0, .ref (w.2.2 0)), (1, .int kd), (2, .int a), (3, .int b)]) hx hb dX5_sureOf_1 hl (by decide) rfl (fun ls hl => ?_)
  refine lv_iload_n hx hb dX5_sureOf_3 rfl (lv_at hl 2 rfl) ?_
  refine lv_if_ne (tgt := 14) hx hb dX5_sureOf_4 (by decide) (fun b1 => ?_) (fun b1 => ?_)
  ·
    have k2 := Eq.mp (if_neg b1) hok
    exact L_X5_sureOf_L14 l w me mb mc mt mk mr mq mv kd a b  hx hb hr hml hts hown hlk hK _ 1 (0 : Int32) hP k2 (Eq.trans rfl (if_neg b1)) ls (lv_sub hl [1, 2, 3, 4, 0] rfl)
  ·
    have k3 := Eq.mp (if_pos b1) hok
    refine lv_iload_n hx hb dX5_sureOf_7 rfl (lv_at hl 3 rfl) ?_
    refine lv_i2l hx hb dX5_sureOf_8 rfl ?_
    have o4 := k3.1
    have k5 := k3.2
    refine xR_i (va_runS (As := [.long a.toInt64]) (rest := []) ⟨hx, hb, hml, hown, hts⟩ (c_X5_digitsOf l w me mb mc mt mk mr mq mv a.toInt64 o4) (va_cwS 1 hts gX5_sureOf_X5_digitsOf rfl rfl rfl ds_X5_digitsOf ⟨Nat.le_of_ble_eq_true rfl, Nat.le_of_ble_eq_true rfl⟩) (wPre hP hK) rfl rfl hl.1 rfl (lv_room (Nat.le_of_ble_eq_true rfl)) dX5_sureOf_9 ⟨Nat.zero_le _, Nat.zero_le _⟩) ?_
    refine lv_istore (lv' := [(4, .int (G_X5_digitsOf a.toInt64)), (0, .ref (w.2.2 0)), (1, .int kd), (2, .int a), (3, .int b)]) hx hb dX5_sureOf_12 hl (by decide) rfl (fun ls hl => ?_)
    exact L_X5_sureOf_L14 l w me mb mc mt mk mr mq mv kd a b  hx hb hr hml hts hown hlk hK _ 1 (G_X5_digitsOf a.toInt64) hP k5 (Eq.trans rfl (if_pos b1)) ls (lv_sub hl [1, 2, 3, 4, 0] rfl)
set_option maxRecDepth 20000 in
theorem iw_X5_node_X5 : ∀ w ∈ wsX50, w ∈ wsX5_node := by decide +kernel
set_option maxRecDepth 20000 in
theorem fl_X5_node_85 : Cond.fieldLink RX5 85 "ProcedureCodeModel" "code" "I" ∈ wsX5_node := by decide +kernel
set_option maxRecDepth 20000 in
theorem dv_X5_isSo : yX5_isSo.cls = RX5 ∧ yX5_isSo.cls ≠ "java/lang/invoke/MethodHandle" ∧ yX5_isSo.cls ≠ "java/lang/invoke/VarHandle" ∧ (parseMethodDescriptor yX5_isSo.desc).map (fun d => d.parameters.length) = some 3 := by decide +kernel
set_option maxRecDepth 20000 in
theorem fl_X5_node_118 : Cond.fieldLink RX5 118 "ProcedureCodeModel" "nodes" "I" ∈ wsX5_node := by decide +kernel
set_option maxRecDepth 20000 in
theorem fl_X5_node_26 : Cond.fieldLink RX5 26 "ProcedureCodeModel" "kinds" "[I" ∈ wsX5_node := by decide +kernel
set_option maxRecDepth 20000 in
theorem fl_X5_node_29 : Cond.fieldLink RX5 29 "ProcedureCodeModel" "as" "[I" ∈ wsX5_node := by decide +kernel
set_option maxRecDepth 20000 in
theorem fl_X5_node_32 : Cond.fieldLink RX5 32 "ProcedureCodeModel" "bs" "[I" ∈ wsX5_node := by decide +kernel
set_option maxRecDepth 20000 in
theorem fl_X5_node_35 : Cond.fieldLink RX5 35 "ProcedureCodeModel" "sure" "[I" ∈ wsX5_node := by decide +kernel
set_option maxRecDepth 20000 in
theorem dv_X5_sureOf : yX5_sureOf.cls = RX5 ∧ yX5_sureOf.cls ≠ "java/lang/invoke/MethodHandle" ∧ yX5_sureOf.cls ≠ "java/lang/invoke/VarHandle" ∧ (parseMethodDescriptor yX5_sureOf.desc).map (fun d => d.parameters.length) = some 3 := by decide +kernel
set_option maxRecDepth 20000 in
theorem fl_X5_node_38 : Cond.fieldLink RX5 38 "ProcedureCodeModel" "folded" "[Z" ∈ wsX5_node := by decide +kernel
set_option maxRecDepth 20000 in
theorem fl_X5_node_42 : Cond.fieldLink RX5 42 "ProcedureCodeModel" "folds" "[J" ∈ wsX5_node := by decide +kernel
set_option maxRecDepth 20000 in
theorem ds_X5_reckoned : yX5_reckoned.cls ≠ "java/lang/invoke/MethodHandle" ∧ yX5_reckoned.cls ≠ "java/lang/invoke/VarHandle" ∧ (parseMethodDescriptor yX5_reckoned.desc).map (fun d => d.parameters.length) = some 3 := by decide +kernel
def G_X5_node (me : ME) (mc : MC) (mt : MT) (kd : Int32) (a : Int32) (b : Int32) : Int32 × ME × MT := if kd < 0 then (((-4 : Int32), ((0 : Int32), me.2.1, me.2.2), mt)) else (if kd ≤ (13 : Int32) then (if (G_X5_isSo mc mt kd a b) = 0 then (((-2 : Int32), ((0 : Int32), me.2.1, me.2.2), mt)) else (if mt.1 = (200 : Int32) then (((-1 : Int32), ((0 : Int32), me.2.1, me.2.2), mt)) else (if kd = 0 then (if ((upd mt.2.2.2.2.2.1 (mt.1 + (1 : Int32)).toNatClampNeg (vp_nar .boolean (1 : Int32))) (mt.1 + (1 : Int32)).toNatClampNeg) = 0 then ((mt.1 + (1 : Int32), ((0 : Int32), me.2.1, me.2.2), (mt.1 + (1 : Int32), upd mt.2.1 (mt.1 + (1 : Int32)).toNatClampNeg kd, upd mt.2.2.1 (mt.1 + (1 : Int32)).toNatClampNeg a, upd mt.2.2.2.1 (mt.1 + (1 : Int32)).toNatClampNeg b, upd mt.2.2.2.2.1 (mt.1 + (1 : Int32)).toNatClampNeg (G_X5_sureOf mc (mt.1 + (1 : Int32), upd mt.2.1 (mt.1 + (1 : Int32)).toNatClampNeg kd, upd mt.2.2.1 (mt.1 + (1 : Int32)).toNatClampNeg a, upd mt.2.2.2.1 (mt.1 + (1 : Int32)).toNatClampNeg b, mt.2.2.2.2.1, mt.2.2.2.2.2.1, mt.2.2.2.2.2.2) kd a b), upd mt.2.2.2.2.2.1 (mt.1 + (1 : Int32)).toNatClampNeg (vp_nar .boolean (1 : Int32)), vp_updL mt.2.2.2.2.2.2 (mt.1 + (1 : Int32)).toNatClampNeg (0 : Int64)))) else (if kd = 0 then ((mt.1 + (1 : Int32), ((0 : Int32), me.2.1, me.2.2), (mt.1 + (1 : Int32), upd mt.2.1 (mt.1 + (1 : Int32)).toNatClampNeg kd, upd mt.2.2.1 (mt.1 + (1 : Int32)).toNatClampNeg a, upd mt.2.2.2.1 (mt.1 + (1 : Int32)).toNatClampNeg b, upd mt.2.2.2.2.1 (mt.1 + (1 : Int32)).toNatClampNeg (G_X5_sureOf mc (mt.1 + (1 : Int32), upd mt.2.1 (mt.1 + (1 : Int32)).toNatClampNeg kd, upd mt.2.2.1 (mt.1 + (1 : Int32)).toNatClampNeg a, upd mt.2.2.2.1 (mt.1 + (1 : Int32)).toNatClampNeg b, mt.2.2.2.2.1, mt.2.2.2.2.2.1, mt.2.2.2.2.2.2) kd a b), upd mt.2.2.2.2.2.1 (mt.1 + (1 : Int32)).toNatClampNeg (vp_nar .boolean (1 : Int32)), vp_updL mt.2.2.2.2.2.2 (mt.1 + (1 : Int32)).toNatClampNeg a.toInt64))) else ((mt.1 + (1 : Int32), ((0 : Int32), me.2.1, me.2.2), (mt.1 + (1 : Int32), upd mt.2.1 (mt.1 + (1 : Int32)).toNatClampNeg kd, upd mt.2.2.1 (mt.1 + (1 : Int32)).toNatClampNeg a, upd mt.2.2.2.1 (mt.1 + (1 : Int32)).toNatClampNeg b, upd mt.2.2.2.2.1 (mt.1 + (1 : Int32)).toNatClampNeg (G_X5_sureOf mc (mt.1 + (1 : Int32), upd mt.2.1 (mt.1 + (1 : Int32)).toNatClampNeg kd, upd mt.2.2.1 (mt.1 + (1 : Int32)).toNatClampNeg a, upd mt.2.2.2.1 (mt.1 + (1 : Int32)).toNatClampNeg b, mt.2.2.2.2.1, mt.2.2.2.2.2.1, mt.2.2.2.2.2.2) kd a b), upd mt.2.2.2.2.2.1 (mt.1 + (1 : Int32)).toNatClampNeg (vp_nar .boolean (1 : Int32)), vp_updL mt.2.2.2.2.2.2 (mt.1 + (1 : Int32)).toNatClampNeg (G_X5_reckoned kd (mt.2.2.2.2.2.2 a.toNatClampNeg) (mt.2.2.2.2.2.2 b.toNatClampNeg))))))) else (if kd ≤ (2 : Int32) then (if ((upd mt.2.2.2.2.2.1 (mt.1 + (1 : Int32)).toNatClampNeg (vp_nar .boolean (0 : Int32))) (mt.1 + (1 : Int32)).toNatClampNeg) = 0 then ((mt.1 + (1 : Int32), ((0 : Int32), me.2.1, me.2.2), (mt.1 + (1 : Int32), upd mt.2.1 (mt.1 + (1 : Int32)).toNatClampNeg kd, upd mt.2.2.1 (mt.1 + (1 : Int32)).toNatClampNeg a, upd mt.2.2.2.1 (mt.1 + (1 : Int32)).toNatClampNeg b, upd mt.2.2.2.2.1 (mt.1 + (1 : Int32)).toNatClampNeg (G_X5_sureOf mc (mt.1 + (1 : Int32), upd mt.2.1 (mt.1 + (1 : Int32)).toNatClampNeg kd, upd mt.2.2.1 (mt.1 + (1 : Int32)).toNatClampNeg a, upd mt.2.2.2.1 (mt.1 + (1 : Int32)).toNatClampNeg b, mt.2.2.2.2.1, mt.2.2.2.2.2.1, mt.2.2.2.2.2.2) kd a b), upd mt.2.2.2.2.2.1 (mt.1 + (1 : Int32)).toNatClampNeg (vp_nar .boolean (0 : Int32)), vp_updL mt.2.2.2.2.2.2 (mt.1 + (1 : Int32)).toNatClampNeg (0 : Int64)))) else (if kd = 0 then ((mt.1 + (1 : Int32), ((0 : Int32), me.2.1, me.2.2), (mt.1 + (1 : Int32), upd mt.2.1 (mt.1 + (1 : Int32)).toNatClampNeg kd, upd mt.2.2.1 (mt.1 + (1 : Int32)).toNatClampNeg a, upd mt.2.2.2.1 (mt.1 + (1 : Int32)).toNatClampNeg b, upd mt.2.2.2.2.1 (mt.1 + (1 : Int32)).toNatClampNeg (G_X5_sureOf mc (mt.1 + (1 : Int32), upd mt.2.1 (mt.1 + (1 : Int32)).toNatClampNeg kd, upd mt.2.2.1 (mt.1 + (1 : Int32)).toNatClampNeg a, upd mt.2.2.2.1 (mt.1 + (1 : Int32)).toNatClampNeg b, mt.2.2.2.2.1, mt.2.2.2.2.2.1, mt.2.2.2.2.2.2) kd a b), upd mt.2.2.2.2.2.1 (mt.1 + (1 : Int32)).toNatClampNeg (vp_nar .boolean (0 : Int32)), vp_updL mt.2.2.2.2.2.2 (mt.1 + (1 : Int32)).toNatClampNeg a.toInt64))) else ((mt.1 + (1 : Int32), ((0 : Int32), me.2.1, me.2.2), (mt.1 + (1 : Int32), upd mt.2.1 (mt.1 + (1 : Int32)).toNatClampNeg kd, upd mt.2.2.1 (mt.1 + (1 : Int32)).toNatClampNeg a, upd mt.2.2.2.1 (mt.1 + (1 : Int32)).toNatClampNeg b, upd mt.2.2.2.2.1 (mt.1 + (1 : Int32)).toNatClampNeg (G_X5_sureOf mc (mt.1 + (1 : Int32), upd mt.2.1 (mt.1 + (1 : Int32)).toNatClampNeg kd, upd mt.2.2.1 (mt.1 + (1 : Int32)).toNatClampNeg a, upd mt.2.2.2.1 (mt.1 + (1 : Int32)).toNatClampNeg b, mt.2.2.2.2.1, mt.2.2.2.2.2.1, mt.2.2.2.2.2.2) kd a b), upd mt.2.2.2.2.2.1 (mt.1 + (1 : Int32)).toNatClampNeg (vp_nar .boolean (0 : Int32)), vp_updL mt.2.2.2.2.2.2 (mt.1 + (1 : Int32)).toNatClampNeg (G_X5_reckoned kd (mt.2.2.2.2.2.2 a.toNatClampNeg) (mt.2.2.2.2.2.2 b.toNatClampNeg))))))) else (if (9 : Int32) ≤ kd then (if ((upd mt.2.2.2.2.2.1 (mt.1 + (1 : Int32)).toNatClampNeg (vp_nar .boolean (0 : Int32))) (mt.1 + (1 : Int32)).toNatClampNeg) = 0 then ((mt.1 + (1 : Int32), ((0 : Int32), me.2.1, me.2.2), (mt.1 + (1 : Int32), upd mt.2.1 (mt.1 + (1 : Int32)).toNatClampNeg kd, upd mt.2.2.1 (mt.1 + (1 : Int32)).toNatClampNeg a, upd mt.2.2.2.1 (mt.1 + (1 : Int32)).toNatClampNeg b, upd mt.2.2.2.2.1 (mt.1 + (1 : Int32)).toNatClampNeg (G_X5_sureOf mc (mt.1 + (1 : Int32), upd mt.2.1 (mt.1 + (1 : Int32)).toNatClampNeg kd, upd mt.2.2.1 (mt.1 + (1 : Int32)).toNatClampNeg a, upd mt.2.2.2.1 (mt.1 + (1 : Int32)).toNatClampNeg b, mt.2.2.2.2.1, mt.2.2.2.2.2.1, mt.2.2.2.2.2.2) kd a b), upd mt.2.2.2.2.2.1 (mt.1 + (1 : Int32)).toNatClampNeg (vp_nar .boolean (0 : Int32)), vp_updL mt.2.2.2.2.2.2 (mt.1 + (1 : Int32)).toNatClampNeg (0 : Int64)))) else (if kd = 0 then ((mt.1 + (1 : Int32), ((0 : Int32), me.2.1, me.2.2), (mt.1 + (1 : Int32), upd mt.2.1 (mt.1 + (1 : Int32)).toNatClampNeg kd, upd mt.2.2.1 (mt.1 + (1 : Int32)).toNatClampNeg a, upd mt.2.2.2.1 (mt.1 + (1 : Int32)).toNatClampNeg b, upd mt.2.2.2.2.1 (mt.1 + (1 : Int32)).toNatClampNeg (G_X5_sureOf mc (mt.1 + (1 : Int32), upd mt.2.1 (mt.1 + (1 : Int32)).toNatClampNeg kd, upd mt.2.2.1 (mt.1 + (1 : Int32)).toNatClampNeg a, upd mt.2.2.2.1 (mt.1 + (1 : Int32)).toNatClampNeg b, mt.2.2.2.2.1, mt.2.2.2.2.2.1, mt.2.2.2.2.2.2) kd a b), upd mt.2.2.2.2.2.1 (mt.1 + (1 : Int32)).toNatClampNeg (vp_nar .boolean (0 : Int32)), vp_updL mt.2.2.2.2.2.2 (mt.1 + (1 : Int32)).toNatClampNeg a.toInt64))) else ((mt.1 + (1 : Int32), ((0 : Int32), me.2.1, me.2.2), (mt.1 + (1 : Int32), upd mt.2.1 (mt.1 + (1 : Int32)).toNatClampNeg kd, upd mt.2.2.1 (mt.1 + (1 : Int32)).toNatClampNeg a, upd mt.2.2.2.1 (mt.1 + (1 : Int32)).toNatClampNeg b, upd mt.2.2.2.2.1 (mt.1 + (1 : Int32)).toNatClampNeg (G_X5_sureOf mc (mt.1 + (1 : Int32), upd mt.2.1 (mt.1 + (1 : Int32)).toNatClampNeg kd, upd mt.2.2.1 (mt.1 + (1 : Int32)).toNatClampNeg a, upd mt.2.2.2.1 (mt.1 + (1 : Int32)).toNatClampNeg b, mt.2.2.2.2.1, mt.2.2.2.2.2.1, mt.2.2.2.2.2.2) kd a b), upd mt.2.2.2.2.2.1 (mt.1 + (1 : Int32)).toNatClampNeg (vp_nar .boolean (0 : Int32)), vp_updL mt.2.2.2.2.2.2 (mt.1 + (1 : Int32)).toNatClampNeg (G_X5_reckoned kd (mt.2.2.2.2.2.2 a.toNatClampNeg) (mt.2.2.2.2.2.2 b.toNatClampNeg))))))) else (if (mt.2.2.2.2.2.1 a.toNatClampNeg) = 0 then (if ((upd mt.2.2.2.2.2.1 (mt.1 + (1 : Int32)).toNatClampNeg (vp_nar .boolean (0 : Int32))) (mt.1 + (1 : Int32)).toNatClampNeg) = 0 then ((mt.1 + (1 : Int32), ((0 : Int32), me.2.1, me.2.2), (mt.1 + (1 : Int32), upd mt.2.1 (mt.1 + (1 : Int32)).toNatClampNeg kd, upd mt.2.2.1 (mt.1 + (1 : Int32)).toNatClampNeg a, upd mt.2.2.2.1 (mt.1 + (1 : Int32)).toNatClampNeg b, upd mt.2.2.2.2.1 (mt.1 + (1 : Int32)).toNatClampNeg (G_X5_sureOf mc (mt.1 + (1 : Int32), upd mt.2.1 (mt.1 + (1 : Int32)).toNatClampNeg kd, upd mt.2.2.1 (mt.1 + (1 : Int32)).toNatClampNeg a, upd mt.2.2.2.1 (mt.1 + (1 : Int32)).toNatClampNeg b, mt.2.2.2.2.1, mt.2.2.2.2.2.1, mt.2.2.2.2.2.2) kd a b), upd mt.2.2.2.2.2.1 (mt.1 + (1 : Int32)).toNatClampNeg (vp_nar .boolean (0 : Int32)), vp_updL mt.2.2.2.2.2.2 (mt.1 + (1 : Int32)).toNatClampNeg (0 : Int64)))) else (if kd = 0 then ((mt.1 + (1 : Int32), ((0 : Int32), me.2.1, me.2.2), (mt.1 + (1 : Int32), upd mt.2.1 (mt.1 + (1 : Int32)).toNatClampNeg kd, upd mt.2.2.1 (mt.1 + (1 : Int32)).toNatClampNeg a, upd mt.2.2.2.1 (mt.1 + (1 : Int32)).toNatClampNeg b, upd mt.2.2.2.2.1 (mt.1 + (1 : Int32)).toNatClampNeg (G_X5_sureOf mc (mt.1 + (1 : Int32), upd mt.2.1 (mt.1 + (1 : Int32)).toNatClampNeg kd, upd mt.2.2.1 (mt.1 + (1 : Int32)).toNatClampNeg a, upd mt.2.2.2.1 (mt.1 + (1 : Int32)).toNatClampNeg b, mt.2.2.2.2.1, mt.2.2.2.2.2.1, mt.2.2.2.2.2.2) kd a b), upd mt.2.2.2.2.2.1 (mt.1 + (1 : Int32)).toNatClampNeg (vp_nar .boolean (0 : Int32)), vp_updL mt.2.2.2.2.2.2 (mt.1 + (1 : Int32)).toNatClampNeg a.toInt64))) else ((mt.1 + (1 : Int32), ((0 : Int32), me.2.1, me.2.2), (mt.1 + (1 : Int32), upd mt.2.1 (mt.1 + (1 : Int32)).toNatClampNeg kd, upd mt.2.2.1 (mt.1 + (1 : Int32)).toNatClampNeg a, upd mt.2.2.2.1 (mt.1 + (1 : Int32)).toNatClampNeg b, upd mt.2.2.2.2.1 (mt.1 + (1 : Int32)).toNatClampNeg (G_X5_sureOf mc (mt.1 + (1 : Int32), upd mt.2.1 (mt.1 + (1 : Int32)).toNatClampNeg kd, upd mt.2.2.1 (mt.1 + (1 : Int32)).toNatClampNeg a, upd mt.2.2.2.1 (mt.1 + (1 : Int32)).toNatClampNeg b, mt.2.2.2.2.1, mt.2.2.2.2.2.1, mt.2.2.2.2.2.2) kd a b), upd mt.2.2.2.2.2.1 (mt.1 + (1 : Int32)).toNatClampNeg (vp_nar .boolean (0 : Int32)), vp_updL mt.2.2.2.2.2.2 (mt.1 + (1 : Int32)).toNatClampNeg (G_X5_reckoned kd (mt.2.2.2.2.2.2 a.toNatClampNeg) (mt.2.2.2.2.2.2 b.toNatClampNeg))))))) else (if (mt.2.2.2.2.2.1 b.toNatClampNeg) = 0 then (if ((upd mt.2.2.2.2.2.1 (mt.1 + (1 : Int32)).toNatClampNeg (vp_nar .boolean (0 : Int32))) (mt.1 + (1 : Int32)).toNatClampNeg) = 0 then ((mt.1 + (1 : Int32), ((0 : Int32), me.2.1, me.2.2), (mt.1 + (1 : Int32), upd mt.2.1 (mt.1 + (1 : Int32)).toNatClampNeg kd, upd mt.2.2.1 (mt.1 + (1 : Int32)).toNatClampNeg a, upd mt.2.2.2.1 (mt.1 + (1 : Int32)).toNatClampNeg b, upd mt.2.2.2.2.1 (mt.1 + (1 : Int32)).toNatClampNeg (G_X5_sureOf mc (mt.1 + (1 : Int32), upd mt.2.1 (mt.1 + (1 : Int32)).toNatClampNeg kd, upd mt.2.2.1 (mt.1 + (1 : Int32)).toNatClampNeg a, upd mt.2.2.2.1 (mt.1 + (1 : Int32)).toNatClampNeg b, mt.2.2.2.2.1, mt.2.2.2.2.2.1, mt.2.2.2.2.2.2) kd a b), upd mt.2.2.2.2.2.1 (mt.1 + (1 : Int32)).toNatClampNeg (vp_nar .boolean (0 : Int32)), vp_updL mt.2.2.2.2.2.2 (mt.1 + (1 : Int32)).toNatClampNeg (0 : Int64)))) else (if kd = 0 then ((mt.1 + (1 : Int32), ((0 : Int32), me.2.1, me.2.2), (mt.1 + (1 : Int32), upd mt.2.1 (mt.1 + (1 : Int32)).toNatClampNeg kd, upd mt.2.2.1 (mt.1 + (1 : Int32)).toNatClampNeg a, upd mt.2.2.2.1 (mt.1 + (1 : Int32)).toNatClampNeg b, upd mt.2.2.2.2.1 (mt.1 + (1 : Int32)).toNatClampNeg (G_X5_sureOf mc (mt.1 + (1 : Int32), upd mt.2.1 (mt.1 + (1 : Int32)).toNatClampNeg kd, upd mt.2.2.1 (mt.1 + (1 : Int32)).toNatClampNeg a, upd mt.2.2.2.1 (mt.1 + (1 : Int32)).toNatClampNeg b, mt.2.2.2.2.1, mt.2.2.2.2.2.1, mt.2.2.2.2.2.2) kd a b), upd mt.2.2.2.2.2.1 (mt.1 + (1 : Int32)).toNatClampNeg (vp_nar .boolean (0 : Int32)), vp_updL mt.2.2.2.2.2.2 (mt.1 + (1 : Int32)).toNatClampNeg a.toInt64))) else ((mt.1 + (1 : Int32), ((0 : Int32), me.2.1, me.2.2), (mt.1 + (1 : Int32), upd mt.2.1 (mt.1 + (1 : Int32)).toNatClampNeg kd, upd mt.2.2.1 (mt.1 + (1 : Int32)).toNatClampNeg a, upd mt.2.2.2.1 (mt.1 + (1 : Int32)).toNatClampNeg b, upd mt.2.2.2.2.1 (mt.1 + (1 : Int32)).toNatClampNeg (G_X5_sureOf mc (mt.1 + (1 : Int32), upd mt.2.1 (mt.1 + (1 : Int32)).toNatClampNeg kd, upd mt.2.2.1 (mt.1 + (1 : Int32)).toNatClampNeg a, upd mt.2.2.2.1 (mt.1 + (1 : Int32)).toNatClampNeg b, mt.2.2.2.2.1, mt.2.2.2.2.2.1, mt.2.2.2.2.2.2) kd a b), upd mt.2.2.2.2.2.1 (mt.1 + (1 : Int32)).toNatClampNeg (vp_nar .boolean (0 : Int32)), vp_updL mt.2.2.2.2.2.2 (mt.1 + (1 : Int32)).toNatClampNeg (G_X5_reckoned kd (mt.2.2.2.2.2.2 a.toNatClampNeg) (mt.2.2.2.2.2.2 b.toNatClampNeg))))))) else (if kd = (6 : Int32) then (if (lg_cmp (mt.2.2.2.2.2.2 b.toNatClampNeg) (0 : Int64)) = 0 then (if ((upd mt.2.2.2.2.2.1 (mt.1 + (1 : Int32)).toNatClampNeg (vp_nar .boolean (0 : Int32))) (mt.1 + (1 : Int32)).toNatClampNeg) = 0 then ((mt.1 + (1 : Int32), ((0 : Int32), me.2.1, me.2.2), (mt.1 + (1 : Int32), upd mt.2.1 (mt.1 + (1 : Int32)).toNatClampNeg kd, upd mt.2.2.1 (mt.1 + (1 : Int32)).toNatClampNeg a, upd mt.2.2.2.1 (mt.1 + (1 : Int32)).toNatClampNeg b, upd mt.2.2.2.2.1 (mt.1 + (1 : Int32)).toNatClampNeg (G_X5_sureOf mc (mt.1 + (1 : Int32), upd mt.2.1 (mt.1 + (1 : Int32)).toNatClampNeg kd, upd mt.2.2.1 (mt.1 + (1 : Int32)).toNatClampNeg a, upd mt.2.2.2.1 (mt.1 + (1 : Int32)).toNatClampNeg b, mt.2.2.2.2.1, mt.2.2.2.2.2.1, mt.2.2.2.2.2.2) kd a b), upd mt.2.2.2.2.2.1 (mt.1 + (1 : Int32)).toNatClampNeg (vp_nar .boolean (0 : Int32)), vp_updL mt.2.2.2.2.2.2 (mt.1 + (1 : Int32)).toNatClampNeg (0 : Int64)))) else (if kd = 0 then ((mt.1 + (1 : Int32), ((0 : Int32), me.2.1, me.2.2), (mt.1 + (1 : Int32), upd mt.2.1 (mt.1 + (1 : Int32)).toNatClampNeg kd, upd mt.2.2.1 (mt.1 + (1 : Int32)).toNatClampNeg a, upd mt.2.2.2.1 (mt.1 + (1 : Int32)).toNatClampNeg b, upd mt.2.2.2.2.1 (mt.1 + (1 : Int32)).toNatClampNeg (G_X5_sureOf mc (mt.1 + (1 : Int32), upd mt.2.1 (mt.1 + (1 : Int32)).toNatClampNeg kd, upd mt.2.2.1 (mt.1 + (1 : Int32)).toNatClampNeg a, upd mt.2.2.2.1 (mt.1 + (1 : Int32)).toNatClampNeg b, mt.2.2.2.2.1, mt.2.2.2.2.2.1, mt.2.2.2.2.2.2) kd a b), upd mt.2.2.2.2.2.1 (mt.1 + (1 : Int32)).toNatClampNeg (vp_nar .boolean (0 : Int32)), vp_updL mt.2.2.2.2.2.2 (mt.1 + (1 : Int32)).toNatClampNeg a.toInt64))) else ((mt.1 + (1 : Int32), ((0 : Int32), me.2.1, me.2.2), (mt.1 + (1 : Int32), upd mt.2.1 (mt.1 + (1 : Int32)).toNatClampNeg kd, upd mt.2.2.1 (mt.1 + (1 : Int32)).toNatClampNeg a, upd mt.2.2.2.1 (mt.1 + (1 : Int32)).toNatClampNeg b, upd mt.2.2.2.2.1 (mt.1 + (1 : Int32)).toNatClampNeg (G_X5_sureOf mc (mt.1 + (1 : Int32), upd mt.2.1 (mt.1 + (1 : Int32)).toNatClampNeg kd, upd mt.2.2.1 (mt.1 + (1 : Int32)).toNatClampNeg a, upd mt.2.2.2.1 (mt.1 + (1 : Int32)).toNatClampNeg b, mt.2.2.2.2.1, mt.2.2.2.2.2.1, mt.2.2.2.2.2.2) kd a b), upd mt.2.2.2.2.2.1 (mt.1 + (1 : Int32)).toNatClampNeg (vp_nar .boolean (0 : Int32)), vp_updL mt.2.2.2.2.2.2 (mt.1 + (1 : Int32)).toNatClampNeg (G_X5_reckoned kd (mt.2.2.2.2.2.2 a.toNatClampNeg) (mt.2.2.2.2.2.2 b.toNatClampNeg))))))) else (if ((upd mt.2.2.2.2.2.1 (mt.1 + (1 : Int32)).toNatClampNeg (vp_nar .boolean (1 : Int32))) (mt.1 + (1 : Int32)).toNatClampNeg) = 0 then ((mt.1 + (1 : Int32), ((0 : Int32), me.2.1, me.2.2), (mt.1 + (1 : Int32), upd mt.2.1 (mt.1 + (1 : Int32)).toNatClampNeg kd, upd mt.2.2.1 (mt.1 + (1 : Int32)).toNatClampNeg a, upd mt.2.2.2.1 (mt.1 + (1 : Int32)).toNatClampNeg b, upd mt.2.2.2.2.1 (mt.1 + (1 : Int32)).toNatClampNeg (G_X5_sureOf mc (mt.1 + (1 : Int32), upd mt.2.1 (mt.1 + (1 : Int32)).toNatClampNeg kd, upd mt.2.2.1 (mt.1 + (1 : Int32)).toNatClampNeg a, upd mt.2.2.2.1 (mt.1 + (1 : Int32)).toNatClampNeg b, mt.2.2.2.2.1, mt.2.2.2.2.2.1, mt.2.2.2.2.2.2) kd a b), upd mt.2.2.2.2.2.1 (mt.1 + (1 : Int32)).toNatClampNeg (vp_nar .boolean (1 : Int32)), vp_updL mt.2.2.2.2.2.2 (mt.1 + (1 : Int32)).toNatClampNeg (0 : Int64)))) else (if kd = 0 then ((mt.1 + (1 : Int32), ((0 : Int32), me.2.1, me.2.2), (mt.1 + (1 : Int32), upd mt.2.1 (mt.1 + (1 : Int32)).toNatClampNeg kd, upd mt.2.2.1 (mt.1 + (1 : Int32)).toNatClampNeg a, upd mt.2.2.2.1 (mt.1 + (1 : Int32)).toNatClampNeg b, upd mt.2.2.2.2.1 (mt.1 + (1 : Int32)).toNatClampNeg (G_X5_sureOf mc (mt.1 + (1 : Int32), upd mt.2.1 (mt.1 + (1 : Int32)).toNatClampNeg kd, upd mt.2.2.1 (mt.1 + (1 : Int32)).toNatClampNeg a, upd mt.2.2.2.1 (mt.1 + (1 : Int32)).toNatClampNeg b, mt.2.2.2.2.1, mt.2.2.2.2.2.1, mt.2.2.2.2.2.2) kd a b), upd mt.2.2.2.2.2.1 (mt.1 + (1 : Int32)).toNatClampNeg (vp_nar .boolean (1 : Int32)), vp_updL mt.2.2.2.2.2.2 (mt.1 + (1 : Int32)).toNatClampNeg a.toInt64))) else ((mt.1 + (1 : Int32), ((0 : Int32), me.2.1, me.2.2), (mt.1 + (1 : Int32), upd mt.2.1 (mt.1 + (1 : Int32)).toNatClampNeg kd, upd mt.2.2.1 (mt.1 + (1 : Int32)).toNatClampNeg a, upd mt.2.2.2.1 (mt.1 + (1 : Int32)).toNatClampNeg b, upd mt.2.2.2.2.1 (mt.1 + (1 : Int32)).toNatClampNeg (G_X5_sureOf mc (mt.1 + (1 : Int32), upd mt.2.1 (mt.1 + (1 : Int32)).toNatClampNeg kd, upd mt.2.2.1 (mt.1 + (1 : Int32)).toNatClampNeg a, upd mt.2.2.2.1 (mt.1 + (1 : Int32)).toNatClampNeg b, mt.2.2.2.2.1, mt.2.2.2.2.2.1, mt.2.2.2.2.2.2) kd a b), upd mt.2.2.2.2.2.1 (mt.1 + (1 : Int32)).toNatClampNeg (vp_nar .boolean (1 : Int32)), vp_updL mt.2.2.2.2.2.2 (mt.1 + (1 : Int32)).toNatClampNeg (G_X5_reckoned kd (mt.2.2.2.2.2.2 a.toNatClampNeg) (mt.2.2.2.2.2.2 b.toNatClampNeg)))))))) else (if ((upd mt.2.2.2.2.2.1 (mt.1 + (1 : Int32)).toNatClampNeg (vp_nar .boolean (1 : Int32))) (mt.1 + (1 : Int32)).toNatClampNeg) = 0 then ((mt.1 + (1 : Int32), ((0 : Int32), me.2.1, me.2.2), (mt.1 + (1 : Int32), upd mt.2.1 (mt.1 + (1 : Int32)).toNatClampNeg kd, upd mt.2.2.1 (mt.1 + (1 : Int32)).toNatClampNeg a, upd mt.2.2.2.1 (mt.1 + (1 : Int32)).toNatClampNeg b, upd mt.2.2.2.2.1 (mt.1 + (1 : Int32)).toNatClampNeg (G_X5_sureOf mc (mt.1 + (1 : Int32), upd mt.2.1 (mt.1 + (1 : Int32)).toNatClampNeg kd, upd mt.2.2.1 (mt.1 + (1 : Int32)).toNatClampNeg a, upd mt.2.2.2.1 (mt.1 + (1 : Int32)).toNatClampNeg b, mt.2.2.2.2.1, mt.2.2.2.2.2.1, mt.2.2.2.2.2.2) kd a b), upd mt.2.2.2.2.2.1 (mt.1 + (1 : Int32)).toNatClampNeg (vp_nar .boolean (1 : Int32)), vp_updL mt.2.2.2.2.2.2 (mt.1 + (1 : Int32)).toNatClampNeg (0 : Int64)))) else (if kd = 0 then ((mt.1 + (1 : Int32), ((0 : Int32), me.2.1, me.2.2), (mt.1 + (1 : Int32), upd mt.2.1 (mt.1 + (1 : Int32)).toNatClampNeg kd, upd mt.2.2.1 (mt.1 + (1 : Int32)).toNatClampNeg a, upd mt.2.2.2.1 (mt.1 + (1 : Int32)).toNatClampNeg b, upd mt.2.2.2.2.1 (mt.1 + (1 : Int32)).toNatClampNeg (G_X5_sureOf mc (mt.1 + (1 : Int32), upd mt.2.1 (mt.1 + (1 : Int32)).toNatClampNeg kd, upd mt.2.2.1 (mt.1 + (1 : Int32)).toNatClampNeg a, upd mt.2.2.2.1 (mt.1 + (1 : Int32)).toNatClampNeg b, mt.2.2.2.2.1, mt.2.2.2.2.2.1, mt.2.2.2.2.2.2) kd a b), upd mt.2.2.2.2.2.1 (mt.1 + (1 : Int32)).toNatClampNeg (vp_nar .boolean (1 : Int32)), vp_updL mt.2.2.2.2.2.2 (mt.1 + (1 : Int32)).toNatClampNeg a.toInt64))) else ((mt.1 + (1 : Int32), ((0 : Int32), me.2.1, me.2.2), (mt.1 + (1 : Int32), upd mt.2.1 (mt.1 + (1 : Int32)).toNatClampNeg kd, upd mt.2.2.1 (mt.1 + (1 : Int32)).toNatClampNeg a, upd mt.2.2.2.1 (mt.1 + (1 : Int32)).toNatClampNeg b, upd mt.2.2.2.2.1 (mt.1 + (1 : Int32)).toNatClampNeg (G_X5_sureOf mc (mt.1 + (1 : Int32), upd mt.2.1 (mt.1 + (1 : Int32)).toNatClampNeg kd, upd mt.2.2.1 (mt.1 + (1 : Int32)).toNatClampNeg a, upd mt.2.2.2.1 (mt.1 + (1 : Int32)).toNatClampNeg b, mt.2.2.2.2.1, mt.2.2.2.2.2.1, mt.2.2.2.2.2.2) kd a b), upd mt.2.2.2.2.2.1 (mt.1 + (1 : Int32)).toNatClampNeg (vp_nar .boolean (1 : Int32)), vp_updL mt.2.2.2.2.2.2 (mt.1 + (1 : Int32)).toNatClampNeg (G_X5_reckoned kd (mt.2.2.2.2.2.2 a.toNatClampNeg) (mt.2.2.2.2.2.2 b.toNatClampNeg))))))))))))))) else (((-4 : Int32), ((0 : Int32), me.2.1, me.2.2), mt)))
def OK_X5_node (me : ME) (mc : MC) (mt : MT) (kd : Int32) (a : Int32) (b : Int32) : Prop := if kd < 0 then (True) else (if kd ≤ (13 : Int32) then ((OK_X5_isSo mc mt kd a b) ∧ (if (G_X5_isSo mc mt kd a b) = 0 then (True) else (if mt.1 = (200 : Int32) then (True) else ((vp_in (mt.1 + (1 : Int32)) 201) ∧ ((vp_in (mt.1 + (1 : Int32)) 201) ∧ ((vp_in (mt.1 + (1 : Int32)) 201) ∧ ((OK_X5_sureOf mc (mt.1 + (1 : Int32), upd mt.2.1 (mt.1 + (1 : Int32)).toNatClampNeg kd, upd mt.2.2.1 (mt.1 + (1 : Int32)).toNatClampNeg a, upd mt.2.2.2.1 (mt.1 + (1 : Int32)).toNatClampNeg b, mt.2.2.2.2.1, mt.2.2.2.2.2.1, mt.2.2.2.2.2.2) kd a b) ∧ ((vp_in (mt.1 + (1 : Int32)) 201) ∧ (if kd = 0 then ((vp_in (mt.1 + (1 : Int32)) 201) ∧ ((vp_in (mt.1 + (1 : Int32)) 201) ∧ (if ((upd mt.2.2.2.2.2.1 (mt.1 + (1 : Int32)).toNatClampNeg (vp_nar .boolean (1 : Int32))) (mt.1 + (1 : Int32)).toNatClampNeg) = 0 then ((vp_in (mt.1 + (1 : Int32)) 201) ∧ (True)) else (if kd = 0 then ((vp_in (mt.1 + (1 : Int32)) 201) ∧ (True)) else ((vp_in a 201) ∧ ((vp_in b 201) ∧ ((OK_X5_reckoned kd (mt.2.2.2.2.2.2 a.toNatClampNeg) (mt.2.2.2.2.2.2 b.toNatClampNeg)) ∧ ((vp_in (mt.1 + (1 : Int32)) 201) ∧ (True))))))))) else (if kd ≤ (2 : Int32) then ((vp_in (mt.1 + (1 : Int32)) 201) ∧ ((vp_in (mt.1 + (1 : Int32)) 201) ∧ (if ((upd mt.2.2.2.2.2.1 (mt.1 + (1 : Int32)).toNatClampNeg (vp_nar .boolean (0 : Int32))) (mt.1 + (1 : Int32)).toNatClampNeg) = 0 then ((vp_in (mt.1 + (1 : Int32)) 201) ∧ (True)) else (if kd = 0 then ((vp_in (mt.1 + (1 : Int32)) 201) ∧ (True)) else ((vp_in a 201) ∧ ((vp_in b 201) ∧ ((OK_X5_reckoned kd (mt.2.2.2.2.2.2 a.toNatClampNeg) (mt.2.2.2.2.2.2 b.toNatClampNeg)) ∧ ((vp_in (mt.1 + (1 : Int32)) 201) ∧ (True))))))))) else (if (9 : Int32) ≤ kd then ((vp_in (mt.1 + (1 : Int32)) 201) ∧ ((vp_in (mt.1 + (1 : Int32)) 201) ∧ (if ((upd mt.2.2.2.2.2.1 (mt.1 + (1 : Int32)).toNatClampNeg (vp_nar .boolean (0 : Int32))) (mt.1 + (1 : Int32)).toNatClampNeg) = 0 then ((vp_in (mt.1 + (1 : Int32)) 201) ∧ (True)) else (if kd = 0 then ((vp_in (mt.1 + (1 : Int32)) 201) ∧ (True)) else ((vp_in a 201) ∧ ((vp_in b 201) ∧ ((OK_X5_reckoned kd (mt.2.2.2.2.2.2 a.toNatClampNeg) (mt.2.2.2.2.2.2 b.toNatClampNeg)) ∧ ((vp_in (mt.1 + (1 : Int32)) 201) ∧ (True))))))))) else ((vp_in a 201) ∧ (if (mt.2.2.2.2.2.1 a.toNatClampNeg) = 0 then ((vp_in (mt.1 + (1 : Int32)) 201) ∧ ((vp_in (mt.1 + (1 : Int32)) 201) ∧ (if ((upd mt.2.2.2.2.2.1 (mt.1 + (1 : Int32)).toNatClampNeg (vp_nar .boolean (0 : Int32))) (mt.1 + (1 : Int32)).toNatClampNeg) = 0 then ((vp_in (mt.1 + (1 : Int32)) 201) ∧ (True)) else (if kd = 0 then ((vp_in (mt.1 + (1 : Int32)) 201) ∧ (True)) else ((vp_in a 201) ∧ ((vp_in b 201) ∧ ((OK_X5_reckoned kd (mt.2.2.2.2.2.2 a.toNatClampNeg) (mt.2.2.2.2.2.2 b.toNatClampNeg)) ∧ ((vp_in (mt.1 + (1 : Int32)) 201) ∧ (True))))))))) else ((vp_in b 201) ∧ (if (mt.2.2.2.2.2.1 b.toNatClampNeg) = 0 then ((vp_in (mt.1 + (1 : Int32)) 201) ∧ ((vp_in (mt.1 + (1 : Int32)) 201) ∧ (if ((upd mt.2.2.2.2.2.1 (mt.1 + (1 : Int32)).toNatClampNeg (vp_nar .boolean (0 : Int32))) (mt.1 + (1 : Int32)).toNatClampNeg) = 0 then ((vp_in (mt.1 + (1 : Int32)) 201) ∧ (True)) else (if kd = 0 then ((vp_in (mt.1 + (1 : Int32)) 201) ∧ (True)) else ((vp_in a 201) ∧ ((vp_in b 201) ∧ ((OK_X5_reckoned kd (mt.2.2.2.2.2.2 a.toNatClampNeg) (mt.2.2.2.2.2.2 b.toNatClampNeg)) ∧ ((vp_in (mt.1 + (1 : Int32)) 201) ∧ (True))))))))) else (if kd = (6 : Int32) then ((vp_in b 201) ∧ (if (lg_cmp (mt.2.2.2.2.2.2 b.toNatClampNeg) (0 : Int64)) = 0 then ((vp_in (mt.1 + (1 : Int32)) 201) ∧ ((vp_in (mt.1 + (1 : Int32)) 201) ∧ (if ((upd mt.2.2.2.2.2.1 (mt.1 + (1 : Int32)).toNatClampNeg (vp_nar .boolean (0 : Int32))) (mt.1 + (1 : Int32)).toNatClampNeg) = 0 then ((vp_in (mt.1 + (1 : Int32)) 201) ∧ (True)) else (if kd = 0 then ((vp_in (mt.1 + (1 : Int32)) 201) ∧ (True)) else ((vp_in a 201) ∧ ((vp_in b 201) ∧ ((OK_X5_reckoned kd (mt.2.2.2.2.2.2 a.toNatClampNeg) (mt.2.2.2.2.2.2 b.toNatClampNeg)) ∧ ((vp_in (mt.1 + (1 : Int32)) 201) ∧ (True))))))))) else ((vp_in (mt.1 + (1 : Int32)) 201) ∧ ((vp_in (mt.1 + (1 : Int32)) 201) ∧ (if ((upd mt.2.2.2.2.2.1 (mt.1 + (1 : Int32)).toNatClampNeg (vp_nar .boolean (1 : Int32))) (mt.1 + (1 : Int32)).toNatClampNeg) = 0 then ((vp_in (mt.1 + (1 : Int32)) 201) ∧ (True)) else (if kd = 0 then ((vp_in (mt.1 + (1 : Int32)) 201) ∧ (True)) else ((vp_in a 201) ∧ ((vp_in b 201) ∧ ((OK_X5_reckoned kd (mt.2.2.2.2.2.2 a.toNatClampNeg) (mt.2.2.2.2.2.2 b.toNatClampNeg)) ∧ ((vp_in (mt.1 + (1 : Int32)) 201) ∧ (True))))))))))) else ((vp_in (mt.1 + (1 : Int32)) 201) ∧ ((vp_in (mt.1 + (1 : Int32)) 201) ∧ (if ((upd mt.2.2.2.2.2.1 (mt.1 + (1 : Int32)).toNatClampNeg (vp_nar .boolean (1 : Int32))) (mt.1 + (1 : Int32)).toNatClampNeg) = 0 then ((vp_in (mt.1 + (1 : Int32)) 201) ∧ (True)) else (if kd = 0 then ((vp_in (mt.1 + (1 : Int32)) 201) ∧ (True)) else ((vp_in a 201) ∧ ((vp_in b 201) ∧ ((OK_X5_reckoned kd (mt.2.2.2.2.2.2 a.toNatClampNeg) (mt.2.2.2.2.2.2 b.toNatClampNeg)) ∧ ((vp_in (mt.1 + (1 : Int32)) 201) ∧ (True))))))))))))))))))))))))) else (True))
set_option maxHeartbeats 4000000 in
set_option maxRecDepth 100000 in
theorem c_X5_node (l : Launch) (w : WG) (hA : wAp w 25) (me : ME) (mb : AI) (mc : MC) (mt : MT) (mk : MK) (mr : MR) (mq : MQS) (mv : MV) (kd : Int32) (a : Int32) (b : Int32) (hok : OK_X5_node me mc mt kd a b) : Met l yX5_node wsX5_node { frames := 3, cells := 0, slots := 0, locals := 65 } (va_Pc [.ref (w.2.2 0), .int kd, .int a, .int b] (wPK w (wM w me mb mc mt mk mr mq mv))) (xM (some (.int ((G_X5_node me mc mt kd a b).1))) (fun H => va_P w.1 vwCl (wM w ((G_X5_node me mc mt kd a b).2.1) mb mc ((G_X5_node me mc mt kd a b).2.2) mk mr mq mv) H) (wA w 25)) 0 0 (wA w 25) := by
  refine xOf (cc := cX5_node) (maxL := 4) (ret := (some .int)) (lv := [(0, .ref (w.2.2 0)), (1, .int kd), (2, .int a), (3, .int b)]) (by decide) rfl (Nat.le_of_ble_eq_true rfl) rfl ?_
  intro pP eE S mM below meth C hx hb hr hml hts hown hlk hnm hw ls hl
  obtain ⟨hP, hK⟩ := hw
  have hS : va_S (wA w 25) S.heap S.heap [] := va_S.rf
  have hP : va_P w.1 vwCl (wM w me mb mc mt mk mr mq mv) S.heap := hP
  refine lv_aload_n hx hb dX5_node_0 rfl (lv_at hl 0 rfl) ?_
  refine lv_iconst (v := 0) hx hb dX5_node_1 (by decide) ?_
  refine va_put (D := w.1) (ci := 6) (v := .int (0 : Int32)) (ty := .int) (C := RX5) (T := TX5) (N := 33) hx hb hts iw_X5_node_X5 tyX5 tyX5_ok nmX5 hown hK.1 hP (wM_D hA) hS 0 rfl rfl 0 (by decide) (hts _ fl_X5_node_85) (fun _ h9 => h9) rfl (by decide +kernel) rfl rfl (Nat.le_of_ble_eq_true rfl) dX5_node_2 (fun H locs hP _ hS => ?_)
  have hP : va_P w.1 vwCl (wM w ((0 : Int32), me.2.1, me.2.2) mb mc mt mk mr mq mv) H := hP
  refine lv_iload_n hx hb dX5_node_5 rfl (lv_at hl 1 rfl) ?_
  refine lv_if_lt (tgt := 15) hx hb dX5_node_6 (by decide) (fun b1 => ?_) (fun b1 => ?_)
  ·
    have k2 := Eq.mp (if_pos b1) hok
    refine lv_bipush (v := -4) hx hb dX5_node_15 (by decide) ?_
    have e9 : G_X5_node me mc mt kd a b = ((-4 : Int32), ((0 : Int32), me.2.1, me.2.2), mt) := Eq.trans rfl (if_pos b1)
    exact xM_iret hx hb hr hlk  hS (by rw [e9]) (by rw [e9]; exact hP) dX5_node_17
  ·
    have k3 := Eq.mp (if_neg b1) hok
    refine lv_iload_n hx hb dX5_node_9 rfl (lv_at hl 1 rfl) ?_
    refine lv_bipush (v := 13) hx hb dX5_node_10 (by decide) ?_
    refine lv_icmp_le (tgt := 18) hx hb dX5_node_12 (by decide) (fun b4 => ?_) (fun b4 => ?_)
    ·
      have k5 := Eq.mp (if_pos b4) k3
      refine lv_aload_n hx hb dX5_node_18 rfl (lv_at hl 0 rfl) ?_
      refine lv_iload_n hx hb dX5_node_19 rfl (lv_at hl 1 rfl) ?_
      refine lv_iload_n hx hb dX5_node_20 rfl (lv_at hl 2 rfl) ?_
      refine lv_iload_n hx hb dX5_node_21 rfl (lv_at hl 3 rfl) ?_
      have o6 := k5.1
      have k7 := k5.2
      refine xR_i (va_runV (As := [.int kd, .int a, .int b]) (rest := []) ⟨hx, hb, hml, hown, hts⟩ (c_X5_isSo l w ((0 : Int32), me.2.1, me.2.2) mb mc mt mk mr mq mv kd a b o6) (cwV 3 hts gX5_node_X5_isSo rfl rfl rfl dv_X5_isSo ⟨Nat.le_of_ble_eq_true rfl, Nat.le_of_ble_eq_true rfl⟩) (wPreV hP hK (ci := 6) (q0 := 0) rfl rfl) rfl rfl hl.1 rfl (lv_room (Nat.le_of_ble_eq_true rfl)) dX5_node_22 ⟨Nat.zero_le _, Nat.zero_le _⟩) ?_
      refine lv_if_ne (tgt := 31) hx hb dX5_node_25 (by decide) (fun b8 => ?_) (fun b8 => ?_)
      ·
        have k9 := Eq.mp (if_neg b8) k7
        refine lv_aload_n hx hb dX5_node_31 rfl (lv_at hl 0 rfl) ?_
        refine va_get (D := w.1) (ci := 6) (v := .int mt.1) (C := RX5) (T := TX5) (N := 33) hx hb hts iw_X5_node_X5 hown hK.1 hP 0 rfl rfl 13 (by decide) (hts _ fl_X5_node_118) (fun _ h9 => h9) rfl dX5_node_32 ?_
        refine lv_sipush (v := 200) hx hb dX5_node_35 (by decide) ?_
        refine lv_icmp_ne (tgt := 43) hx hb dX5_node_38 (by decide) (fun b10 => ?_) (fun b10 => ?_)
        ·
          have k11 := Eq.mp (if_neg b10) k9
          refine lv_aload_n hx hb dX5_node_43 rfl (lv_at hl 0 rfl) ?_
          refine lv_dup hx hb dX5_node_44 rfl ?_
          refine va_get (D := w.1) (ci := 6) (v := .int mt.1) (C := RX5) (T := TX5) (N := 33) hx hb hts iw_X5_node_X5 hown hK.1 hP 0 rfl rfl 13 (by decide) (hts _ fl_X5_node_118) (fun _ h9 => h9) rfl dX5_node_45 ?_
          refine lv_iconst (v := 1) hx hb dX5_node_48 (by decide) ?_
          refine lv_iadd hx hb dX5_node_49 ?_
          refine va_put (D := w.1) (ci := 6) (v := .int (mt.1 + (1 : Int32))) (ty := .int) (C := RX5) (T := TX5) (N := 33) hx hb hts iw_X5_node_X5 tyX5 tyX5_ok nmX5 hown hK.1 hP (wM_D hA) hS 0 rfl rfl 13 (by decide) (hts _ fl_X5_node_118) (fun _ h9 => h9) rfl (by decide +kernel) rfl rfl (Nat.le_of_ble_eq_true rfl) dX5_node_50 (fun H locs hP _ hS => ?_)
          have hP : va_P w.1 vwCl (wM w ((0 : Int32), me.2.1, me.2.2) mb mc (mt.1 + (1 : Int32), mt.2.1, mt.2.2.1, mt.2.2.2.1, mt.2.2.2.2.1, mt.2.2.2.2.2.1, mt.2.2.2.2.2.2) mk mr mq mv) H := hP
          refine lv_aload_n hx hb dX5_node_53 rfl (lv_at hl 0 rfl) ?_
          refine va_get (D := w.1) (ci := 6) (v := .ref (w.2.2 6)) (C := RX5) (T := TX5) (N := 33) hx hb hts iw_X5_node_X5 hown hK.1 hP 0 rfl rfl 7 (by decide) (hts _ fl_X5_node_26) (fun _ h9 => h9) rfl dX5_node_54 ?_
          refine lv_aload_n hx hb dX5_node_57 rfl (lv_at hl 0 rfl) ?_
          refine va_get (D := w.1) (ci := 6) (v := .int (mt.1 + (1 : Int32))) (C := RX5) (T := TX5) (N := 33) hx hb hts iw_X5_node_X5 hown hK.1 hP 0 rfl rfl 13 (by decide) (hts _ fl_X5_node_118) (fun _ h9 => h9) rfl dX5_node_58 ?_
          refine lv_iload_n hx hb dX5_node_61 rfl (lv_at hl 1 rfl) ?_
          have o12 := k11.1
          have k13 := k11.2
          refine va_iast hx hb hK.1 hP (wM_D hA) hS 6 0 rfl rfl o12 dX5_node_62 (fun H locs hP _ hS => ?_)
          have hP : va_P w.1 vwCl (wM w ((0 : Int32), me.2.1, me.2.2) mb mc (mt.1 + (1 : Int32), upd mt.2.1 (mt.1 + (1 : Int32)).toNatClampNeg kd, mt.2.2.1, mt.2.2.2.1, mt.2.2.2.2.1, mt.2.2.2.2.2.1, mt.2.2.2.2.2.2) mk mr mq mv) H := hP
          refine lv_aload_n hx hb dX5_node_63 rfl (lv_at hl 0 rfl) ?_
          refine va_get (D := w.1) (ci := 6) (v := .ref (w.2.2 7)) (C := RX5) (T := TX5) (N := 33) hx hb hts iw_X5_node_X5 hown hK.1 hP 0 rfl rfl 8 (by decide) (hts _ fl_X5_node_29) (fun _ h9 => h9) rfl dX5_node_64 ?_
          refine lv_aload_n hx hb dX5_node_67 rfl (lv_at hl 0 rfl) ?_
          refine va_get (D := w.1) (ci := 6) (v := .int (mt.1 + (1 : Int32))) (C := RX5) (T := TX5) (N := 33) hx hb hts iw_X5_node_X5 hown hK.1 hP 0 rfl rfl 13 (by decide) (hts _ fl_X5_node_118) (fun _ h9 => h9) rfl dX5_node_68 ?_
          refine lv_iload_n hx hb dX5_node_71 rfl (lv_at hl 2 rfl) ?_
          have o14 := k13.1
          have k15 := k13.2
          refine va_iast hx hb hK.1 hP (wM_D hA) hS 7 0 rfl rfl o14 dX5_node_72 (fun H locs hP _ hS => ?_)
          have hP : va_P w.1 vwCl (wM w ((0 : Int32), me.2.1, me.2.2) mb mc (mt.1 + (1 : Int32), upd mt.2.1 (mt.1 + (1 : Int32)).toNatClampNeg kd, upd mt.2.2.1 (mt.1 + (1 : Int32)).toNatClampNeg a, mt.2.2.2.1, mt.2.2.2.2.1, mt.2.2.2.2.2.1, mt.2.2.2.2.2.2) mk mr mq mv) H := hP
          refine lv_aload_n hx hb dX5_node_73 rfl (lv_at hl 0 rfl) ?_
          refine va_get (D := w.1) (ci := 6) (v := .ref (w.2.2 8)) (C := RX5) (T := TX5) (N := 33) hx hb hts iw_X5_node_X5 hown hK.1 hP 0 rfl rfl 9 (by decide) (hts _ fl_X5_node_32) (fun _ h9 => h9) rfl dX5_node_74 ?_
          refine lv_aload_n hx hb dX5_node_77 rfl (lv_at hl 0 rfl) ?_
          refine va_get (D := w.1) (ci := 6) (v := .int (mt.1 + (1 : Int32))) (C := RX5) (T := TX5) (N := 33) hx hb hts iw_X5_node_X5 hown hK.1 hP 0 rfl rfl 13 (by decide) (hts _ fl_X5_node_118) (fun _ h9 => h9) rfl dX5_node_78 ?_
          refine lv_iload_n hx hb dX5_node_81 rfl (lv_at hl 3 rfl) ?_
          have o16 := k15.1
          have k17 := k15.2
          refine va_iast hx hb hK.1 hP (wM_D hA) hS 8 0 rfl rfl o16 dX5_node_82 (fun H locs hP _ hS => ?_)
          have hP : va_P w.1 vwCl (wM w ((0 : Int32), me.2.1, me.2.2) mb mc (mt.1 + (1 : Int32), upd mt.2.1 (mt.1 + (1 : Int32)).toNatClampNeg kd, upd mt.2.2.1 (mt.1 + (1 : Int32)).toNatClampNeg a, upd mt.2.2.2.1 (mt.1 + (1 : Int32)).toNatClampNeg b, mt.2.2.2.2.1, mt.2.2.2.2.2.1, mt.2.2.2.2.2.2) mk mr mq mv) H := hP
          refine lv_aload_n hx hb dX5_node_83 rfl (lv_at hl 0 rfl) ?_
          refine va_get (D := w.1) (ci := 6) (v := .ref (w.2.2 9)) (C := RX5) (T := TX5) (N := 33) hx hb hts iw_X5_node_X5 hown hK.1 hP 0 rfl rfl 10 (by decide) (hts _ fl_X5_node_35) (fun _ h9 => h9) rfl dX5_node_84 ?_
          refine lv_aload_n hx hb dX5_node_87 rfl (lv_at hl 0 rfl) ?_
          refine va_get (D := w.1) (ci := 6) (v := .int (mt.1 + (1 : Int32))) (C := RX5) (T := TX5) (N := 33) hx hb hts iw_X5_node_X5 hown hK.1 hP 0 rfl rfl 13 (by decide) (hts _ fl_X5_node_118) (fun _ h9 => h9) rfl dX5_node_88 ?_
          refine lv_aload_n hx hb dX5_node_91 rfl (lv_at hl 0 rfl) ?_
          refine lv_iload_n hx hb dX5_node_92 rfl (lv_at hl 1 rfl) ?_
          refine lv_iload_n hx hb dX5_node_93 rfl (lv_at hl 2 rfl) ?_
          refine lv_iload_n hx hb dX5_node_94 rfl (lv_at hl 3 rfl) ?_
          have o18 := k17.1
          have k19 := k17.2
          refine xR_i (va_runV (As := [.int kd, .int a, .int b]) (rest := [.int (mt.1 + (1 : Int32)), .ref (w.2.2 9)]) ⟨hx, hb, hml, hown, hts⟩ (c_X5_sureOf l w ((0 : Int32), me.2.1, me.2.2) mb mc (mt.1 + (1 : Int32), upd mt.2.1 (mt.1 + (1 : Int32)).toNatClampNeg kd, upd mt.2.2.1 (mt.1 + (1 : Int32)).toNatClampNeg a, upd mt.2.2.2.1 (mt.1 + (1 : Int32)).toNatClampNeg b, mt.2.2.2.2.1, mt.2.2.2.2.2.1, mt.2.2.2.2.2.2) mk mr mq mv kd a b o18) (cwV 3 hts gX5_node_X5_sureOf rfl rfl rfl dv_X5_sureOf ⟨Nat.le_of_ble_eq_true rfl, Nat.le_of_ble_eq_true rfl⟩) (wPreV hP hK (ci := 6) (q0 := 0) rfl rfl) rfl rfl hl.1 rfl (lv_room (Nat.le_of_ble_eq_true rfl)) dX5_node_95 ⟨Nat.zero_le _, Nat.zero_le _⟩) ?_
          have o20 := k19.1
          have k21 := k19.2
          refine va_iast hx hb hK.1 hP (wM_D hA) hS 9 0 rfl rfl o20 dX5_node_98 (fun H locs hP _ hS => ?_)
          have hP : va_P w.1 vwCl (wM w ((0 : Int32), me.2.1, me.2.2) mb mc (mt.1 + (1 : Int32), upd mt.2.1 (mt.1 + (1 : Int32)).toNatClampNeg kd, upd mt.2.2.1 (mt.1 + (1 : Int32)).toNatClampNeg a, upd mt.2.2.2.1 (mt.1 + (1 : Int32)).toNatClampNeg b, upd mt.2.2.2.2.1 (mt.1 + (1 : Int32)).toNatClampNeg (G_X5_sureOf mc (mt.1 + (1 : Int32), upd mt.2.1 (mt.1 + (1 : Int32)).toNatClampNeg kd, upd mt.2.2.1 (mt.1 + (1 : Int32)).toNatClampNeg a, upd mt.2.2.2.1 (mt.1 + (1 : Int32)).toNatClampNeg b, mt.2.2.2.2.1, mt.2.2.2.2.2.1, mt.2.2.2.2.2.2) kd a b), mt.2.2.2.2.2.1, mt.2.2.2.2.2.2) mk mr mq mv) H := hP
          refine lv_aload_n hx hb dX5_node_99 rfl (lv_at hl 0 rfl) ?_
          refine va_get (D := w.1) (ci := 6) (v := .ref (w.2.2 10)) (C := RX5) (T := TX5) (N := 33) hx hb hts iw_X5_node_X5 hown hK.1 hP 0 rfl rfl 11 (by decide) (hts _ fl_X5_node_38) (fun _ h9 => h9) rfl dX5_node_100 ?_
          refine lv_aload_n hx hb dX5_node_103 rfl (lv_at hl 0 rfl) ?_
          refine va_get (D := w.1) (ci := 6) (v := .int (mt.1 + (1 : Int32))) (C := RX5) (T := TX5) (N := 33) hx hb hts iw_X5_node_X5 hown hK.1 hP 0 rfl rfl 13 (by decide) (hts _ fl_X5_node_118) (fun _ h9 => h9) rfl dX5_node_104 ?_
          refine lv_iload_n hx hb dX5_node_107 rfl (lv_at hl 1 rfl) ?_
          refine lv_if_eq (tgt := 157) hx hb dX5_node_108 (by decide) (fun b22 => ?_) (fun b22 => ?_)
          ·
            have k23 := Eq.mp (if_pos b22) k21
            refine lv_iconst (v := 1) hx hb dX5_node_157 (by decide) ?_
            refine lv_goto (tgt := 162) hx hb dX5_node_158 (by decide) ?_
            have o24 := k23.1
            have k25 := k23.2
            refine va_zast hx hb hK.1 hP (wM_D hA) hS 10 2 rfl rfl o24 dX5_node_162 (fun H locs hP _ hS => ?_)
            have hP : va_P w.1 vwCl (wM w ((0 : Int32), me.2.1, me.2.2) mb mc (mt.1 + (1 : Int32), upd mt.2.1 (mt.1 + (1 : Int32)).toNatClampNeg kd, upd mt.2.2.1 (mt.1 + (1 : Int32)).toNatClampNeg a, upd mt.2.2.2.1 (mt.1 + (1 : Int32)).toNatClampNeg b, upd mt.2.2.2.2.1 (mt.1 + (1 : Int32)).toNatClampNeg (G_X5_sureOf mc (mt.1 + (1 : Int32), upd mt.2.1 (mt.1 + (1 : Int32)).toNatClampNeg kd, upd mt.2.2.1 (mt.1 + (1 : Int32)).toNatClampNeg a, upd mt.2.2.2.1 (mt.1 + (1 : Int32)).toNatClampNeg b, mt.2.2.2.2.1, mt.2.2.2.2.2.1, mt.2.2.2.2.2.2) kd a b), upd mt.2.2.2.2.2.1 (mt.1 + (1 : Int32)).toNatClampNeg (vp_nar .boolean (1 : Int32)), mt.2.2.2.2.2.2) mk mr mq mv) H := hP
            refine lv_aload_n hx hb dX5_node_163 rfl (lv_at hl 0 rfl) ?_
            refine va_get (D := w.1) (ci := 6) (v := .ref (w.2.2 11)) (C := RX5) (T := TX5) (N := 33) hx hb hts iw_X5_node_X5 hown hK.1 hP 0 rfl rfl 12 (by decide) (hts _ fl_X5_node_42) (fun _ h9 => h9) rfl dX5_node_164 ?_
            refine lv_aload_n hx hb dX5_node_167 rfl (lv_at hl 0 rfl) ?_
            refine va_get (D := w.1) (ci := 6) (v := .int (mt.1 + (1 : Int32))) (C := RX5) (T := TX5) (N := 33) hx hb hts iw_X5_node_X5 hown hK.1 hP 0 rfl rfl 13 (by decide) (hts _ fl_X5_node_118) (fun _ h9 => h9) rfl dX5_node_168 ?_
            refine lv_aload_n hx hb dX5_node_171 rfl (lv_at hl 0 rfl) ?_
            refine va_get (D := w.1) (ci := 6) (v := .ref (w.2.2 10)) (C := RX5) (T := TX5) (N := 33) hx hb hts iw_X5_node_X5 hown hK.1 hP 0 rfl rfl 11 (by decide) (hts _ fl_X5_node_38) (fun _ h9 => h9) rfl dX5_node_172 ?_
            refine lv_aload_n hx hb dX5_node_175 rfl (lv_at hl 0 rfl) ?_
            refine va_get (D := w.1) (ci := 6) (v := .int (mt.1 + (1 : Int32))) (C := RX5) (T := TX5) (N := 33) hx hb hts iw_X5_node_X5 hown hK.1 hP 0 rfl rfl 13 (by decide) (hts _ fl_X5_node_118) (fun _ h9 => h9) rfl dX5_node_176 ?_
            have o26 := k25.1
            have k27 := k25.2
            refine va_zald hx hb hK.1 hP 10 2 rfl rfl o26 dX5_node_179 ?_
            refine lv_if_ne (tgt := 187) hx hb dX5_node_180 (by decide) (fun b28 => ?_) (fun b28 => ?_)
            ·
              have k29 := Eq.mp (if_neg b28) k27
              refine lv_iload_n hx hb dX5_node_187 rfl (lv_at hl 1 rfl) ?_
              refine lv_if_ne (tgt := 196) hx hb dX5_node_188 (by decide) (fun b30 => ?_) (fun b30 => ?_)
              ·
                have k31 := Eq.mp (if_neg b30) k29
                refine lv_iload_n hx hb dX5_node_196 rfl (lv_at hl 1 rfl) ?_
                refine lv_aload_n hx hb dX5_node_197 rfl (lv_at hl 0 rfl) ?_
                refine va_get (D := w.1) (ci := 6) (v := .ref (w.2.2 11)) (C := RX5) (T := TX5) (N := 33) hx hb hts iw_X5_node_X5 hown hK.1 hP 0 rfl rfl 12 (by decide) (hts _ fl_X5_node_42) (fun _ h9 => h9) rfl dX5_node_198 ?_
                refine lv_iload_n hx hb dX5_node_201 rfl (lv_at hl 2 rfl) ?_
                have o32 := k31.1
                have k33 := k31.2
                refine va_lald hx hb hK.1 hP 11 3 rfl rfl o32 dX5_node_202 ?_
                refine lv_aload_n hx hb dX5_node_203 rfl (lv_at hl 0 rfl) ?_
                refine va_get (D := w.1) (ci := 6) (v := .ref (w.2.2 11)) (C := RX5) (T := TX5) (N := 33) hx hb hts iw_X5_node_X5 hown hK.1 hP 0 rfl rfl 12 (by decide) (hts _ fl_X5_node_42) (fun _ h9 => h9) rfl dX5_node_204 ?_
                refine lv_iload_n hx hb dX5_node_207 rfl (lv_at hl 3 rfl) ?_
                have o34 := k33.1
                have k35 := k33.2
                refine va_lald hx hb hK.1 hP 11 3 rfl rfl o34 dX5_node_208 ?_
                have o36 := k35.1
                have k37 := k35.2
                refine xR_l (va_runS (As := [.int kd, .long (mt.2.2.2.2.2.2 a.toNatClampNeg), .long (mt.2.2.2.2.2.2 b.toNatClampNeg)]) (rest := [.int (mt.1 + (1 : Int32)), .ref (w.2.2 11)]) ⟨hx, hb, hml, hown, hts⟩ (c_X5_reckoned l w ((0 : Int32), me.2.1, me.2.2) mb mc (mt.1 + (1 : Int32), upd mt.2.1 (mt.1 + (1 : Int32)).toNatClampNeg kd, upd mt.2.2.1 (mt.1 + (1 : Int32)).toNatClampNeg a, upd mt.2.2.2.1 (mt.1 + (1 : Int32)).toNatClampNeg b, upd mt.2.2.2.2.1 (mt.1 + (1 : Int32)).toNatClampNeg (G_X5_sureOf mc (mt.1 + (1 : Int32), upd mt.2.1 (mt.1 + (1 : Int32)).toNatClampNeg kd, upd mt.2.2.1 (mt.1 + (1 : Int32)).toNatClampNeg a, upd mt.2.2.2.1 (mt.1 + (1 : Int32)).toNatClampNeg b, mt.2.2.2.2.1, mt.2.2.2.2.2.1, mt.2.2.2.2.2.2) kd a b), upd mt.2.2.2.2.2.1 (mt.1 + (1 : Int32)).toNatClampNeg (vp_nar .boolean (1 : Int32)), mt.2.2.2.2.2.2) mk mr mq mv kd (mt.2.2.2.2.2.2 a.toNatClampNeg) (mt.2.2.2.2.2.2 b.toNatClampNeg) o36) (va_cwS 3 hts gX5_node_X5_reckoned rfl rfl rfl ds_X5_reckoned ⟨Nat.le_of_ble_eq_true rfl, Nat.le_of_ble_eq_true rfl⟩) (wPre hP hK) rfl rfl hl.1 rfl (lv_room (Nat.le_of_ble_eq_true rfl)) dX5_node_209 ⟨Nat.zero_le _, Nat.zero_le _⟩) ?_
                have o38 := k37.1
                have k39 := k37.2
                refine va_last hx hb hK.1 hP (wM_D hA) hS 11 3 rfl rfl o38 dX5_node_212 (fun H locs hP _ hS => ?_)
                have hP : va_P w.1 vwCl (wM w ((0 : Int32), me.2.1, me.2.2) mb mc (mt.1 + (1 : Int32), upd mt.2.1 (mt.1 + (1 : Int32)).toNatClampNeg kd, upd mt.2.2.1 (mt.1 + (1 : Int32)).toNatClampNeg a, upd mt.2.2.2.1 (mt.1 + (1 : Int32)).toNatClampNeg b, upd mt.2.2.2.2.1 (mt.1 + (1 : Int32)).toNatClampNeg (G_X5_sureOf mc (mt.1 + (1 : Int32), upd mt.2.1 (mt.1 + (1 : Int32)).toNatClampNeg kd, upd mt.2.2.1 (mt.1 + (1 : Int32)).toNatClampNeg a, upd mt.2.2.2.1 (mt.1 + (1 : Int32)).toNatClampNeg b, mt.2.2.2.2.1, mt.2.2.2.2.2.1, mt.2.2.2.2.2.2) kd a b), upd mt.2.2.2.2.2.1 (mt.1 + (1 : Int32)).toNatClampNeg (vp_nar .boolean (1 : Int32)), vp_updL mt.2.2.2.2.2.2 (mt.1 + (1 : Int32)).toNatClampNeg (G_X5_reckoned kd (mt.2.2.2.2.2.2 a.toNatClampNeg) (mt.2.2.2.2.2.2 b.toNatClampNeg))) mk mr mq mv) H := hP
                refine lv_aload_n hx hb dX5_node_213 rfl (lv_at hl 0 rfl) ?_
                refine va_get (D := w.1) (ci := 6) (v := .int (mt.1 + (1 : Int32))) (C := RX5) (T := TX5) (N := 33) hx hb hts iw_X5_node_X5 hown hK.1 hP 0 rfl rfl 13 (by decide) (hts _ fl_X5_node_118) (fun _ h9 => h9) rfl dX5_node_214 ?_
                have e9 : G_X5_node me mc mt kd a b = (mt.1 + (1 : Int32), ((0 : Int32), me.2.1, me.2.2), (mt.1 + (1 : Int32), upd mt.2.1 (mt.1 + (1 : Int32)).toNatClampNeg kd, upd mt.2.2.1 (mt.1 + (1 : Int32)).toNatClampNeg a, upd mt.2.2.2.1 (mt.1 + (1 : Int32)).toNatClampNeg b, upd mt.2.2.2.2.1 (mt.1 + (1 : Int32)).toNatClampNeg (G_X5_sureOf mc (mt.1 + (1 : Int32), upd mt.2.1 (mt.1 + (1 : Int32)).toNatClampNeg kd, upd mt.2.2.1 (mt.1 + (1 : Int32)).toNatClampNeg a, upd mt.2.2.2.1 (mt.1 + (1 : Int32)).toNatClampNeg b, mt.2.2.2.2.1, mt.2.2.2.2.2.1, mt.2.2.2.2.2.2) kd a b), upd mt.2.2.2.2.2.1 (mt.1 + (1 : Int32)).toNatClampNeg (vp_nar .boolean (1 : Int32)), vp_updL mt.2.2.2.2.2.2 (mt.1 + (1 : Int32)).toNatClampNeg (G_X5_reckoned kd (mt.2.2.2.2.2.2 a.toNatClampNeg) (mt.2.2.2.2.2.2 b.toNatClampNeg)))) := Eq.trans (Eq.trans (Eq.trans (Eq.trans (Eq.trans (Eq.trans (Eq.trans rfl (if_neg b1)) (if_pos b4)) (if_neg b8)) (if_neg b10)) (if_pos b22)) (if_neg b28)) (if_neg b30)
                exact xM_iret hx hb hr hlk  hS (by rw [e9]) (by rw [e9]; exact hP) dX5_node_217
              ·
                have k40 := Eq.mp (if_pos b30) k29
                refine lv_iload_n hx hb dX5_node_191 rfl (lv_at hl 2 rfl) ?_
                refine lv_i2l hx hb dX5_node_192 rfl ?_
                refine lv_goto (tgt := 212) hx hb dX5_node_193 (by decide) ?_
                have o41 := k40.1
                have k42 := k40.2
                refine va_last hx hb hK.1 hP (wM_D hA) hS 11 3 rfl rfl o41 dX5_node_212 (fun H locs hP _ hS => ?_)
                have hP : va_P w.1 vwCl (wM w ((0 : Int32), me.2.1, me.2.2) mb mc (mt.1 + (1 : Int32), upd mt.2.1 (mt.1 + (1 : Int32)).toNatClampNeg kd, upd mt.2.2.1 (mt.1 + (1 : Int32)).toNatClampNeg a, upd mt.2.2.2.1 (mt.1 + (1 : Int32)).toNatClampNeg b, upd mt.2.2.2.2.1 (mt.1 + (1 : Int32)).toNatClampNeg (G_X5_sureOf mc (mt.1 + (1 : Int32), upd mt.2.1 (mt.1 + (1 : Int32)).toNatClampNeg kd, upd mt.2.2.1 (mt.1 + (1 : Int32)).toNatClampNeg a, upd mt.2.2.2.1 (mt.1 + (1 : Int32)).toNatClampNeg b, mt.2.2.2.2.1, mt.2.2.2.2.2.1, mt.2.2.2.2.2.2) kd a b), upd mt.2.2.2.2.2.1 (mt.1 + (1 : Int32)).toNatClampNeg (vp_nar .boolean (1 : Int32)), vp_updL mt.2.2.2.2.2.2 (mt.1 + (1 : Int32)).toNatClampNeg a.toInt64) mk mr mq mv) H := hP
                refine lv_aload_n hx hb dX5_node_213 rfl (lv_at hl 0 rfl) ?_
                refine va_get (D := w.1) (ci := 6) (v := .int (mt.1 + (1 : Int32))) (C := RX5) (T := TX5) (N := 33) hx hb hts iw_X5_node_X5 hown hK.1 hP 0 rfl rfl 13 (by decide) (hts _ fl_X5_node_118) (fun _ h9 => h9) rfl dX5_node_214 ?_
                have e9 : G_X5_node me mc mt kd a b = (mt.1 + (1 : Int32), ((0 : Int32), me.2.1, me.2.2), (mt.1 + (1 : Int32), upd mt.2.1 (mt.1 + (1 : Int32)).toNatClampNeg kd, upd mt.2.2.1 (mt.1 + (1 : Int32)).toNatClampNeg a, upd mt.2.2.2.1 (mt.1 + (1 : Int32)).toNatClampNeg b, upd mt.2.2.2.2.1 (mt.1 + (1 : Int32)).toNatClampNeg (G_X5_sureOf mc (mt.1 + (1 : Int32), upd mt.2.1 (mt.1 + (1 : Int32)).toNatClampNeg kd, upd mt.2.2.1 (mt.1 + (1 : Int32)).toNatClampNeg a, upd mt.2.2.2.1 (mt.1 + (1 : Int32)).toNatClampNeg b, mt.2.2.2.2.1, mt.2.2.2.2.2.1, mt.2.2.2.2.2.2) kd a b), upd mt.2.2.2.2.2.1 (mt.1 + (1 : Int32)).toNatClampNeg (vp_nar .boolean (1 : Int32)), vp_updL mt.2.2.2.2.2.2 (mt.1 + (1 : Int32)).toNatClampNeg a.toInt64)) := Eq.trans (Eq.trans (Eq.trans (Eq.trans (Eq.trans (Eq.trans (Eq.trans rfl (if_neg b1)) (if_pos b4)) (if_neg b8)) (if_neg b10)) (if_pos b22)) (if_neg b28)) (if_pos b30)
                exact xM_iret hx hb hr hlk  hS (by rw [e9]) (by rw [e9]; exact hP) dX5_node_217
            ·
              have k43 := Eq.mp (if_pos b28) k27
              refine lv_lconst (v := 0) hx hb dX5_node_183 (by decide) ?_
              refine lv_goto (tgt := 212) hx hb dX5_node_184 (by decide) ?_
              have o44 := k43.1
              have k45 := k43.2
              refine va_last hx hb hK.1 hP (wM_D hA) hS 11 3 rfl rfl o44 dX5_node_212 (fun H locs hP _ hS => ?_)
              have hP : va_P w.1 vwCl (wM w ((0 : Int32), me.2.1, me.2.2) mb mc (mt.1 + (1 : Int32), upd mt.2.1 (mt.1 + (1 : Int32)).toNatClampNeg kd, upd mt.2.2.1 (mt.1 + (1 : Int32)).toNatClampNeg a, upd mt.2.2.2.1 (mt.1 + (1 : Int32)).toNatClampNeg b, upd mt.2.2.2.2.1 (mt.1 + (1 : Int32)).toNatClampNeg (G_X5_sureOf mc (mt.1 + (1 : Int32), upd mt.2.1 (mt.1 + (1 : Int32)).toNatClampNeg kd, upd mt.2.2.1 (mt.1 + (1 : Int32)).toNatClampNeg a, upd mt.2.2.2.1 (mt.1 + (1 : Int32)).toNatClampNeg b, mt.2.2.2.2.1, mt.2.2.2.2.2.1, mt.2.2.2.2.2.2) kd a b), upd mt.2.2.2.2.2.1 (mt.1 + (1 : Int32)).toNatClampNeg (vp_nar .boolean (1 : Int32)), vp_updL mt.2.2.2.2.2.2 (mt.1 + (1 : Int32)).toNatClampNeg (0 : Int64)) mk mr mq mv) H := hP
              refine lv_aload_n hx hb dX5_node_213 rfl (lv_at hl 0 rfl) ?_
              refine va_get (D := w.1) (ci := 6) (v := .int (mt.1 + (1 : Int32))) (C := RX5) (T := TX5) (N := 33) hx hb hts iw_X5_node_X5 hown hK.1 hP 0 rfl rfl 13 (by decide) (hts _ fl_X5_node_118) (fun _ h9 => h9) rfl dX5_node_214 ?_
              have e9 : G_X5_node me mc mt kd a b = (mt.1 + (1 : Int32), ((0 : Int32), me.2.1, me.2.2), (mt.1 + (1 : Int32), upd mt.2.1 (mt.1 + (1 : Int32)).toNatClampNeg kd, upd mt.2.2.1 (mt.1 + (1 : Int32)).toNatClampNeg a, upd mt.2.2.2.1 (mt.1 + (1 : Int32)).toNatClampNeg b, upd mt.2.2.2.2.1 (mt.1 + (1 : Int32)).toNatClampNeg (G_X5_sureOf mc (mt.1 + (1 : Int32), upd mt.2.1 (mt.1 + (1 : Int32)).toNatClampNeg kd, upd mt.2.2.1 (mt.1 + (1 : Int32)).toNatClampNeg a, upd mt.2.2.2.1 (mt.1 + (1 : Int32)).toNatClampNeg b, mt.2.2.2.2.1, mt.2.2.2.2.2.1, mt.2.2.2.2.2.2) kd a b), upd mt.2.2.2.2.2.1 (mt.1 + (1 : Int32)).toNatClampNeg (vp_nar .boolean (1 : Int32)), vp_updL mt.2.2.2.2.2.2 (mt.1 + (1 : Int32)).toNatClampNeg (0 : Int64))) := Eq.trans (Eq.trans (Eq.trans (Eq.trans (Eq.trans (Eq.trans rfl (if_neg b1)) (if_pos b4)) (if_neg b8)) (if_neg b10)) (if_pos b22)) (if_pos b28)
              exact xM_iret hx hb hr hlk  hS (by rw [e9]) (by rw [e9]; exact hP) dX5_node_217
          ·
            have k46 := Eq.mp (if_neg b22) k21
            refine lv_iload_n hx hb dX5_node_111 rfl (lv_at hl 1 rfl) ?_
            refine lv_iconst (v := 2) hx hb dX5_node_112 (by decide) ?_
            refine lv_icmp_le (tgt := 161) hx hb dX5_node_113 (by decide) (fun b47 => ?_) (fun b47 => ?_)
            ·
              have k48 := Eq.mp (if_pos b47) k46
              refine lv_iconst (v := 0) hx hb dX5_node_161 (by decide) ?_
              have o49 := k48.1
              have k50 := k48.2
              refine va_zast hx hb hK.1 hP (wM_D hA) hS 10 2 rfl rfl o49 dX5_node_162 (fun H locs hP _ hS => ?_)
              have hP : va_P w.1 vwCl (wM w ((0 : Int32), me.2.1, me.2.2) mb mc (mt.1 + (1 : Int32), upd mt.2.1 (mt.1 + (1 : Int32)).toNatClampNeg kd, upd mt.2.2.1 (mt.1 + (1 : Int32)).toNatClampNeg a, upd mt.2.2.2.1 (mt.1 + (1 : Int32)).toNatClampNeg b, upd mt.2.2.2.2.1 (mt.1 + (1 : Int32)).toNatClampNeg (G_X5_sureOf mc (mt.1 + (1 : Int32), upd mt.2.1 (mt.1 + (1 : Int32)).toNatClampNeg kd, upd mt.2.2.1 (mt.1 + (1 : Int32)).toNatClampNeg a, upd mt.2.2.2.1 (mt.1 + (1 : Int32)).toNatClampNeg b, mt.2.2.2.2.1, mt.2.2.2.2.2.1, mt.2.2.2.2.2.2) kd a b), upd mt.2.2.2.2.2.1 (mt.1 + (1 : Int32)).toNatClampNeg (vp_nar .boolean (0 : Int32)), mt.2.2.2.2.2.2) mk mr mq mv) H := hP
              refine lv_aload_n hx hb dX5_node_163 rfl (lv_at hl 0 rfl) ?_
              refine va_get (D := w.1) (ci := 6) (v := .ref (w.2.2 11)) (C := RX5) (T := TX5) (N := 33) hx hb hts iw_X5_node_X5 hown hK.1 hP 0 rfl rfl 12 (by decide) (hts _ fl_X5_node_42) (fun _ h9 => h9) rfl dX5_node_164 ?_
              refine lv_aload_n hx hb dX5_node_167 rfl (lv_at hl 0 rfl) ?_
              refine va_get (D := w.1) (ci := 6) (v := .int (mt.1 + (1 : Int32))) (C := RX5) (T := TX5) (N := 33) hx hb hts iw_X5_node_X5 hown hK.1 hP 0 rfl rfl 13 (by decide) (hts _ fl_X5_node_118) (fun _ h9 => h9) rfl dX5_node_168 ?_
              refine lv_aload_n hx hb dX5_node_171 rfl (lv_at hl 0 rfl) ?_
              refine va_get (D := w.1) (ci := 6) (v := .ref (w.2.2 10)) (C := RX5) (T := TX5) (N := 33) hx hb hts iw_X5_node_X5 hown hK.1 hP 0 rfl rfl 11 (by decide) (hts _ fl_X5_node_38) (fun _ h9 => h9) rfl dX5_node_172 ?_
              refine lv_aload_n hx hb dX5_node_175 rfl (lv_at hl 0 rfl) ?_
              refine va_get (D := w.1) (ci := 6) (v := .int (mt.1 + (1 : Int32))) (C := RX5) (T := TX5) (N := 33) hx hb hts iw_X5_node_X5 hown hK.1 hP 0 rfl rfl 13 (by decide) (hts _ fl_X5_node_118) (fun _ h9 => h9) rfl dX5_node_176 ?_
              have o51 := k50.1
              have k52 := k50.2
              refine va_zald hx hb hK.1 hP 10 2 rfl rfl o51 dX5_node_179 ?_
              refine lv_if_ne (tgt := 187) hx hb dX5_node_180 (by decide) (fun b53 => ?_) (fun b53 => ?_)
              ·
                have k54 := Eq.mp (if_neg b53) k52
                refine lv_iload_n hx hb dX5_node_187 rfl (lv_at hl 1 rfl) ?_
                refine lv_if_ne (tgt := 196) hx hb dX5_node_188 (by decide) (fun b55 => ?_) (fun b55 => ?_)
                ·
                  have k56 := Eq.mp (if_neg b55) k54
                  refine lv_iload_n hx hb dX5_node_196 rfl (lv_at hl 1 rfl) ?_
                  refine lv_aload_n hx hb dX5_node_197 rfl (lv_at hl 0 rfl) ?_
                  refine va_get (D := w.1) (ci := 6) (v := .ref (w.2.2 11)) (C := RX5) (T := TX5) (N := 33) hx hb hts iw_X5_node_X5 hown hK.1 hP 0 rfl rfl 12 (by decide) (hts _ fl_X5_node_42) (fun _ h9 => h9) rfl dX5_node_198 ?_
                  refine lv_iload_n hx hb dX5_node_201 rfl (lv_at hl 2 rfl) ?_
                  have o57 := k56.1
                  have k58 := k56.2
                  refine va_lald hx hb hK.1 hP 11 3 rfl rfl o57 dX5_node_202 ?_
                  refine lv_aload_n hx hb dX5_node_203 rfl (lv_at hl 0 rfl) ?_
                  refine va_get (D := w.1) (ci := 6) (v := .ref (w.2.2 11)) (C := RX5) (T := TX5) (N := 33) hx hb hts iw_X5_node_X5 hown hK.1 hP 0 rfl rfl 12 (by decide) (hts _ fl_X5_node_42) (fun _ h9 => h9) rfl dX5_node_204 ?_
                  refine lv_iload_n hx hb dX5_node_207 rfl (lv_at hl 3 rfl) ?_
                  have o59 := k58.1
                  have k60 := k58.2
                  refine va_lald hx hb hK.1 hP 11 3 rfl rfl o59 dX5_node_208 ?_
                  have o61 := k60.1
                  have k62 := k60.2
                  refine xR_l (va_runS (As := [.int kd, .long (mt.2.2.2.2.2.2 a.toNatClampNeg), .long (mt.2.2.2.2.2.2 b.toNatClampNeg)]) (rest := [.int (mt.1 + (1 : Int32)), .ref (w.2.2 11)]) ⟨hx, hb, hml, hown, hts⟩ (c_X5_reckoned l w ((0 : Int32), me.2.1, me.2.2) mb mc (mt.1 + (1 : Int32), upd mt.2.1 (mt.1 + (1 : Int32)).toNatClampNeg kd, upd mt.2.2.1 (mt.1 + (1 : Int32)).toNatClampNeg a, upd mt.2.2.2.1 (mt.1 + (1 : Int32)).toNatClampNeg b, upd mt.2.2.2.2.1 (mt.1 + (1 : Int32)).toNatClampNeg (G_X5_sureOf mc (mt.1 + (1 : Int32), upd mt.2.1 (mt.1 + (1 : Int32)).toNatClampNeg kd, upd mt.2.2.1 (mt.1 + (1 : Int32)).toNatClampNeg a, upd mt.2.2.2.1 (mt.1 + (1 : Int32)).toNatClampNeg b, mt.2.2.2.2.1, mt.2.2.2.2.2.1, mt.2.2.2.2.2.2) kd a b), upd mt.2.2.2.2.2.1 (mt.1 + (1 : Int32)).toNatClampNeg (vp_nar .boolean (0 : Int32)), mt.2.2.2.2.2.2) mk mr mq mv kd (mt.2.2.2.2.2.2 a.toNatClampNeg) (mt.2.2.2.2.2.2 b.toNatClampNeg) o61) (va_cwS 3 hts gX5_node_X5_reckoned rfl rfl rfl ds_X5_reckoned ⟨Nat.le_of_ble_eq_true rfl, Nat.le_of_ble_eq_true rfl⟩) (wPre hP hK) rfl rfl hl.1 rfl (lv_room (Nat.le_of_ble_eq_true rfl)) dX5_node_209 ⟨Nat.zero_le _, Nat.zero_le _⟩) ?_
                  have o63 := k62.1
                  have k64 := k62.2
                  refine va_last hx hb hK.1 hP (wM_D hA) hS 11 3 rfl rfl o63 dX5_node_212 (fun H locs hP _ hS => ?_)
                  have hP : va_P w.1 vwCl (wM w ((0 : Int32), me.2.1, me.2.2) mb mc (mt.1 + (1 : Int32), upd mt.2.1 (mt.1 + (1 : Int32)).toNatClampNeg kd, upd mt.2.2.1 (mt.1 + (1 : Int32)).toNatClampNeg a, upd mt.2.2.2.1 (mt.1 + (1 : Int32)).toNatClampNeg b, upd mt.2.2.2.2.1 (mt.1 + (1 : Int32)).toNatClampNeg (G_X5_sureOf mc (mt.1 + (1 : Int32), upd mt.2.1 (mt.1 + (1 : Int32)).toNatClampNeg kd, upd mt.2.2.1 (mt.1 + (1 : Int32)).toNatClampNeg a, upd mt.2.2.2.1 (mt.1 + (1 : Int32)).toNatClampNeg b, mt.2.2.2.2.1, mt.2.2.2.2.2.1, mt.2.2.2.2.2.2) kd a b), upd mt.2.2.2.2.2.1 (mt.1 + (1 : Int32)).toNatClampNeg (vp_nar .boolean (0 : Int32)), vp_updL mt.2.2.2.2.2.2 (mt.1 + (1 : Int32)).toNatClampNeg (G_X5_reckoned kd (mt.2.2.2.2.2.2 a.toNatClampNeg) (mt.2.2.2.2.2.2 b.toNatClampNeg))) mk mr mq mv) H := hP
                  refine lv_aload_n hx hb dX5_node_213 rfl (lv_at hl 0 rfl) ?_
                  refine va_get (D := w.1) (ci := 6) (v := .int (mt.1 + (1 : Int32))) (C := RX5) (T := TX5) (N := 33) hx hb hts iw_X5_node_X5 hown hK.1 hP 0 rfl rfl 13 (by decide) (hts _ fl_X5_node_118) (fun _ h9 => h9) rfl dX5_node_214 ?_
                  have e9 : G_X5_node me mc mt kd a b = (mt.1 + (1 : Int32), ((0 : Int32), me.2.1, me.2.2), (mt.1 + (1 : Int32), upd mt.2.1 (mt.1 + (1 : Int32)).toNatClampNeg kd, upd mt.2.2.1 (mt.1 + (1 : Int32)).toNatClampNeg a, upd mt.2.2.2.1 (mt.1 + (1 : Int32)).toNatClampNeg b, upd mt.2.2.2.2.1 (mt.1 + (1 : Int32)).toNatClampNeg (G_X5_sureOf mc (mt.1 + (1 : Int32), upd mt.2.1 (mt.1 + (1 : Int32)).toNatClampNeg kd, upd mt.2.2.1 (mt.1 + (1 : Int32)).toNatClampNeg a, upd mt.2.2.2.1 (mt.1 + (1 : Int32)).toNatClampNeg b, mt.2.2.2.2.1, mt.2.2.2.2.2.1, mt.2.2.2.2.2.2) kd a b), upd mt.2.2.2.2.2.1 (mt.1 + (1 : Int32)).toNatClampNeg (vp_nar .boolean (0 : Int32)), vp_updL mt.2.2.2.2.2.2 (mt.1 + (1 : Int32)).toNatClampNeg (G_X5_reckoned kd (mt.2.2.2.2.2.2 a.toNatClampNeg) (mt.2.2.2.2.2.2 b.toNatClampNeg)))) := Eq.trans (Eq.trans (Eq.trans (Eq.trans (Eq.trans (Eq.trans (Eq.trans (Eq.trans rfl (if_neg b1)) (if_pos b4)) (if_neg b8)) (if_neg b10)) (if_neg b22)) (if_pos b47)) (if_neg b53)) (if_neg b55)
                  exact xM_iret hx hb hr hlk  hS (by rw [e9]) (by rw [e9]; exact hP) dX5_node_217
                ·
                  have k65 := Eq.mp (if_pos b55) k54
                  refine lv_iload_n hx hb dX5_node_191 rfl (lv_at hl 2 rfl) ?_
                  refine lv_i2l hx hb dX5_node_192 rfl ?_
                  refine lv_goto (tgt := 212) hx hb dX5_node_193 (by decide) ?_
                  have o66 := k65.1
                  have k67 := k65.2
                  refine va_last hx hb hK.1 hP (wM_D hA) hS 11 3 rfl rfl o66 dX5_node_212 (fun H locs hP _ hS => ?_)
                  have hP : va_P w.1 vwCl (wM w ((0 : Int32), me.2.1, me.2.2) mb mc (mt.1 + (1 : Int32), upd mt.2.1 (mt.1 + (1 : Int32)).toNatClampNeg kd, upd mt.2.2.1 (mt.1 + (1 : Int32)).toNatClampNeg a, upd mt.2.2.2.1 (mt.1 + (1 : Int32)).toNatClampNeg b, upd mt.2.2.2.2.1 (mt.1 + (1 : Int32)).toNatClampNeg (G_X5_sureOf mc (mt.1 + (1 : Int32), upd mt.2.1 (mt.1 + (1 : Int32)).toNatClampNeg kd, upd mt.2.2.1 (mt.1 + (1 : Int32)).toNatClampNeg a, upd mt.2.2.2.1 (mt.1 + (1 : Int32)).toNatClampNeg b, mt.2.2.2.2.1, mt.2.2.2.2.2.1, mt.2.2.2.2.2.2) kd a b), upd mt.2.2.2.2.2.1 (mt.1 + (1 : Int32)).toNatClampNeg (vp_nar .boolean (0 : Int32)), vp_updL mt.2.2.2.2.2.2 (mt.1 + (1 : Int32)).toNatClampNeg a.toInt64) mk mr mq mv) H := hP
                  refine lv_aload_n hx hb dX5_node_213 rfl (lv_at hl 0 rfl) ?_
                  refine va_get (D := w.1) (ci := 6) (v := .int (mt.1 + (1 : Int32))) (C := RX5) (T := TX5) (N := 33) hx hb hts iw_X5_node_X5 hown hK.1 hP 0 rfl rfl 13 (by decide) (hts _ fl_X5_node_118) (fun _ h9 => h9) rfl dX5_node_214 ?_
                  have e9 : G_X5_node me mc mt kd a b = (mt.1 + (1 : Int32), ((0 : Int32), me.2.1, me.2.2), (mt.1 + (1 : Int32), upd mt.2.1 (mt.1 + (1 : Int32)).toNatClampNeg kd, upd mt.2.2.1 (mt.1 + (1 : Int32)).toNatClampNeg a, upd mt.2.2.2.1 (mt.1 + (1 : Int32)).toNatClampNeg b, upd mt.2.2.2.2.1 (mt.1 + (1 : Int32)).toNatClampNeg (G_X5_sureOf mc (mt.1 + (1 : Int32), upd mt.2.1 (mt.1 + (1 : Int32)).toNatClampNeg kd, upd mt.2.2.1 (mt.1 + (1 : Int32)).toNatClampNeg a, upd mt.2.2.2.1 (mt.1 + (1 : Int32)).toNatClampNeg b, mt.2.2.2.2.1, mt.2.2.2.2.2.1, mt.2.2.2.2.2.2) kd a b), upd mt.2.2.2.2.2.1 (mt.1 + (1 : Int32)).toNatClampNeg (vp_nar .boolean (0 : Int32)), vp_updL mt.2.2.2.2.2.2 (mt.1 + (1 : Int32)).toNatClampNeg a.toInt64)) := Eq.trans (Eq.trans (Eq.trans (Eq.trans (Eq.trans (Eq.trans (Eq.trans (Eq.trans rfl (if_neg b1)) (if_pos b4)) (if_neg b8)) (if_neg b10)) (if_neg b22)) (if_pos b47)) (if_neg b53)) (if_pos b55)
                  exact xM_iret hx hb hr hlk  hS (by rw [e9]) (by rw [e9]; exact hP) dX5_node_217
              ·
                have k68 := Eq.mp (if_pos b53) k52
                refine lv_lconst (v := 0) hx hb dX5_node_183 (by decide) ?_
                refine lv_goto (tgt := 212) hx hb dX5_node_184 (by decide) ?_
                have o69 := k68.1
                have k70 := k68.2
                refine va_last hx hb hK.1 hP (wM_D hA) hS 11 3 rfl rfl o69 dX5_node_212 (fun H locs hP _ hS => ?_)
                have hP : va_P w.1 vwCl (wM w ((0 : Int32), me.2.1, me.2.2) mb mc (mt.1 + (1 : Int32), upd mt.2.1 (mt.1 + (1 : Int32)).toNatClampNeg kd, upd mt.2.2.1 (mt.1 + (1 : Int32)).toNatClampNeg a, upd mt.2.2.2.1 (mt.1 + (1 : Int32)).toNatClampNeg b, upd mt.2.2.2.2.1 (mt.1 + (1 : Int32)).toNatClampNeg (G_X5_sureOf mc (mt.1 + (1 : Int32), upd mt.2.1 (mt.1 + (1 : Int32)).toNatClampNeg kd, upd mt.2.2.1 (mt.1 + (1 : Int32)).toNatClampNeg a, upd mt.2.2.2.1 (mt.1 + (1 : Int32)).toNatClampNeg b, mt.2.2.2.2.1, mt.2.2.2.2.2.1, mt.2.2.2.2.2.2) kd a b), upd mt.2.2.2.2.2.1 (mt.1 + (1 : Int32)).toNatClampNeg (vp_nar .boolean (0 : Int32)), vp_updL mt.2.2.2.2.2.2 (mt.1 + (1 : Int32)).toNatClampNeg (0 : Int64)) mk mr mq mv) H := hP
                refine lv_aload_n hx hb dX5_node_213 rfl (lv_at hl 0 rfl) ?_
                refine va_get (D := w.1) (ci := 6) (v := .int (mt.1 + (1 : Int32))) (C := RX5) (T := TX5) (N := 33) hx hb hts iw_X5_node_X5 hown hK.1 hP 0 rfl rfl 13 (by decide) (hts _ fl_X5_node_118) (fun _ h9 => h9) rfl dX5_node_214 ?_
                have e9 : G_X5_node me mc mt kd a b = (mt.1 + (1 : Int32), ((0 : Int32), me.2.1, me.2.2), (mt.1 + (1 : Int32), upd mt.2.1 (mt.1 + (1 : Int32)).toNatClampNeg kd, upd mt.2.2.1 (mt.1 + (1 : Int32)).toNatClampNeg a, upd mt.2.2.2.1 (mt.1 + (1 : Int32)).toNatClampNeg b, upd mt.2.2.2.2.1 (mt.1 + (1 : Int32)).toNatClampNeg (G_X5_sureOf mc (mt.1 + (1 : Int32), upd mt.2.1 (mt.1 + (1 : Int32)).toNatClampNeg kd, upd mt.2.2.1 (mt.1 + (1 : Int32)).toNatClampNeg a, upd mt.2.2.2.1 (mt.1 + (1 : Int32)).toNatClampNeg b, mt.2.2.2.2.1, mt.2.2.2.2.2.1, mt.2.2.2.2.2.2) kd a b), upd mt.2.2.2.2.2.1 (mt.1 + (1 : Int32)).toNatClampNeg (vp_nar .boolean (0 : Int32)), vp_updL mt.2.2.2.2.2.2 (mt.1 + (1 : Int32)).toNatClampNeg (0 : Int64))) := Eq.trans (Eq.trans (Eq.trans (Eq.trans (Eq.trans (Eq.trans (Eq.trans rfl (if_neg b1)) (if_pos b4)) (if_neg b8)) (if_neg b10)) (if_neg b22)) (if_pos b47)) (if_pos b53)
                exact xM_iret hx hb hr hlk  hS (by rw [e9]) (by rw [e9]; exact hP) dX5_node_217
            ·
              have k71 := Eq.mp (if_neg b47) k46
              refine lv_iload_n hx hb dX5_node_116 rfl (lv_at hl 1 rfl) ?_
              refine lv_bipush (v := 9) hx hb dX5_node_117 (by decide) ?_
              refine lv_icmp_ge (tgt := 161) hx hb dX5_node_119 (by decide) (fun b72 => ?_) (fun b72 => ?_)
              ·
                have k73 := Eq.mp (if_pos b72) k71
                refine lv_iconst (v := 0) hx hb dX5_node_161 (by decide) ?_
                have o74 := k73.1
                have k75 := k73.2
                refine va_zast hx hb hK.1 hP (wM_D hA) hS 10 2 rfl rfl o74 dX5_node_162 (fun H locs hP _ hS => ?_)
                have hP : va_P w.1 vwCl (wM w ((0 : Int32), me.2.1, me.2.2) mb mc (mt.1 + (1 : Int32), upd mt.2.1 (mt.1 + (1 : Int32)).toNatClampNeg kd, upd mt.2.2.1 (mt.1 + (1 : Int32)).toNatClampNeg a, upd mt.2.2.2.1 (mt.1 + (1 : Int32)).toNatClampNeg b, upd mt.2.2.2.2.1 (mt.1 + (1 : Int32)).toNatClampNeg (G_X5_sureOf mc (mt.1 + (1 : Int32), upd mt.2.1 (mt.1 + (1 : Int32)).toNatClampNeg kd, upd mt.2.2.1 (mt.1 + (1 : Int32)).toNatClampNeg a, upd mt.2.2.2.1 (mt.1 + (1 : Int32)).toNatClampNeg b, mt.2.2.2.2.1, mt.2.2.2.2.2.1, mt.2.2.2.2.2.2) kd a b), upd mt.2.2.2.2.2.1 (mt.1 + (1 : Int32)).toNatClampNeg (vp_nar .boolean (0 : Int32)), mt.2.2.2.2.2.2) mk mr mq mv) H := hP
                refine lv_aload_n hx hb dX5_node_163 rfl (lv_at hl 0 rfl) ?_
                refine va_get (D := w.1) (ci := 6) (v := .ref (w.2.2 11)) (C := RX5) (T := TX5) (N := 33) hx hb hts iw_X5_node_X5 hown hK.1 hP 0 rfl rfl 12 (by decide) (hts _ fl_X5_node_42) (fun _ h9 => h9) rfl dX5_node_164 ?_
                refine lv_aload_n hx hb dX5_node_167 rfl (lv_at hl 0 rfl) ?_
                refine va_get (D := w.1) (ci := 6) (v := .int (mt.1 + (1 : Int32))) (C := RX5) (T := TX5) (N := 33) hx hb hts iw_X5_node_X5 hown hK.1 hP 0 rfl rfl 13 (by decide) (hts _ fl_X5_node_118) (fun _ h9 => h9) rfl dX5_node_168 ?_
                refine lv_aload_n hx hb dX5_node_171 rfl (lv_at hl 0 rfl) ?_
                refine va_get (D := w.1) (ci := 6) (v := .ref (w.2.2 10)) (C := RX5) (T := TX5) (N := 33) hx hb hts iw_X5_node_X5 hown hK.1 hP 0 rfl rfl 11 (by decide) (hts _ fl_X5_node_38) (fun _ h9 => h9) rfl dX5_node_172 ?_
                refine lv_aload_n hx hb dX5_node_175 rfl (lv_at hl 0 rfl) ?_
                refine va_get (D := w.1) (ci := 6) (v := .int (mt.1 + (1 : Int32))) (C := RX5) (T := TX5) (N := 33) hx hb hts iw_X5_node_X5 hown hK.1 hP 0 rfl rfl 13 (by decide) (hts _ fl_X5_node_118) (fun _ h9 => h9) rfl dX5_node_176 ?_
                have o76 := k75.1
                have k77 := k75.2
                refine va_zald hx hb hK.1 hP 10 2 rfl rfl o76 dX5_node_179 ?_
                refine lv_if_ne (tgt := 187) hx hb dX5_node_180 (by decide) (fun b78 => ?_) (fun b78 => ?_)
                ·
                  have k79 := Eq.mp (if_neg b78) k77
                  refine lv_iload_n hx hb dX5_node_187 rfl (lv_at hl 1 rfl) ?_
                  refine lv_if_ne (tgt := 196) hx hb dX5_node_188 (by decide) (fun b80 => ?_) (fun b80 => ?_)
                  ·
                    have k81 := Eq.mp (if_neg b80) k79
                    refine lv_iload_n hx hb dX5_node_196 rfl (lv_at hl 1 rfl) ?_
                    refine lv_aload_n hx hb dX5_node_197 rfl (lv_at hl 0 rfl) ?_
                    refine va_get (D := w.1) (ci := 6) (v := .ref (w.2.2 11)) (C := RX5) (T := TX5) (N := 33) hx hb hts iw_X5_node_X5 hown hK.1 hP 0 rfl rfl 12 (by decide) (hts _ fl_X5_node_42) (fun _ h9 => h9) rfl dX5_node_198 ?_
                    refine lv_iload_n hx hb dX5_node_201 rfl (lv_at hl 2 rfl) ?_
                    have o82 := k81.1
                    have k83 := k81.2
                    refine va_lald hx hb hK.1 hP 11 3 rfl rfl o82 dX5_node_202 ?_
                    refine lv_aload_n hx hb dX5_node_203 rfl (lv_at hl 0 rfl) ?_
                    refine va_get (D := w.1) (ci := 6) (v := .ref (w.2.2 11)) (C := RX5) (T := TX5) (N := 33) hx hb hts iw_X5_node_X5 hown hK.1 hP 0 rfl rfl 12 (by decide) (hts _ fl_X5_node_42) (fun _ h9 => h9) rfl dX5_node_204 ?_
                    refine lv_iload_n hx hb dX5_node_207 rfl (lv_at hl 3 rfl) ?_
                    have o84 := k83.1
                    have k85 := k83.2
                    refine va_lald hx hb hK.1 hP 11 3 rfl rfl o84 dX5_node_208 ?_
                    have o86 := k85.1
                    have k87 := k85.2
                    refine xR_l (va_runS (As := [.int kd, .long (mt.2.2.2.2.2.2 a.toNatClampNeg), .long (mt.2.2.2.2.2.2 b.toNatClampNeg)]) (rest := [.int (mt.1 + (1 : Int32)), .ref (w.2.2 11)]) ⟨hx, hb, hml, hown, hts⟩ (c_X5_reckoned l w ((0 : Int32), me.2.1, me.2.2) mb mc (mt.1 + (1 : Int32), upd mt.2.1 (mt.1 + (1 : Int32)).toNatClampNeg kd, upd mt.2.2.1 (mt.1 + (1 : Int32)).toNatClampNeg a, upd mt.2.2.2.1 (mt.1 + (1 : Int32)).toNatClampNeg b, upd mt.2.2.2.2.1 (mt.1 + (1 : Int32)).toNatClampNeg (G_X5_sureOf mc (mt.1 + (1 : Int32), upd mt.2.1 (mt.1 + (1 : Int32)).toNatClampNeg kd, upd mt.2.2.1 (mt.1 + (1 : Int32)).toNatClampNeg a, upd mt.2.2.2.1 (mt.1 + (1 : Int32)).toNatClampNeg b, mt.2.2.2.2.1, mt.2.2.2.2.2.1, mt.2.2.2.2.2.2) kd a b), upd mt.2.2.2.2.2.1 (mt.1 + (1 : Int32)).toNatClampNeg (vp_nar .boolean (0 : Int32)), mt.2.2.2.2.2.2) mk mr mq mv kd (mt.2.2.2.2.2.2 a.toNatClampNeg) (mt.2.2.2.2.2.2 b.toNatClampNeg) o86) (va_cwS 3 hts gX5_node_X5_reckoned rfl rfl rfl ds_X5_reckoned ⟨Nat.le_of_ble_eq_true rfl, Nat.le_of_ble_eq_true rfl⟩) (wPre hP hK) rfl rfl hl.1 rfl (lv_room (Nat.le_of_ble_eq_true rfl)) dX5_node_209 ⟨Nat.zero_le _, Nat.zero_le _⟩) ?_
                    have o88 := k87.1
                    have k89 := k87.2
                    refine va_last hx hb hK.1 hP (wM_D hA) hS 11 3 rfl rfl o88 dX5_node_212 (fun H locs hP _ hS => ?_)
                    have hP : va_P w.1 vwCl (wM w ((0 : Int32), me.2.1, me.2.2) mb mc (mt.1 + (1 : Int32), upd mt.2.1 (mt.1 + (1 : Int32)).toNatClampNeg kd, upd mt.2.2.1 (mt.1 + (1 : Int32)).toNatClampNeg a, upd mt.2.2.2.1 (mt.1 + (1 : Int32)).toNatClampNeg b, upd mt.2.2.2.2.1 (mt.1 + (1 : Int32)).toNatClampNeg (G_X5_sureOf mc (mt.1 + (1 : Int32), upd mt.2.1 (mt.1 + (1 : Int32)).toNatClampNeg kd, upd mt.2.2.1 (mt.1 + (1 : Int32)).toNatClampNeg a, upd mt.2.2.2.1 (mt.1 + (1 : Int32)).toNatClampNeg b, mt.2.2.2.2.1, mt.2.2.2.2.2.1, mt.2.2.2.2.2.2) kd a b), upd mt.2.2.2.2.2.1 (mt.1 + (1 : Int32)).toNatClampNeg (vp_nar .boolean (0 : Int32)), vp_updL mt.2.2.2.2.2.2 (mt.1 + (1 : Int32)).toNatClampNeg (G_X5_reckoned kd (mt.2.2.2.2.2.2 a.toNatClampNeg) (mt.2.2.2.2.2.2 b.toNatClampNeg))) mk mr mq mv) H := hP
                    refine lv_aload_n hx hb dX5_node_213 rfl (lv_at hl 0 rfl) ?_
                    refine va_get (D := w.1) (ci := 6) (v := .int (mt.1 + (1 : Int32))) (C := RX5) (T := TX5) (N := 33) hx hb hts iw_X5_node_X5 hown hK.1 hP 0 rfl rfl 13 (by decide) (hts _ fl_X5_node_118) (fun _ h9 => h9) rfl dX5_node_214 ?_
                    have e9 : G_X5_node me mc mt kd a b = (mt.1 + (1 : Int32), ((0 : Int32), me.2.1, me.2.2), (mt.1 + (1 : Int32), upd mt.2.1 (mt.1 + (1 : Int32)).toNatClampNeg kd, upd mt.2.2.1 (mt.1 + (1 : Int32)).toNatClampNeg a, upd mt.2.2.2.1 (mt.1 + (1 : Int32)).toNatClampNeg b, upd mt.2.2.2.2.1 (mt.1 + (1 : Int32)).toNatClampNeg (G_X5_sureOf mc (mt.1 + (1 : Int32), upd mt.2.1 (mt.1 + (1 : Int32)).toNatClampNeg kd, upd mt.2.2.1 (mt.1 + (1 : Int32)).toNatClampNeg a, upd mt.2.2.2.1 (mt.1 + (1 : Int32)).toNatClampNeg b, mt.2.2.2.2.1, mt.2.2.2.2.2.1, mt.2.2.2.2.2.2) kd a b), upd mt.2.2.2.2.2.1 (mt.1 + (1 : Int32)).toNatClampNeg (vp_nar .boolean (0 : Int32)), vp_updL mt.2.2.2.2.2.2 (mt.1 + (1 : Int32)).toNatClampNeg (G_X5_reckoned kd (mt.2.2.2.2.2.2 a.toNatClampNeg) (mt.2.2.2.2.2.2 b.toNatClampNeg)))) := Eq.trans (Eq.trans (Eq.trans (Eq.trans (Eq.trans (Eq.trans (Eq.trans (Eq.trans (Eq.trans rfl (if_neg b1)) (if_pos b4)) (if_neg b8)) (if_neg b10)) (if_neg b22)) (if_neg b47)) (if_pos b72)) (if_neg b78)) (if_neg b80)
                    exact xM_iret hx hb hr hlk  hS (by rw [e9]) (by rw [e9]; exact hP) dX5_node_217
                  ·
                    have k90 := Eq.mp (if_pos b80) k79
                    refine lv_iload_n hx hb dX5_node_191 rfl (lv_at hl 2 rfl) ?_
                    refine lv_i2l hx hb dX5_node_192 rfl ?_
                    refine lv_goto (tgt := 212) hx hb dX5_node_193 (by decide) ?_
                    have o91 := k90.1
                    have k92 := k90.2
                    refine va_last hx hb hK.1 hP (wM_D hA) hS 11 3 rfl rfl o91 dX5_node_212 (fun H locs hP _ hS => ?_)
                    have hP : va_P w.1 vwCl (wM w ((0 : Int32), me.2.1, me.2.2) mb mc (mt.1 + (1 : Int32), upd mt.2.1 (mt.1 + (1 : Int32)).toNatClampNeg kd, upd mt.2.2.1 (mt.1 + (1 : Int32)).toNatClampNeg a, upd mt.2.2.2.1 (mt.1 + (1 : Int32)).toNatClampNeg b, upd mt.2.2.2.2.1 (mt.1 + (1 : Int32)).toNatClampNeg (G_X5_sureOf mc (mt.1 + (1 : Int32), upd mt.2.1 (mt.1 + (1 : Int32)).toNatClampNeg kd, upd mt.2.2.1 (mt.1 + (1 : Int32)).toNatClampNeg a, upd mt.2.2.2.1 (mt.1 + (1 : Int32)).toNatClampNeg b, mt.2.2.2.2.1, mt.2.2.2.2.2.1, mt.2.2.2.2.2.2) kd a b), upd mt.2.2.2.2.2.1 (mt.1 + (1 : Int32)).toNatClampNeg (vp_nar .boolean (0 : Int32)), vp_updL mt.2.2.2.2.2.2 (mt.1 + (1 : Int32)).toNatClampNeg a.toInt64) mk mr mq mv) H := hP
                    refine lv_aload_n hx hb dX5_node_213 rfl (lv_at hl 0 rfl) ?_
                    refine va_get (D := w.1) (ci := 6) (v := .int (mt.1 + (1 : Int32))) (C := RX5) (T := TX5) (N := 33) hx hb hts iw_X5_node_X5 hown hK.1 hP 0 rfl rfl 13 (by decide) (hts _ fl_X5_node_118) (fun _ h9 => h9) rfl dX5_node_214 ?_
                    have e9 : G_X5_node me mc mt kd a b = (mt.1 + (1 : Int32), ((0 : Int32), me.2.1, me.2.2), (mt.1 + (1 : Int32), upd mt.2.1 (mt.1 + (1 : Int32)).toNatClampNeg kd, upd mt.2.2.1 (mt.1 + (1 : Int32)).toNatClampNeg a, upd mt.2.2.2.1 (mt.1 + (1 : Int32)).toNatClampNeg b, upd mt.2.2.2.2.1 (mt.1 + (1 : Int32)).toNatClampNeg (G_X5_sureOf mc (mt.1 + (1 : Int32), upd mt.2.1 (mt.1 + (1 : Int32)).toNatClampNeg kd, upd mt.2.2.1 (mt.1 + (1 : Int32)).toNatClampNeg a, upd mt.2.2.2.1 (mt.1 + (1 : Int32)).toNatClampNeg b, mt.2.2.2.2.1, mt.2.2.2.2.2.1, mt.2.2.2.2.2.2) kd a b), upd mt.2.2.2.2.2.1 (mt.1 + (1 : Int32)).toNatClampNeg (vp_nar .boolean (0 : Int32)), vp_updL mt.2.2.2.2.2.2 (mt.1 + (1 : Int32)).toNatClampNeg a.toInt64)) := Eq.trans (Eq.trans (Eq.trans (Eq.trans (Eq.trans (Eq.trans (Eq.trans (Eq.trans (Eq.trans rfl (if_neg b1)) (if_pos b4)) (if_neg b8)) (if_neg b10)) (if_neg b22)) (if_neg b47)) (if_pos b72)) (if_neg b78)) (if_pos b80)
                    exact xM_iret hx hb hr hlk  hS (by rw [e9]) (by rw [e9]; exact hP) dX5_node_217
                ·
                  have k93 := Eq.mp (if_pos b78) k77
                  refine lv_lconst (v := 0) hx hb dX5_node_183 (by decide) ?_
                  refine lv_goto (tgt := 212) hx hb dX5_node_184 (by decide) ?_
                  have o94 := k93.1
                  have k95 := k93.2
                  refine va_last hx hb hK.1 hP (wM_D hA) hS 11 3 rfl rfl o94 dX5_node_212 (fun H locs hP _ hS => ?_)
                  have hP : va_P w.1 vwCl (wM w ((0 : Int32), me.2.1, me.2.2) mb mc (mt.1 + (1 : Int32), upd mt.2.1 (mt.1 + (1 : Int32)).toNatClampNeg kd, upd mt.2.2.1 (mt.1 + (1 : Int32)).toNatClampNeg a, upd mt.2.2.2.1 (mt.1 + (1 : Int32)).toNatClampNeg b, upd mt.2.2.2.2.1 (mt.1 + (1 : Int32)).toNatClampNeg (G_X5_sureOf mc (mt.1 + (1 : Int32), upd mt.2.1 (mt.1 + (1 : Int32)).toNatClampNeg kd, upd mt.2.2.1 (mt.1 + (1 : Int32)).toNatClampNeg a, upd mt.2.2.2.1 (mt.1 + (1 : Int32)).toNatClampNeg b, mt.2.2.2.2.1, mt.2.2.2.2.2.1, mt.2.2.2.2.2.2) kd a b), upd mt.2.2.2.2.2.1 (mt.1 + (1 : Int32)).toNatClampNeg (vp_nar .boolean (0 : Int32)), vp_updL mt.2.2.2.2.2.2 (mt.1 + (1 : Int32)).toNatClampNeg (0 : Int64)) mk mr mq mv) H := hP
                  refine lv_aload_n hx hb dX5_node_213 rfl (lv_at hl 0 rfl) ?_
                  refine va_get (D := w.1) (ci := 6) (v := .int (mt.1 + (1 : Int32))) (C := RX5) (T := TX5) (N := 33) hx hb hts iw_X5_node_X5 hown hK.1 hP 0 rfl rfl 13 (by decide) (hts _ fl_X5_node_118) (fun _ h9 => h9) rfl dX5_node_214 ?_
                  have e9 : G_X5_node me mc mt kd a b = (mt.1 + (1 : Int32), ((0 : Int32), me.2.1, me.2.2), (mt.1 + (1 : Int32), upd mt.2.1 (mt.1 + (1 : Int32)).toNatClampNeg kd, upd mt.2.2.1 (mt.1 + (1 : Int32)).toNatClampNeg a, upd mt.2.2.2.1 (mt.1 + (1 : Int32)).toNatClampNeg b, upd mt.2.2.2.2.1 (mt.1 + (1 : Int32)).toNatClampNeg (G_X5_sureOf mc (mt.1 + (1 : Int32), upd mt.2.1 (mt.1 + (1 : Int32)).toNatClampNeg kd, upd mt.2.2.1 (mt.1 + (1 : Int32)).toNatClampNeg a, upd mt.2.2.2.1 (mt.1 + (1 : Int32)).toNatClampNeg b, mt.2.2.2.2.1, mt.2.2.2.2.2.1, mt.2.2.2.2.2.2) kd a b), upd mt.2.2.2.2.2.1 (mt.1 + (1 : Int32)).toNatClampNeg (vp_nar .boolean (0 : Int32)), vp_updL mt.2.2.2.2.2.2 (mt.1 + (1 : Int32)).toNatClampNeg (0 : Int64))) := Eq.trans (Eq.trans (Eq.trans (Eq.trans (Eq.trans (Eq.trans (Eq.trans (Eq.trans rfl (if_neg b1)) (if_pos b4)) (if_neg b8)) (if_neg b10)) (if_neg b22)) (if_neg b47)) (if_pos b72)) (if_pos b78)
                  exact xM_iret hx hb hr hlk  hS (by rw [e9]) (by rw [e9]; exact hP) dX5_node_217
              ·
                have k96 := Eq.mp (if_neg b72) k71
                refine lv_aload_n hx hb dX5_node_122 rfl (lv_at hl 0 rfl) ?_
                refine va_get (D := w.1) (ci := 6) (v := .ref (w.2.2 10)) (C := RX5) (T := TX5) (N := 33) hx hb hts iw_X5_node_X5 hown hK.1 hP 0 rfl rfl 11 (by decide) (hts _ fl_X5_node_38) (fun _ h9 => h9) rfl dX5_node_123 ?_
                refine lv_iload_n hx hb dX5_node_126 rfl (lv_at hl 2 rfl) ?_
                have o97 := k96.1
                have k98 := k96.2
                refine va_zald hx hb hK.1 hP 10 2 rfl rfl o97 dX5_node_127 ?_
                refine lv_if_eq (tgt := 161) hx hb dX5_node_128 (by decide) (fun b99 => ?_) (fun b99 => ?_)
                ·
                  have k100 := Eq.mp (if_pos b99) k98
                  refine lv_iconst (v := 0) hx hb dX5_node_161 (by decide) ?_
                  have o101 := k100.1
                  have k102 := k100.2
                  refine va_zast hx hb hK.1 hP (wM_D hA) hS 10 2 rfl rfl o101 dX5_node_162 (fun H locs hP _ hS => ?_)
                  have hP : va_P w.1 vwCl (wM w ((0 : Int32), me.2.1, me.2.2) mb mc (mt.1 + (1 : Int32), upd mt.2.1 (mt.1 + (1 : Int32)).toNatClampNeg kd, upd mt.2.2.1 (mt.1 + (1 : Int32)).toNatClampNeg a, upd mt.2.2.2.1 (mt.1 + (1 : Int32)).toNatClampNeg b, upd mt.2.2.2.2.1 (mt.1 + (1 : Int32)).toNatClampNeg (G_X5_sureOf mc (mt.1 + (1 : Int32), upd mt.2.1 (mt.1 + (1 : Int32)).toNatClampNeg kd, upd mt.2.2.1 (mt.1 + (1 : Int32)).toNatClampNeg a, upd mt.2.2.2.1 (mt.1 + (1 : Int32)).toNatClampNeg b, mt.2.2.2.2.1, mt.2.2.2.2.2.1, mt.2.2.2.2.2.2) kd a b), upd mt.2.2.2.2.2.1 (mt.1 + (1 : Int32)).toNatClampNeg (vp_nar .boolean (0 : Int32)), mt.2.2.2.2.2.2) mk mr mq mv) H := hP
                  refine lv_aload_n hx hb dX5_node_163 rfl (lv_at hl 0 rfl) ?_
                  refine va_get (D := w.1) (ci := 6) (v := .ref (w.2.2 11)) (C := RX5) (T := TX5) (N := 33) hx hb hts iw_X5_node_X5 hown hK.1 hP 0 rfl rfl 12 (by decide) (hts _ fl_X5_node_42) (fun _ h9 => h9) rfl dX5_node_164 ?_
                  refine lv_aload_n hx hb dX5_node_167 rfl (lv_at hl 0 rfl) ?_
                  refine va_get (D := w.1) (ci := 6) (v := .int (mt.1 + (1 : Int32))) (C := RX5) (T := TX5) (N := 33) hx hb hts iw_X5_node_X5 hown hK.1 hP 0 rfl rfl 13 (by decide) (hts _ fl_X5_node_118) (fun _ h9 => h9) rfl dX5_node_168 ?_
                  refine lv_aload_n hx hb dX5_node_171 rfl (lv_at hl 0 rfl) ?_
                  refine va_get (D := w.1) (ci := 6) (v := .ref (w.2.2 10)) (C := RX5) (T := TX5) (N := 33) hx hb hts iw_X5_node_X5 hown hK.1 hP 0 rfl rfl 11 (by decide) (hts _ fl_X5_node_38) (fun _ h9 => h9) rfl dX5_node_172 ?_
                  refine lv_aload_n hx hb dX5_node_175 rfl (lv_at hl 0 rfl) ?_
                  refine va_get (D := w.1) (ci := 6) (v := .int (mt.1 + (1 : Int32))) (C := RX5) (T := TX5) (N := 33) hx hb hts iw_X5_node_X5 hown hK.1 hP 0 rfl rfl 13 (by decide) (hts _ fl_X5_node_118) (fun _ h9 => h9) rfl dX5_node_176 ?_
                  have o103 := k102.1
                  have k104 := k102.2
                  refine va_zald hx hb hK.1 hP 10 2 rfl rfl o103 dX5_node_179 ?_
                  refine lv_if_ne (tgt := 187) hx hb dX5_node_180 (by decide) (fun b105 => ?_) (fun b105 => ?_)
                  ·
                    have k106 := Eq.mp (if_neg b105) k104
                    refine lv_iload_n hx hb dX5_node_187 rfl (lv_at hl 1 rfl) ?_
                    refine lv_if_ne (tgt := 196) hx hb dX5_node_188 (by decide) (fun b107 => ?_) (fun b107 => ?_)
                    ·
                      have k108 := Eq.mp (if_neg b107) k106
                      refine lv_iload_n hx hb dX5_node_196 rfl (lv_at hl 1 rfl) ?_
                      refine lv_aload_n hx hb dX5_node_197 rfl (lv_at hl 0 rfl) ?_
                      refine va_get (D := w.1) (ci := 6) (v := .ref (w.2.2 11)) (C := RX5) (T := TX5) (N := 33) hx hb hts iw_X5_node_X5 hown hK.1 hP 0 rfl rfl 12 (by decide) (hts _ fl_X5_node_42) (fun _ h9 => h9) rfl dX5_node_198 ?_
                      refine lv_iload_n hx hb dX5_node_201 rfl (lv_at hl 2 rfl) ?_
                      have o109 := k108.1
                      have k110 := k108.2
                      refine va_lald hx hb hK.1 hP 11 3 rfl rfl o109 dX5_node_202 ?_
                      refine lv_aload_n hx hb dX5_node_203 rfl (lv_at hl 0 rfl) ?_
                      refine va_get (D := w.1) (ci := 6) (v := .ref (w.2.2 11)) (C := RX5) (T := TX5) (N := 33) hx hb hts iw_X5_node_X5 hown hK.1 hP 0 rfl rfl 12 (by decide) (hts _ fl_X5_node_42) (fun _ h9 => h9) rfl dX5_node_204 ?_
                      refine lv_iload_n hx hb dX5_node_207 rfl (lv_at hl 3 rfl) ?_
                      have o111 := k110.1
                      have k112 := k110.2
                      refine va_lald hx hb hK.1 hP 11 3 rfl rfl o111 dX5_node_208 ?_
                      have o113 := k112.1
                      have k114 := k112.2
                      refine xR_l (va_runS (As := [.int kd, .long (mt.2.2.2.2.2.2 a.toNatClampNeg), .long (mt.2.2.2.2.2.2 b.toNatClampNeg)]) (rest := [.int (mt.1 + (1 : Int32)), .ref (w.2.2 11)]) ⟨hx, hb, hml, hown, hts⟩ (c_X5_reckoned l w ((0 : Int32), me.2.1, me.2.2) mb mc (mt.1 + (1 : Int32), upd mt.2.1 (mt.1 + (1 : Int32)).toNatClampNeg kd, upd mt.2.2.1 (mt.1 + (1 : Int32)).toNatClampNeg a, upd mt.2.2.2.1 (mt.1 + (1 : Int32)).toNatClampNeg b, upd mt.2.2.2.2.1 (mt.1 + (1 : Int32)).toNatClampNeg (G_X5_sureOf mc (mt.1 + (1 : Int32), upd mt.2.1 (mt.1 + (1 : Int32)).toNatClampNeg kd, upd mt.2.2.1 (mt.1 + (1 : Int32)).toNatClampNeg a, upd mt.2.2.2.1 (mt.1 + (1 : Int32)).toNatClampNeg b, mt.2.2.2.2.1, mt.2.2.2.2.2.1, mt.2.2.2.2.2.2) kd a b), upd mt.2.2.2.2.2.1 (mt.1 + (1 : Int32)).toNatClampNeg (vp_nar .boolean (0 : Int32)), mt.2.2.2.2.2.2) mk mr mq mv kd (mt.2.2.2.2.2.2 a.toNatClampNeg) (mt.2.2.2.2.2.2 b.toNatClampNeg) o113) (va_cwS 3 hts gX5_node_X5_reckoned rfl rfl rfl ds_X5_reckoned ⟨Nat.le_of_ble_eq_true rfl, Nat.le_of_ble_eq_true rfl⟩) (wPre hP hK) rfl rfl hl.1 rfl (lv_room (Nat.le_of_ble_eq_true rfl)) dX5_node_209 ⟨Nat.zero_le _, Nat.zero_le _⟩) ?_
                      have o115 := k114.1
                      have k116 := k114.2
                      refine va_last hx hb hK.1 hP (wM_D hA) hS 11 3 rfl rfl o115 dX5_node_212 (fun H locs hP _ hS => ?_)
                      have hP : va_P w.1 vwCl (wM w ((0 : Int32), me.2.1, me.2.2) mb mc (mt.1 + (1 : Int32), upd mt.2.1 (mt.1 + (1 : Int32)).toNatClampNeg kd, upd mt.2.2.1 (mt.1 + (1 : Int32)).toNatClampNeg a, upd mt.2.2.2.1 (mt.1 + (1 : Int32)).toNatClampNeg b, upd mt.2.2.2.2.1 (mt.1 + (1 : Int32)).toNatClampNeg (G_X5_sureOf mc (mt.1 + (1 : Int32), upd mt.2.1 (mt.1 + (1 : Int32)).toNatClampNeg kd, upd mt.2.2.1 (mt.1 + (1 : Int32)).toNatClampNeg a, upd mt.2.2.2.1 (mt.1 + (1 : Int32)).toNatClampNeg b, mt.2.2.2.2.1, mt.2.2.2.2.2.1, mt.2.2.2.2.2.2) kd a b), upd mt.2.2.2.2.2.1 (mt.1 + (1 : Int32)).toNatClampNeg (vp_nar .boolean (0 : Int32)), vp_updL mt.2.2.2.2.2.2 (mt.1 + (1 : Int32)).toNatClampNeg (G_X5_reckoned kd (mt.2.2.2.2.2.2 a.toNatClampNeg) (mt.2.2.2.2.2.2 b.toNatClampNeg))) mk mr mq mv) H := hP
                      refine lv_aload_n hx hb dX5_node_213 rfl (lv_at hl 0 rfl) ?_
                      refine va_get (D := w.1) (ci := 6) (v := .int (mt.1 + (1 : Int32))) (C := RX5) (T := TX5) (N := 33) hx hb hts iw_X5_node_X5 hown hK.1 hP 0 rfl rfl 13 (by decide) (hts _ fl_X5_node_118) (fun _ h9 => h9) rfl dX5_node_214 ?_
                      have e9 : G_X5_node me mc mt kd a b = (mt.1 + (1 : Int32), ((0 : Int32), me.2.1, me.2.2), (mt.1 + (1 : Int32), upd mt.2.1 (mt.1 + (1 : Int32)).toNatClampNeg kd, upd mt.2.2.1 (mt.1 + (1 : Int32)).toNatClampNeg a, upd mt.2.2.2.1 (mt.1 + (1 : Int32)).toNatClampNeg b, upd mt.2.2.2.2.1 (mt.1 + (1 : Int32)).toNatClampNeg (G_X5_sureOf mc (mt.1 + (1 : Int32), upd mt.2.1 (mt.1 + (1 : Int32)).toNatClampNeg kd, upd mt.2.2.1 (mt.1 + (1 : Int32)).toNatClampNeg a, upd mt.2.2.2.1 (mt.1 + (1 : Int32)).toNatClampNeg b, mt.2.2.2.2.1, mt.2.2.2.2.2.1, mt.2.2.2.2.2.2) kd a b), upd mt.2.2.2.2.2.1 (mt.1 + (1 : Int32)).toNatClampNeg (vp_nar .boolean (0 : Int32)), vp_updL mt.2.2.2.2.2.2 (mt.1 + (1 : Int32)).toNatClampNeg (G_X5_reckoned kd (mt.2.2.2.2.2.2 a.toNatClampNeg) (mt.2.2.2.2.2.2 b.toNatClampNeg)))) := Eq.trans (Eq.trans (Eq.trans (Eq.trans (Eq.trans (Eq.trans (Eq.trans (Eq.trans (Eq.trans (Eq.trans rfl (if_neg b1)) (if_pos b4)) (if_neg b8)) (if_neg b10)) (if_neg b22)) (if_neg b47)) (if_neg b72)) (if_pos b99)) (if_neg b105)) (if_neg b107)
                      exact xM_iret hx hb hr hlk  hS (by rw [e9]) (by rw [e9]; exact hP) dX5_node_217
                    ·
                      have k117 := Eq.mp (if_pos b107) k106
                      refine lv_iload_n hx hb dX5_node_191 rfl (lv_at hl 2 rfl) ?_
                      refine lv_i2l hx hb dX5_node_192 rfl ?_
                      refine lv_goto (tgt := 212) hx hb dX5_node_193 (by decide) ?_
                      have o118 := k117.1
                      have k119 := k117.2
                      refine va_last hx hb hK.1 hP (wM_D hA) hS 11 3 rfl rfl o118 dX5_node_212 (fun H locs hP _ hS => ?_)
                      have hP : va_P w.1 vwCl (wM w ((0 : Int32), me.2.1, me.2.2) mb mc (mt.1 + (1 : Int32), upd mt.2.1 (mt.1 + (1 : Int32)).toNatClampNeg kd, upd mt.2.2.1 (mt.1 + (1 : Int32)).toNatClampNeg a, upd mt.2.2.2.1 (mt.1 + (1 : Int32)).toNatClampNeg b, upd mt.2.2.2.2.1 (mt.1 + (1 : Int32)).toNatClampNeg (G_X5_sureOf mc (mt.1 + (1 : Int32), upd mt.2.1 (mt.1 + (1 : Int32)).toNatClampNeg kd, upd mt.2.2.1 (mt.1 + (1 : Int32)).toNatClampNeg a, upd mt.2.2.2.1 (mt.1 + (1 : Int32)).toNatClampNeg b, mt.2.2.2.2.1, mt.2.2.2.2.2.1, mt.2.2.2.2.2.2) kd a b), upd mt.2.2.2.2.2.1 (mt.1 + (1 : Int32)).toNatClampNeg (vp_nar .boolean (0 : Int32)), vp_updL mt.2.2.2.2.2.2 (mt.1 + (1 : Int32)).toNatClampNeg a.toInt64) mk mr mq mv) H := hP
                      refine lv_aload_n hx hb dX5_node_213 rfl (lv_at hl 0 rfl) ?_
                      refine va_get (D := w.1) (ci := 6) (v := .int (mt.1 + (1 : Int32))) (C := RX5) (T := TX5) (N := 33) hx hb hts iw_X5_node_X5 hown hK.1 hP 0 rfl rfl 13 (by decide) (hts _ fl_X5_node_118) (fun _ h9 => h9) rfl dX5_node_214 ?_
                      have e9 : G_X5_node me mc mt kd a b = (mt.1 + (1 : Int32), ((0 : Int32), me.2.1, me.2.2), (mt.1 + (1 : Int32), upd mt.2.1 (mt.1 + (1 : Int32)).toNatClampNeg kd, upd mt.2.2.1 (mt.1 + (1 : Int32)).toNatClampNeg a, upd mt.2.2.2.1 (mt.1 + (1 : Int32)).toNatClampNeg b, upd mt.2.2.2.2.1 (mt.1 + (1 : Int32)).toNatClampNeg (G_X5_sureOf mc (mt.1 + (1 : Int32), upd mt.2.1 (mt.1 + (1 : Int32)).toNatClampNeg kd, upd mt.2.2.1 (mt.1 + (1 : Int32)).toNatClampNeg a, upd mt.2.2.2.1 (mt.1 + (1 : Int32)).toNatClampNeg b, mt.2.2.2.2.1, mt.2.2.2.2.2.1, mt.2.2.2.2.2.2) kd a b), upd mt.2.2.2.2.2.1 (mt.1 + (1 : Int32)).toNatClampNeg (vp_nar .boolean (0 : Int32)), vp_updL mt.2.2.2.2.2.2 (mt.1 + (1 : Int32)).toNatClampNeg a.toInt64)) := Eq.trans (Eq.trans (Eq.trans (Eq.trans (Eq.trans (Eq.trans (Eq.trans (Eq.trans (Eq.trans (Eq.trans rfl (if_neg b1)) (if_pos b4)) (if_neg b8)) (if_neg b10)) (if_neg b22)) (if_neg b47)) (if_neg b72)) (if_pos b99)) (if_neg b105)) (if_pos b107)
                      exact xM_iret hx hb hr hlk  hS (by rw [e9]) (by rw [e9]; exact hP) dX5_node_217
                  ·
                    have k120 := Eq.mp (if_pos b105) k104
                    refine lv_lconst (v := 0) hx hb dX5_node_183 (by decide) ?_
                    refine lv_goto (tgt := 212) hx hb dX5_node_184 (by decide) ?_
                    have o121 := k120.1
                    have k122 := k120.2
                    refine va_last hx hb hK.1 hP (wM_D hA) hS 11 3 rfl rfl o121 dX5_node_212 (fun H locs hP _ hS => ?_)
                    have hP : va_P w.1 vwCl (wM w ((0 : Int32), me.2.1, me.2.2) mb mc (mt.1 + (1 : Int32), upd mt.2.1 (mt.1 + (1 : Int32)).toNatClampNeg kd, upd mt.2.2.1 (mt.1 + (1 : Int32)).toNatClampNeg a, upd mt.2.2.2.1 (mt.1 + (1 : Int32)).toNatClampNeg b, upd mt.2.2.2.2.1 (mt.1 + (1 : Int32)).toNatClampNeg (G_X5_sureOf mc (mt.1 + (1 : Int32), upd mt.2.1 (mt.1 + (1 : Int32)).toNatClampNeg kd, upd mt.2.2.1 (mt.1 + (1 : Int32)).toNatClampNeg a, upd mt.2.2.2.1 (mt.1 + (1 : Int32)).toNatClampNeg b, mt.2.2.2.2.1, mt.2.2.2.2.2.1, mt.2.2.2.2.2.2) kd a b), upd mt.2.2.2.2.2.1 (mt.1 + (1 : Int32)).toNatClampNeg (vp_nar .boolean (0 : Int32)), vp_updL mt.2.2.2.2.2.2 (mt.1 + (1 : Int32)).toNatClampNeg (0 : Int64)) mk mr mq mv) H := hP
                    refine lv_aload_n hx hb dX5_node_213 rfl (lv_at hl 0 rfl) ?_
                    refine va_get (D := w.1) (ci := 6) (v := .int (mt.1 + (1 : Int32))) (C := RX5) (T := TX5) (N := 33) hx hb hts iw_X5_node_X5 hown hK.1 hP 0 rfl rfl 13 (by decide) (hts _ fl_X5_node_118) (fun _ h9 => h9) rfl dX5_node_214 ?_
                    have e9 : G_X5_node me mc mt kd a b = (mt.1 + (1 : Int32), ((0 : Int32), me.2.1, me.2.2), (mt.1 + (1 : Int32), upd mt.2.1 (mt.1 + (1 : Int32)).toNatClampNeg kd, upd mt.2.2.1 (mt.1 + (1 : Int32)).toNatClampNeg a, upd mt.2.2.2.1 (mt.1 + (1 : Int32)).toNatClampNeg b, upd mt.2.2.2.2.1 (mt.1 + (1 : Int32)).toNatClampNeg (G_X5_sureOf mc (mt.1 + (1 : Int32), upd mt.2.1 (mt.1 + (1 : Int32)).toNatClampNeg kd, upd mt.2.2.1 (mt.1 + (1 : Int32)).toNatClampNeg a, upd mt.2.2.2.1 (mt.1 + (1 : Int32)).toNatClampNeg b, mt.2.2.2.2.1, mt.2.2.2.2.2.1, mt.2.2.2.2.2.2) kd a b), upd mt.2.2.2.2.2.1 (mt.1 + (1 : Int32)).toNatClampNeg (vp_nar .boolean (0 : Int32)), vp_updL mt.2.2.2.2.2.2 (mt.1 + (1 : Int32)).toNatClampNeg (0 : Int64))) := Eq.trans (Eq.trans (Eq.trans (Eq.trans (Eq.trans (Eq.trans (Eq.trans (Eq.trans (Eq.trans rfl (if_neg b1)) (if_pos b4)) (if_neg b8)) (if_neg b10)) (if_neg b22)) (if_neg b47)) (if_neg b72)) (if_pos b99)) (if_pos b105)
                    exact xM_iret hx hb hr hlk  hS (by rw [e9]) (by rw [e9]; exact hP) dX5_node_217
                ·
                  have k123 := Eq.mp (if_neg b99) k98
                  refine lv_aload_n hx hb dX5_node_131 rfl (lv_at hl 0 rfl) ?_
                  refine va_get (D := w.1) (ci := 6) (v := .ref (w.2.2 10)) (C := RX5) (T := TX5) (N := 33) hx hb hts iw_X5_node_X5 hown hK.1 hP 0 rfl rfl 11 (by decide) (hts _ fl_X5_node_38) (fun _ h9 => h9) rfl dX5_node_132 ?_
                  refine lv_iload_n hx hb dX5_node_135 rfl (lv_at hl 3 rfl) ?_
                  have o124 := k123.1
                  have k125 := k123.2
                  refine va_zald hx hb hK.1 hP 10 2 rfl rfl o124 dX5_node_136 ?_
                  refine lv_if_eq (tgt := 161) hx hb dX5_node_137 (by decide) (fun b126 => ?_) (fun b126 => ?_)
                  ·
                    have k127 := Eq.mp (if_pos b126) k125
                    refine lv_iconst (v := 0) hx hb dX5_node_161 (by decide) ?_
                    have o128 := k127.1
                    have k129 := k127.2
                    refine va_zast hx hb hK.1 hP (wM_D hA) hS 10 2 rfl rfl o128 dX5_node_162 (fun H locs hP _ hS => ?_)
                    have hP : va_P w.1 vwCl (wM w ((0 : Int32), me.2.1, me.2.2) mb mc (mt.1 + (1 : Int32), upd mt.2.1 (mt.1 + (1 : Int32)).toNatClampNeg kd, upd mt.2.2.1 (mt.1 + (1 : Int32)).toNatClampNeg a, upd mt.2.2.2.1 (mt.1 + (1 : Int32)).toNatClampNeg b, upd mt.2.2.2.2.1 (mt.1 + (1 : Int32)).toNatClampNeg (G_X5_sureOf mc (mt.1 + (1 : Int32), upd mt.2.1 (mt.1 + (1 : Int32)).toNatClampNeg kd, upd mt.2.2.1 (mt.1 + (1 : Int32)).toNatClampNeg a, upd mt.2.2.2.1 (mt.1 + (1 : Int32)).toNatClampNeg b, mt.2.2.2.2.1, mt.2.2.2.2.2.1, mt.2.2.2.2.2.2) kd a b), upd mt.2.2.2.2.2.1 (mt.1 + (1 : Int32)).toNatClampNeg (vp_nar .boolean (0 : Int32)), mt.2.2.2.2.2.2) mk mr mq mv) H := hP
                    refine lv_aload_n hx hb dX5_node_163 rfl (lv_at hl 0 rfl) ?_
                    refine va_get (D := w.1) (ci := 6) (v := .ref (w.2.2 11)) (C := RX5) (T := TX5) (N := 33) hx hb hts iw_X5_node_X5 hown hK.1 hP 0 rfl rfl 12 (by decide) (hts _ fl_X5_node_42) (fun _ h9 => h9) rfl dX5_node_164 ?_
                    refine lv_aload_n hx hb dX5_node_167 rfl (lv_at hl 0 rfl) ?_
                    refine va_get (D := w.1) (ci := 6) (v := .int (mt.1 + (1 : Int32))) (C := RX5) (T := TX5) (N := 33) hx hb hts iw_X5_node_X5 hown hK.1 hP 0 rfl rfl 13 (by decide) (hts _ fl_X5_node_118) (fun _ h9 => h9) rfl dX5_node_168 ?_
                    refine lv_aload_n hx hb dX5_node_171 rfl (lv_at hl 0 rfl) ?_
                    refine va_get (D := w.1) (ci := 6) (v := .ref (w.2.2 10)) (C := RX5) (T := TX5) (N := 33) hx hb hts iw_X5_node_X5 hown hK.1 hP 0 rfl rfl 11 (by decide) (hts _ fl_X5_node_38) (fun _ h9 => h9) rfl dX5_node_172 ?_
                    refine lv_aload_n hx hb dX5_node_175 rfl (lv_at hl 0 rfl) ?_
                    refine va_get (D := w.1) (ci := 6) (v := .int (mt.1 + (1 : Int32))) (C := RX5) (T := TX5) (N := 33) hx hb hts iw_X5_node_X5 hown hK.1 hP 0 rfl rfl 13 (by decide) (hts _ fl_X5_node_118) (fun _ h9 => h9) rfl dX5_node_176 ?_
                    have o130 := k129.1
                    have k131 := k129.2
                    refine va_zald hx hb hK.1 hP 10 2 rfl rfl o130 dX5_node_179 ?_
                    refine lv_if_ne (tgt := 187) hx hb dX5_node_180 (by decide) (fun b132 => ?_) (fun b132 => ?_)
                    ·
                      have k133 := Eq.mp (if_neg b132) k131
                      refine lv_iload_n hx hb dX5_node_187 rfl (lv_at hl 1 rfl) ?_
                      refine lv_if_ne (tgt := 196) hx hb dX5_node_188 (by decide) (fun b134 => ?_) (fun b134 => ?_)
                      ·
                        have k135 := Eq.mp (if_neg b134) k133
                        refine lv_iload_n hx hb dX5_node_196 rfl (lv_at hl 1 rfl) ?_
                        refine lv_aload_n hx hb dX5_node_197 rfl (lv_at hl 0 rfl) ?_
                        refine va_get (D := w.1) (ci := 6) (v := .ref (w.2.2 11)) (C := RX5) (T := TX5) (N := 33) hx hb hts iw_X5_node_X5 hown hK.1 hP 0 rfl rfl 12 (by decide) (hts _ fl_X5_node_42) (fun _ h9 => h9) rfl dX5_node_198 ?_
                        refine lv_iload_n hx hb dX5_node_201 rfl (lv_at hl 2 rfl) ?_
                        have o136 := k135.1
                        have k137 := k135.2
                        refine va_lald hx hb hK.1 hP 11 3 rfl rfl o136 dX5_node_202 ?_
                        refine lv_aload_n hx hb dX5_node_203 rfl (lv_at hl 0 rfl) ?_
                        refine va_get (D := w.1) (ci := 6) (v := .ref (w.2.2 11)) (C := RX5) (T := TX5) (N := 33) hx hb hts iw_X5_node_X5 hown hK.1 hP 0 rfl rfl 12 (by decide) (hts _ fl_X5_node_42) (fun _ h9 => h9) rfl dX5_node_204 ?_
                        refine lv_iload_n hx hb dX5_node_207 rfl (lv_at hl 3 rfl) ?_
                        have o138 := k137.1
                        have k139 := k137.2
                        refine va_lald hx hb hK.1 hP 11 3 rfl rfl o138 dX5_node_208 ?_
                        have o140 := k139.1
                        have k141 := k139.2
                        refine xR_l (va_runS (As := [.int kd, .long (mt.2.2.2.2.2.2 a.toNatClampNeg), .long (mt.2.2.2.2.2.2 b.toNatClampNeg)]) (rest := [.int (mt.1 + (1 : Int32)), .ref (w.2.2 11)]) ⟨hx, hb, hml, hown, hts⟩ (c_X5_reckoned l w ((0 : Int32), me.2.1, me.2.2) mb mc (mt.1 + (1 : Int32), upd mt.2.1 (mt.1 + (1 : Int32)).toNatClampNeg kd, upd mt.2.2.1 (mt.1 + (1 : Int32)).toNatClampNeg a, upd mt.2.2.2.1 (mt.1 + (1 : Int32)).toNatClampNeg b, upd mt.2.2.2.2.1 (mt.1 + (1 : Int32)).toNatClampNeg (G_X5_sureOf mc (mt.1 + (1 : Int32), upd mt.2.1 (mt.1 + (1 : Int32)).toNatClampNeg kd, upd mt.2.2.1 (mt.1 + (1 : Int32)).toNatClampNeg a, upd mt.2.2.2.1 (mt.1 + (1 : Int32)).toNatClampNeg b, mt.2.2.2.2.1, mt.2.2.2.2.2.1, mt.2.2.2.2.2.2) kd a b), upd mt.2.2.2.2.2.1 (mt.1 + (1 : Int32)).toNatClampNeg (vp_nar .boolean (0 : Int32)), mt.2.2.2.2.2.2) mk mr mq mv kd (mt.2.2.2.2.2.2 a.toNatClampNeg) (mt.2.2.2.2.2.2 b.toNatClampNeg) o140) (va_cwS 3 hts gX5_node_X5_reckoned rfl rfl rfl ds_X5_reckoned ⟨Nat.le_of_ble_eq_true rfl, Nat.le_of_ble_eq_true rfl⟩) (wPre hP hK) rfl rfl hl.1 rfl (lv_room (Nat.le_of_ble_eq_true rfl)) dX5_node_209 ⟨Nat.zero_le _, Nat.zero_le _⟩) ?_
                        have o142 := k141.1
                        have k143 := k141.2
                        refine va_last hx hb hK.1 hP (wM_D hA) hS 11 3 rfl rfl o142 dX5_node_212 (fun H locs hP _ hS => ?_)
                        have hP : va_P w.1 vwCl (wM w ((0 : Int32), me.2.1, me.2.2) mb mc (mt.1 + (1 : Int32), upd mt.2.1 (mt.1 + (1 : Int32)).toNatClampNeg kd, upd mt.2.2.1 (mt.1 + (1 : Int32)).toNatClampNeg a, upd mt.2.2.2.1 (mt.1 + (1 : Int32)).toNatClampNeg b, upd mt.2.2.2.2.1 (mt.1 + (1 : Int32)).toNatClampNeg (G_X5_sureOf mc (mt.1 + (1 : Int32), upd mt.2.1 (mt.1 + (1 : Int32)).toNatClampNeg kd, upd mt.2.2.1 (mt.1 + (1 : Int32)).toNatClampNeg a, upd mt.2.2.2.1 (mt.1 + (1 : Int32)).toNatClampNeg b, mt.2.2.2.2.1, mt.2.2.2.2.2.1, mt.2.2.2.2.2.2) kd a b), upd mt.2.2.2.2.2.1 (mt.1 + (1 : Int32)).toNatClampNeg (vp_nar .boolean (0 : Int32)), vp_updL mt.2.2.2.2.2.2 (mt.1 + (1 : Int32)).toNatClampNeg (G_X5_reckoned kd (mt.2.2.2.2.2.2 a.toNatClampNeg) (mt.2.2.2.2.2.2 b.toNatClampNeg))) mk mr mq mv) H := hP
                        refine lv_aload_n hx hb dX5_node_213 rfl (lv_at hl 0 rfl) ?_
                        refine va_get (D := w.1) (ci := 6) (v := .int (mt.1 + (1 : Int32))) (C := RX5) (T := TX5) (N := 33) hx hb hts iw_X5_node_X5 hown hK.1 hP 0 rfl rfl 13 (by decide) (hts _ fl_X5_node_118) (fun _ h9 => h9) rfl dX5_node_214 ?_
                        have e9 : G_X5_node me mc mt kd a b = (mt.1 + (1 : Int32), ((0 : Int32), me.2.1, me.2.2), (mt.1 + (1 : Int32), upd mt.2.1 (mt.1 + (1 : Int32)).toNatClampNeg kd, upd mt.2.2.1 (mt.1 + (1 : Int32)).toNatClampNeg a, upd mt.2.2.2.1 (mt.1 + (1 : Int32)).toNatClampNeg b, upd mt.2.2.2.2.1 (mt.1 + (1 : Int32)).toNatClampNeg (G_X5_sureOf mc (mt.1 + (1 : Int32), upd mt.2.1 (mt.1 + (1 : Int32)).toNatClampNeg kd, upd mt.2.2.1 (mt.1 + (1 : Int32)).toNatClampNeg a, upd mt.2.2.2.1 (mt.1 + (1 : Int32)).toNatClampNeg b, mt.2.2.2.2.1, mt.2.2.2.2.2.1, mt.2.2.2.2.2.2) kd a b), upd mt.2.2.2.2.2.1 (mt.1 + (1 : Int32)).toNatClampNeg (vp_nar .boolean (0 : Int32)), vp_updL mt.2.2.2.2.2.2 (mt.1 + (1 : Int32)).toNatClampNeg (G_X5_reckoned kd (mt.2.2.2.2.2.2 a.toNatClampNeg) (mt.2.2.2.2.2.2 b.toNatClampNeg)))) := Eq.trans (Eq.trans (Eq.trans (Eq.trans (Eq.trans (Eq.trans (Eq.trans (Eq.trans (Eq.trans (Eq.trans (Eq.trans rfl (if_neg b1)) (if_pos b4)) (if_neg b8)) (if_neg b10)) (if_neg b22)) (if_neg b47)) (if_neg b72)) (if_neg b99)) (if_pos b126)) (if_neg b132)) (if_neg b134)
                        exact xM_iret hx hb hr hlk  hS (by rw [e9]) (by rw [e9]; exact hP) dX5_node_217
                      ·
                        have k144 := Eq.mp (if_pos b134) k133
                        refine lv_iload_n hx hb dX5_node_191 rfl (lv_at hl 2 rfl) ?_
                        refine lv_i2l hx hb dX5_node_192 rfl ?_
                        refine lv_goto (tgt := 212) hx hb dX5_node_193 (by decide) ?_
                        have o145 := k144.1
                        have k146 := k144.2
                        refine va_last hx hb hK.1 hP (wM_D hA) hS 11 3 rfl rfl o145 dX5_node_212 (fun H locs hP _ hS => ?_)
                        have hP : va_P w.1 vwCl (wM w ((0 : Int32), me.2.1, me.2.2) mb mc (mt.1 + (1 : Int32), upd mt.2.1 (mt.1 + (1 : Int32)).toNatClampNeg kd, upd mt.2.2.1 (mt.1 + (1 : Int32)).toNatClampNeg a, upd mt.2.2.2.1 (mt.1 + (1 : Int32)).toNatClampNeg b, upd mt.2.2.2.2.1 (mt.1 + (1 : Int32)).toNatClampNeg (G_X5_sureOf mc (mt.1 + (1 : Int32), upd mt.2.1 (mt.1 + (1 : Int32)).toNatClampNeg kd, upd mt.2.2.1 (mt.1 + (1 : Int32)).toNatClampNeg a, upd mt.2.2.2.1 (mt.1 + (1 : Int32)).toNatClampNeg b, mt.2.2.2.2.1, mt.2.2.2.2.2.1, mt.2.2.2.2.2.2) kd a b), upd mt.2.2.2.2.2.1 (mt.1 + (1 : Int32)).toNatClampNeg (vp_nar .boolean (0 : Int32)), vp_updL mt.2.2.2.2.2.2 (mt.1 + (1 : Int32)).toNatClampNeg a.toInt64) mk mr mq mv) H := hP
                        refine lv_aload_n hx hb dX5_node_213 rfl (lv_at hl 0 rfl) ?_
                        refine va_get (D := w.1) (ci := 6) (v := .int (mt.1 + (1 : Int32))) (C := RX5) (T := TX5) (N := 33) hx hb hts iw_X5_node_X5 hown hK.1 hP 0 rfl rfl 13 (by decide) (hts _ fl_X5_node_118) (fun _ h9 => h9) rfl dX5_node_214 ?_
                        have e9 : G_X5_node me mc mt kd a b = (mt.1 + (1 : Int32), ((0 : Int32), me.2.1, me.2.2), (mt.1 + (1 : Int32), upd mt.2.1 (mt.1 + (1 : Int32)).toNatClampNeg kd, upd mt.2.2.1 (mt.1 + (1 : Int32)).toNatClampNeg a, upd mt.2.2.2.1 (mt.1 + (1 : Int32)).toNatClampNeg b, upd mt.2.2.2.2.1 (mt.1 + (1 : Int32)).toNatClampNeg (G_X5_sureOf mc (mt.1 + (1 : Int32), upd mt.2.1 (mt.1 + (1 : Int32)).toNatClampNeg kd, upd mt.2.2.1 (mt.1 + (1 : Int32)).toNatClampNeg a, upd mt.2.2.2.1 (mt.1 + (1 : Int32)).toNatClampNeg b, mt.2.2.2.2.1, mt.2.2.2.2.2.1, mt.2.2.2.2.2.2) kd a b), upd mt.2.2.2.2.2.1 (mt.1 + (1 : Int32)).toNatClampNeg (vp_nar .boolean (0 : Int32)), vp_updL mt.2.2.2.2.2.2 (mt.1 + (1 : Int32)).toNatClampNeg a.toInt64)) := Eq.trans (Eq.trans (Eq.trans (Eq.trans (Eq.trans (Eq.trans (Eq.trans (Eq.trans (Eq.trans (Eq.trans (Eq.trans rfl (if_neg b1)) (if_pos b4)) (if_neg b8)) (if_neg b10)) (if_neg b22)) (if_neg b47)) (if_neg b72)) (if_neg b99)) (if_pos b126)) (if_neg b132)) (if_pos b134)
                        exact xM_iret hx hb hr hlk  hS (by rw [e9]) (by rw [e9]; exact hP) dX5_node_217
                    ·
                      have k147 := Eq.mp (if_pos b132) k131
                      refine lv_lconst (v := 0) hx hb dX5_node_183 (by decide) ?_
                      refine lv_goto (tgt := 212) hx hb dX5_node_184 (by decide) ?_
                      have o148 := k147.1
                      have k149 := k147.2
                      refine va_last hx hb hK.1 hP (wM_D hA) hS 11 3 rfl rfl o148 dX5_node_212 (fun H locs hP _ hS => ?_)
                      have hP : va_P w.1 vwCl (wM w ((0 : Int32), me.2.1, me.2.2) mb mc (mt.1 + (1 : Int32), upd mt.2.1 (mt.1 + (1 : Int32)).toNatClampNeg kd, upd mt.2.2.1 (mt.1 + (1 : Int32)).toNatClampNeg a, upd mt.2.2.2.1 (mt.1 + (1 : Int32)).toNatClampNeg b, upd mt.2.2.2.2.1 (mt.1 + (1 : Int32)).toNatClampNeg (G_X5_sureOf mc (mt.1 + (1 : Int32), upd mt.2.1 (mt.1 + (1 : Int32)).toNatClampNeg kd, upd mt.2.2.1 (mt.1 + (1 : Int32)).toNatClampNeg a, upd mt.2.2.2.1 (mt.1 + (1 : Int32)).toNatClampNeg b, mt.2.2.2.2.1, mt.2.2.2.2.2.1, mt.2.2.2.2.2.2) kd a b), upd mt.2.2.2.2.2.1 (mt.1 + (1 : Int32)).toNatClampNeg (vp_nar .boolean (0 : Int32)), vp_updL mt.2.2.2.2.2.2 (mt.1 + (1 : Int32)).toNatClampNeg (0 : Int64)) mk mr mq mv) H := hP
                      refine lv_aload_n hx hb dX5_node_213 rfl (lv_at hl 0 rfl) ?_
                      refine va_get (D := w.1) (ci := 6) (v := .int (mt.1 + (1 : Int32))) (C := RX5) (T := TX5) (N := 33) hx hb hts iw_X5_node_X5 hown hK.1 hP 0 rfl rfl 13 (by decide) (hts _ fl_X5_node_118) (fun _ h9 => h9) rfl dX5_node_214 ?_
                      have e9 : G_X5_node me mc mt kd a b = (mt.1 + (1 : Int32), ((0 : Int32), me.2.1, me.2.2), (mt.1 + (1 : Int32), upd mt.2.1 (mt.1 + (1 : Int32)).toNatClampNeg kd, upd mt.2.2.1 (mt.1 + (1 : Int32)).toNatClampNeg a, upd mt.2.2.2.1 (mt.1 + (1 : Int32)).toNatClampNeg b, upd mt.2.2.2.2.1 (mt.1 + (1 : Int32)).toNatClampNeg (G_X5_sureOf mc (mt.1 + (1 : Int32), upd mt.2.1 (mt.1 + (1 : Int32)).toNatClampNeg kd, upd mt.2.2.1 (mt.1 + (1 : Int32)).toNatClampNeg a, upd mt.2.2.2.1 (mt.1 + (1 : Int32)).toNatClampNeg b, mt.2.2.2.2.1, mt.2.2.2.2.2.1, mt.2.2.2.2.2.2) kd a b), upd mt.2.2.2.2.2.1 (mt.1 + (1 : Int32)).toNatClampNeg (vp_nar .boolean (0 : Int32)), vp_updL mt.2.2.2.2.2.2 (mt.1 + (1 : Int32)).toNatClampNeg (0 : Int64))) := Eq.trans (Eq.trans (Eq.trans (Eq.trans (Eq.trans (Eq.trans (Eq.trans (Eq.trans (Eq.trans (Eq.trans rfl (if_neg b1)) (if_pos b4)) (if_neg b8)) (if_neg b10)) (if_neg b22)) (if_neg b47)) (if_neg b72)) (if_neg b99)) (if_pos b126)) (if_pos b132)
                      exact xM_iret hx hb hr hlk  hS (by rw [e9]) (by rw [e9]; exact hP) dX5_node_217
                  ·
                    have k150 := Eq.mp (if_neg b126) k125
                    refine lv_iload_n hx hb dX5_node_140 rfl (lv_at hl 1 rfl) ?_
                    refine lv_bipush (v := 6) hx hb dX5_node_141 (by decide) ?_
                    refine lv_icmp_ne (tgt := 157) hx hb dX5_node_143 (by decide) (fun b151 => ?_) (fun b151 => ?_)
                    ·
                      have k152 := Eq.mp (if_neg b151) k150
                      refine lv_iconst (v := 1) hx hb dX5_node_157 (by decide) ?_
                      refine lv_goto (tgt := 162) hx hb dX5_node_158 (by decide) ?_
                      have o153 := k152.1
                      have k154 := k152.2
                      refine va_zast hx hb hK.1 hP (wM_D hA) hS 10 2 rfl rfl o153 dX5_node_162 (fun H locs hP _ hS => ?_)
                      have hP : va_P w.1 vwCl (wM w ((0 : Int32), me.2.1, me.2.2) mb mc (mt.1 + (1 : Int32), upd mt.2.1 (mt.1 + (1 : Int32)).toNatClampNeg kd, upd mt.2.2.1 (mt.1 + (1 : Int32)).toNatClampNeg a, upd mt.2.2.2.1 (mt.1 + (1 : Int32)).toNatClampNeg b, upd mt.2.2.2.2.1 (mt.1 + (1 : Int32)).toNatClampNeg (G_X5_sureOf mc (mt.1 + (1 : Int32), upd mt.2.1 (mt.1 + (1 : Int32)).toNatClampNeg kd, upd mt.2.2.1 (mt.1 + (1 : Int32)).toNatClampNeg a, upd mt.2.2.2.1 (mt.1 + (1 : Int32)).toNatClampNeg b, mt.2.2.2.2.1, mt.2.2.2.2.2.1, mt.2.2.2.2.2.2) kd a b), upd mt.2.2.2.2.2.1 (mt.1 + (1 : Int32)).toNatClampNeg (vp_nar .boolean (1 : Int32)), mt.2.2.2.2.2.2) mk mr mq mv) H := hP
                      refine lv_aload_n hx hb dX5_node_163 rfl (lv_at hl 0 rfl) ?_
                      refine va_get (D := w.1) (ci := 6) (v := .ref (w.2.2 11)) (C := RX5) (T := TX5) (N := 33) hx hb hts iw_X5_node_X5 hown hK.1 hP 0 rfl rfl 12 (by decide) (hts _ fl_X5_node_42) (fun _ h9 => h9) rfl dX5_node_164 ?_
                      refine lv_aload_n hx hb dX5_node_167 rfl (lv_at hl 0 rfl) ?_
                      refine va_get (D := w.1) (ci := 6) (v := .int (mt.1 + (1 : Int32))) (C := RX5) (T := TX5) (N := 33) hx hb hts iw_X5_node_X5 hown hK.1 hP 0 rfl rfl 13 (by decide) (hts _ fl_X5_node_118) (fun _ h9 => h9) rfl dX5_node_168 ?_
                      refine lv_aload_n hx hb dX5_node_171 rfl (lv_at hl 0 rfl) ?_
                      refine va_get (D := w.1) (ci := 6) (v := .ref (w.2.2 10)) (C := RX5) (T := TX5) (N := 33) hx hb hts iw_X5_node_X5 hown hK.1 hP 0 rfl rfl 11 (by decide) (hts _ fl_X5_node_38) (fun _ h9 => h9) rfl dX5_node_172 ?_
                      refine lv_aload_n hx hb dX5_node_175 rfl (lv_at hl 0 rfl) ?_
                      refine va_get (D := w.1) (ci := 6) (v := .int (mt.1 + (1 : Int32))) (C := RX5) (T := TX5) (N := 33) hx hb hts iw_X5_node_X5 hown hK.1 hP 0 rfl rfl 13 (by decide) (hts _ fl_X5_node_118) (fun _ h9 => h9) rfl dX5_node_176 ?_
                      have o155 := k154.1
                      have k156 := k154.2
                      refine va_zald hx hb hK.1 hP 10 2 rfl rfl o155 dX5_node_179 ?_
                      refine lv_if_ne (tgt := 187) hx hb dX5_node_180 (by decide) (fun b157 => ?_) (fun b157 => ?_)
                      ·
                        have k158 := Eq.mp (if_neg b157) k156
                        refine lv_iload_n hx hb dX5_node_187 rfl (lv_at hl 1 rfl) ?_
                        refine lv_if_ne (tgt := 196) hx hb dX5_node_188 (by decide) (fun b159 => ?_) (fun b159 => ?_)
                        ·
                          have k160 := Eq.mp (if_neg b159) k158
                          refine lv_iload_n hx hb dX5_node_196 rfl (lv_at hl 1 rfl) ?_
                          refine lv_aload_n hx hb dX5_node_197 rfl (lv_at hl 0 rfl) ?_
                          refine va_get (D := w.1) (ci := 6) (v := .ref (w.2.2 11)) (C := RX5) (T := TX5) (N := 33) hx hb hts iw_X5_node_X5 hown hK.1 hP 0 rfl rfl 12 (by decide) (hts _ fl_X5_node_42) (fun _ h9 => h9) rfl dX5_node_198 ?_
                          refine lv_iload_n hx hb dX5_node_201 rfl (lv_at hl 2 rfl) ?_
                          have o161 := k160.1
                          have k162 := k160.2
                          refine va_lald hx hb hK.1 hP 11 3 rfl rfl o161 dX5_node_202 ?_
                          refine lv_aload_n hx hb dX5_node_203 rfl (lv_at hl 0 rfl) ?_
                          refine va_get (D := w.1) (ci := 6) (v := .ref (w.2.2 11)) (C := RX5) (T := TX5) (N := 33) hx hb hts iw_X5_node_X5 hown hK.1 hP 0 rfl rfl 12 (by decide) (hts _ fl_X5_node_42) (fun _ h9 => h9) rfl dX5_node_204 ?_
                          refine lv_iload_n hx hb dX5_node_207 rfl (lv_at hl 3 rfl) ?_
                          have o163 := k162.1
                          have k164 := k162.2
                          refine va_lald hx hb hK.1 hP 11 3 rfl rfl o163 dX5_node_208 ?_
                          have o165 := k164.1
                          have k166 := k164.2
                          refine xR_l (va_runS (As := [.int kd, .long (mt.2.2.2.2.2.2 a.toNatClampNeg), .long (mt.2.2.2.2.2.2 b.toNatClampNeg)]) (rest := [.int (mt.1 + (1 : Int32)), .ref (w.2.2 11)]) ⟨hx, hb, hml, hown, hts⟩ (c_X5_reckoned l w ((0 : Int32), me.2.1, me.2.2) mb mc (mt.1 + (1 : Int32), upd mt.2.1 (mt.1 + (1 : Int32)).toNatClampNeg kd, upd mt.2.2.1 (mt.1 + (1 : Int32)).toNatClampNeg a, upd mt.2.2.2.1 (mt.1 + (1 : Int32)).toNatClampNeg b, upd mt.2.2.2.2.1 (mt.1 + (1 : Int32)).toNatClampNeg (G_X5_sureOf mc (mt.1 + (1 : Int32), upd mt.2.1 (mt.1 + (1 : Int32)).toNatClampNeg kd, upd mt.2.2.1 (mt.1 + (1 : Int32)).toNatClampNeg a, upd mt.2.2.2.1 (mt.1 + (1 : Int32)).toNatClampNeg b, mt.2.2.2.2.1, mt.2.2.2.2.2.1, mt.2.2.2.2.2.2) kd a b), upd mt.2.2.2.2.2.1 (mt.1 + (1 : Int32)).toNatClampNeg (vp_nar .boolean (1 : Int32)), mt.2.2.2.2.2.2) mk mr mq mv kd (mt.2.2.2.2.2.2 a.toNatClampNeg) (mt.2.2.2.2.2.2 b.toNatClampNeg) o165) (va_cwS 3 hts gX5_node_X5_reckoned rfl rfl rfl ds_X5_reckoned ⟨Nat.le_of_ble_eq_true rfl, Nat.le_of_ble_eq_true rfl⟩) (wPre hP hK) rfl rfl hl.1 rfl (lv_room (Nat.le_of_ble_eq_true rfl)) dX5_node_209 ⟨Nat.zero_le _, Nat.zero_le _⟩) ?_
                          have o167 := k166.1
                          have k168 := k166.2
                          refine va_last hx hb hK.1 hP (wM_D hA) hS 11 3 rfl rfl o167 dX5_node_212 (fun H locs hP _ hS => ?_)
                          have hP : va_P w.1 vwCl (wM w ((0 : Int32), me.2.1, me.2.2) mb mc (mt.1 + (1 : Int32), upd mt.2.1 (mt.1 + (1 : Int32)).toNatClampNeg kd, upd mt.2.2.1 (mt.1 + (1 : Int32)).toNatClampNeg a, upd mt.2.2.2.1 (mt.1 + (1 : Int32)).toNatClampNeg b, upd mt.2.2.2.2.1 (mt.1 + (1 : Int32)).toNatClampNeg (G_X5_sureOf mc (mt.1 + (1 : Int32), upd mt.2.1 (mt.1 + (1 : Int32)).toNatClampNeg kd, upd mt.2.2.1 (mt.1 + (1 : Int32)).toNatClampNeg a, upd mt.2.2.2.1 (mt.1 + (1 : Int32)).toNatClampNeg b, mt.2.2.2.2.1, mt.2.2.2.2.2.1, mt.2.2.2.2.2.2) kd a b), upd mt.2.2.2.2.2.1 (mt.1 + (1 : Int32)).toNatClampNeg (vp_nar .boolean (1 : Int32)), vp_updL mt.2.2.2.2.2.2 (mt.1 + (1 : Int32)).toNatClampNeg (G_X5_reckoned kd (mt.2.2.2.2.2.2 a.toNatClampNeg) (mt.2.2.2.2.2.2 b.toNatClampNeg))) mk mr mq mv) H := hP
                          refine lv_aload_n hx hb dX5_node_213 rfl (lv_at hl 0 rfl) ?_
                          refine va_get (D := w.1) (ci := 6) (v := .int (mt.1 + (1 : Int32))) (C := RX5) (T := TX5) (N := 33) hx hb hts iw_X5_node_X5 hown hK.1 hP 0 rfl rfl 13 (by decide) (hts _ fl_X5_node_118) (fun _ h9 => h9) rfl dX5_node_214 ?_
                          have e9 : G_X5_node me mc mt kd a b = (mt.1 + (1 : Int32), ((0 : Int32), me.2.1, me.2.2), (mt.1 + (1 : Int32), upd mt.2.1 (mt.1 + (1 : Int32)).toNatClampNeg kd, upd mt.2.2.1 (mt.1 + (1 : Int32)).toNatClampNeg a, upd mt.2.2.2.1 (mt.1 + (1 : Int32)).toNatClampNeg b, upd mt.2.2.2.2.1 (mt.1 + (1 : Int32)).toNatClampNeg (G_X5_sureOf mc (mt.1 + (1 : Int32), upd mt.2.1 (mt.1 + (1 : Int32)).toNatClampNeg kd, upd mt.2.2.1 (mt.1 + (1 : Int32)).toNatClampNeg a, upd mt.2.2.2.1 (mt.1 + (1 : Int32)).toNatClampNeg b, mt.2.2.2.2.1, mt.2.2.2.2.2.1, mt.2.2.2.2.2.2) kd a b), upd mt.2.2.2.2.2.1 (mt.1 + (1 : Int32)).toNatClampNeg (vp_nar .boolean (1 : Int32)), vp_updL mt.2.2.2.2.2.2 (mt.1 + (1 : Int32)).toNatClampNeg (G_X5_reckoned kd (mt.2.2.2.2.2.2 a.toNatClampNeg) (mt.2.2.2.2.2.2 b.toNatClampNeg)))) := Eq.trans (Eq.trans (Eq.trans (Eq.trans (Eq.trans (Eq.trans (Eq.trans (Eq.trans (Eq.trans (Eq.trans (Eq.trans (Eq.trans rfl (if_neg b1)) (if_pos b4)) (if_neg b8)) (if_neg b10)) (if_neg b22)) (if_neg b47)) (if_neg b72)) (if_neg b99)) (if_neg b126)) (if_neg b151)) (if_neg b157)) (if_neg b159)
                          exact xM_iret hx hb hr hlk  hS (by rw [e9]) (by rw [e9]; exact hP) dX5_node_217
                        ·
                          have k169 := Eq.mp (if_pos b159) k158
                          refine lv_iload_n hx hb dX5_node_191 rfl (lv_at hl 2 rfl) ?_
                          refine lv_i2l hx hb dX5_node_192 rfl ?_
                          refine lv_goto (tgt := 212) hx hb dX5_node_193 (by decide) ?_
                          have o170 := k169.1
                          have k171 := k169.2
                          refine va_last hx hb hK.1 hP (wM_D hA) hS 11 3 rfl rfl o170 dX5_node_212 (fun H locs hP _ hS => ?_)
                          have hP : va_P w.1 vwCl (wM w ((0 : Int32), me.2.1, me.2.2) mb mc (mt.1 + (1 : Int32), upd mt.2.1 (mt.1 + (1 : Int32)).toNatClampNeg kd, upd mt.2.2.1 (mt.1 + (1 : Int32)).toNatClampNeg a, upd mt.2.2.2.1 (mt.1 + (1 : Int32)).toNatClampNeg b, upd mt.2.2.2.2.1 (mt.1 + (1 : Int32)).toNatClampNeg (G_X5_sureOf mc (mt.1 + (1 : Int32), upd mt.2.1 (mt.1 + (1 : Int32)).toNatClampNeg kd, upd mt.2.2.1 (mt.1 + (1 : Int32)).toNatClampNeg a, upd mt.2.2.2.1 (mt.1 + (1 : Int32)).toNatClampNeg b, mt.2.2.2.2.1, mt.2.2.2.2.2.1, mt.2.2.2.2.2.2) kd a b), upd mt.2.2.2.2.2.1 (mt.1 + (1 : Int32)).toNatClampNeg (vp_nar .boolean (1 : Int32)), vp_updL mt.2.2.2.2.2.2 (mt.1 + (1 : Int32)).toNatClampNeg a.toInt64) mk mr mq mv) H := hP
                          refine lv_aload_n hx hb dX5_node_213 rfl (lv_at hl 0 rfl) ?_
                          refine va_get (D := w.1) (ci := 6) (v := .int (mt.1 + (1 : Int32))) (C := RX5) (T := TX5) (N := 33) hx hb hts iw_X5_node_X5 hown hK.1 hP 0 rfl rfl 13 (by decide) (hts _ fl_X5_node_118) (fun _ h9 => h9) rfl dX5_node_214 ?_
                          have e9 : G_X5_node me mc mt kd a b = (mt.1 + (1 : Int32), ((0 : Int32), me.2.1, me.2.2), (mt.1 + (1 : Int32), upd mt.2.1 (mt.1 + (1 : Int32)).toNatClampNeg kd, upd mt.2.2.1 (mt.1 + (1 : Int32)).toNatClampNeg a, upd mt.2.2.2.1 (mt.1 + (1 : Int32)).toNatClampNeg b, upd mt.2.2.2.2.1 (mt.1 + (1 : Int32)).toNatClampNeg (G_X5_sureOf mc (mt.1 + (1 : Int32), upd mt.2.1 (mt.1 + (1 : Int32)).toNatClampNeg kd, upd mt.2.2.1 (mt.1 + (1 : Int32)).toNatClampNeg a, upd mt.2.2.2.1 (mt.1 + (1 : Int32)).toNatClampNeg b, mt.2.2.2.2.1, mt.2.2.2.2.2.1, mt.2.2.2.2.2.2) kd a b), upd mt.2.2.2.2.2.1 (mt.1 + (1 : Int32)).toNatClampNeg (vp_nar .boolean (1 : Int32)), vp_updL mt.2.2.2.2.2.2 (mt.1 + (1 : Int32)).toNatClampNeg a.toInt64)) := Eq.trans (Eq.trans (Eq.trans (Eq.trans (Eq.trans (Eq.trans (Eq.trans (Eq.trans (Eq.trans (Eq.trans (Eq.trans (Eq.trans rfl (if_neg b1)) (if_pos b4)) (if_neg b8)) (if_neg b10)) (if_neg b22)) (if_neg b47)) (if_neg b72)) (if_neg b99)) (if_neg b126)) (if_neg b151)) (if_neg b157)) (if_pos b159)
                          exact xM_iret hx hb hr hlk  hS (by rw [e9]) (by rw [e9]; exact hP) dX5_node_217
                      ·
                        have k172 := Eq.mp (if_pos b157) k156
                        refine lv_lconst (v := 0) hx hb dX5_node_183 (by decide) ?_
                        refine lv_goto (tgt := 212) hx hb dX5_node_184 (by decide) ?_
                        have o173 := k172.1
                        have k174 := k172.2
                        refine va_last hx hb hK.1 hP (wM_D hA) hS 11 3 rfl rfl o173 dX5_node_212 (fun H locs hP _ hS => ?_)
                        have hP : va_P w.1 vwCl (wM w ((0 : Int32), me.2.1, me.2.2) mb mc (mt.1 + (1 : Int32), upd mt.2.1 (mt.1 + (1 : Int32)).toNatClampNeg kd, upd mt.2.2.1 (mt.1 + (1 : Int32)).toNatClampNeg a, upd mt.2.2.2.1 (mt.1 + (1 : Int32)).toNatClampNeg b, upd mt.2.2.2.2.1 (mt.1 + (1 : Int32)).toNatClampNeg (G_X5_sureOf mc (mt.1 + (1 : Int32), upd mt.2.1 (mt.1 + (1 : Int32)).toNatClampNeg kd, upd mt.2.2.1 (mt.1 + (1 : Int32)).toNatClampNeg a, upd mt.2.2.2.1 (mt.1 + (1 : Int32)).toNatClampNeg b, mt.2.2.2.2.1, mt.2.2.2.2.2.1, mt.2.2.2.2.2.2) kd a b), upd mt.2.2.2.2.2.1 (mt.1 + (1 : Int32)).toNatClampNeg (vp_nar .boolean (1 : Int32)), vp_updL mt.2.2.2.2.2.2 (mt.1 + (1 : Int32)).toNatClampNeg (0 : Int64)) mk mr mq mv) H := hP
                        refine lv_aload_n hx hb dX5_node_213 rfl (lv_at hl 0 rfl) ?_
                        refine va_get (D := w.1) (ci := 6) (v := .int (mt.1 + (1 : Int32))) (C := RX5) (T := TX5) (N := 33) hx hb hts iw_X5_node_X5 hown hK.1 hP 0 rfl rfl 13 (by decide) (hts _ fl_X5_node_118) (fun _ h9 => h9) rfl dX5_node_214 ?_
                        have e9 : G_X5_node me mc mt kd a b = (mt.1 + (1 : Int32), ((0 : Int32), me.2.1, me.2.2), (mt.1 + (1 : Int32), upd mt.2.1 (mt.1 + (1 : Int32)).toNatClampNeg kd, upd mt.2.2.1 (mt.1 + (1 : Int32)).toNatClampNeg a, upd mt.2.2.2.1 (mt.1 + (1 : Int32)).toNatClampNeg b, upd mt.2.2.2.2.1 (mt.1 + (1 : Int32)).toNatClampNeg (G_X5_sureOf mc (mt.1 + (1 : Int32), upd mt.2.1 (mt.1 + (1 : Int32)).toNatClampNeg kd, upd mt.2.2.1 (mt.1 + (1 : Int32)).toNatClampNeg a, upd mt.2.2.2.1 (mt.1 + (1 : Int32)).toNatClampNeg b, mt.2.2.2.2.1, mt.2.2.2.2.2.1, mt.2.2.2.2.2.2) kd a b), upd mt.2.2.2.2.2.1 (mt.1 + (1 : Int32)).toNatClampNeg (vp_nar .boolean (1 : Int32)), vp_updL mt.2.2.2.2.2.2 (mt.1 + (1 : Int32)).toNatClampNeg (0 : Int64))) := Eq.trans (Eq.trans (Eq.trans (Eq.trans (Eq.trans (Eq.trans (Eq.trans (Eq.trans (Eq.trans (Eq.trans (Eq.trans rfl (if_neg b1)) (if_pos b4)) (if_neg b8)) (if_neg b10)) (if_neg b22)) (if_neg b47)) (if_neg b72)) (if_neg b99)) (if_neg b126)) (if_neg b151)) (if_pos b157)
                        exact xM_iret hx hb hr hlk  hS (by rw [e9]) (by rw [e9]; exact hP) dX5_node_217
                    ·
                      have k175 := Eq.mp (if_pos b151) k150
                      refine lv_aload_n hx hb dX5_node_146 rfl (lv_at hl 0 rfl) ?_
                      refine va_get (D := w.1) (ci := 6) (v := .ref (w.2.2 11)) (C := RX5) (T := TX5) (N := 33) hx hb hts iw_X5_node_X5 hown hK.1 hP 0 rfl rfl 12 (by decide) (hts _ fl_X5_node_42) (fun _ h9 => h9) rfl dX5_node_147 ?_
                      refine lv_iload_n hx hb dX5_node_150 rfl (lv_at hl 3 rfl) ?_
                      have o176 := k175.1
                      have k177 := k175.2
                      refine va_lald hx hb hK.1 hP 11 3 rfl rfl o176 dX5_node_151 ?_
                      refine lv_lconst (v := 0) hx hb dX5_node_152 (by decide) ?_
                      refine W.lcmp hx hb dX5_node_153 ?_
                      refine lv_if_eq (tgt := 161) hx hb dX5_node_154 (by decide) (fun b178 => ?_) (fun b178 => ?_)
                      ·
                        have k179 := Eq.mp (if_pos b178) k177
                        refine lv_iconst (v := 0) hx hb dX5_node_161 (by decide) ?_
                        have o180 := k179.1
                        have k181 := k179.2
                        refine va_zast hx hb hK.1 hP (wM_D hA) hS 10 2 rfl rfl o180 dX5_node_162 (fun H locs hP _ hS => ?_)
                        have hP : va_P w.1 vwCl (wM w ((0 : Int32), me.2.1, me.2.2) mb mc (mt.1 + (1 : Int32), upd mt.2.1 (mt.1 + (1 : Int32)).toNatClampNeg kd, upd mt.2.2.1 (mt.1 + (1 : Int32)).toNatClampNeg a, upd mt.2.2.2.1 (mt.1 + (1 : Int32)).toNatClampNeg b, upd mt.2.2.2.2.1 (mt.1 + (1 : Int32)).toNatClampNeg (G_X5_sureOf mc (mt.1 + (1 : Int32), upd mt.2.1 (mt.1 + (1 : Int32)).toNatClampNeg kd, upd mt.2.2.1 (mt.1 + (1 : Int32)).toNatClampNeg a, upd mt.2.2.2.1 (mt.1 + (1 : Int32)).toNatClampNeg b, mt.2.2.2.2.1, mt.2.2.2.2.2.1, mt.2.2.2.2.2.2) kd a b), upd mt.2.2.2.2.2.1 (mt.1 + (1 : Int32)).toNatClampNeg (vp_nar .boolean (0 : Int32)), mt.2.2.2.2.2.2) mk mr mq mv) H := hP
                        refine lv_aload_n hx hb dX5_node_163 rfl (lv_at hl 0 rfl) ?_
                        refine va_get (D := w.1) (ci := 6) (v := .ref (w.2.2 11)) (C := RX5) (T := TX5) (N := 33) hx hb hts iw_X5_node_X5 hown hK.1 hP 0 rfl rfl 12 (by decide) (hts _ fl_X5_node_42) (fun _ h9 => h9) rfl dX5_node_164 ?_
                        refine lv_aload_n hx hb dX5_node_167 rfl (lv_at hl 0 rfl) ?_
                        refine va_get (D := w.1) (ci := 6) (v := .int (mt.1 + (1 : Int32))) (C := RX5) (T := TX5) (N := 33) hx hb hts iw_X5_node_X5 hown hK.1 hP 0 rfl rfl 13 (by decide) (hts _ fl_X5_node_118) (fun _ h9 => h9) rfl dX5_node_168 ?_
                        refine lv_aload_n hx hb dX5_node_171 rfl (lv_at hl 0 rfl) ?_
                        refine va_get (D := w.1) (ci := 6) (v := .ref (w.2.2 10)) (C := RX5) (T := TX5) (N := 33) hx hb hts iw_X5_node_X5 hown hK.1 hP 0 rfl rfl 11 (by decide) (hts _ fl_X5_node_38) (fun _ h9 => h9) rfl dX5_node_172 ?_
                        refine lv_aload_n hx hb dX5_node_175 rfl (lv_at hl 0 rfl) ?_
                        refine va_get (D := w.1) (ci := 6) (v := .int (mt.1 + (1 : Int32))) (C := RX5) (T := TX5) (N := 33) hx hb hts iw_X5_node_X5 hown hK.1 hP 0 rfl rfl 13 (by decide) (hts _ fl_X5_node_118) (fun _ h9 => h9) rfl dX5_node_176 ?_
                        have o182 := k181.1
                        have k183 := k181.2
                        refine va_zald hx hb hK.1 hP 10 2 rfl rfl o182 dX5_node_179 ?_
                        refine lv_if_ne (tgt := 187) hx hb dX5_node_180 (by decide) (fun b184 => ?_) (fun b184 => ?_)
                        ·
                          have k185 := Eq.mp (if_neg b184) k183
                          refine lv_iload_n hx hb dX5_node_187 rfl (lv_at hl 1 rfl) ?_
                          refine lv_if_ne (tgt := 196) hx hb dX5_node_188 (by decide) (fun b186 => ?_) (fun b186 => ?_)
                          ·
                            have k187 := Eq.mp (if_neg b186) k185
                            refine lv_iload_n hx hb dX5_node_196 rfl (lv_at hl 1 rfl) ?_
                            refine lv_aload_n hx hb dX5_node_197 rfl (lv_at hl 0 rfl) ?_
                            refine va_get (D := w.1) (ci := 6) (v := .ref (w.2.2 11)) (C := RX5) (T := TX5) (N := 33) hx hb hts iw_X5_node_X5 hown hK.1 hP 0 rfl rfl 12 (by decide) (hts _ fl_X5_node_42) (fun _ h9 => h9) rfl dX5_node_198 ?_
                            refine lv_iload_n hx hb dX5_node_201 rfl (lv_at hl 2 rfl) ?_
                            have o188 := k187.1
                            have k189 := k187.2
                            refine va_lald hx hb hK.1 hP 11 3 rfl rfl o188 dX5_node_202 ?_
                            refine lv_aload_n hx hb dX5_node_203 rfl (lv_at hl 0 rfl) ?_
                            refine va_get (D := w.1) (ci := 6) (v := .ref (w.2.2 11)) (C := RX5) (T := TX5) (N := 33) hx hb hts iw_X5_node_X5 hown hK.1 hP 0 rfl rfl 12 (by decide) (hts _ fl_X5_node_42) (fun _ h9 => h9) rfl dX5_node_204 ?_
                            refine lv_iload_n hx hb dX5_node_207 rfl (lv_at hl 3 rfl) ?_
                            have o190 := k189.1
                            have k191 := k189.2
                            refine va_lald hx hb hK.1 hP 11 3 rfl rfl o190 dX5_node_208 ?_
                            have o192 := k191.1
                            have k193 := k191.2
                            refine xR_l (va_runS (As := [.int kd, .long (mt.2.2.2.2.2.2 a.toNatClampNeg), .long (mt.2.2.2.2.2.2 b.toNatClampNeg)]) (rest := [.int (mt.1 + (1 : Int32)), .ref (w.2.2 11)]) ⟨hx, hb, hml, hown, hts⟩ (c_X5_reckoned l w ((0 : Int32), me.2.1, me.2.2) mb mc (mt.1 + (1 : Int32), upd mt.2.1 (mt.1 + (1 : Int32)).toNatClampNeg kd, upd mt.2.2.1 (mt.1 + (1 : Int32)).toNatClampNeg a, upd mt.2.2.2.1 (mt.1 + (1 : Int32)).toNatClampNeg b, upd mt.2.2.2.2.1 (mt.1 + (1 : Int32)).toNatClampNeg (G_X5_sureOf mc (mt.1 + (1 : Int32), upd mt.2.1 (mt.1 + (1 : Int32)).toNatClampNeg kd, upd mt.2.2.1 (mt.1 + (1 : Int32)).toNatClampNeg a, upd mt.2.2.2.1 (mt.1 + (1 : Int32)).toNatClampNeg b, mt.2.2.2.2.1, mt.2.2.2.2.2.1, mt.2.2.2.2.2.2) kd a b), upd mt.2.2.2.2.2.1 (mt.1 + (1 : Int32)).toNatClampNeg (vp_nar .boolean (0 : Int32)), mt.2.2.2.2.2.2) mk mr mq mv kd (mt.2.2.2.2.2.2 a.toNatClampNeg) (mt.2.2.2.2.2.2 b.toNatClampNeg) o192) (va_cwS 3 hts gX5_node_X5_reckoned rfl rfl rfl ds_X5_reckoned ⟨Nat.le_of_ble_eq_true rfl, Nat.le_of_ble_eq_true rfl⟩) (wPre hP hK) rfl rfl hl.1 rfl (lv_room (Nat.le_of_ble_eq_true rfl)) dX5_node_209 ⟨Nat.zero_le _, Nat.zero_le _⟩) ?_
                            have o194 := k193.1
                            have k195 := k193.2
                            refine va_last hx hb hK.1 hP (wM_D hA) hS 11 3 rfl rfl o194 dX5_node_212 (fun H locs hP _ hS => ?_)
                            have hP : va_P w.1 vwCl (wM w ((0 : Int32), me.2.1, me.2.2) mb mc (mt.1 + (1 : Int32), upd mt.2.1 (mt.1 + (1 : Int32)).toNatClampNeg kd, upd mt.2.2.1 (mt.1 + (1 : Int32)).toNatClampNeg a, upd mt.2.2.2.1 (mt.1 + (1 : Int32)).toNatClampNeg b, upd mt.2.2.2.2.1 (mt.1 + (1 : Int32)).toNatClampNeg (G_X5_sureOf mc (mt.1 + (1 : Int32), upd mt.2.1 (mt.1 + (1 : Int32)).toNatClampNeg kd, upd mt.2.2.1 (mt.1 + (1 : Int32)).toNatClampNeg a, upd mt.2.2.2.1 (mt.1 + (1 : Int32)).toNatClampNeg b, mt.2.2.2.2.1, mt.2.2.2.2.2.1, mt.2.2.2.2.2.2) kd a b), upd mt.2.2.2.2.2.1 (mt.1 + (1 : Int32)).toNatClampNeg (vp_nar .boolean (0 : Int32)), vp_updL mt.2.2.2.2.2.2 (mt.1 + (1 : Int32)).toNatClampNeg (G_X5_reckoned kd (mt.2.2.2.2.2.2 a.toNatClampNeg) (mt.2.2.2.2.2.2 b.toNatClampNeg))) mk mr mq mv) H := hP
                            refine lv_aload_n hx hb dX5_node_213 rfl (lv_at hl 0 rfl) ?_
                            refine va_get (D := w.1) (ci := 6) (v := .int (mt.1 + (1 : Int32))) (C := RX5) (T := TX5) (N := 33) hx hb hts iw_X5_node_X5 hown hK.1 hP 0 rfl rfl 13 (by decide) (hts _ fl_X5_node_118) (fun _ h9 => h9) rfl dX5_node_214 ?_
                            have e9 : G_X5_node me mc mt kd a b = (mt.1 + (1 : Int32), ((0 : Int32), me.2.1, me.2.2), (mt.1 + (1 : Int32), upd mt.2.1 (mt.1 + (1 : Int32)).toNatClampNeg kd, upd mt.2.2.1 (mt.1 + (1 : Int32)).toNatClampNeg a, upd mt.2.2.2.1 (mt.1 + (1 : Int32)).toNatClampNeg b, upd mt.2.2.2.2.1 (mt.1 + (1 : Int32)).toNatClampNeg (G_X5_sureOf mc (mt.1 + (1 : Int32), upd mt.2.1 (mt.1 + (1 : Int32)).toNatClampNeg kd, upd mt.2.2.1 (mt.1 + (1 : Int32)).toNatClampNeg a, upd mt.2.2.2.1 (mt.1 + (1 : Int32)).toNatClampNeg b, mt.2.2.2.2.1, mt.2.2.2.2.2.1, mt.2.2.2.2.2.2) kd a b), upd mt.2.2.2.2.2.1 (mt.1 + (1 : Int32)).toNatClampNeg (vp_nar .boolean (0 : Int32)), vp_updL mt.2.2.2.2.2.2 (mt.1 + (1 : Int32)).toNatClampNeg (G_X5_reckoned kd (mt.2.2.2.2.2.2 a.toNatClampNeg) (mt.2.2.2.2.2.2 b.toNatClampNeg)))) := Eq.trans (Eq.trans (Eq.trans (Eq.trans (Eq.trans (Eq.trans (Eq.trans (Eq.trans (Eq.trans (Eq.trans (Eq.trans (Eq.trans (Eq.trans rfl (if_neg b1)) (if_pos b4)) (if_neg b8)) (if_neg b10)) (if_neg b22)) (if_neg b47)) (if_neg b72)) (if_neg b99)) (if_neg b126)) (if_pos b151)) (if_pos b178)) (if_neg b184)) (if_neg b186)
                            exact xM_iret hx hb hr hlk  hS (by rw [e9]) (by rw [e9]; exact hP) dX5_node_217
                          ·
                            have k196 := Eq.mp (if_pos b186) k185
                            refine lv_iload_n hx hb dX5_node_191 rfl (lv_at hl 2 rfl) ?_
                            refine lv_i2l hx hb dX5_node_192 rfl ?_
                            refine lv_goto (tgt := 212) hx hb dX5_node_193 (by decide) ?_
                            have o197 := k196.1
                            have k198 := k196.2
                            refine va_last hx hb hK.1 hP (wM_D hA) hS 11 3 rfl rfl o197 dX5_node_212 (fun H locs hP _ hS => ?_)
                            have hP : va_P w.1 vwCl (wM w ((0 : Int32), me.2.1, me.2.2) mb mc (mt.1 + (1 : Int32), upd mt.2.1 (mt.1 + (1 : Int32)).toNatClampNeg kd, upd mt.2.2.1 (mt.1 + (1 : Int32)).toNatClampNeg a, upd mt.2.2.2.1 (mt.1 + (1 : Int32)).toNatClampNeg b, upd mt.2.2.2.2.1 (mt.1 + (1 : Int32)).toNatClampNeg (G_X5_sureOf mc (mt.1 + (1 : Int32), upd mt.2.1 (mt.1 + (1 : Int32)).toNatClampNeg kd, upd mt.2.2.1 (mt.1 + (1 : Int32)).toNatClampNeg a, upd mt.2.2.2.1 (mt.1 + (1 : Int32)).toNatClampNeg b, mt.2.2.2.2.1, mt.2.2.2.2.2.1, mt.2.2.2.2.2.2) kd a b), upd mt.2.2.2.2.2.1 (mt.1 + (1 : Int32)).toNatClampNeg (vp_nar .boolean (0 : Int32)), vp_updL mt.2.2.2.2.2.2 (mt.1 + (1 : Int32)).toNatClampNeg a.toInt64) mk mr mq mv) H := hP
                            refine lv_aload_n hx hb dX5_node_213 rfl (lv_at hl 0 rfl) ?_
                            refine va_get (D := w.1) (ci := 6) (v := .int (mt.1 + (1 : Int32))) (C := RX5) (T := TX5) (N := 33) hx hb hts iw_X5_node_X5 hown hK.1 hP 0 rfl rfl 13 (by decide) (hts _ fl_X5_node_118) (fun _ h9 => h9) rfl dX5_node_214 ?_
                            have e9 : G_X5_node me mc mt kd a b = (mt.1 + (1 : Int32), ((0 : Int32), me.2.1, me.2.2), (mt.1 + (1 : Int32), upd mt.2.1 (mt.1 + (1 : Int32)).toNatClampNeg kd, upd mt.2.2.1 (mt.1 + (1 : Int32)).toNatClampNeg a, upd mt.2.2.2.1 (mt.1 + (1 : Int32)).toNatClampNeg b, upd mt.2.2.2.2.1 (mt.1 + (1 : Int32)).toNatClampNeg (G_X5_sureOf mc (mt.1 + (1 : Int32), upd mt.2.1 (mt.1 + (1 : Int32)).toNatClampNeg kd, upd mt.2.2.1 (mt.1 + (1 : Int32)).toNatClampNeg a, upd mt.2.2.2.1 (mt.1 + (1 : Int32)).toNatClampNeg b, mt.2.2.2.2.1, mt.2.2.2.2.2.1, mt.2.2.2.2.2.2) kd a b), upd mt.2.2.2.2.2.1 (mt.1 + (1 : Int32)).toNatClampNeg (vp_nar .boolean (0 : Int32)), vp_updL mt.2.2.2.2.2.2 (mt.1 + (1 : Int32)).toNatClampNeg a.toInt64)) := Eq.trans (Eq.trans (Eq.trans (Eq.trans (Eq.trans (Eq.trans (Eq.trans (Eq.trans (Eq.trans (Eq.trans (Eq.trans (Eq.trans (Eq.trans rfl (if_neg b1)) (if_pos b4)) (if_neg b8)) (if_neg b10)) (if_neg b22)) (if_neg b47)) (if_neg b72)) (if_neg b99)) (if_neg b126)) (if_pos b151)) (if_pos b178)) (if_neg b184)) (if_pos b186)
                            exact xM_iret hx hb hr hlk  hS (by rw [e9]) (by rw [e9]; exact hP) dX5_node_217
                        ·
                          have k199 := Eq.mp (if_pos b184) k183
                          refine lv_lconst (v := 0) hx hb dX5_node_183 (by decide) ?_
                          refine lv_goto (tgt := 212) hx hb dX5_node_184 (by decide) ?_
                          have o200 := k199.1
                          have k201 := k199.2
                          refine va_last hx hb hK.1 hP (wM_D hA) hS 11 3 rfl rfl o200 dX5_node_212 (fun H locs hP _ hS => ?_)
                          have hP : va_P w.1 vwCl (wM w ((0 : Int32), me.2.1, me.2.2) mb mc (mt.1 + (1 : Int32), upd mt.2.1 (mt.1 + (1 : Int32)).toNatClampNeg kd, upd mt.2.2.1 (mt.1 + (1 : Int32)).toNatClampNeg a, upd mt.2.2.2.1 (mt.1 + (1 : Int32)).toNatClampNeg b, upd mt.2.2.2.2.1 (mt.1 + (1 : Int32)).toNatClampNeg (G_X5_sureOf mc (mt.1 + (1 : Int32), upd mt.2.1 (mt.1 + (1 : Int32)).toNatClampNeg kd, upd mt.2.2.1 (mt.1 + (1 : Int32)).toNatClampNeg a, upd mt.2.2.2.1 (mt.1 + (1 : Int32)).toNatClampNeg b, mt.2.2.2.2.1, mt.2.2.2.2.2.1, mt.2.2.2.2.2.2) kd a b), upd mt.2.2.2.2.2.1 (mt.1 + (1 : Int32)).toNatClampNeg (vp_nar .boolean (0 : Int32)), vp_updL mt.2.2.2.2.2.2 (mt.1 + (1 : Int32)).toNatClampNeg (0 : Int64)) mk mr mq mv) H := hP
                          refine lv_aload_n hx hb dX5_node_213 rfl (lv_at hl 0 rfl) ?_
                          refine va_get (D := w.1) (ci := 6) (v := .int (mt.1 + (1 : Int32))) (C := RX5) (T := TX5) (N := 33) hx hb hts iw_X5_node_X5 hown hK.1 hP 0 rfl rfl 13 (by decide) (hts _ fl_X5_node_118) (fun _ h9 => h9) rfl dX5_node_214 ?_
                          have e9 : G_X5_node me mc mt kd a b = (mt.1 + (1 : Int32), ((0 : Int32), me.2.1, me.2.2), (mt.1 + (1 : Int32), upd mt.2.1 (mt.1 + (1 : Int32)).toNatClampNeg kd, upd mt.2.2.1 (mt.1 + (1 : Int32)).toNatClampNeg a, upd mt.2.2.2.1 (mt.1 + (1 : Int32)).toNatClampNeg b, upd mt.2.2.2.2.1 (mt.1 + (1 : Int32)).toNatClampNeg (G_X5_sureOf mc (mt.1 + (1 : Int32), upd mt.2.1 (mt.1 + (1 : Int32)).toNatClampNeg kd, upd mt.2.2.1 (mt.1 + (1 : Int32)).toNatClampNeg a, upd mt.2.2.2.1 (mt.1 + (1 : Int32)).toNatClampNeg b, mt.2.2.2.2.1, mt.2.2.2.2.2.1, mt.2.2.2.2.2.2) kd a b), upd mt.2.2.2.2.2.1 (mt.1 + (1 : Int32)).toNatClampNeg (vp_nar .boolean (0 : Int32)), vp_updL mt.2.2.2.2.2.2 (mt.1 + (1 : Int32)).toNatClampNeg (0 : Int64))) := Eq.trans (Eq.trans (Eq.trans (Eq.trans (Eq.trans (Eq.trans (Eq.trans (Eq.trans (Eq.trans (Eq.trans (Eq.trans (Eq.trans rfl (if_neg b1)) (if_pos b4)) (if_neg b8)) (if_neg b10)) (if_neg b22)) (if_neg b47)) (if_neg b72)) (if_neg b99)) (if_neg b126)) (if_pos b151)) (if_pos b178)) (if_pos b184)
                          exact xM_iret hx hb hr hlk  hS (by rw [e9]) (by rw [e9]; exact hP) dX5_node_217
                      ·
                        have k202 := Eq.mp (if_neg b178) k177
                        refine lv_iconst (v := 1) hx hb dX5_node_157 (by decide) ?_
                        refine lv_goto (tgt := 162) hx hb dX5_node_158 (by decide) ?_
                        have o203 := k202.1
                        have k204 := k202.2
                        refine va_zast hx hb hK.1 hP (wM_D hA) hS 10 2 rfl rfl o203 dX5_node_162 (fun H locs hP _ hS => ?_)
                        have hP : va_P w.1 vwCl (wM w ((0 : Int32), me.2.1, me.2.2) mb mc (mt.1 + (1 : Int32), upd mt.2.1 (mt.1 + (1 : Int32)).toNatClampNeg kd, upd mt.2.2.1 (mt.1 + (1 : Int32)).toNatClampNeg a, upd mt.2.2.2.1 (mt.1 + (1 : Int32)).toNatClampNeg b, upd mt.2.2.2.2.1 (mt.1 + (1 : Int32)).toNatClampNeg (G_X5_sureOf mc (mt.1 + (1 : Int32), upd mt.2.1 (mt.1 + (1 : Int32)).toNatClampNeg kd, upd mt.2.2.1 (mt.1 + (1 : Int32)).toNatClampNeg a, upd mt.2.2.2.1 (mt.1 + (1 : Int32)).toNatClampNeg b, mt.2.2.2.2.1, mt.2.2.2.2.2.1, mt.2.2.2.2.2.2) kd a b), upd mt.2.2.2.2.2.1 (mt.1 + (1 : Int32)).toNatClampNeg (vp_nar .boolean (1 : Int32)), mt.2.2.2.2.2.2) mk mr mq mv) H := hP
                        refine lv_aload_n hx hb dX5_node_163 rfl (lv_at hl 0 rfl) ?_
                        refine va_get (D := w.1) (ci := 6) (v := .ref (w.2.2 11)) (C := RX5) (T := TX5) (N := 33) hx hb hts iw_X5_node_X5 hown hK.1 hP 0 rfl rfl 12 (by decide) (hts _ fl_X5_node_42) (fun _ h9 => h9) rfl dX5_node_164 ?_
                        refine lv_aload_n hx hb dX5_node_167 rfl (lv_at hl 0 rfl) ?_
                        refine va_get (D := w.1) (ci := 6) (v := .int (mt.1 + (1 : Int32))) (C := RX5) (T := TX5) (N := 33) hx hb hts iw_X5_node_X5 hown hK.1 hP 0 rfl rfl 13 (by decide) (hts _ fl_X5_node_118) (fun _ h9 => h9) rfl dX5_node_168 ?_
                        refine lv_aload_n hx hb dX5_node_171 rfl (lv_at hl 0 rfl) ?_
                        refine va_get (D := w.1) (ci := 6) (v := .ref (w.2.2 10)) (C := RX5) (T := TX5) (N := 33) hx hb hts iw_X5_node_X5 hown hK.1 hP 0 rfl rfl 11 (by decide) (hts _ fl_X5_node_38) (fun _ h9 => h9) rfl dX5_node_172 ?_
                        refine lv_aload_n hx hb dX5_node_175 rfl (lv_at hl 0 rfl) ?_
                        refine va_get (D := w.1) (ci := 6) (v := .int (mt.1 + (1 : Int32))) (C := RX5) (T := TX5) (N := 33) hx hb hts iw_X5_node_X5 hown hK.1 hP 0 rfl rfl 13 (by decide) (hts _ fl_X5_node_118) (fun _ h9 => h9) rfl dX5_node_176 ?_
                        have o205 := k204.1
                        have k206 := k204.2
                        refine va_zald hx hb hK.1 hP 10 2 rfl rfl o205 dX5_node_179 ?_
                        refine lv_if_ne (tgt := 187) hx hb dX5_node_180 (by decide) (fun b207 => ?_) (fun b207 => ?_)
                        ·
                          have k208 := Eq.mp (if_neg b207) k206
                          refine lv_iload_n hx hb dX5_node_187 rfl (lv_at hl 1 rfl) ?_
                          refine lv_if_ne (tgt := 196) hx hb dX5_node_188 (by decide) (fun b209 => ?_) (fun b209 => ?_)
                          ·
                            have k210 := Eq.mp (if_neg b209) k208
                            refine lv_iload_n hx hb dX5_node_196 rfl (lv_at hl 1 rfl) ?_
                            refine lv_aload_n hx hb dX5_node_197 rfl (lv_at hl 0 rfl) ?_
                            refine va_get (D := w.1) (ci := 6) (v := .ref (w.2.2 11)) (C := RX5) (T := TX5) (N := 33) hx hb hts iw_X5_node_X5 hown hK.1 hP 0 rfl rfl 12 (by decide) (hts _ fl_X5_node_42) (fun _ h9 => h9) rfl dX5_node_198 ?_
                            refine lv_iload_n hx hb dX5_node_201 rfl (lv_at hl 2 rfl) ?_
                            have o211 := k210.1
                            have k212 := k210.2
                            refine va_lald hx hb hK.1 hP 11 3 rfl rfl o211 dX5_node_202 ?_
                            refine lv_aload_n hx hb dX5_node_203 rfl (lv_at hl 0 rfl) ?_
                            refine va_get (D := w.1) (ci := 6) (v := .ref (w.2.2 11)) (C := RX5) (T := TX5) (N := 33) hx hb hts iw_X5_node_X5 hown hK.1 hP 0 rfl rfl 12 (by decide) (hts _ fl_X5_node_42) (fun _ h9 => h9) rfl dX5_node_204 ?_
                            refine lv_iload_n hx hb dX5_node_207 rfl (lv_at hl 3 rfl) ?_
                            have o213 := k212.1
                            have k214 := k212.2
                            refine va_lald hx hb hK.1 hP 11 3 rfl rfl o213 dX5_node_208 ?_
                            have o215 := k214.1
                            have k216 := k214.2
                            refine xR_l (va_runS (As := [.int kd, .long (mt.2.2.2.2.2.2 a.toNatClampNeg), .long (mt.2.2.2.2.2.2 b.toNatClampNeg)]) (rest := [.int (mt.1 + (1 : Int32)), .ref (w.2.2 11)]) ⟨hx, hb, hml, hown, hts⟩ (c_X5_reckoned l w ((0 : Int32), me.2.1, me.2.2) mb mc (mt.1 + (1 : Int32), upd mt.2.1 (mt.1 + (1 : Int32)).toNatClampNeg kd, upd mt.2.2.1 (mt.1 + (1 : Int32)).toNatClampNeg a, upd mt.2.2.2.1 (mt.1 + (1 : Int32)).toNatClampNeg b, upd mt.2.2.2.2.1 (mt.1 + (1 : Int32)).toNatClampNeg (G_X5_sureOf mc (mt.1 + (1 : Int32), upd mt.2.1 (mt.1 + (1 : Int32)).toNatClampNeg kd, upd mt.2.2.1 (mt.1 + (1 : Int32)).toNatClampNeg a, upd mt.2.2.2.1 (mt.1 + (1 : Int32)).toNatClampNeg b, mt.2.2.2.2.1, mt.2.2.2.2.2.1, mt.2.2.2.2.2.2) kd a b), upd mt.2.2.2.2.2.1 (mt.1 + (1 : Int32)).toNatClampNeg (vp_nar .boolean (1 : Int32)), mt.2.2.2.2.2.2) mk mr mq mv kd (mt.2.2.2.2.2.2 a.toNatClampNeg) (mt.2.2.2.2.2.2 b.toNatClampNeg) o215) (va_cwS 3 hts gX5_node_X5_reckoned rfl rfl rfl ds_X5_reckoned ⟨Nat.le_of_ble_eq_true rfl, Nat.le_of_ble_eq_true rfl⟩) (wPre hP hK) rfl rfl hl.1 rfl (lv_room (Nat.le_of_ble_eq_true rfl)) dX5_node_209 ⟨Nat.zero_le _, Nat.zero_le _⟩) ?_
                            have o217 := k216.1
                            have k218 := k216.2
                            refine va_last hx hb hK.1 hP (wM_D hA) hS 11 3 rfl rfl o217 dX5_node_212 (fun H locs hP _ hS => ?_)
                            have hP : va_P w.1 vwCl (wM w ((0 : Int32), me.2.1, me.2.2) mb mc (mt.1 + (1 : Int32), upd mt.2.1 (mt.1 + (1 : Int32)).toNatClampNeg kd, upd mt.2.2.1 (mt.1 + (1 : Int32)).toNatClampNeg a, upd mt.2.2.2.1 (mt.1 + (1 : Int32)).toNatClampNeg b, upd mt.2.2.2.2.1 (mt.1 + (1 : Int32)).toNatClampNeg (G_X5_sureOf mc (mt.1 + (1 : Int32), upd mt.2.1 (mt.1 + (1 : Int32)).toNatClampNeg kd, upd mt.2.2.1 (mt.1 + (1 : Int32)).toNatClampNeg a, upd mt.2.2.2.1 (mt.1 + (1 : Int32)).toNatClampNeg b, mt.2.2.2.2.1, mt.2.2.2.2.2.1, mt.2.2.2.2.2.2) kd a b), upd mt.2.2.2.2.2.1 (mt.1 + (1 : Int32)).toNatClampNeg (vp_nar .boolean (1 : Int32)), vp_updL mt.2.2.2.2.2.2 (mt.1 + (1 : Int32)).toNatClampNeg (G_X5_reckoned kd (mt.2.2.2.2.2.2 a.toNatClampNeg) (mt.2.2.2.2.2.2 b.toNatClampNeg))) mk mr mq mv) H := hP
                            refine lv_aload_n hx hb dX5_node_213 rfl (lv_at hl 0 rfl) ?_
                            refine va_get (D := w.1) (ci := 6) (v := .int (mt.1 + (1 : Int32))) (C := RX5) (T := TX5) (N := 33) hx hb hts iw_X5_node_X5 hown hK.1 hP 0 rfl rfl 13 (by decide) (hts _ fl_X5_node_118) (fun _ h9 => h9) rfl dX5_node_214 ?_
                            have e9 : G_X5_node me mc mt kd a b = (mt.1 + (1 : Int32), ((0 : Int32), me.2.1, me.2.2), (mt.1 + (1 : Int32), upd mt.2.1 (mt.1 + (1 : Int32)).toNatClampNeg kd, upd mt.2.2.1 (mt.1 + (1 : Int32)).toNatClampNeg a, upd mt.2.2.2.1 (mt.1 + (1 : Int32)).toNatClampNeg b, upd mt.2.2.2.2.1 (mt.1 + (1 : Int32)).toNatClampNeg (G_X5_sureOf mc (mt.1 + (1 : Int32), upd mt.2.1 (mt.1 + (1 : Int32)).toNatClampNeg kd, upd mt.2.2.1 (mt.1 + (1 : Int32)).toNatClampNeg a, upd mt.2.2.2.1 (mt.1 + (1 : Int32)).toNatClampNeg b, mt.2.2.2.2.1, mt.2.2.2.2.2.1, mt.2.2.2.2.2.2) kd a b), upd mt.2.2.2.2.2.1 (mt.1 + (1 : Int32)).toNatClampNeg (vp_nar .boolean (1 : Int32)), vp_updL mt.2.2.2.2.2.2 (mt.1 + (1 : Int32)).toNatClampNeg (G_X5_reckoned kd (mt.2.2.2.2.2.2 a.toNatClampNeg) (mt.2.2.2.2.2.2 b.toNatClampNeg)))) := Eq.trans (Eq.trans (Eq.trans (Eq.trans (Eq.trans (Eq.trans (Eq.trans (Eq.trans (Eq.trans (Eq.trans (Eq.trans (Eq.trans (Eq.trans rfl (if_neg b1)) (if_pos b4)) (if_neg b8)) (if_neg b10)) (if_neg b22)) (if_neg b47)) (if_neg b72)) (if_neg b99)) (if_neg b126)) (if_pos b151)) (if_neg b178)) (if_neg b207)) (if_neg b209)
                            exact xM_iret hx hb hr hlk  hS (by rw [e9]) (by rw [e9]; exact hP) dX5_node_217
                          ·
                            have k219 := Eq.mp (if_pos b209) k208
                            refine lv_iload_n hx hb dX5_node_191 rfl (lv_at hl 2 rfl) ?_
                            refine lv_i2l hx hb dX5_node_192 rfl ?_
                            refine lv_goto (tgt := 212) hx hb dX5_node_193 (by decide) ?_
                            have o220 := k219.1
                            have k221 := k219.2
                            refine va_last hx hb hK.1 hP (wM_D hA) hS 11 3 rfl rfl o220 dX5_node_212 (fun H locs hP _ hS => ?_)
                            have hP : va_P w.1 vwCl (wM w ((0 : Int32), me.2.1, me.2.2) mb mc (mt.1 + (1 : Int32), upd mt.2.1 (mt.1 + (1 : Int32)).toNatClampNeg kd, upd mt.2.2.1 (mt.1 + (1 : Int32)).toNatClampNeg a, upd mt.2.2.2.1 (mt.1 + (1 : Int32)).toNatClampNeg b, upd mt.2.2.2.2.1 (mt.1 + (1 : Int32)).toNatClampNeg (G_X5_sureOf mc (mt.1 + (1 : Int32), upd mt.2.1 (mt.1 + (1 : Int32)).toNatClampNeg kd, upd mt.2.2.1 (mt.1 + (1 : Int32)).toNatClampNeg a, upd mt.2.2.2.1 (mt.1 + (1 : Int32)).toNatClampNeg b, mt.2.2.2.2.1, mt.2.2.2.2.2.1, mt.2.2.2.2.2.2) kd a b), upd mt.2.2.2.2.2.1 (mt.1 + (1 : Int32)).toNatClampNeg (vp_nar .boolean (1 : Int32)), vp_updL mt.2.2.2.2.2.2 (mt.1 + (1 : Int32)).toNatClampNeg a.toInt64) mk mr mq mv) H := hP
                            refine lv_aload_n hx hb dX5_node_213 rfl (lv_at hl 0 rfl) ?_
                            refine va_get (D := w.1) (ci := 6) (v := .int (mt.1 + (1 : Int32))) (C := RX5) (T := TX5) (N := 33) hx hb hts iw_X5_node_X5 hown hK.1 hP 0 rfl rfl 13 (by decide) (hts _ fl_X5_node_118) (fun _ h9 => h9) rfl dX5_node_214 ?_
                            have e9 : G_X5_node me mc mt kd a b = (mt.1 + (1 : Int32), ((0 : Int32), me.2.1, me.2.2), (mt.1 + (1 : Int32), upd mt.2.1 (mt.1 + (1 : Int32)).toNatClampNeg kd, upd mt.2.2.1 (mt.1 + (1 : Int32)).toNatClampNeg a, upd mt.2.2.2.1 (mt.1 + (1 : Int32)).toNatClampNeg b, upd mt.2.2.2.2.1 (mt.1 + (1 : Int32)).toNatClampNeg (G_X5_sureOf mc (mt.1 + (1 : Int32), upd mt.2.1 (mt.1 + (1 : Int32)).toNatClampNeg kd, upd mt.2.2.1 (mt.1 + (1 : Int32)).toNatClampNeg a, upd mt.2.2.2.1 (mt.1 + (1 : Int32)).toNatClampNeg b, mt.2.2.2.2.1, mt.2.2.2.2.2.1, mt.2.2.2.2.2.2) kd a b), upd mt.2.2.2.2.2.1 (mt.1 + (1 : Int32)).toNatClampNeg (vp_nar .boolean (1 : Int32)), vp_updL mt.2.2.2.2.2.2 (mt.1 + (1 : Int32)).toNatClampNeg a.toInt64)) := Eq.trans (Eq.trans (Eq.trans (Eq.trans (Eq.trans (Eq.trans (Eq.trans (Eq.trans (Eq.trans (Eq.trans (Eq.trans (Eq.trans (Eq.trans rfl (if_neg b1)) (if_pos b4)) (if_neg b8)) (if_neg b10)) (if_neg b22)) (if_neg b47)) (if_neg b72)) (if_neg b99)) (if_neg b126)) (if_pos b151)) (if_neg b178)) (if_neg b207)) (if_pos b209)
                            exact xM_iret hx hb hr hlk  hS (by rw [e9]) (by rw [e9]; exact hP) dX5_node_217
                        ·
                          have k222 := Eq.mp (if_pos b207) k206
                          refine lv_lconst (v := 0) hx hb dX5_node_183 (by decide) ?_
                          refine lv_goto (tgt := 212) hx hb dX5_node_184 (by decide) ?_
                          have o223 := k222.1
                          have k224 := k222.2
                          refine va_last hx hb hK.1 hP (wM_D hA) hS 11 3 rfl rfl o223 dX5_node_212 (fun H locs hP _ hS => ?_)
                          have hP : va_P w.1 vwCl (wM w ((0 : Int32), me.2.1, me.2.2) mb mc (mt.1 + (1 : Int32), upd mt.2.1 (mt.1 + (1 : Int32)).toNatClampNeg kd, upd mt.2.2.1 (mt.1 + (1 : Int32)).toNatClampNeg a, upd mt.2.2.2.1 (mt.1 + (1 : Int32)).toNatClampNeg b, upd mt.2.2.2.2.1 (mt.1 + (1 : Int32)).toNatClampNeg (G_X5_sureOf mc (mt.1 + (1 : Int32), upd mt.2.1 (mt.1 + (1 : Int32)).toNatClampNeg kd, upd mt.2.2.1 (mt.1 + (1 : Int32)).toNatClampNeg a, upd mt.2.2.2.1 (mt.1 + (1 : Int32)).toNatClampNeg b, mt.2.2.2.2.1, mt.2.2.2.2.2.1, mt.2.2.2.2.2.2) kd a b), upd mt.2.2.2.2.2.1 (mt.1 + (1 : Int32)).toNatClampNeg (vp_nar .boolean (1 : Int32)), vp_updL mt.2.2.2.2.2.2 (mt.1 + (1 : Int32)).toNatClampNeg (0 : Int64)) mk mr mq mv) H := hP
                          refine lv_aload_n hx hb dX5_node_213 rfl (lv_at hl 0 rfl) ?_
                          refine va_get (D := w.1) (ci := 6) (v := .int (mt.1 + (1 : Int32))) (C := RX5) (T := TX5) (N := 33) hx hb hts iw_X5_node_X5 hown hK.1 hP 0 rfl rfl 13 (by decide) (hts _ fl_X5_node_118) (fun _ h9 => h9) rfl dX5_node_214 ?_
                          have e9 : G_X5_node me mc mt kd a b = (mt.1 + (1 : Int32), ((0 : Int32), me.2.1, me.2.2), (mt.1 + (1 : Int32), upd mt.2.1 (mt.1 + (1 : Int32)).toNatClampNeg kd, upd mt.2.2.1 (mt.1 + (1 : Int32)).toNatClampNeg a, upd mt.2.2.2.1 (mt.1 + (1 : Int32)).toNatClampNeg b, upd mt.2.2.2.2.1 (mt.1 + (1 : Int32)).toNatClampNeg (G_X5_sureOf mc (mt.1 + (1 : Int32), upd mt.2.1 (mt.1 + (1 : Int32)).toNatClampNeg kd, upd mt.2.2.1 (mt.1 + (1 : Int32)).toNatClampNeg a, upd mt.2.2.2.1 (mt.1 + (1 : Int32)).toNatClampNeg b, mt.2.2.2.2.1, mt.2.2.2.2.2.1, mt.2.2.2.2.2.2) kd a b), upd mt.2.2.2.2.2.1 (mt.1 + (1 : Int32)).toNatClampNeg (vp_nar .boolean (1 : Int32)), vp_updL mt.2.2.2.2.2.2 (mt.1 + (1 : Int32)).toNatClampNeg (0 : Int64))) := Eq.trans (Eq.trans (Eq.trans (Eq.trans (Eq.trans (Eq.trans (Eq.trans (Eq.trans (Eq.trans (Eq.trans (Eq.trans (Eq.trans rfl (if_neg b1)) (if_pos b4)) (if_neg b8)) (if_neg b10)) (if_neg b22)) (if_neg b47)) (if_neg b72)) (if_neg b99)) (if_neg b126)) (if_pos b151)) (if_neg b178)) (if_pos b207)
                          exact xM_iret hx hb hr hlk  hS (by rw [e9]) (by rw [e9]; exact hP) dX5_node_217
        ·
          have k225 := Eq.mp (if_pos b10) k9
          refine lv_iconst (v := -1) hx hb dX5_node_41 (by decide) ?_
          have e9 : G_X5_node me mc mt kd a b = ((-1 : Int32), ((0 : Int32), me.2.1, me.2.2), mt) := Eq.trans (Eq.trans (Eq.trans (Eq.trans rfl (if_neg b1)) (if_pos b4)) (if_neg b8)) (if_pos b10)
          exact xM_iret hx hb hr hlk  hS (by rw [e9]) (by rw [e9]; exact hP) dX5_node_42
      ·
        have k226 := Eq.mp (if_pos b8) k7
        refine lv_bipush (v := -2) hx hb dX5_node_28 (by decide) ?_
        have e9 : G_X5_node me mc mt kd a b = ((-2 : Int32), ((0 : Int32), me.2.1, me.2.2), mt) := Eq.trans (Eq.trans (Eq.trans rfl (if_neg b1)) (if_pos b4)) (if_pos b8)
        exact xM_iret hx hb hr hlk  hS (by rw [e9]) (by rw [e9]; exact hP) dX5_node_30
    ·
      have k227 := Eq.mp (if_neg b4) k3
      refine lv_bipush (v := -4) hx hb dX5_node_15 (by decide) ?_
      have e9 : G_X5_node me mc mt kd a b = ((-4 : Int32), ((0 : Int32), me.2.1, me.2.2), mt) := Eq.trans (Eq.trans rfl (if_neg b1)) (if_neg b4)
      exact xM_iret hx hb hr hlk  hS (by rw [e9]) (by rw [e9]; exact hP) dX5_node_17
