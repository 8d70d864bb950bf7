set_option maxRecDepth 20000 in
theorem iw_X3_areSides_X3 : ∀ w ∈ wsX30, w ∈ wsX3_areSides := by decide +kernel
set_option maxRecDepth 20000 in
theorem fl_X3_areSides_35 : Cond.fieldLink RX3 35 "ProcedureCode$Tree" "cells" "LProcedureCode$Cells;" ∈ wsX3_areSides := by decide +kernel
set_option maxRecDepth 20000 in
theorem dv_X3_isValue : yX3_isValue.cls = RX3 ∧ yX3_isValue.cls ≠ "java/lang/invoke/MethodHandle" ∧ yX3_isValue.cls ≠ "java/lang/invoke/VarHandle" ∧ (parseMethodDescriptor yX3_isValue.desc).map (fun d => d.parameters.length) = some 1 := by decide +kernel
set_option maxRecDepth 20000 in
theorem dv_X3_kindOf : yX3_kindOf.cls = RX3 ∧ yX3_kindOf.cls ≠ "java/lang/invoke/MethodHandle" ∧ yX3_kindOf.cls ≠ "java/lang/invoke/VarHandle" ∧ (parseMethodDescriptor yX3_kindOf.desc).map (fun d => d.parameters.length) = some 1 := by decide +kernel
set_option maxRecDepth 20000 in
theorem dv_X3_firstOf : yX3_firstOf.cls = RX3 ∧ yX3_firstOf.cls ≠ "java/lang/invoke/MethodHandle" ∧ yX3_firstOf.cls ≠ "java/lang/invoke/VarHandle" ∧ (parseMethodDescriptor yX3_firstOf.desc).map (fun d => d.parameters.length) = some 1 := by decide +kernel
set_option maxRecDepth 20000 in
theorem dv_X3_secondOf : yX3_secondOf.cls = RX3 ∧ yX3_secondOf.cls ≠ "java/lang/invoke/MethodHandle" ∧ yX3_secondOf.cls ≠ "java/lang/invoke/VarHandle" ∧ (parseMethodDescriptor yX3_secondOf.desc).map (fun d => d.parameters.length) = some 1 := by decide +kernel
def G_X3_areSides (c : CS) (t : TS) (kd : Int32) (a : Int32) (b : Int32) : Int32 := if kd = (0 : Int32) then ((1 : Int32)) else (if kd = (1 : Int32) then (G_X0_has c a) else (if kd = (2 : Int32) then (if (G_X0_has c a) = 0 then ((0 : Int32)) else (if (G_X3_isValue t b) = 0 then ((0 : Int32)) else ((1 : Int32)))) else (if kd = (9 : Int32) then (if (G_X0_has c a) = 0 then ((0 : Int32)) else (if (G_X3_isValue t b) = 0 then ((0 : Int32)) else ((1 : Int32)))) else (if kd = (10 : Int32) then (if (G_X0_has c a) = 0 then ((0 : Int32)) else (if (G_X3_kindOf t b) = (11 : Int32) then (if (G_X3_isValue t (G_X3_firstOf t b)) = 0 then ((0 : Int32)) else (if (G_X3_isValue t (G_X3_secondOf t b)) = 0 then ((0 : Int32)) else ((1 : Int32)))) else ((0 : Int32)))) else (if kd = (11 : Int32) then (if (G_X3_has t a) = 0 then ((0 : Int32)) else (if (G_X3_has t b) = 0 then ((0 : Int32)) else ((1 : Int32)))) else (if kd = (12 : Int32) then (if (G_X3_isValue t a) = 0 then ((0 : Int32)) else (if (G_X3_has t b) = 0 then ((0 : Int32)) else ((1 : Int32)))) else (if kd = (13 : Int32) then (if (G_X3_isValue t a) = 0 then ((0 : Int32)) else (if (G_X3_has t b) = 0 then ((0 : Int32)) else ((1 : Int32)))) else (if (G_X3_isValue t a) = 0 then ((0 : Int32)) else (if (G_X3_isValue t b) = 0 then ((0 : Int32)) else ((1 : Int32)))))))))))
set_option maxHeartbeats 4000000 in
set_option maxRecDepth 100000 in
theorem c_X3_areSides (l : Launch) (w : WG) (c : CS) (t : TS) (r : RS) (s : Nat → SS) (kd : Int32) (a : Int32) (b : Int32) (ht : okT t) : Met l yX3_areSides wsX3_areSides { frames := 2, cells := 0, slots := 0, locals := 42 } (va_Pc [.ref (w.2.2 5), .int kd, .int a, .int b] (wPK w (wC w c t r s))) (xR (some (.int (G_X3_areSides c t kd a b)))) 0 0 xNo := by
  refine xOf (cc := cX3_areSides) (maxL := 4) (ret := (some .boolean)) (lv := [(0, .ref (w.2.2 5)), (1, .int kd), (2, .int a), (3, .int b)]) (by decide) rfl (Nat.le_of_ble_eq_true rfl) rfl ?_
  intro pP eE S mM below meth C hx hb hr hml hts hown hlk hnm hw ls hl
  obtain ⟨hP, hK⟩ := hw
  refine lv_iload_n hx hb dX3_areSides_0 rfl (lv_at hl 1 rfl) ?_
  by_cases b1 : kd = (0 : Int32)
  ·
    refine xTabK (tgt := 72) (z := 0) hx hb dX3_areSides_1 (by rw [b1]; decide) (by decide +kernel) ?_
    refine lv_iconst (v := 1) hx hb dX3_areSides_72 (by decide) ?_
    exact xR_zret hx hb hr hlk rfl (Eq.trans rfl (if_pos b1)) dX3_areSides_73
  by_cases b2 : kd = (1 : Int32)
  ·
    refine xTabK (tgt := 74) (z := 1) hx hb dX3_areSides_1 (by rw [b2]; decide) (by decide +kernel) ?_
    refine lv_aload_n hx hb dX3_areSides_74 rfl (lv_at hl 0 rfl) ?_
    refine va_get (D := w.1) (ci := 4) (v := .ref (w.2.2 1)) (C := RX3) (T := TX3) (N := 9) hx hb hts iw_X3_areSides_X3 hown hK.1 hP 5 rfl rfl 0 (by decide) (hts _ fl_X3_areSides_35) (fun _ h9 => h9) rfl dX3_areSides_75 ?_
    refine lv_iload_n hx hb dX3_areSides_78 rfl (lv_at hl 2 rfl) ?_
    refine xR_i (va_runV (As := [.int a]) (rest := []) ⟨hx, hb, hml, hown, hts⟩ (c_X0_has l w c t r s a ) (cwV 1 hts gX3_areSides_X0_has rfl rfl rfl dv_X0_has ⟨Nat.le_of_ble_eq_true rfl, Nat.le_of_ble_eq_true rfl⟩) (wPreV hP hK (ci := 1) (q0 := 1) rfl rfl) rfl rfl hl.1 rfl (lv_room (Nat.le_of_ble_eq_true rfl)) dX3_areSides_79 ⟨Nat.zero_le _, Nat.zero_le _⟩) ?_
    exact xR_zret hx hb hr hlk (narZ (G_X0_has_01 c a)) (Eq.trans (Eq.trans rfl (if_neg b1)) (if_pos b2)) dX3_areSides_82
  by_cases b3 : kd = (2 : Int32)
  ·
    refine xTabK (tgt := 83) (z := 2) hx hb dX3_areSides_1 (by rw [b3]; decide) (by decide +kernel) ?_
    refine lv_aload_n hx hb dX3_areSides_83 rfl (lv_at hl 0 rfl) ?_
    refine va_get (D := w.1) (ci := 4) (v := .ref (w.2.2 1)) (C := RX3) (T := TX3) (N := 9) hx hb hts iw_X3_areSides_X3 hown hK.1 hP 5 rfl rfl 0 (by decide) (hts _ fl_X3_areSides_35) (fun _ h9 => h9) rfl dX3_areSides_84 ?_
    refine lv_iload_n hx hb dX3_areSides_87 rfl (lv_at hl 2 rfl) ?_
    refine xR_i (va_runV (As := [.int a]) (rest := []) ⟨hx, hb, hml, hown, hts⟩ (c_X0_has l w c t r s a ) (cwV 1 hts gX3_areSides_X0_has rfl rfl rfl dv_X0_has ⟨Nat.le_of_ble_eq_true rfl, Nat.le_of_ble_eq_true rfl⟩) (wPreV hP hK (ci := 1) (q0 := 1) rfl rfl) rfl rfl hl.1 rfl (lv_room (Nat.le_of_ble_eq_true rfl)) dX3_areSides_88 ⟨Nat.zero_le _, Nat.zero_le _⟩) ?_
    refine lv_if_eq (tgt := 106) hx hb dX3_areSides_91 (by decide) (fun b4 => ?_) (fun b4 => ?_)
    ·
      refine lv_iconst (v := 0) hx hb dX3_areSides_106 (by decide) ?_
      exact xR_zret hx hb hr hlk rfl (Eq.trans (Eq.trans (Eq.trans (Eq.trans rfl (if_neg b1)) (if_neg b2)) (if_pos b3)) (if_pos b4)) dX3_areSides_107
    ·
      refine lv_aload_n hx hb dX3_areSides_94 rfl (lv_at hl 0 rfl) ?_
      refine lv_iload_n hx hb dX3_areSides_95 rfl (lv_at hl 3 rfl) ?_
      refine xR_i (va_runV (As := [.int b]) (rest := []) ⟨hx, hb, hml, hown, hts⟩ (c_X3_isValue l w c t r s b ht) (cwV 1 hts gX3_areSides_X3_isValue rfl rfl rfl dv_X3_isValue ⟨Nat.le_of_ble_eq_true rfl, Nat.le_of_ble_eq_true rfl⟩) (wPreV hP hK (ci := 4) (q0 := 5) rfl rfl) rfl rfl hl.1 rfl (lv_room (Nat.le_of_ble_eq_true rfl)) dX3_areSides_96 ⟨Nat.zero_le _, Nat.zero_le _⟩) ?_
      refine lv_if_eq (tgt := 106) hx hb dX3_areSides_99 (by decide) (fun b5 => ?_) (fun b5 => ?_)
      ·
        refine lv_iconst (v := 0) hx hb dX3_areSides_106 (by decide) ?_
        exact xR_zret hx hb hr hlk rfl (Eq.trans (Eq.trans (Eq.trans (Eq.trans (Eq.trans rfl (if_neg b1)) (if_neg b2)) (if_pos b3)) (if_neg b4)) (if_pos b5)) dX3_areSides_107
      ·
        refine lv_iconst (v := 1) hx hb dX3_areSides_102 (by decide) ?_
        refine lv_goto (tgt := 107) hx hb dX3_areSides_103 (by decide) ?_
        exact xR_zret hx hb hr hlk rfl (Eq.trans (Eq.trans (Eq.trans (Eq.trans (Eq.trans rfl (if_neg b1)) (if_neg b2)) (if_pos b3)) (if_neg b4)) (if_neg b5)) dX3_areSides_107
  by_cases b6 : kd = (9 : Int32)
  ·
    refine xTabK (tgt := 83) (z := 9) hx hb dX3_areSides_1 (by rw [b6]; decide) (by decide +kernel) ?_
    refine lv_aload_n hx hb dX3_areSides_83 rfl (lv_at hl 0 rfl) ?_
    refine va_get (D := w.1) (ci := 4) (v := .ref (w.2.2 1)) (C := RX3) (T := TX3) (N := 9) hx hb hts iw_X3_areSides_X3 hown hK.1 hP 5 rfl rfl 0 (by decide) (hts _ fl_X3_areSides_35) (fun _ h9 => h9) rfl dX3_areSides_84 ?_
    refine lv_iload_n hx hb dX3_areSides_87 rfl (lv_at hl 2 rfl) ?_
    refine xR_i (va_runV (As := [.int a]) (rest := []) ⟨hx, hb, hml, hown, hts⟩ (c_X0_has l w c t r s a ) (cwV 1 hts gX3_areSides_X0_has rfl rfl rfl dv_X0_has ⟨Nat.le_of_ble_eq_true rfl, Nat.le_of_ble_eq_true rfl⟩) (wPreV hP hK (ci := 1) (q0 := 1) rfl rfl) rfl rfl hl.1 rfl (lv_room (Nat.le_of_ble_eq_true rfl)) dX3_areSides_88 ⟨Nat.zero_le _, Nat.zero_le _⟩) ?_
    refine lv_if_eq (tgt := 106) hx hb dX3_areSides_91 (by decide) (fun b7 => ?_) (fun b7 => ?_)
    ·
      refine lv_iconst (v := 0) hx hb dX3_areSides_106 (by decide) ?_
      exact xR_zret hx hb hr hlk rfl (Eq.trans (Eq.trans (Eq.trans (Eq.trans (Eq.trans rfl (if_neg b1)) (if_neg b2)) (if_neg b3)) (if_pos b6)) (if_pos b7)) dX3_areSides_107
    ·
      refine lv_aload_n hx hb dX3_areSides_94 rfl (lv_at hl 0 rfl) ?_
      refine lv_iload_n hx hb dX3_areSides_95 rfl (lv_at hl 3 rfl) ?_
      refine xR_i (va_runV (As := [.int b]) (rest := []) ⟨hx, hb, hml, hown, hts⟩ (c_X3_isValue l w c t r s b ht) (cwV 1 hts gX3_areSides_X3_isValue rfl rfl rfl dv_X3_isValue ⟨Nat.le_of_ble_eq_true rfl, Nat.le_of_ble_eq_true rfl⟩) (wPreV hP hK (ci := 4) (q0 := 5) rfl rfl) rfl rfl hl.1 rfl (lv_room (Nat.le_of_ble_eq_true rfl)) dX3_areSides_96 ⟨Nat.zero_le _, Nat.zero_le _⟩) ?_
      refine lv_if_eq (tgt := 106) hx hb dX3_areSides_99 (by decide) (fun b8 => ?_) (fun b8 => ?_)
      ·
        refine lv_iconst (v := 0) hx hb dX3_areSides_106 (by decide) ?_
        exact xR_zret hx hb hr hlk rfl (Eq.trans (Eq.trans (Eq.trans (Eq.trans (Eq.trans (Eq.trans rfl (if_neg b1)) (if_neg b2)) (if_neg b3)) (if_pos b6)) (if_neg b7)) (if_pos b8)) dX3_areSides_107
      ·
        refine lv_iconst (v := 1) hx hb dX3_areSides_102 (by decide) ?_
        refine lv_goto (tgt := 107) hx hb dX3_areSides_103 (by decide) ?_
        exact xR_zret hx hb hr hlk rfl (Eq.trans (Eq.trans (Eq.trans (Eq.trans (Eq.trans (Eq.trans rfl (if_neg b1)) (if_neg b2)) (if_neg b3)) (if_pos b6)) (if_neg b7)) (if_neg b8)) dX3_areSides_107
  by_cases b9 : kd = (10 : Int32)
  ·
    refine xTabK (tgt := 108) (z := 10) hx hb dX3_areSides_1 (by rw [b9]; decide) (by decide +kernel) ?_
    refine lv_aload_n hx hb dX3_areSides_108 rfl (lv_at hl 0 rfl) ?_
    refine va_get (D := w.1) (ci := 4) (v := .ref (w.2.2 1)) (C := RX3) (T := TX3) (N := 9) hx hb hts iw_X3_areSides_X3 hown hK.1 hP 5 rfl rfl 0 (by decide) (hts _ fl_X3_areSides_35) (fun _ h9 => h9) rfl dX3_areSides_109 ?_
    refine lv_iload_n hx hb dX3_areSides_112 rfl (lv_at hl 2 rfl) ?_
    refine xR_i (va_runV (As := [.int a]) (rest := []) ⟨hx, hb, hml, hown, hts⟩ (c_X0_has l w c t r s a ) (cwV 1 hts gX3_areSides_X0_has rfl rfl rfl dv_X0_has ⟨Nat.le_of_ble_eq_true rfl, Nat.le_of_ble_eq_true rfl⟩) (wPreV hP hK (ci := 1) (q0 := 1) rfl rfl) rfl rfl hl.1 rfl (lv_room (Nat.le_of_ble_eq_true rfl)) dX3_areSides_113 ⟨Nat.zero_le _, Nat.zero_le _⟩) ?_
    refine lv_if_eq (tgt := 157) hx hb dX3_areSides_116 (by decide) (fun b10 => ?_) (fun b10 => ?_)
    ·
      refine lv_iconst (v := 0) hx hb dX3_areSides_157 (by decide) ?_
      exact xR_zret hx hb hr hlk rfl (Eq.trans (Eq.trans (Eq.trans (Eq.trans (Eq.trans (Eq.trans rfl (if_neg b1)) (if_neg b2)) (if_neg b3)) (if_neg b6)) (if_pos b9)) (if_pos b10)) dX3_areSides_158
    ·
      refine lv_aload_n hx hb dX3_areSides_119 rfl (lv_at hl 0 rfl) ?_
      refine lv_iload_n hx hb dX3_areSides_120 rfl (lv_at hl 3 rfl) ?_
      refine xR_i (va_runV (As := [.int b]) (rest := []) ⟨hx, hb, hml, hown, hts⟩ (c_X3_kindOf l w c t r s b ht) (cwV 1 hts gX3_areSides_X3_kindOf rfl rfl rfl dv_X3_kindOf ⟨Nat.le_of_ble_eq_true rfl, Nat.le_of_ble_eq_true rfl⟩) (wPreV hP hK (ci := 4) (q0 := 5) rfl rfl) rfl rfl hl.1 rfl (lv_room (Nat.le_of_ble_eq_true rfl)) dX3_areSides_121 ⟨Nat.zero_le _, Nat.zero_le _⟩) ?_
      refine lv_bipush (v := 11) hx hb dX3_areSides_124 (by decide) ?_
      refine lv_icmp_ne (tgt := 157) hx hb dX3_areSides_126 (by decide) (fun b11 => ?_) (fun b11 => ?_)
      ·
        refine lv_iconst (v := 0) hx hb dX3_areSides_157 (by decide) ?_
        exact xR_zret hx hb hr hlk rfl (Eq.trans (Eq.trans (Eq.trans (Eq.trans (Eq.trans (Eq.trans (Eq.trans rfl (if_neg b1)) (if_neg b2)) (if_neg b3)) (if_neg b6)) (if_pos b9)) (if_neg b10)) (if_neg b11)) dX3_areSides_158
      ·
        refine lv_aload_n hx hb dX3_areSides_129 rfl (lv_at hl 0 rfl) ?_
        refine lv_aload_n hx hb dX3_areSides_130 rfl (lv_at hl 0 rfl) ?_
        refine lv_iload_n hx hb dX3_areSides_131 rfl (lv_at hl 3 rfl) ?_
        refine xR_i (va_runV (As := [.int b]) (rest := [.ref (w.2.2 5)]) ⟨hx, hb, hml, hown, hts⟩ (c_X3_firstOf l w c t r s b ht) (cwV 1 hts gX3_areSides_X3_firstOf rfl rfl rfl dv_X3_firstOf ⟨Nat.le_of_ble_eq_true rfl, Nat.le_of_ble_eq_true rfl⟩) (wPreV hP hK (ci := 4) (q0 := 5) rfl rfl) rfl rfl hl.1 rfl (lv_room (Nat.le_of_ble_eq_true rfl)) dX3_areSides_132 ⟨Nat.zero_le _, Nat.zero_le _⟩) ?_
        refine xR_i (va_runV (As := [.int (G_X3_firstOf t b)]) (rest := []) ⟨hx, hb, hml, hown, hts⟩ (c_X3_isValue l w c t r s (G_X3_firstOf t b) ht) (cwV 1 hts gX3_areSides_X3_isValue rfl rfl rfl dv_X3_isValue ⟨Nat.le_of_ble_eq_true rfl, Nat.le_of_ble_eq_true rfl⟩) (wPreV hP hK (ci := 4) (q0 := 5) rfl rfl) rfl rfl hl.1 rfl (lv_room (Nat.le_of_ble_eq_true rfl)) dX3_areSides_135 ⟨Nat.zero_le _, Nat.zero_le _⟩) ?_
        refine lv_if_eq (tgt := 157) hx hb dX3_areSides_138 (by decide) (fun b12 => ?_) (fun b12 => ?_)
        ·
          refine lv_iconst (v := 0) hx hb dX3_areSides_157 (by decide) ?_
          exact xR_zret hx hb hr hlk rfl (Eq.trans (Eq.trans (Eq.trans (Eq.trans (Eq.trans (Eq.trans (Eq.trans (Eq.trans rfl (if_neg b1)) (if_neg b2)) (if_neg b3)) (if_neg b6)) (if_pos b9)) (if_neg b10)) (if_pos b11)) (if_pos b12)) dX3_areSides_158
        ·
          refine lv_aload_n hx hb dX3_areSides_141 rfl (lv_at hl 0 rfl) ?_
          refine lv_aload_n hx hb dX3_areSides_142 rfl (lv_at hl 0 rfl) ?_
          refine lv_iload_n hx hb dX3_areSides_143 rfl (lv_at hl 3 rfl) ?_
          refine xR_i (va_runV (As := [.int b]) (rest := [.ref (w.2.2 5)]) ⟨hx, hb, hml, hown, hts⟩ (c_X3_secondOf l w c t r s b ht) (cwV 1 hts gX3_areSides_X3_secondOf rfl rfl rfl dv_X3_secondOf ⟨Nat.le_of_ble_eq_true rfl, Nat.le_of_ble_eq_true rfl⟩) (wPreV hP hK (ci := 4) (q0 := 5) rfl rfl) rfl rfl hl.1 rfl (lv_room (Nat.le_of_ble_eq_true rfl)) dX3_areSides_144 ⟨Nat.zero_le _, Nat.zero_le _⟩) ?_
          refine xR_i (va_runV (As := [.int (G_X3_secondOf t b)]) (rest := []) ⟨hx, hb, hml, hown, hts⟩ (c_X3_isValue l w c t r s (G_X3_secondOf t b) ht) (cwV 1 hts gX3_areSides_X3_isValue rfl rfl rfl dv_X3_isValue ⟨Nat.le_of_ble_eq_true rfl, Nat.le_of_ble_eq_true rfl⟩) (wPreV hP hK (ci := 4) (q0 := 5) rfl rfl) rfl rfl hl.1 rfl (lv_room (Nat.le_of_ble_eq_true rfl)) dX3_areSides_147 ⟨Nat.zero_le _, Nat.zero_le _⟩) ?_
          refine lv_if_eq (tgt := 157) hx hb dX3_areSides_150 (by decide) (fun b13 => ?_) (fun b13 => ?_)
          ·
            refine lv_iconst (v := 0) hx hb dX3_areSides_157 (by decide) ?_
            exact xR_zret hx hb hr hlk rfl (Eq.trans (Eq.trans (Eq.trans (Eq.trans (Eq.trans (Eq.trans (Eq.trans (Eq.trans (Eq.trans rfl (if_neg b1)) (if_neg b2)) (if_neg b3)) (if_neg b6)) (if_pos b9)) (if_neg b10)) (if_pos b11)) (if_neg b12)) (if_pos b13)) dX3_areSides_158
          ·
            refine lv_iconst (v := 1) hx hb dX3_areSides_153 (by decide) ?_
            refine lv_goto (tgt := 158) hx hb dX3_areSides_154 (by decide) ?_
            exact xR_zret hx hb hr hlk rfl (Eq.trans (Eq.trans (Eq.trans (Eq.trans (Eq.trans (Eq.trans (Eq.trans (Eq.trans (Eq.trans rfl (if_neg b1)) (if_neg b2)) (if_neg b3)) (if_neg b6)) (if_pos b9)) (if_neg b10)) (if_pos b11)) (if_neg b12)) (if_neg b13)) dX3_areSides_158
  by_cases b14 : kd = (11 : Int32)
  ·
    refine xTabK (tgt := 159) (z := 11) hx hb dX3_areSides_1 (by rw [b14]; decide) (by decide +kernel) ?_
    refine lv_aload_n hx hb dX3_areSides_159 rfl (lv_at hl 0 rfl) ?_
    refine lv_iload_n hx hb dX3_areSides_160 rfl (lv_at hl 2 rfl) ?_
    refine xR_i (va_runV (As := [.int a]) (rest := []) ⟨hx, hb, hml, hown, hts⟩ (c_X3_has l w c t r s a ) (cwV 1 hts gX3_areSides_X3_has rfl rfl rfl dv_X3_has ⟨Nat.le_of_ble_eq_true rfl, Nat.le_of_ble_eq_true rfl⟩) (wPreV hP hK (ci := 4) (q0 := 5) rfl rfl) rfl rfl hl.1 rfl (lv_room (Nat.le_of_ble_eq_true rfl)) dX3_areSides_161 ⟨Nat.zero_le _, Nat.zero_le _⟩) ?_
    refine lv_if_eq (tgt := 179) hx hb dX3_areSides_164 (by decide) (fun b15 => ?_) (fun b15 => ?_)
    ·
      refine lv_iconst (v := 0) hx hb dX3_areSides_179 (by decide) ?_
      exact xR_zret hx hb hr hlk rfl (Eq.trans (Eq.trans (Eq.trans (Eq.trans (Eq.trans (Eq.trans (Eq.trans rfl (if_neg b1)) (if_neg b2)) (if_neg b3)) (if_neg b6)) (if_neg b9)) (if_pos b14)) (if_pos b15)) dX3_areSides_180
    ·
      refine lv_aload_n hx hb dX3_areSides_167 rfl (lv_at hl 0 rfl) ?_
      refine lv_iload_n hx hb dX3_areSides_168 rfl (lv_at hl 3 rfl) ?_
      refine xR_i (va_runV (As := [.int b]) (rest := []) ⟨hx, hb, hml, hown, hts⟩ (c_X3_has l w c t r s b ) (cwV 1 hts gX3_areSides_X3_has rfl rfl rfl dv_X3_has ⟨Nat.le_of_ble_eq_true rfl, Nat.le_of_ble_eq_true rfl⟩) (wPreV hP hK (ci := 4) (q0 := 5) rfl rfl) rfl rfl hl.1 rfl (lv_room (Nat.le_of_ble_eq_true rfl)) dX3_areSides_169 ⟨Nat.zero_le _, Nat.zero_le _⟩) ?_
      refine lv_if_eq (tgt := 179) hx hb dX3_areSides_172 (by decide) (fun b16 => ?_) (fun b16 => ?_)
      ·
        refine lv_iconst (v := 0) hx hb dX3_areSides_179 (by decide) ?_
        exact xR_zret hx hb hr hlk rfl (Eq.trans (Eq.trans (Eq.trans (Eq.trans (Eq.trans (Eq.trans (Eq.trans (Eq.trans rfl (if_neg b1)) (if_neg b2)) (if_neg b3)) (if_neg b6)) (if_neg b9)) (if_pos b14)) (if_neg b15)) (if_pos b16)) dX3_areSides_180
      ·
        refine lv_iconst (v := 1) hx hb dX3_areSides_175 (by decide) ?_
        refine lv_goto (tgt := 180) hx hb dX3_areSides_176 (by decide) ?_
        exact xR_zret hx hb hr hlk rfl (Eq.trans (Eq.trans (Eq.trans (Eq.trans (Eq.trans (Eq.trans (Eq.trans (Eq.trans rfl (if_neg b1)) (if_neg b2)) (if_neg b3)) (if_neg b6)) (if_neg b9)) (if_pos b14)) (if_neg b15)) (if_neg b16)) dX3_areSides_180
  by_cases b17 : kd = (12 : Int32)
  ·
    refine xTabK (tgt := 181) (z := 12) hx hb dX3_areSides_1 (by rw [b17]; decide) (by decide +kernel) ?_
    refine lv_aload_n hx hb dX3_areSides_181 rfl (lv_at hl 0 rfl) ?_
    refine lv_iload_n hx hb dX3_areSides_182 rfl (lv_at hl 2 rfl) ?_
    refine xR_i (va_runV (As := [.int a]) (rest := []) ⟨hx, hb, hml, hown, hts⟩ (c_X3_isValue l w c t r s a ht) (cwV 1 hts gX3_areSides_X3_isValue rfl rfl rfl dv_X3_isValue ⟨Nat.le_of_ble_eq_true rfl, Nat.le_of_ble_eq_true rfl⟩) (wPreV hP hK (ci := 4) (q0 := 5) rfl rfl) rfl rfl hl.1 rfl (lv_room (Nat.le_of_ble_eq_true rfl)) dX3_areSides_183 ⟨Nat.zero_le _, Nat.zero_le _⟩) ?_
    refine lv_if_eq (tgt := 201) hx hb dX3_areSides_186 (by decide) (fun b18 => ?_) (fun b18 => ?_)
    ·
      refine lv_iconst (v := 0) hx hb dX3_areSides_201 (by decide) ?_
      exact xR_zret hx hb hr hlk rfl (Eq.trans (Eq.trans (Eq.trans (Eq.trans (Eq.trans (Eq.trans (Eq.trans (Eq.trans rfl (if_neg b1)) (if_neg b2)) (if_neg b3)) (if_neg b6)) (if_neg b9)) (if_neg b14)) (if_pos b17)) (if_pos b18)) dX3_areSides_202
    ·
      refine lv_aload_n hx hb dX3_areSides_189 rfl (lv_at hl 0 rfl) ?_
      refine lv_iload_n hx hb dX3_areSides_190 rfl (lv_at hl 3 rfl) ?_
      refine xR_i (va_runV (As := [.int b]) (rest := []) ⟨hx, hb, hml, hown, hts⟩ (c_X3_has l w c t r s b ) (cwV 1 hts gX3_areSides_X3_has rfl rfl rfl dv_X3_has ⟨Nat.le_of_ble_eq_true rfl, Nat.le_of_ble_eq_true rfl⟩) (wPreV hP hK (ci := 4) (q0 := 5) rfl rfl) rfl rfl hl.1 rfl (lv_room (Nat.le_of_ble_eq_true rfl)) dX3_areSides_191 ⟨Nat.zero_le _, Nat.zero_le _⟩) ?_
      refine lv_if_eq (tgt := 201) hx hb dX3_areSides_194 (by decide) (fun b19 => ?_) (fun b19 => ?_)
      ·
        refine lv_iconst (v := 0) hx hb dX3_areSides_201 (by decide) ?_
        exact xR_zret hx hb hr hlk rfl (Eq.trans (Eq.trans (Eq.trans (Eq.trans (Eq.trans (Eq.trans (Eq.trans (Eq.trans (Eq.trans rfl (if_neg b1)) (if_neg b2)) (if_neg b3)) (if_neg b6)) (if_neg b9)) (if_neg b14)) (if_pos b17)) (if_neg b18)) (if_pos b19)) dX3_areSides_202
      ·
        refine lv_iconst (v := 1) hx hb dX3_areSides_197 (by decide) ?_
        refine lv_goto (tgt := 202) hx hb dX3_areSides_198 (by decide) ?_
        exact xR_zret hx hb hr hlk rfl (Eq.trans (Eq.trans (Eq.trans (Eq.trans (Eq.trans (Eq.trans (Eq.trans (Eq.trans (Eq.trans rfl (if_neg b1)) (if_neg b2)) (if_neg b3)) (if_neg b6)) (if_neg b9)) (if_neg b14)) (if_pos b17)) (if_neg b18)) (if_neg b19)) dX3_areSides_202
  by_cases b20 : kd = (13 : Int32)
  ·
    refine xTabK (tgt := 181) (z := 13) hx hb dX3_areSides_1 (by rw [b20]; decide) (by decide +kernel) ?_
    refine lv_aload_n hx hb dX3_areSides_181 rfl (lv_at hl 0 rfl) ?_
    refine lv_iload_n hx hb dX3_areSides_182 rfl (lv_at hl 2 rfl) ?_
    refine xR_i (va_runV (As := [.int a]) (rest := []) ⟨hx, hb, hml, hown, hts⟩ (c_X3_isValue l w c t r s a ht) (cwV 1 hts gX3_areSides_X3_isValue rfl rfl rfl dv_X3_isValue ⟨Nat.le_of_ble_eq_true rfl, Nat.le_of_ble_eq_true rfl⟩) (wPreV hP hK (ci := 4) (q0 := 5) rfl rfl) rfl rfl hl.1 rfl (lv_room (Nat.le_of_ble_eq_true rfl)) dX3_areSides_183 ⟨Nat.zero_le _, Nat.zero_le _⟩) ?_
    refine lv_if_eq (tgt := 201) hx hb dX3_areSides_186 (by decide) (fun b21 => ?_) (fun b21 => ?_)
    ·
      refine lv_iconst (v := 0) hx hb dX3_areSides_201 (by decide) ?_
      exact xR_zret hx hb hr hlk rfl (Eq.trans (Eq.trans (Eq.trans (Eq.trans (Eq.trans (Eq.trans (Eq.trans (Eq.trans (Eq.trans rfl (if_neg b1)) (if_neg b2)) (if_neg b3)) (if_neg b6)) (if_neg b9)) (if_neg b14)) (if_neg b17)) (if_pos b20)) (if_pos b21)) dX3_areSides_202
    ·
      refine lv_aload_n hx hb dX3_areSides_189 rfl (lv_at hl 0 rfl) ?_
      refine lv_iload_n hx hb dX3_areSides_190 rfl (lv_at hl 3 rfl) ?_
      refine xR_i (va_runV (As := [.int b]) (rest := []) ⟨hx, hb, hml, hown, hts⟩ (c_X3_has l w c t r s b ) (cwV 1 hts gX3_areSides_X3_has rfl rfl rfl dv_X3_has ⟨Nat.le_of_ble_eq_true rfl, Nat.le_of_ble_eq_true rfl⟩) (wPreV hP hK (ci := 4) (q0 := 5) rfl rfl) rfl rfl hl.1 rfl (lv_room (Nat.le_of_ble_eq_true rfl)) dX3_areSides_191 ⟨Nat.zero_le _, Nat.zero_le _⟩) ?_
      refine lv_if_eq (tgt := 201) hx hb dX3_areSides_194 (by decide) (fun b22 => ?_) (fun b22 => ?_)
      ·
        refine lv_iconst (v := 0) hx hb dX3_areSides_201 (by decide) ?_
        exact xR_zret hx hb hr hlk rfl (Eq.trans (Eq.trans (Eq.trans (Eq.trans (Eq.trans (Eq.trans (Eq.trans (Eq.trans (Eq.trans (Eq.trans rfl (if_neg b1)) (if_neg b2)) (if_neg b3)) (if_neg b6)) (if_neg b9)) (if_neg b14)) (if_neg b17)) (if_pos b20)) (if_neg b21)) (if_pos b22)) dX3_areSides_202
      ·
        refine lv_iconst (v := 1) hx hb dX3_areSides_197 (by decide) ?_
        refine lv_goto (tgt := 202) hx hb dX3_areSides_198 (by decide) ?_
        exact xR_zret hx hb hr hlk rfl (Eq.trans (Eq.trans (Eq.trans (Eq.trans (Eq.trans (Eq.trans (Eq.trans (Eq.trans (Eq.trans (Eq.trans rfl (if_neg b1)) (if_neg b2)) (if_neg b3)) (if_neg b6)) (if_neg b9)) (if_neg b14)) (if_neg b17)) (if_pos b20)) (if_neg b21)) (if_neg b22)) dX3_areSides_202
  refine xTabD (tgt := 203) (exc := [0, 1, 2, 9, 10, 11, 12, 13]) hx hb dX3_areSides_1 (xCons (lv_neT b1 (by decide)) (xCons (lv_neT b2 (by decide)) (xCons (lv_neT b3 (by decide)) (xCons (lv_neT b6 (by decide)) (xCons (lv_neT b9 (by decide)) (xCons (lv_neT b14 (by decide)) (xCons (lv_neT b17 (by decide)) (xCons (lv_neT b20 (by decide)) xNil)))))))) (by decide) (by decide +kernel) ?_
  refine lv_aload_n hx hb dX3_areSides_203 rfl (lv_at hl 0 rfl) ?_
  refine lv_iload_n hx hb dX3_areSides_204 rfl (lv_at hl 2 rfl) ?_
  refine xR_i (va_runV (As := [.int a]) (rest := []) ⟨hx, hb, hml, hown, hts⟩ (c_X3_isValue l w c t r s a ht) (cwV 1 hts gX3_areSides_X3_isValue rfl rfl rfl dv_X3_isValue ⟨Nat.le_of_ble_eq_true rfl, Nat.le_of_ble_eq_true rfl⟩) (wPreV hP hK (ci := 4) (q0 := 5) rfl rfl) rfl rfl hl.1 rfl (lv_room (Nat.le_of_ble_eq_true rfl)) dX3_areSides_205 ⟨Nat.zero_le _, Nat.zero_le _⟩) ?_
  refine lv_if_eq (tgt := 223) hx hb dX3_areSides_208 (by decide) (fun b23 => ?_) (fun b23 => ?_)
  ·
    refine lv_iconst (v := 0) hx hb dX3_areSides_223 (by decide) ?_
    exact xR_zret hx hb hr hlk rfl (Eq.trans (Eq.trans (Eq.trans (Eq.trans (Eq.trans (Eq.trans (Eq.trans (Eq.trans (Eq.trans rfl (if_neg b1)) (if_neg b2)) (if_neg b3)) (if_neg b6)) (if_neg b9)) (if_neg b14)) (if_neg b17)) (if_neg b20)) (if_pos b23)) dX3_areSides_224
  ·
    refine lv_aload_n hx hb dX3_areSides_211 rfl (lv_at hl 0 rfl) ?_
    refine lv_iload_n hx hb dX3_areSides_212 rfl (lv_at hl 3 rfl) ?_
    refine xR_i (va_runV (As := [.int b]) (rest := []) ⟨hx, hb, hml, hown, hts⟩ (c_X3_isValue l w c t r s b ht) (cwV 1 hts gX3_areSides_X3_isValue rfl rfl rfl dv_X3_isValue ⟨Nat.le_of_ble_eq_true rfl, Nat.le_of_ble_eq_true rfl⟩) (wPreV hP hK (ci := 4) (q0 := 5) rfl rfl) rfl rfl hl.1 rfl (lv_room (Nat.le_of_ble_eq_true rfl)) dX3_areSides_213 ⟨Nat.zero_le _, Nat.zero_le _⟩) ?_
    refine lv_if_eq (tgt := 223) hx hb dX3_areSides_216 (by decide) (fun b24 => ?_) (fun b24 => ?_)
    ·
      refine lv_iconst (v := 0) hx hb dX3_areSides_223 (by decide) ?_
      exact xR_zret hx hb hr hlk rfl (Eq.trans (Eq.trans (Eq.trans (Eq.trans (Eq.trans (Eq.trans (Eq.trans (Eq.trans (Eq.trans (Eq.trans rfl (if_neg b1)) (if_neg b2)) (if_neg b3)) (if_neg b6)) (if_neg b9)) (if_neg b14)) (if_neg b17)) (if_neg b20)) (if_neg b23)) (if_pos b24)) dX3_areSides_224
    ·
      refine lv_iconst (v := 1) hx hb dX3_areSides_219 (by decide) ?_
      refine lv_goto (tgt := 224) hx hb dX3_areSides_220 (by decide) ?_
      exact xR_zret hx hb hr hlk rfl (Eq.trans (Eq.trans (Eq.trans (Eq.trans (Eq.trans (Eq.trans (Eq.trans (Eq.trans (Eq.trans (Eq.trans rfl (if_neg b1)) (if_neg b2)) (if_neg b3)) (if_neg b6)) (if_neg b9)) (if_neg b14)) (if_neg b17)) (if_neg b20)) (if_neg b23)) (if_neg b24)) dX3_areSides_224
def G_X3_digitsIn_L7  (a : Int32) : Nat → Int32 → Int32 → Int32
  | 0, _, _ => 0
  | fu + 1, fn, rs => if rs = 0 then (fn) else (if (10 : Int32) ≤ fn then (fn) else (G_X3_digitsIn_L7 a fu (fn + (1 : Int32)) (rs / (10 : Int32))))
def OK_X3_digitsIn_L7  (a : Int32) : Nat → Int32 → Int32 → Prop
  | 0, _, _ => False
  | fu + 1, fn, rs => if rs = 0 then (True) else (if (10 : Int32) ≤ fn then (True) else (OK_X3_digitsIn_L7 a fu (fn + (1 : Int32)) (rs / (10 : Int32))))
def G_X3_digitsIn  (a : Int32) : Int32 := G_X3_digitsIn_L7 a 12 (1 : Int32) (a / (10 : Int32))
def OK_X3_digitsIn  (a : Int32) : Prop := OK_X3_digitsIn_L7 a 12 (1 : Int32) (a / (10 : Int32))
set_option maxHeartbeats 4000000 in
set_option maxRecDepth 100000 in
theorem L_X3_digitsIn_L7 (l : Launch) (w : WG) (c : CS) (t : TS) (r : RS) (s : Nat → SS) (a : Int32) {pP : Program} {eE : Env} {S : State} {mM : MethodId} {below : List Frame} {meth : Method} {C : Code} (hx : pP.tables.exec = Jvm.exec) (hb : C.code = cX3_digitsIn) (hr : meth.sig.returnType = (some .int)) (hml : C.maxLocals = 3) (hts : ∀ q9 ∈ wsX3_digitsIn, q9.before ([.int a] : List Value).toArray S = true) (hown : S.vm.findClass yX3_digitsIn.cls = some mM.cls) (hlk : meth.locks = false) (hK : wK w S) (g : Int32) :
    ∀ (fu : Nat) (fn : Int32) (rs : Int32), va_P w.1 vwCl (wC w c t r s) S.heap → OK_X3_digitsIn_L7 a fu fn rs → g = G_X3_digitsIn_L7 a fu fn rs → ∀ ls : Array Slot, lv_has ls 3 [(1, .int fn), (2, .int rs)] → W pP l eE { frames := 0, cells := 0, slots := 0, locals := 0 } S mM ([.int a] : List Value).toArray below meth C S.heap [] 0 0 (MQ below (xR (some (.int g))) ([.int a] : List Value).toArray S 0 0 xNo) (F0 mM 7 ls []) := by
  intro fu
  induction fu with
  | zero =>
    intro fn rs hP hok hg ls hl
    exact hok.elim
  | succ fu ih =>
    intro fn rs hP hok hg ls hl
    refine lv_iload_n hx hb dX3_digitsIn_7 rfl (lv_at hl 1 rfl) ?_
    refine lv_if_eq (tgt := 28) hx hb dX3_digitsIn_8 (by decide) (fun b1 => ?_) (fun b1 => ?_)
    ·
      have k2 := Eq.mp (if_pos b1) hok
      refine lv_iload_n hx hb dX3_digitsIn_28 rfl (lv_at hl 0 rfl) ?_
      exact xR_iret hx hb hr hlk  (Eq.trans hg (if_pos b1)) dX3_digitsIn_29
    ·
      have k3 := Eq.mp (if_neg b1) hok
      refine lv_iload_n hx hb dX3_digitsIn_11 rfl (lv_at hl 0 rfl) ?_
      refine lv_bipush (v := 10) hx hb dX3_digitsIn_12 (by decide) ?_
      refine lv_icmp_ge (tgt := 28) hx hb dX3_digitsIn_14 (by decide) (fun b4 => ?_) (fun b4 => ?_)
      ·
        have k5 := Eq.mp (if_pos b4) k3
        refine lv_iload_n hx hb dX3_digitsIn_28 rfl (lv_at hl 0 rfl) ?_
        exact xR_iret hx hb hr hlk  (Eq.trans (Eq.trans hg (if_neg b1)) (if_pos b4)) dX3_digitsIn_29
      ·
        have k6 := Eq.mp (if_neg b4) k3
        refine lv_iinc (v := fn + (1 : Int32)) (lv' := [(1, .int (fn + (1 : Int32))), (2, .int rs)]) hx hb dX3_digitsIn_17 hl (k := 0) rfl rfl (by decide) rfl (fun ls hl => ?_)
        refine lv_iload_n hx hb dX3_digitsIn_20 rfl (lv_at hl 1 rfl) ?_
        refine lv_bipush (v := 10) hx hb dX3_digitsIn_21 (by decide) ?_
        refine lv_idiv hx hb dX3_digitsIn_23 (by decide) ?_
        refine lv_istore_n (lv' := [(2, .int (rs / (10 : Int32))), (1, .int (fn + (1 : Int32)))]) hx hb dX3_digitsIn_24 rfl hl (by decide) rfl (fun ls hl => ?_)
        refine lv_goto (tgt := 7) hx hb dX3_digitsIn_25 (by decide) ?_
        exact ih (fn + (1 : Int32)) (rs / (10 : Int32)) hP k6 (Eq.trans (Eq.trans hg (if_neg b1)) (if_neg b4)) ls (lv_sub hl [1, 0] rfl)
set_option maxHeartbeats 4000000 in
set_option maxRecDepth 100000 in
theorem c_X3_digitsIn (l : Launch) (w : WG) (c : CS) (t : TS) (r : RS) (s : Nat → SS) (a : Int32) (hok : OK_X3_digitsIn a) : Met l yX3_digitsIn wsX3_digitsIn { frames := 0, cells := 0, slots := 0, locals := 0 } (va_Pc [.int a] (wPK w (wC w c t r s))) (xR (some (.int (G_X3_digitsIn a)))) 0 0 xNo := by
  refine xOf (cc := cX3_digitsIn) (maxL := 3) (ret := (some .int)) (lv := [(0, .int a)]) (by decide) rfl (Nat.le_of_ble_eq_true rfl) rfl ?_
  intro pP eE S mM below meth C hx hb hr hml hts hown hlk hnm hw ls hl
  obtain ⟨hP, hK⟩ := hw
  refine lv_iconst (v := 1) hx hb dX3_digitsIn_0 (by decide) ?_
  refine lv_istore_n (lv' := [(1, .int (1 : Int32)), (0, .int a)]) hx hb dX3_digitsIn_1 rfl hl (by decide) rfl (fun ls hl => ?_)
  refine lv_iload_n hx hb dX3_digitsIn_2 rfl (lv_at hl 1 rfl) ?_
  refine lv_bipush (v := 10) hx hb dX3_digitsIn_3 (by decide) ?_
  refine lv_idiv hx hb dX3_digitsIn_5 (by decide) ?_
  refine lv_istore_n (lv' := [(2, .int (a / (10 : Int32))), (1, .int (1 : Int32)), (0, .int a)]) hx hb dX3_digitsIn_6 rfl hl (by decide) rfl (fun ls hl => ?_)
  exact L_X3_digitsIn_L7 l w c t r s a  hx hb hr hml hts hown hlk hK _ 12 (1 : Int32) (a / (10 : Int32)) hP hok rfl ls (lv_sub hl [1, 0] rfl)
theorem okX3_digitsInL {a : Int32} : ∀ (fu : Nat) (f : Nat) (rs : Int32), f ≤ 10 → 10 - f < fu → OK_X3_digitsIn_L7 a fu (nI f) rs := by
  intro fu
  induction fu with
  | zero => intro f rs h1 h2; omega
  | succ fu ih =>
    intro f rs h1 h2
    unfold OK_X3_digitsIn_L7
    split
    · trivial
    · split
      · trivial
      · rename_i h
        have hf : f < 10 := by
          rcases Nat.lt_or_ge f 10 with q | q
          · exact q
          · have : f = 10 := by omega
            subst this
            exact absurd (by decide) h
        rw [nI_1]
        exact ih (f + 1) _ (by omega) (by omega)
theorem okX3_digitsIn (a : Int32) : OK_X3_digitsIn a := okX3_digitsInL 12 1 _ (by omega) (by omega)
theorem k_X3_digitsIn (l : Launch) (w : WG) (c : CS) (t : TS) (r : RS) (s : Nat → SS) (a : Int32) : Met l yX3_digitsIn wsX3_digitsIn { frames := 0, cells := 0, slots := 0, locals := 0 } (va_Pc [.int a] (wPK w (wC w c t r s))) (xR (some (.int (G_X3_digitsIn a)))) 0 0 xNo := c_X3_digitsIn l w c t r s a  (okX3_digitsIn a)
set_option maxRecDepth 20000 in
theorem ds_X3_digitsIn : yX3_digitsIn.cls ≠ "java/lang/invoke/MethodHandle" ∧ yX3_digitsIn.cls ≠ "java/lang/invoke/VarHandle" ∧ (parseMethodDescriptor yX3_digitsIn.desc).map (fun d => d.parameters.length) = some 1 := by decide +kernel
set_option maxRecDepth 20000 in
theorem iw_X3_digitsFor_X3 : ∀ w ∈ wsX30, w ∈ wsX3_digitsFor := by decide +kernel
set_option maxRecDepth 20000 in
theorem fl_X3_digitsFor_35 : Cond.fieldLink RX3 35 "ProcedureCode$Tree" "cells" "LProcedureCode$Cells;" ∈ wsX3_digitsFor := by decide +kernel
set_option maxRecDepth 20000 in
theorem dv_X0_surelyWithin : yX0_surelyWithin.cls = RX0 ∧ yX0_surelyWithin.cls ≠ "java/lang/invoke/MethodHandle" ∧ yX0_surelyWithin.cls ≠ "java/lang/invoke/VarHandle" ∧ (parseMethodDescriptor yX0_surelyWithin.desc).map (fun d => d.parameters.length) = some 1 := by decide +kernel
set_option maxRecDepth 20000 in
theorem dv_X3_digitsOf : yX3_digitsOf.cls = RX3 ∧ yX3_digitsOf.cls ≠ "java/lang/invoke/MethodHandle" ∧ yX3_digitsOf.cls ≠ "java/lang/invoke/VarHandle" ∧ (parseMethodDescriptor yX3_digitsOf.desc).map (fun d => d.parameters.length) = some 1 := by decide +kernel
set_option maxRecDepth 20000 in
theorem mw_X3_digitsFor_m107 : Cond.methodLink RX3 107 Lib.Math.max.name ∈ wsX3_digitsFor := by decide +kernel
set_option maxRecDepth 20000 in
theorem mw_X3_digitsFor_s107 : Cond.static Lib.Math.max.name ∈ wsX3_digitsFor := by decide +kernel
set_option maxRecDepth 20000 in
theorem mw_X3_digitsFor_iMath : Cond.initialized "java/lang/Math" ∈ wsX3_digitsFor := by decide +kernel
set_option maxRecDepth 20000 in
theorem mw_X3_digitsFor_c107 : Cond.code Lib.Math.max.name Lib.Math.max.code 2 (some .int) ∈ wsX3_digitsFor := by decide +kernel
def G_X3_digitsFor (c : CS) (t : TS) (kd : Int32) (a : Int32) (b : Int32) : Int32 := if kd = (0 : Int32) then (G_X3_digitsIn a) else (if kd = (1 : Int32) then (G_X0_surelyWithin c a) else (if kd = (2 : Int32) then (G_X0_surelyWithin c a) else (if kd = (3 : Int32) then ((if (G_X3_digitsOf t a) < (G_X3_digitsOf t b) then (G_X3_digitsOf t b) else (G_X3_digitsOf t a)) + (1 : Int32)) else (if kd = (4 : Int32) then ((if (G_X3_digitsOf t a) < (G_X3_digitsOf t b) then (G_X3_digitsOf t b) else (G_X3_digitsOf t a)) + (1 : Int32)) else (if kd = (5 : Int32) then ((G_X3_digitsOf t a) + (G_X3_digitsOf t b)) else (if kd = (6 : Int32) then (G_X3_digitsOf t a) else (if kd = (7 : Int32) then ((1 : Int32)) else (if kd = (8 : Int32) then ((1 : Int32)) else ((0 : Int32))))))))))
set_option maxHeartbeats 4000000 in
set_option maxRecDepth 100000 in
theorem c_X3_digitsFor (l : Launch) (w : WG) (c : CS) (t : TS) (r : RS) (s : Nat → SS) (kd : Int32) (a : Int32) (b : Int32) (hc : okC c) (ht : okT t) : Met l yX3_digitsFor wsX3_digitsFor { frames := 2, cells := 0, slots := 0, locals := 42 } (va_Pc [.ref (w.2.2 5), .int kd, .int a, .int b] (wPK w (wC w c t r s))) (xR (some (.int (G_X3_digitsFor c t kd a b)))) 0 0 xNo := by
  refine xOf (cc := cX3_digitsFor) (maxL := 4) (ret := (some .int)) (lv := [(0, .ref (w.2.2 5)), (1, .int kd), (2, .int a), (3, .int b)]) (by decide) rfl (Nat.le_of_ble_eq_true rfl) rfl ?_
  intro pP eE S mM below meth C hx hb hr hml hts hown hlk hnm hw ls hl
  obtain ⟨hP, hK⟩ := hw
  refine lv_iload_n hx hb dX3_digitsFor_0 rfl (lv_at hl 1 rfl) ?_
  by_cases b1 : kd = (0 : Int32)
  ·
    refine xTabK (tgt := 52) (z := 0) hx hb dX3_digitsFor_1 (by rw [b1]; decide) (by decide +kernel) ?_
    refine lv_iload_n hx hb dX3_digitsFor_52 rfl (lv_at hl 2 rfl) ?_
    refine xR_i (va_runS (As := [.int a]) (rest := []) ⟨hx, hb, hml, hown, hts⟩ (k_X3_digitsIn l w c t r s a ) (va_cwS 1 hts gX3_digitsFor_X3_digitsIn rfl rfl rfl ds_X3_digitsIn ⟨Nat.le_of_ble_eq_true rfl, Nat.le_of_ble_eq_true rfl⟩) (wPre hP hK) rfl rfl hl.1 rfl (lv_room (Nat.le_of_ble_eq_true rfl)) dX3_digitsFor_53 ⟨Nat.zero_le _, Nat.zero_le _⟩) ?_
    exact xR_iret hx hb hr hlk  (Eq.trans rfl (if_pos b1)) dX3_digitsFor_56
  by_cases b2 : kd = (1 : Int32)
  ·
    refine xTabK (tgt := 57) (z := 1) hx hb dX3_digitsFor_1 (by rw [b2]; decide) (by decide +kernel) ?_
    refine lv_aload_n hx hb dX3_digitsFor_57 rfl (lv_at hl 0 rfl) ?_
    refine va_get (D := w.1) (ci := 4) (v := .ref (w.2.2 1)) (C := RX3) (T := TX3) (N := 9) hx hb hts iw_X3_digitsFor_X3 hown hK.1 hP 5 rfl rfl 0 (by decide) (hts _ fl_X3_digitsFor_35) (fun _ h9 => h9) rfl dX3_digitsFor_58 ?_
    refine lv_iload_n hx hb dX3_digitsFor_61 rfl (lv_at hl 2 rfl) ?_
    refine xR_i (va_runV (As := [.int a]) (rest := []) ⟨hx, hb, hml, hown, hts⟩ (k_X0_surelyWithin l w c t r s a hc) (cwV 1 hts gX3_digitsFor_X0_surelyWithin rfl rfl rfl dv_X0_surelyWithin ⟨Nat.le_of_ble_eq_true rfl, Nat.le_of_ble_eq_true rfl⟩) (wPreV hP hK (ci := 1) (q0 := 1) rfl rfl) rfl rfl hl.1 rfl (lv_room (Nat.le_of_ble_eq_true rfl)) dX3_digitsFor_62 ⟨Nat.zero_le _, Nat.zero_le _⟩) ?_
    exact xR_iret hx hb hr hlk  (Eq.trans (Eq.trans rfl (if_neg b1)) (if_pos b2)) dX3_digitsFor_65
  by_cases b3 : kd = (2 : Int32)
  ·
    refine xTabK (tgt := 57) (z := 2) hx hb dX3_digitsFor_1 (by rw [b3]; decide) (by decide +kernel) ?_
    refine lv_aload_n hx hb dX3_digitsFor_57 rfl (lv_at hl 0 rfl) ?_
    refine va_get (D := w.1) (ci := 4) (v := .ref (w.2.2 1)) (C := RX3) (T := TX3) (N := 9) hx hb hts iw_X3_digitsFor_X3 hown hK.1 hP 5 rfl rfl 0 (by decide) (hts _ fl_X3_digitsFor_35) (fun _ h9 => h9) rfl dX3_digitsFor_58 ?_
    refine lv_iload_n hx hb dX3_digitsFor_61 rfl (lv_at hl 2 rfl) ?_
    refine xR_i (va_runV (As := [.int a]) (rest := []) ⟨hx, hb, hml, hown, hts⟩ (k_X0_surelyWithin l w c t r s a hc) (cwV 1 hts gX3_digitsFor_X0_surelyWithin rfl rfl rfl dv_X0_surelyWithin ⟨Nat.le_of_ble_eq_true rfl, Nat.le_of_ble_eq_true rfl⟩) (wPreV hP hK (ci := 1) (q0 := 1) rfl rfl) rfl rfl hl.1 rfl (lv_room (Nat.le_of_ble_eq_true rfl)) dX3_digitsFor_62 ⟨Nat.zero_le _, Nat.zero_le _⟩) ?_
    exact xR_iret hx hb hr hlk  (Eq.trans (Eq.trans (Eq.trans rfl (if_neg b1)) (if_neg b2)) (if_pos b3)) dX3_digitsFor_65
  by_cases b4 : kd = (3 : Int32)
  ·
    refine xTabK (tgt := 66) (z := 3) hx hb dX3_digitsFor_1 (by rw [b4]; decide) (by decide +kernel) ?_
    refine lv_aload_n hx hb dX3_digitsFor_66 rfl (lv_at hl 0 rfl) ?_
    refine lv_iload_n hx hb dX3_digitsFor_67 rfl (lv_at hl 2 rfl) ?_
    refine xR_i (va_runV (As := [.int a]) (rest := []) ⟨hx, hb, hml, hown, hts⟩ (c_X3_digitsOf l w c t r s a ht) (cwV 1 hts gX3_digitsFor_X3_digitsOf rfl rfl rfl dv_X3_digitsOf ⟨Nat.le_of_ble_eq_true rfl, Nat.le_of_ble_eq_true rfl⟩) (wPreV hP hK (ci := 4) (q0 := 5) rfl rfl) rfl rfl hl.1 rfl (lv_room (Nat.le_of_ble_eq_true rfl)) dX3_digitsFor_68 ⟨Nat.zero_le _, Nat.zero_le _⟩) ?_
    refine lv_aload_n hx hb dX3_digitsFor_71 rfl (lv_at hl 0 rfl) ?_
    refine lv_iload_n hx hb dX3_digitsFor_72 rfl (lv_at hl 3 rfl) ?_
    refine xR_i (va_runV (As := [.int b]) (rest := [.int (G_X3_digitsOf t a)]) ⟨hx, hb, hml, hown, hts⟩ (c_X3_digitsOf l w c t r s b ht) (cwV 1 hts gX3_digitsFor_X3_digitsOf rfl rfl rfl dv_X3_digitsOf ⟨Nat.le_of_ble_eq_true rfl, Nat.le_of_ble_eq_true rfl⟩) (wPreV hP hK (ci := 4) (q0 := 5) rfl rfl) rfl rfl hl.1 rfl (lv_room (Nat.le_of_ble_eq_true rfl)) dX3_digitsFor_73 ⟨Nat.zero_le _, Nat.zero_le _⟩) ?_
    refine va_mmax hx hb (hml.trans hl.1.symm) hown (hts _ mw_X3_digitsFor_m107) (hts _ mw_X3_digitsFor_s107) (hts _ mw_X3_digitsFor_iMath) (hts _ mw_X3_digitsFor_c107) (Nat.le_of_ble_eq_true rfl) (Nat.le_of_ble_eq_true rfl) (Nat.zero_le _) (Nat.zero_le _) dX3_digitsFor_76 ?_
    refine lv_iconst (v := 1) hx hb dX3_digitsFor_79 (by decide) ?_
    refine lv_iadd hx hb dX3_digitsFor_80 ?_
    exact xR_iret hx hb hr hlk  (Eq.trans (Eq.trans (Eq.trans (Eq.trans rfl (if_neg b1)) (if_neg b2)) (if_neg b3)) (if_pos b4)) dX3_digitsFor_81
  by_cases b5 : kd = (4 : Int32)
  ·
    refine xTabK (tgt := 66) (z := 4) hx hb dX3_digitsFor_1 (by rw [b5]; decide) (by decide +kernel) ?_
    refine lv_aload_n hx hb dX3_digitsFor_66 rfl (lv_at hl 0 rfl) ?_
    refine lv_iload_n hx hb dX3_digitsFor_67 rfl (lv_at hl 2 rfl) ?_
    refine xR_i (va_runV (As := [.int a]) (rest := []) ⟨hx, hb, hml, hown, hts⟩ (c_X3_digitsOf l w c t r s a ht) (cwV 1 hts gX3_digitsFor_X3_digitsOf rfl rfl rfl dv_X3_digitsOf ⟨Nat.le_of_ble_eq_true rfl, Nat.le_of_ble_eq_true rfl⟩) (wPreV hP hK (ci := 4) (q0 := 5) rfl rfl) rfl rfl hl.1 rfl (lv_room (Nat.le_of_ble_eq_true rfl)) dX3_digitsFor_68 ⟨Nat.zero_le _, Nat.zero_le _⟩) ?_
    refine lv_aload_n hx hb dX3_digitsFor_71 rfl (lv_at hl 0 rfl) ?_
    refine lv_iload_n hx hb dX3_digitsFor_72 rfl (lv_at hl 3 rfl) ?_
    refine xR_i (va_runV (As := [.int b]) (rest := [.int (G_X3_digitsOf t a)]) ⟨hx, hb, hml, hown, hts⟩ (c_X3_digitsOf l w c t r s b ht) (cwV 1 hts gX3_digitsFor_X3_digitsOf rfl rfl rfl dv_X3_digitsOf ⟨Nat.le_of_ble_eq_true rfl, Nat.le_of_ble_eq_true rfl⟩) (wPreV hP hK (ci := 4) (q0 := 5) rfl rfl) rfl rfl hl.1 rfl (lv_room (Nat.le_of_ble_eq_true rfl)) dX3_digitsFor_73 ⟨Nat.zero_le _, Nat.zero_le _⟩) ?_
    refine va_mmax hx hb (hml.trans hl.1.symm) hown (hts _ mw_X3_digitsFor_m107) (hts _ mw_X3_digitsFor_s107) (hts _ mw_X3_digitsFor_iMath) (hts _ mw_X3_digitsFor_c107) (Nat.le_of_ble_eq_true rfl) (Nat.le_of_ble_eq_true rfl) (Nat.zero_le _) (Nat.zero_le _) dX3_digitsFor_76 ?_
    refine lv_iconst (v := 1) hx hb dX3_digitsFor_79 (by decide) ?_
    refine lv_iadd hx hb dX3_digitsFor_80 ?_
    exact xR_iret hx hb hr hlk  (Eq.trans (Eq.trans (Eq.trans (Eq.trans (Eq.trans rfl (if_neg b1)) (if_neg b2)) (if_neg b3)) (if_neg b4)) (if_pos b5)) dX3_digitsFor_81
  by_cases b6 : kd = (5 : Int32)
  ·
    refine xTabK (tgt := 82) (z := 5) hx hb dX3_digitsFor_1 (by rw [b6]; decide) (by decide +kernel) ?_
    refine lv_aload_n hx hb dX3_digitsFor_82 rfl (lv_at hl 0 rfl) ?_
    refine lv_iload_n hx hb dX3_digitsFor_83 rfl (lv_at hl 2 rfl) ?_
    refine xR_i (va_runV (As := [.int a]) (rest := []) ⟨hx, hb, hml, hown, hts⟩ (c_X3_digitsOf l w c t r s a ht) (cwV 1 hts gX3_digitsFor_X3_digitsOf rfl rfl rfl dv_X3_digitsOf ⟨Nat.le_of_ble_eq_true rfl, Nat.le_of_ble_eq_true rfl⟩) (wPreV hP hK (ci := 4) (q0 := 5) rfl rfl) rfl rfl hl.1 rfl (lv_room (Nat.le_of_ble_eq_true rfl)) dX3_digitsFor_84 ⟨Nat.zero_le _, Nat.zero_le _⟩) ?_
    refine lv_aload_n hx hb dX3_digitsFor_87 rfl (lv_at hl 0 rfl) ?_
    refine lv_iload_n hx hb dX3_digitsFor_88 rfl (lv_at hl 3 rfl) ?_
    refine xR_i (va_runV (As := [.int b]) (rest := [.int (G_X3_digitsOf t a)]) ⟨hx, hb, hml, hown, hts⟩ (c_X3_digitsOf l w c t r s b ht) (cwV 1 hts gX3_digitsFor_X3_digitsOf rfl rfl rfl dv_X3_digitsOf ⟨Nat.le_of_ble_eq_true rfl, Nat.le_of_ble_eq_true rfl⟩) (wPreV hP hK (ci := 4) (q0 := 5) rfl rfl) rfl rfl hl.1 rfl (lv_room (Nat.le_of_ble_eq_true rfl)) dX3_digitsFor_89 ⟨Nat.zero_le _, Nat.zero_le _⟩) ?_
    refine lv_iadd hx hb dX3_digitsFor_92 ?_
    exact xR_iret hx hb hr hlk  (Eq.trans (Eq.trans (Eq.trans (Eq.trans (Eq.trans (Eq.trans rfl (if_neg b1)) (if_neg b2)) (if_neg b3)) (if_neg b4)) (if_neg b5)) (if_pos b6)) dX3_digitsFor_93
  by_cases b7 : kd = (6 : Int32)
  ·
    refine xTabK (tgt := 94) (z := 6) hx hb dX3_digitsFor_1 (by rw [b7]; decide) (by decide +kernel) ?_
    refine lv_aload_n hx hb dX3_digitsFor_94 rfl (lv_at hl 0 rfl) ?_
    refine lv_iload_n hx hb dX3_digitsFor_95 rfl (lv_at hl 2 rfl) ?_
    refine xR_i (va_runV (As := [.int a]) (rest := []) ⟨hx, hb, hml, hown, hts⟩ (c_X3_digitsOf l w c t r s a ht) (cwV 1 hts gX3_digitsFor_X3_digitsOf rfl rfl rfl dv_X3_digitsOf ⟨Nat.le_of_ble_eq_true rfl, Nat.le_of_ble_eq_true rfl⟩) (wPreV hP hK (ci := 4) (q0 := 5) rfl rfl) rfl rfl hl.1 rfl (lv_room (Nat.le_of_ble_eq_true rfl)) dX3_digitsFor_96 ⟨Nat.zero_le _, Nat.zero_le _⟩) ?_
    exact xR_iret hx hb hr hlk  (Eq.trans (Eq.trans (Eq.trans (Eq.trans (Eq.trans (Eq.trans (Eq.trans rfl (if_neg b1)) (if_neg b2)) (if_neg b3)) (if_neg b4)) (if_neg b5)) (if_neg b6)) (if_pos b7)) dX3_digitsFor_99
  by_cases b8 : kd = (7 : Int32)
  ·
    refine xTabK (tgt := 100) (z := 7) hx hb dX3_digitsFor_1 (by rw [b8]; decide) (by decide +kernel) ?_
    refine lv_iconst (v := 1) hx hb dX3_digitsFor_100 (by decide) ?_
    exact xR_iret hx hb hr hlk  (Eq.trans (Eq.trans (Eq.trans (Eq.trans (Eq.trans (Eq.trans (Eq.trans (Eq.trans rfl (if_neg b1)) (if_neg b2)) (if_neg b3)) (if_neg b4)) (if_neg b5)) (if_neg b6)) (if_neg b7)) (if_pos b8)) dX3_digitsFor_101
  by_cases b9 : kd = (8 : Int32)
  ·
    refine xTabK (tgt := 100) (z := 8) hx hb dX3_digitsFor_1 (by rw [b9]; decide) (by decide +kernel) ?_
    refine lv_iconst (v := 1) hx hb dX3_digitsFor_100 (by decide) ?_
    exact xR_iret hx hb hr hlk  (Eq.trans (Eq.trans (Eq.trans (Eq.trans (Eq.trans (Eq.trans (Eq.trans (Eq.trans (Eq.trans rfl (if_neg b1)) (if_neg b2)) (if_neg b3)) (if_neg b4)) (if_neg b5)) (if_neg b6)) (if_neg b7)) (if_neg b8)) (if_pos b9)) dX3_digitsFor_101
  refine xTabD (tgt := 102) (exc := [0, 1, 2, 3, 4, 5, 6, 7, 8]) hx hb dX3_digitsFor_1 (xCons (lv_neT b1 (by decide)) (xCons (lv_neT b2 (by decide)) (xCons (lv_neT b3 (by decide)) (xCons (lv_neT b4 (by decide)) (xCons (lv_neT b5 (by decide)) (xCons (lv_neT b6 (by decide)) (xCons (lv_neT b7 (by decide)) (xCons (lv_neT b8 (by decide)) (xCons (lv_neT b9 (by decide)) xNil))))))))) (by decide) (by decide +kernel) ?_
  refine lv_iconst (v := 0) hx hb dX3_digitsFor_102 (by decide) ?_
  exact xR_iret hx hb hr hlk  (Eq.trans (Eq.trans (Eq.trans (Eq.trans (Eq.trans (Eq.trans (Eq.trans (Eq.trans (Eq.trans rfl (if_neg b1)) (if_neg b2)) (if_neg b3)) (if_neg b4)) (if_neg b5)) (if_neg b6)) (if_neg b7)) (if_neg b8)) (if_neg b9)) dX3_digitsFor_103
set_option maxRecDepth 20000 in
theorem dv_X3_rowsOf : yX3_rowsOf.cls = RX3 ∧ yX3_rowsOf.cls ≠ "java/lang/invoke/MethodHandle" ∧ yX3_rowsOf.cls ≠ "java/lang/invoke/VarHandle" ∧ (parseMethodDescriptor yX3_rowsOf.desc).map (fun d => d.parameters.length) = some 1 := by decide +kernel
def G_X3_rowsAlone (t : TS) (n : Int32) : Int32 := if (G_X3_isValue t n) = 0 then (G_X3_rowsOf t n) else ((G_X3_rowsOf t n) + (1 : Int32))
set_option maxHeartbeats 4000000 in
set_option maxRecDepth 100000 in
theorem c_X3_rowsAlone (l : Launch) (w : WG) (c : CS) (t : TS) (r : RS) (s : Nat → SS) (n : Int32) (ht : okT t) : Met l yX3_rowsAlone wsX3_rowsAlone { frames := 2, cells := 0, slots := 0, locals := 42 } (va_Pc [.ref (w.2.2 5), .int n] (wPK w (wC w c t r s))) (xR (some (.int (G_X3_rowsAlone t n)))) 0 0 xNo := by
  refine xOf (cc := cX3_rowsAlone) (maxL := 2) (ret := (some .int)) (lv := [(0, .ref (w.2.2 5)), (1, .int n)]) (by decide) rfl (Nat.le_of_ble_eq_true rfl) rfl ?_
  intro pP eE S mM below meth C hx hb hr hml hts hown hlk hnm hw ls hl
  obtain ⟨hP, hK⟩ := hw
  refine lv_aload_n hx hb dX3_rowsAlone_0 rfl (lv_at hl 0 rfl) ?_
  refine lv_iload_n hx hb dX3_rowsAlone_1 rfl (lv_at hl 1 rfl) ?_
  refine xR_i (va_runV (As := [.int n]) (rest := []) ⟨hx, hb, hml, hown, hts⟩ (c_X3_isValue l w c t r s n ht) (cwV 1 hts gX3_rowsAlone_X3_isValue rfl rfl rfl dv_X3_isValue ⟨Nat.le_of_ble_eq_true rfl, Nat.le_of_ble_eq_true rfl⟩) (wPreV hP hK (ci := 4) (q0 := 5) rfl rfl) rfl rfl hl.1 rfl (lv_room (Nat.le_of_ble_eq_true rfl)) dX3_rowsAlone_2 ⟨Nat.zero_le _, Nat.zero_le _⟩) ?_
  refine lv_if_eq (tgt := 18) hx hb dX3_rowsAlone_5 (by decide) (fun b1 => ?_) (fun b1 => ?_)
  ·
    refine lv_aload_n hx hb dX3_rowsAlone_18 rfl (lv_at hl 0 rfl) ?_
    refine lv_iload_n hx hb dX3_rowsAlone_19 rfl (lv_at hl 1 rfl) ?_
    refine xR_i (va_runV (As := [.int n]) (rest := []) ⟨hx, hb, hml, hown, hts⟩ (c_X3_rowsOf l w c t r s n ht) (cwV 1 hts gX3_rowsAlone_X3_rowsOf rfl rfl rfl dv_X3_rowsOf ⟨Nat.le_of_ble_eq_true rfl, Nat.le_of_ble_eq_true rfl⟩) (wPreV hP hK (ci := 4) (q0 := 5) rfl rfl) rfl rfl hl.1 rfl (lv_room (Nat.le_of_ble_eq_true rfl)) dX3_rowsAlone_20 ⟨Nat.zero_le _, Nat.zero_le _⟩) ?_
    exact xR_iret hx hb hr hlk  (Eq.trans rfl (if_pos b1)) dX3_rowsAlone_23
  ·
    refine lv_aload_n hx hb dX3_rowsAlone_8 rfl (lv_at hl 0 rfl) ?_
    refine lv_iload_n hx hb dX3_rowsAlone_9 rfl (lv_at hl 1 rfl) ?_
    refine xR_i (va_runV (As := [.int n]) (rest := []) ⟨hx, hb, hml, hown, hts⟩ (c_X3_rowsOf l w c t r s n ht) (cwV 1 hts gX3_rowsAlone_X3_rowsOf rfl rfl rfl dv_X3_rowsOf ⟨Nat.le_of_ble_eq_true rfl, Nat.le_of_ble_eq_true rfl⟩) (wPreV hP hK (ci := 4) (q0 := 5) rfl rfl) rfl rfl hl.1 rfl (lv_room (Nat.le_of_ble_eq_true rfl)) dX3_rowsAlone_10 ⟨Nat.zero_le _, Nat.zero_le _⟩) ?_
    refine lv_iconst (v := 1) hx hb dX3_rowsAlone_13 (by decide) ?_
    refine lv_iadd hx hb dX3_rowsAlone_14 ?_
    refine lv_goto (tgt := 23) hx hb dX3_rowsAlone_15 (by decide) ?_
    exact xR_iret hx hb hr hlk  (Eq.trans rfl (if_neg b1)) dX3_rowsAlone_23
set_option maxRecDepth 20000 in
theorem dv_X3_rowsAlone : yX3_rowsAlone.cls = RX3 ∧ yX3_rowsAlone.cls ≠ "java/lang/invoke/MethodHandle" ∧ yX3_rowsAlone.cls ≠ "java/lang/invoke/VarHandle" ∧ (parseMethodDescriptor yX3_rowsAlone.desc).map (fun d => d.parameters.length) = some 1 := by decide +kernel
def G_X3_rowsFor (t : TS) (kd : Int32) (a : Int32) (b : Int32) : Int32 := if kd = (0 : Int32) then ((1 : Int32)) else (if kd = (1 : Int32) then ((1 : Int32)) else (if kd = (2 : Int32) then ((G_X3_rowsOf t b) + (1 : Int32)) else (if kd = (9 : Int32) then ((G_X3_rowsOf t b) + (1 : Int32)) else (if kd = (10 : Int32) then (((G_X3_rowsOf t (G_X3_firstOf t b)) + (G_X3_rowsOf t (G_X3_secondOf t b))) + (1 : Int32)) else (if kd = (11 : Int32) then ((G_X3_rowsAlone t a) + (G_X3_rowsAlone t b)) else (if kd = (12 : Int32) then (((G_X3_rowsOf t a) + (1 : Int32)) + (G_X3_rowsAlone t b)) else (if kd = (13 : Int32) then (((G_X3_rowsOf t a) + (2 : Int32)) + (G_X3_rowsAlone t b)) else (((G_X3_rowsOf t a) + (G_X3_rowsOf t b)) + (1 : Int32)))))))))
set_option maxHeartbeats 4000000 in
set_option maxRecDepth 100000 in
theorem c_X3_rowsFor (l : Launch) (w : WG) (c : CS) (t : TS) (r : RS) (s : Nat → SS) (kd : Int32) (a : Int32) (b : Int32) (ht : okT t) : Met l yX3_rowsFor wsX3_rowsFor { frames := 3, cells := 0, slots := 0, locals := 63 } (va_Pc [.ref (w.2.2 5), .int kd, .int a, .int b] (wPK w (wC w c t r s))) (xR (some (.int (G_X3_rowsFor t kd a b)))) 0 0 xNo := by
  refine xOf (cc := cX3_rowsFor) (maxL := 4) (ret := (some .int)) (lv := [(0, .ref (w.2.2 5)), (1, .int kd), (2, .int a), (3, .int b)]) (by decide) rfl (Nat.le_of_ble_eq_true rfl) rfl ?_
  intro pP eE S mM below meth C hx hb hr hml hts hown hlk hnm hw ls hl
  obtain ⟨hP, hK⟩ := hw
  refine lv_iload_n hx hb dX3_rowsFor_0 rfl (lv_at hl 1 rfl) ?_
  by_cases b1 : kd = (0 : Int32)
  ·
    refine xTabK (tgt := 72) (z := 0) hx hb dX3_rowsFor_1 (by rw [b1]; decide) (by decide +kernel) ?_
    refine lv_iconst (v := 1) hx hb dX3_rowsFor_72 (by decide) ?_
    exact xR_iret hx hb hr hlk  (Eq.trans rfl (if_pos b1)) dX3_rowsFor_73
  by_cases b2 : kd = (1 : Int32)
  ·
    refine xTabK (tgt := 72) (z := 1) hx hb dX3_rowsFor_1 (by rw [b2]; decide) (by decide +kernel) ?_
    refine lv_iconst (v := 1) hx hb dX3_rowsFor_72 (by decide) ?_
    exact xR_iret hx hb hr hlk  (Eq.trans (Eq.trans rfl (if_neg b1)) (if_pos b2)) dX3_rowsFor_73
  by_cases b3 : kd = (2 : Int32)
  ·
    refine xTabK (tgt := 74) (z := 2) hx hb dX3_rowsFor_1 (by rw [b3]; decide) (by decide +kernel) ?_
    refine lv_aload_n hx hb dX3_rowsFor_74 rfl (lv_at hl 0 rfl) ?_
    refine lv_iload_n hx hb dX3_rowsFor_75 rfl (lv_at hl 3 rfl) ?_
    refine xR_i (va_runV (As := [.int b]) (rest := []) ⟨hx, hb, hml, hown, hts⟩ (c_X3_rowsOf l w c t r s b ht) (cwV 1 hts gX3_rowsFor_X3_rowsOf rfl rfl rfl dv_X3_rowsOf ⟨Nat.le_of_ble_eq_true rfl, Nat.le_of_ble_eq_true rfl⟩) (wPreV hP hK (ci := 4) (q0 := 5) rfl rfl) rfl rfl hl.1 rfl (lv_room (Nat.le_of_ble_eq_true rfl)) dX3_rowsFor_76 ⟨Nat.zero_le _, Nat.zero_le _⟩) ?_
    refine lv_iconst (v := 1) hx hb dX3_rowsFor_79 (by decide) ?_
    refine lv_iadd hx hb dX3_rowsFor_80 ?_
    exact xR_iret hx hb hr hlk  (Eq.trans (Eq.trans (Eq.trans rfl (if_neg b1)) (if_neg b2)) (if_pos b3)) dX3_rowsFor_81
  by_cases b4 : kd = (9 : Int32)
  ·
    refine xTabK (tgt := 74) (z := 9) hx hb dX3_rowsFor_1 (by rw [b4]; decide) (by decide +kernel) ?_
    refine lv_aload_n hx hb dX3_rowsFor_74 rfl (lv_at hl 0 rfl) ?_
    refine lv_iload_n hx hb dX3_rowsFor_75 rfl (lv_at hl 3 rfl) ?_
    refine xR_i (va_runV (As := [.int b]) (rest := []) ⟨hx, hb, hml, hown, hts⟩ (c_X3_rowsOf l w c t r s b ht) (cwV 1 hts gX3_rowsFor_X3_rowsOf rfl rfl rfl dv_X3_rowsOf ⟨Nat.le_of_ble_eq_true rfl, Nat.le_of_ble_eq_true rfl⟩) (wPreV hP hK (ci := 4) (q0 := 5) rfl rfl) rfl rfl hl.1 rfl (lv_room (Nat.le_of_ble_eq_true rfl)) dX3_rowsFor_76 ⟨Nat.zero_le _, Nat.zero_le _⟩) ?_
    refine lv_iconst (v := 1) hx hb dX3_rowsFor_79 (by decide) ?_
    refine lv_iadd hx hb dX3_rowsFor_80 ?_
    exact xR_iret hx hb hr hlk  (Eq.trans (Eq.trans (Eq.trans (Eq.trans rfl (if_neg b1)) (if_neg b2)) (if_neg b3)) (if_pos b4)) dX3_rowsFor_81
  by_cases b5 : kd = (10 : Int32)
  ·
    refine xTabK (tgt := 82) (z := 10) hx hb dX3_rowsFor_1 (by rw [b5]; decide) (by decide +kernel) ?_
    refine lv_aload_n hx hb dX3_rowsFor_82 rfl (lv_at hl 0 rfl) ?_
    refine lv_aload_n hx hb dX3_rowsFor_83 rfl (lv_at hl 0 rfl) ?_
    refine lv_iload_n hx hb dX3_rowsFor_84 rfl (lv_at hl 3 rfl) ?_
    refine xR_i (va_runV (As := [.int b]) (rest := [.ref (w.2.2 5)]) ⟨hx, hb, hml, hown, hts⟩ (c_X3_firstOf l w c t r s b ht) (cwV 1 hts gX3_rowsFor_X3_firstOf rfl rfl rfl dv_X3_firstOf ⟨Nat.le_of_ble_eq_true rfl, Nat.le_of_ble_eq_true rfl⟩) (wPreV hP hK (ci := 4) (q0 := 5) rfl rfl) rfl rfl hl.1 rfl (lv_room (Nat.le_of_ble_eq_true rfl)) dX3_rowsFor_85 ⟨Nat.zero_le _, Nat.zero_le _⟩) ?_
    refine xR_i (va_runV (As := [.int (G_X3_firstOf t b)]) (rest := []) ⟨hx, hb, hml, hown, hts⟩ (c_X3_rowsOf l w c t r s (G_X3_firstOf t b) ht) (cwV 1 hts gX3_rowsFor_X3_rowsOf rfl rfl rfl dv_X3_rowsOf ⟨Nat.le_of_ble_eq_true rfl, Nat.le_of_ble_eq_true rfl⟩) (wPreV hP hK (ci := 4) (q0 := 5) rfl rfl) rfl rfl hl.1 rfl (lv_room (Nat.le_of_ble_eq_true rfl)) dX3_rowsFor_88 ⟨Nat.zero_le _, Nat.zero_le _⟩) ?_
    refine lv_aload_n hx hb dX3_rowsFor_91 rfl (lv_at hl 0 rfl) ?_
    refine lv_aload_n hx hb dX3_rowsFor_92 rfl (lv_at hl 0 rfl) ?_
    refine lv_iload_n hx hb dX3_rowsFor_93 rfl (lv_at hl 3 rfl) ?_
    refine xR_i (va_runV (As := [.int b]) (rest := [.ref (w.2.2 5), .int (G_X3_rowsOf t (G_X3_firstOf t b))]) ⟨hx, hb, hml, hown, hts⟩ (c_X3_secondOf l w c t r s b ht) (cwV 1 hts gX3_rowsFor_X3_secondOf rfl rfl rfl dv_X3_secondOf ⟨Nat.le_of_ble_eq_true rfl, Nat.le_of_ble_eq_true rfl⟩) (wPreV hP hK (ci := 4) (q0 := 5) rfl rfl) rfl rfl hl.1 rfl (lv_room (Nat.le_of_ble_eq_true rfl)) dX3_rowsFor_94 ⟨Nat.zero_le _, Nat.zero_le _⟩) ?_
    refine xR_i (va_runV (As := [.int (G_X3_secondOf t b)]) (rest := [.int (G_X3_rowsOf t (G_X3_firstOf t b))]) ⟨hx, hb, hml, hown, hts⟩ (c_X3_rowsOf l w c t r s (G_X3_secondOf t b) ht) (cwV 1 hts gX3_rowsFor_X3_rowsOf rfl rfl rfl dv_X3_rowsOf ⟨Nat.le_of_ble_eq_true rfl, Nat.le_of_ble_eq_true rfl⟩) (wPreV hP hK (ci := 4) (q0 := 5) rfl rfl) rfl rfl hl.1 rfl (lv_room (Nat.le_of_ble_eq_true rfl)) dX3_rowsFor_97 ⟨Nat.zero_le _, Nat.zero_le _⟩) ?_
    refine lv_iadd hx hb dX3_rowsFor_100 ?_
    refine lv_iconst (v := 1) hx hb dX3_rowsFor_101 (by decide) ?_
    refine lv_iadd hx hb dX3_rowsFor_102 ?_
    exact xR_iret hx hb hr hlk  (Eq.trans (Eq.trans (Eq.trans (Eq.trans (Eq.trans rfl (if_neg b1)) (if_neg b2)) (if_neg b3)) (if_neg b4)) (if_pos b5)) dX3_rowsFor_103
  by_cases b6 : kd = (11 : Int32)
  ·
    refine xTabK (tgt := 104) (z := 11) hx hb dX3_rowsFor_1 (by rw [b6]; decide) (by decide +kernel) ?_
    refine lv_aload_n hx hb dX3_rowsFor_104 rfl (lv_at hl 0 rfl) ?_
    refine lv_iload_n hx hb dX3_rowsFor_105 rfl (lv_at hl 2 rfl) ?_
    refine xR_i (va_runV (As := [.int a]) (rest := []) ⟨hx, hb, hml, hown, hts⟩ (c_X3_rowsAlone l w c t r s a ht) (cwV 1 hts gX3_rowsFor_X3_rowsAlone rfl rfl rfl dv_X3_rowsAlone ⟨Nat.le_of_ble_eq_true rfl, Nat.le_of_ble_eq_true rfl⟩) (wPreV hP hK (ci := 4) (q0 := 5) rfl rfl) rfl rfl hl.1 rfl (lv_room (Nat.le_of_ble_eq_true rfl)) dX3_rowsFor_106 ⟨Nat.zero_le _, Nat.zero_le _⟩) ?_
    refine lv_aload_n hx hb dX3_rowsFor_109 rfl (lv_at hl 0 rfl) ?_
    refine lv_iload_n hx hb dX3_rowsFor_110 rfl (lv_at hl 3 rfl) ?_
    refine xR_i (va_runV (As := [.int b]) (rest := [.int (G_X3_rowsAlone t a)]) ⟨hx, hb, hml, hown, hts⟩ (c_X3_rowsAlone l w c t r s b ht) (cwV 1 hts gX3_rowsFor_X3_rowsAlone rfl rfl rfl dv_X3_rowsAlone ⟨Nat.le_of_ble_eq_true rfl, Nat.le_of_ble_eq_true rfl⟩) (wPreV hP hK (ci := 4) (q0 := 5) rfl rfl) rfl rfl hl.1 rfl (lv_room (Nat.le_of_ble_eq_true rfl)) dX3_rowsFor_111 ⟨Nat.zero_le _, Nat.zero_le _⟩) ?_
    refine lv_iadd hx hb dX3_rowsFor_114 ?_
    exact xR_iret hx hb hr hlk  (Eq.trans (Eq.trans (Eq.trans (Eq.trans (Eq.trans (Eq.trans rfl (if_neg b1)) (if_neg b2)) (if_neg b3)) (if_neg b4)) (if_neg b5)) (if_pos b6)) dX3_rowsFor_115
  by_cases b7 : kd = (12 : Int32)
  ·
    refine xTabK (tgt := 116) (z := 12) hx hb dX3_rowsFor_1 (by rw [b7]; decide) (by decide +kernel) ?_
    refine lv_aload_n hx hb dX3_rowsFor_116 rfl (lv_at hl 0 rfl) ?_
    refine lv_iload_n hx hb dX3_rowsFor_117 rfl (lv_at hl 2 rfl) ?_
    refine xR_i (va_runV (As := [.int a]) (rest := []) ⟨hx, hb, hml, hown, hts⟩ (c_X3_rowsOf l w c t r s a ht) (cwV 1 hts gX3_rowsFor_X3_rowsOf rfl rfl rfl dv_X3_rowsOf ⟨Nat.le_of_ble_eq_true rfl, Nat.le_of_ble_eq_true rfl⟩) (wPreV hP hK (ci := 4) (q0 := 5) rfl rfl) rfl rfl hl.1 rfl (lv_room (Nat.le_of_ble_eq_true rfl)) dX3_rowsFor_118 ⟨Nat.zero_le _, Nat.zero_le _⟩) ?_
    refine lv_iconst (v := 1) hx hb dX3_rowsFor_121 (by decide) ?_
    refine lv_iadd hx hb dX3_rowsFor_122 ?_
    refine lv_aload_n hx hb dX3_rowsFor_123 rfl (lv_at hl 0 rfl) ?_
    refine lv_iload_n hx hb dX3_rowsFor_124 rfl (lv_at hl 3 rfl) ?_
    refine xR_i (va_runV (As := [.int b]) (rest := [.int ((G_X3_rowsOf t a) + (1 : Int32))]) ⟨hx, hb, hml, hown, hts⟩ (c_X3_rowsAlone l w c t r s b ht) (cwV 1 hts gX3_rowsFor_X3_rowsAlone rfl rfl rfl dv_X3_rowsAlone ⟨Nat.le_of_ble_eq_true rfl, Nat.le_of_ble_eq_true rfl⟩) (wPreV hP hK (ci := 4) (q0 := 5) rfl rfl) rfl rfl hl.1 rfl (lv_room (Nat.le_of_ble_eq_true rfl)) dX3_rowsFor_125 ⟨Nat.zero_le _, Nat.zero_le _⟩) ?_
    refine lv_iadd hx hb dX3_rowsFor_128 ?_
    exact xR_iret hx hb hr hlk  (Eq.trans (Eq.trans (Eq.trans (Eq.trans (Eq.trans (Eq.trans (Eq.trans rfl (if_neg b1)) (if_neg b2)) (if_neg b3)) (if_neg b4)) (if_neg b5)) (if_neg b6)) (if_pos b7)) dX3_rowsFor_129
  by_cases b8 : kd = (13 : Int32)
  ·
    refine xTabK (tgt := 130) (z := 13) hx hb dX3_rowsFor_1 (by rw [b8]; decide) (by decide +kernel) ?_
    refine lv_aload_n hx hb dX3_rowsFor_130 rfl (lv_at hl 0 rfl) ?_
    refine lv_iload_n hx hb dX3_rowsFor_131 rfl (lv_at hl 2 rfl) ?_
    refine xR_i (va_runV (As := [.int a]) (rest := []) ⟨hx, hb, hml, hown, hts⟩ (c_X3_rowsOf l w c t r s a ht) (cwV 1 hts gX3_rowsFor_X3_rowsOf rfl rfl rfl dv_X3_rowsOf ⟨Nat.le_of_ble_eq_true rfl, Nat.le_of_ble_eq_true rfl⟩) (wPreV hP hK (ci := 4) (q0 := 5) rfl rfl) rfl rfl hl.1 rfl (lv_room (Nat.le_of_ble_eq_true rfl)) dX3_rowsFor_132 ⟨Nat.zero_le _, Nat.zero_le _⟩) ?_
    refine lv_iconst (v := 2) hx hb dX3_rowsFor_135 (by decide) ?_
    refine lv_iadd hx hb dX3_rowsFor_136 ?_
    refine lv_aload_n hx hb dX3_rowsFor_137 rfl (lv_at hl 0 rfl) ?_
    refine lv_iload_n hx hb dX3_rowsFor_138 rfl (lv_at hl 3 rfl) ?_
    refine xR_i (va_runV (As := [.int b]) (rest := [.int ((G_X3_rowsOf t a) + (2 : Int32))]) ⟨hx, hb, hml, hown, hts⟩ (c_X3_rowsAlone l w c t r s b ht) (cwV 1 hts gX3_rowsFor_X3_rowsAlone rfl rfl rfl dv_X3_rowsAlone ⟨Nat.le_of_ble_eq_true rfl, Nat.le_of_ble_eq_true rfl⟩) (wPreV hP hK (ci := 4) (q0 := 5) rfl rfl) rfl rfl hl.1 rfl (lv_room (Nat.le_of_ble_eq_true rfl)) dX3_rowsFor_139 ⟨Nat.zero_le _, Nat.zero_le _⟩) ?_
    refine lv_iadd hx hb dX3_rowsFor_142 ?_
    exact xR_iret hx hb hr hlk  (Eq.trans (Eq.trans (Eq.trans (Eq.trans (Eq.trans (Eq.trans (Eq.trans (Eq.trans rfl (if_neg b1)) (if_neg b2)) (if_neg b3)) (if_neg b4)) (if_neg b5)) (if_neg b6)) (if_neg b7)) (if_pos b8)) dX3_rowsFor_143
  refine xTabD (tgt := 144) (exc := [0, 1, 2, 9, 10, 11, 12, 13]) hx hb dX3_rowsFor_1 (xCons (lv_neT b1 (by decide)) (xCons (lv_neT b2 (by decide)) (xCons (lv_neT b3 (by decide)) (xCons (lv_neT b4 (by decide)) (xCons (lv_neT b5 (by decide)) (xCons (lv_neT b6 (by decide)) (xCons (lv_neT b7 (by decide)) (xCons (lv_neT b8 (by decide)) xNil)))))))) (by decide) (by decide +kernel) ?_
  refine lv_aload_n hx hb dX3_rowsFor_144 rfl (lv_at hl 0 rfl) ?_
  refine lv_iload_n hx hb dX3_rowsFor_145 rfl (lv_at hl 2 rfl) ?_
  refine xR_i (va_runV (As := [.int a]) (rest := []) ⟨hx, hb, hml, hown, hts⟩ (c_X3_rowsOf l w c t r s a ht) (cwV 1 hts gX3_rowsFor_X3_rowsOf rfl rfl rfl dv_X3_rowsOf ⟨Nat.le_of_ble_eq_true rfl, Nat.le_of_ble_eq_true rfl⟩) (wPreV hP hK (ci := 4) (q0 := 5) rfl rfl) rfl rfl hl.1 rfl (lv_room (Nat.le_of_ble_eq_true rfl)) dX3_rowsFor_146 ⟨Nat.zero_le _, Nat.zero_le _⟩) ?_
  refine lv_aload_n hx hb dX3_rowsFor_149 rfl (lv_at hl 0 rfl) ?_
  refine lv_iload_n hx hb dX3_rowsFor_150 rfl (lv_at hl 3 rfl) ?_
  refine xR_i (va_runV (As := [.int b]) (rest := [.int (G_X3_rowsOf t a)]) ⟨hx, hb, hml, hown, hts⟩ (c_X3_rowsOf l w c t r s b ht) (cwV 1 hts gX3_rowsFor_X3_rowsOf rfl rfl rfl dv_X3_rowsOf ⟨Nat.le_of_ble_eq_true rfl, Nat.le_of_ble_eq_true rfl⟩) (wPreV hP hK (ci := 4) (q0 := 5) rfl rfl) rfl rfl hl.1 rfl (lv_room (Nat.le_of_ble_eq_true rfl)) dX3_rowsFor_151 ⟨Nat.zero_le _, Nat.zero_le _⟩) ?_
  refine lv_iadd hx hb dX3_rowsFor_154 ?_
  refine lv_iconst (v := 1) hx hb dX3_rowsFor_155 (by decide) ?_
  refine lv_iadd hx hb dX3_rowsFor_156 ?_
  exact xR_iret hx hb hr hlk  (Eq.trans (Eq.trans (Eq.trans (Eq.trans (Eq.trans (Eq.trans (Eq.trans (Eq.trans rfl (if_neg b1)) (if_neg b2)) (if_neg b3)) (if_neg b4)) (if_neg b5)) (if_neg b6)) (if_neg b7)) (if_neg b8)) dX3_rowsFor_157
set_option maxRecDepth 20000 in
theorem nw_X3_fold_84 : Cond.methodLinkNest RX3 84 yX4_isReckoned "ProcedureCode" ∈ nws := by decide +kernel
set_option maxRecDepth 20000 in
theorem mw_X3_fold_iX4_isReckoned : Cond.initialized RX4 ∈ wsX3_fold := by decide +kernel
set_option maxRecDepth 20000 in
theorem ds_X4_isReckoned : yX4_isReckoned.cls ≠ "java/lang/invoke/MethodHandle" ∧ yX4_isReckoned.cls ≠ "java/lang/invoke/VarHandle" ∧ (parseMethodDescriptor yX4_isReckoned.desc).map (fun d => d.parameters.length) = some 1 := by decide +kernel
set_option maxRecDepth 20000 in
theorem mw_X3_fold_stX4_isReckoned : Cond.static yX4_isReckoned ∈ wsX3_fold := by decide +kernel
set_option maxRecDepth 20000 in
theorem dv_X3_isFolded : yX3_isFolded.cls = RX3 ∧ yX3_isFolded.cls ≠ "java/lang/invoke/MethodHandle" ∧ yX3_isFolded.cls ≠ "java/lang/invoke/VarHandle" ∧ (parseMethodDescriptor yX3_isFolded.desc).map (fun d => d.parameters.length) = some 1 := by decide +kernel
set_option maxRecDepth 20000 in
theorem iw_X3_fold_X3 : ∀ w ∈ wsX30, w ∈ wsX3_fold := by decide +kernel
set_option maxRecDepth 20000 in
theorem fl_X3_fold_27 : Cond.fieldLink RX3 27 "ProcedureCode$Tree" "folded" "[Z" ∈ wsX3_fold := by decide +kernel
set_option maxRecDepth 20000 in
theorem fl_X3_fold_31 : Cond.fieldLink RX3 31 "ProcedureCode$Tree" "numbers" "[J" ∈ wsX3_fold := by decide +kernel
set_option maxRecDepth 20000 in
theorem dv_X3_foldedOf : yX3_foldedOf.cls = RX3 ∧ yX3_foldedOf.cls ≠ "java/lang/invoke/MethodHandle" ∧ yX3_foldedOf.cls ≠ "java/lang/invoke/VarHandle" ∧ (parseMethodDescriptor yX3_foldedOf.desc).map (fun d => d.parameters.length) = some 1 := by decide +kernel
set_option maxRecDepth 20000 in
theorem nw_X3_fold_94 : Cond.methodLinkNest RX3 94 yX4_reckon "ProcedureCode" ∈ nws := by decide +kernel
set_option maxRecDepth 20000 in
theorem mw_X3_fold_iX4_reckon : Cond.initialized RX4 ∈ wsX3_fold := by decide +kernel
set_option maxRecDepth 20000 in
theorem mw_X3_fold_stX4_reckon : Cond.static yX4_reckon ∈ wsX3_fold := by decide +kernel
def G_X3_fold (t : TS) (n : Int32) (kd : Int32) (a : Int32) (b : Int32) : TS := if n < (1 : Int32) then (t) else (if n ≤ (200 : Int32) then (if kd = 0 then ((t.1, t.2.1, t.2.2.1, t.2.2.2.1, t.2.2.2.2.1, t.2.2.2.2.2.1, upd t.2.2.2.2.2.2.1 n.toNatClampNeg (vp_nar .boolean (1 : Int32)), vp_updL t.2.2.2.2.2.2.2 n.toNatClampNeg a.toInt64)) else (if (G_X4_isReckoned kd) = 0 then (t) else (if (G_X3_isFolded t a) = 0 then (t) else (if (G_X3_isFolded t b) = 0 then (t) else (if kd = (6 : Int32) then (if (lg_cmp (G_X3_foldedOf t b) (0 : Int64)) = 0 then ((t.1, t.2.1, t.2.2.1, t.2.2.2.1, t.2.2.2.2.1, t.2.2.2.2.2.1, upd t.2.2.2.2.2.2.1 n.toNatClampNeg (vp_nar .boolean (0 : Int32)), vp_updL t.2.2.2.2.2.2.2 n.toNatClampNeg (G_X4_reckon kd (G_X3_foldedOf (t.1, t.2.1, t.2.2.1, t.2.2.2.1, t.2.2.2.2.1, t.2.2.2.2.2.1, upd t.2.2.2.2.2.2.1 n.toNatClampNeg (vp_nar .boolean (0 : Int32)), t.2.2.2.2.2.2.2) a) (G_X3_foldedOf (t.1, t.2.1, t.2.2.1, t.2.2.2.1, t.2.2.2.2.1, t.2.2.2.2.2.1, upd t.2.2.2.2.2.2.1 n.toNatClampNeg (vp_nar .boolean (0 : Int32)), t.2.2.2.2.2.2.2) b)))) else ((t.1, t.2.1, t.2.2.1, t.2.2.2.1, t.2.2.2.2.1, t.2.2.2.2.2.1, upd t.2.2.2.2.2.2.1 n.toNatClampNeg (vp_nar .boolean (1 : Int32)), vp_updL t.2.2.2.2.2.2.2 n.toNatClampNeg (G_X4_reckon kd (G_X3_foldedOf (t.1, t.2.1, t.2.2.1, t.2.2.2.1, t.2.2.2.2.1, t.2.2.2.2.2.1, upd t.2.2.2.2.2.2.1 n.toNatClampNeg (vp_nar .boolean (1 : Int32)), t.2.2.2.2.2.2.2) a) (G_X3_foldedOf (t.1, t.2.1, t.2.2.1, t.2.2.2.1, t.2.2.2.2.1, t.2.2.2.2.2.1, upd t.2.2.2.2.2.2.1 n.toNatClampNeg (vp_nar .boolean (1 : Int32)), t.2.2.2.2.2.2.2) b))))) else ((t.1, t.2.1, t.2.2.1, t.2.2.2.1, t.2.2.2.2.1, t.2.2.2.2.2.1, upd t.2.2.2.2.2.2.1 n.toNatClampNeg (vp_nar .boolean (1 : Int32)), vp_updL t.2.2.2.2.2.2.2 n.toNatClampNeg (G_X4_reckon kd (G_X3_foldedOf (t.1, t.2.1, t.2.2.1, t.2.2.2.1, t.2.2.2.2.1, t.2.2.2.2.2.1, upd t.2.2.2.2.2.2.1 n.toNatClampNeg (vp_nar .boolean (1 : Int32)), t.2.2.2.2.2.2.2) a) (G_X3_foldedOf (t.1, t.2.1, t.2.2.1, t.2.2.2.1, t.2.2.2.2.1, t.2.2.2.2.2.1, upd t.2.2.2.2.2.2.1 n.toNatClampNeg (vp_nar .boolean (1 : Int32)), t.2.2.2.2.2.2.2) b))))))))) else (t))
set_option maxHeartbeats 4000000 in
set_option maxRecDepth 100000 in
theorem c_X3_fold (l : Launch) (w : WG) (hA : wAp w 26) (c : CS) (t : TS) (r : RS) (s : Nat → SS) (n : Int32) (kd : Int32) (a : Int32) (b : Int32) (ht : okT t) : Met l yX3_fold wsX3_fold { frames := 2, cells := 0, slots := 0, locals := 42 } (va_Pc [.ref (w.2.2 5), .int n, .int kd, .int a, .int b] (wPK w (wC w c t r s))) (xM none (fun H => va_P w.1 vwCl (wC w c (G_X3_fold t n kd a b) r s) H) (wA w 26)) 0 0 (wA w 26) := by
  refine xOf (cc := cX3_fold) (maxL := 5) (ret := none) (lv := [(0, .ref (w.2.2 5)), (1, .int n), (2, .int kd), (3, .int a), (4, .int b)]) (by decide) rfl (Nat.le_of_ble_eq_true rfl) rfl ?_
  intro pP eE S mM below meth C hx hb hr hml hts hown hlk hnm hw ls hl
  obtain ⟨hP, hK⟩ := hw
  have hS : va_S (wA w 26) S.heap S.heap [] := va_S.rf
  have hP : va_P w.1 vwCl (wC w c t r s) S.heap := hP
  refine lv_iload_n hx hb dX3_fold_0 rfl (lv_at hl 1 rfl) ?_
  refine lv_iconst (v := 1) hx hb dX3_fold_1 (by decide) ?_
  refine lv_icmp_lt (tgt := 12) hx hb dX3_fold_2 (by decide) (fun b1 => ?_) (fun b1 => ?_)
  ·
    have e9 : G_X3_fold t n kd a b = t := Eq.trans rfl (if_pos b1)
    exact xM_vret hx hb hr hlk  hS  (by rw [e9]; exact hP) dX3_fold_12
  ·
    refine lv_iload_n hx hb dX3_fold_5 rfl (lv_at hl 1 rfl) ?_
    refine lv_sipush (v := 200) hx hb dX3_fold_6 (by decide) ?_
    refine lv_icmp_le (tgt := 13) hx hb dX3_fold_9 (by decide) (fun b2 => ?_) (fun b2 => ?_)
    ·
      refine lv_iload_n hx hb dX3_fold_13 rfl (lv_at hl 2 rfl) ?_
      refine lv_if_ne (tgt := 35) hx hb dX3_fold_14 (by decide) (fun b3 => ?_) (fun b3 => ?_)
      ·
        refine lv_iload_n hx hb dX3_fold_35 rfl (lv_at hl 2 rfl) ?_
        refine xR_i (va_runSN (As := [.int kd]) (rest := []) ⟨hx, hb, hml, hown, hts⟩ (c_X4_isReckoned l w c t r s kd ) ⟨va_cnB 1 hts gX3_fold_X4_isReckoned_n84 rfl rfl rfl (hK.2 _ nw_X3_fold_84) (hts _ mw_X3_fold_iX4_isReckoned) ds_X4_isReckoned ⟨Nat.le_of_ble_eq_true rfl, Nat.le_of_ble_eq_true rfl⟩, hts _ mw_X3_fold_stX4_isReckoned, trivial⟩ (wPre hP hK) rfl rfl hl.1 rfl (lv_room (Nat.le_of_ble_eq_true rfl)) dX3_fold_36 ⟨Nat.zero_le _, Nat.zero_le _⟩) ?_
        refine lv_if_eq (tgt := 108) hx hb dX3_fold_39 (by decide) (fun b4 => ?_) (fun b4 => ?_)
        ·
          have e9 : G_X3_fold t n kd a b = t := Eq.trans (Eq.trans (Eq.trans (Eq.trans rfl (if_neg b1)) (if_pos b2)) (if_neg b3)) (if_pos b4)
          exact xM_vret hx hb hr hlk  hS  (by rw [e9]; exact hP) dX3_fold_108
        ·
          refine lv_aload_n hx hb dX3_fold_42 rfl (lv_at hl 0 rfl) ?_
          refine lv_iload_n hx hb dX3_fold_43 rfl (lv_at hl 3 rfl) ?_
          refine xR_i (va_runV (As := [.int a]) (rest := []) ⟨hx, hb, hml, hown, hts⟩ (c_X3_isFolded l w c t r s a ht) (cwV 1 hts gX3_fold_X3_isFolded rfl rfl rfl dv_X3_isFolded ⟨Nat.le_of_ble_eq_true rfl, Nat.le_of_ble_eq_true rfl⟩) (wPreV hP hK (ci := 4) (q0 := 5) rfl rfl) rfl rfl hl.1 rfl (lv_room (Nat.le_of_ble_eq_true rfl)) dX3_fold_44 ⟨Nat.zero_le _, Nat.zero_le _⟩) ?_
          refine lv_if_eq (tgt := 108) hx hb dX3_fold_47 (by decide) (fun b5 => ?_) (fun b5 => ?_)
          ·
            have e9 : G_X3_fold t n kd a b = t := Eq.trans (Eq.trans (Eq.trans (Eq.trans (Eq.trans rfl (if_neg b1)) (if_pos b2)) (if_neg b3)) (if_neg b4)) (if_pos b5)
            exact xM_vret hx hb hr hlk  hS  (by rw [e9]; exact hP) dX3_fold_108
          ·
            refine lv_aload_n hx hb dX3_fold_50 rfl (lv_at hl 0 rfl) ?_
            refine lv_iload hx hb dX3_fold_51 (lv_at hl 4 rfl) ?_
            refine xR_i (va_runV (As := [.int b]) (rest := []) ⟨hx, hb, hml, hown, hts⟩ (c_X3_isFolded l w c t r s b ht) (cwV 1 hts gX3_fold_X3_isFolded rfl rfl rfl dv_X3_isFolded ⟨Nat.le_of_ble_eq_true rfl, Nat.le_of_ble_eq_true rfl⟩) (wPreV hP hK (ci := 4) (q0 := 5) rfl rfl) rfl rfl hl.1 rfl (lv_room (Nat.le_of_ble_eq_true rfl)) dX3_fold_53 ⟨Nat.zero_le _, Nat.zero_le _⟩) ?_
            refine lv_if_eq (tgt := 108) hx hb dX3_fold_56 (by decide) (fun b6 => ?_) (fun b6 => ?_)
            ·
              have e9 : G_X3_fold t n kd a b = t := Eq.trans (Eq.trans (Eq.trans (Eq.trans (Eq.trans (Eq.trans rfl (if_neg b1)) (if_pos b2)) (if_neg b3)) (if_neg b4)) (if_neg b5)) (if_pos b6)
              exact xM_vret hx hb hr hlk  hS  (by rw [e9]; exact hP) dX3_fold_108
            ·
              refine lv_aload_n hx hb dX3_fold_59 rfl (lv_at hl 0 rfl) ?_
              refine va_get (D := w.1) (ci := 4) (v := .ref (w.2.2 11)) (C := RX3) (T := TX3) (N := 9) hx hb hts iw_X3_fold_X3 hown hK.1 hP 5 rfl rfl 6 (by decide) (hts _ fl_X3_fold_27) (fun _ h9 => h9) rfl dX3_fold_60 ?_
              refine lv_iload_n hx hb dX3_fold_63 rfl (lv_at hl 1 rfl) ?_
              refine lv_iload_n hx hb dX3_fold_64 rfl (lv_at hl 2 rfl) ?_
              refine lv_bipush (v := 6) hx hb dX3_fold_65 (by decide) ?_
              refine lv_icmp_ne (tgt := 81) hx hb dX3_fold_67 (by decide) (fun b7 => ?_) (fun b7 => ?_)
              ·
                refine lv_iconst (v := 1) hx hb dX3_fold_81 (by decide) ?_
                refine lv_goto (tgt := 86) hx hb dX3_fold_82 (by decide) ?_
                refine va_zast hx hb hK.1 hP (wC_D hA) hS 11 2 rfl rfl (okX3_n b1 b2) dX3_fold_86 (fun H locs hP _ hS => ?_)
                have hP : va_P w.1 vwCl (wC w c (t.1, t.2.1, t.2.2.1, t.2.2.2.1, t.2.2.2.2.1, t.2.2.2.2.2.1, upd t.2.2.2.2.2.2.1 n.toNatClampNeg (vp_nar .boolean (1 : Int32)), t.2.2.2.2.2.2.2) r s) H := hP
                refine lv_aload_n hx hb dX3_fold_87 rfl (lv_at hl 0 rfl) ?_
                refine va_get (D := w.1) (ci := 4) (v := .ref (w.2.2 12)) (C := RX3) (T := TX3) (N := 9) hx hb hts iw_X3_fold_X3 hown hK.1 hP 5 rfl rfl 7 (by decide) (hts _ fl_X3_fold_31) (fun _ h9 => h9) rfl dX3_fold_88 ?_
                refine lv_iload_n hx hb dX3_fold_91 rfl (lv_at hl 1 rfl) ?_
                refine lv_iload_n hx hb dX3_fold_92 rfl (lv_at hl 2 rfl) ?_
                refine lv_aload_n hx hb dX3_fold_93 rfl (lv_at hl 0 rfl) ?_
                refine lv_iload_n hx hb dX3_fold_94 rfl (lv_at hl 3 rfl) ?_
                refine xR_l (va_runV (As := [.int a]) (rest := [.int kd, .int n, .ref (w.2.2 12)]) ⟨hx, hb, hml, hown, hts⟩ (c_X3_foldedOf l w c (t.1, t.2.1, t.2.2.1, t.2.2.2.1, t.2.2.2.2.1, t.2.2.2.2.2.1, upd t.2.2.2.2.2.2.1 n.toNatClampNeg (vp_nar .boolean (1 : Int32)), t.2.2.2.2.2.2.2) r s a ht) (cwV 1 hts gX3_fold_X3_foldedOf rfl rfl rfl dv_X3_foldedOf ⟨Nat.le_of_ble_eq_true rfl, Nat.le_of_ble_eq_true rfl⟩) (wPreV hP hK (ci := 4) (q0 := 5) rfl rfl) rfl rfl hl.1 rfl (lv_room (Nat.le_of_ble_eq_true rfl)) dX3_fold_95 ⟨Nat.zero_le _, Nat.zero_le _⟩) ?_
                refine lv_aload_n hx hb dX3_fold_98 rfl (lv_at hl 0 rfl) ?_
                refine lv_iload hx hb dX3_fold_99 (lv_at hl 4 rfl) ?_
                refine xR_l (va_runV (As := [.int b]) (rest := [.long (G_X3_foldedOf (t.1, t.2.1, t.2.2.1, t.2.2.2.1, t.2.2.2.2.1, t.2.2.2.2.2.1, upd t.2.2.2.2.2.2.1 n.toNatClampNeg (vp_nar .boolean (1 : Int32)), t.2.2.2.2.2.2.2) a), .int kd, .int n, .ref (w.2.2 12)]) ⟨hx, hb, hml, hown, hts⟩ (c_X3_foldedOf l w c (t.1, t.2.1, t.2.2.1, t.2.2.2.1, t.2.2.2.2.1, t.2.2.2.2.2.1, upd t.2.2.2.2.2.2.1 n.toNatClampNeg (vp_nar .boolean (1 : Int32)), t.2.2.2.2.2.2.2) r s b ht) (cwV 1 hts gX3_fold_X3_foldedOf rfl rfl rfl dv_X3_foldedOf ⟨Nat.le_of_ble_eq_true rfl, Nat.le_of_ble_eq_true rfl⟩) (wPreV hP hK (ci := 4) (q0 := 5) rfl rfl) rfl rfl hl.1 rfl (lv_room (Nat.le_of_ble_eq_true rfl)) dX3_fold_101 ⟨Nat.zero_le _, Nat.zero_le _⟩) ?_
                refine xR_l (va_runSN (As := [.int kd, .long (G_X3_foldedOf (t.1, t.2.1, t.2.2.1, t.2.2.2.1, t.2.2.2.2.1, t.2.2.2.2.2.1, upd t.2.2.2.2.2.2.1 n.toNatClampNeg (vp_nar .boolean (1 : Int32)), t.2.2.2.2.2.2.2) a), .long (G_X3_foldedOf (t.1, t.2.1, t.2.2.1, t.2.2.2.1, t.2.2.2.2.1, t.2.2.2.2.2.1, upd t.2.2.2.2.2.2.1 n.toNatClampNeg (vp_nar .boolean (1 : Int32)), t.2.2.2.2.2.2.2) b)]) (rest := [.int n, .ref (w.2.2 12)]) ⟨hx, hb, hml, hown, hts⟩ (k_X4_reckon l w c (t.1, t.2.1, t.2.2.1, t.2.2.2.1, t.2.2.2.2.1, t.2.2.2.2.2.1, upd t.2.2.2.2.2.2.1 n.toNatClampNeg (vp_nar .boolean (1 : Int32)), t.2.2.2.2.2.2.2) r s kd (G_X3_foldedOf (t.1, t.2.1, t.2.2.1, t.2.2.2.1, t.2.2.2.2.1, t.2.2.2.2.2.1, upd t.2.2.2.2.2.2.1 n.toNatClampNeg (vp_nar .boolean (1 : Int32)), t.2.2.2.2.2.2.2) a) (G_X3_foldedOf (t.1, t.2.1, t.2.2.1, t.2.2.2.1, t.2.2.2.2.1, t.2.2.2.2.2.1, upd t.2.2.2.2.2.2.1 n.toNatClampNeg (vp_nar .boolean (1 : Int32)), t.2.2.2.2.2.2.2) b) ) ⟨va_cnB 3 hts gX3_fold_X4_reckon_n94 rfl rfl rfl (hK.2 _ nw_X3_fold_94) (hts _ mw_X3_fold_iX4_reckon) ds_X4_reckon ⟨Nat.le_of_ble_eq_true rfl, Nat.le_of_ble_eq_true rfl⟩, hts _ mw_X3_fold_stX4_reckon, trivial⟩ (wPre hP hK) rfl rfl hl.1 rfl (lv_room (Nat.le_of_ble_eq_true rfl)) dX3_fold_104 ⟨Nat.zero_le _, Nat.zero_le _⟩) ?_
                refine va_last hx hb hK.1 hP (wC_D hA) hS 12 3 rfl rfl (okX3_n b1 b2) dX3_fold_107 (fun H locs hP _ hS => ?_)
                have hP : va_P w.1 vwCl (wC w c (t.1, t.2.1, t.2.2.1, t.2.2.2.1, t.2.2.2.2.1, t.2.2.2.2.2.1, upd t.2.2.2.2.2.2.1 n.toNatClampNeg (vp_nar .boolean (1 : Int32)), vp_updL t.2.2.2.2.2.2.2 n.toNatClampNeg (G_X4_reckon kd (G_X3_foldedOf (t.1, t.2.1, t.2.2.1, t.2.2.2.1, t.2.2.2.2.1, t.2.2.2.2.2.1, upd t.2.2.2.2.2.2.1 n.toNatClampNeg (vp_nar .boolean (1 : Int32)), t.2.2.2.2.2.2.2) a) (G_X3_foldedOf (t.1, t.2.1, t.2.2.1, t.2.2.2.1, t.2.2.2.2.1, t.2.2.2.2.2.1, upd t.2.2.2.2.2.2.1 n.toNatClampNeg (vp_nar .boolean (1 : Int32)), t.2.2.2.2.2.2.2) b))) r s) H := hP
                have e9 : G_X3_fold t n kd a b = (t.1, t.2.1, t.2.2.1, t.2.2.2.1, t.2.2.2.2.1, t.2.2.2.2.2.1, upd t.2.2.2.2.2.2.1 n.toNatClampNeg (vp_nar .boolean (1 : Int32)), vp_updL t.2.2.2.2.2.2.2 n.toNatClampNeg (G_X4_reckon kd (G_X3_foldedOf (t.1, t.2.1, t.2.2.1, t.2.2.2.1, t.2.2.2.2.1, t.2.2.2.2.2.1, upd t.2.2.2.2.2.2.1 n.toNatClampNeg (vp_nar .boolean (1 : Int32)), t.2.2.2.2.2.2.2) a) (G_X3_foldedOf (t.1, t.2.1, t.2.2.1, t.2.2.2.1, t.2.2.2.2.1, t.2.2.2.2.2.1, upd t.2.2.2.2.2.2.1 n.toNatClampNeg (vp_nar .boolean (1 : Int32)), t.2.2.2.2.2.2.2) b))) := Eq.trans (Eq.trans (Eq.trans (Eq.trans (Eq.trans (Eq.trans (Eq.trans rfl (if_neg b1)) (if_pos b2)) (if_neg b3)) (if_neg b4)) (if_neg b5)) (if_neg b6)) (if_neg b7)
                exact xM_vret hx hb hr hlk  hS  (by rw [e9]; exact hP) dX3_fold_108
              ·
                refine lv_aload_n hx hb dX3_fold_70 rfl (lv_at hl 0 rfl) ?_
                refine lv_iload hx hb dX3_fold_71 (lv_at hl 4 rfl) ?_
                refine xR_l (va_runV (As := [.int b]) (rest := [.int n, .ref (w.2.2 11)]) ⟨hx, hb, hml, hown, hts⟩ (c_X3_foldedOf l w c t r s b ht) (cwV 1 hts gX3_fold_X3_foldedOf rfl rfl rfl dv_X3_foldedOf ⟨Nat.le_of_ble_eq_true rfl, Nat.le_of_ble_eq_true rfl⟩) (wPreV hP hK (ci := 4) (q0 := 5) rfl rfl) rfl rfl hl.1 rfl (lv_room (Nat.le_of_ble_eq_true rfl)) dX3_fold_73 ⟨Nat.zero_le _, Nat.zero_le _⟩) ?_
                refine lv_lconst (v := 0) hx hb dX3_fold_76 (by decide) ?_
                refine W.lcmp hx hb dX3_fold_77 ?_
                refine lv_if_eq (tgt := 85) hx hb dX3_fold_78 (by decide) (fun b8 => ?_) (fun b8 => ?_)
                ·
                  refine lv_iconst (v := 0) hx hb dX3_fold_85 (by decide) ?_
                  refine va_zast hx hb hK.1 hP (wC_D hA) hS 11 2 rfl rfl (okX3_n b1 b2) dX3_fold_86 (fun H locs hP _ hS => ?_)
                  have hP : va_P w.1 vwCl (wC w c (t.1, t.2.1, t.2.2.1, t.2.2.2.1, t.2.2.2.2.1, t.2.2.2.2.2.1, upd t.2.2.2.2.2.2.1 n.toNatClampNeg (vp_nar .boolean (0 : Int32)), t.2.2.2.2.2.2.2) r s) H := hP
                  refine lv_aload_n hx hb dX3_fold_87 rfl (lv_at hl 0 rfl) ?_
                  refine va_get (D := w.1) (ci := 4) (v := .ref (w.2.2 12)) (C := RX3) (T := TX3) (N := 9) hx hb hts iw_X3_fold_X3 hown hK.1 hP 5 rfl rfl 7 (by decide) (hts _ fl_X3_fold_31) (fun _ h9 => h9) rfl dX3_fold_88 ?_
                  refine lv_iload_n hx hb dX3_fold_91 rfl (lv_at hl 1 rfl) ?_
                  refine lv_iload_n hx hb dX3_fold_92 rfl (lv_at hl 2 rfl) ?_
                  refine lv_aload_n hx hb dX3_fold_93 rfl (lv_at hl 0 rfl) ?_
                  refine lv_iload_n hx hb dX3_fold_94 rfl (lv_at hl 3 rfl) ?_
                  refine xR_l (va_runV (As := [.int a]) (rest := [.int kd, .int n, .ref (w.2.2 12)]) ⟨hx, hb, hml, hown, hts⟩ (c_X3_foldedOf l w c (t.1, t.2.1, t.2.2.1, t.2.2.2.1, t.2.2.2.2.1, t.2.2.2.2.2.1, upd t.2.2.2.2.2.2.1 n.toNatClampNeg (vp_nar .boolean (0 : Int32)), t.2.2.2.2.2.2.2) r s a ht) (cwV 1 hts gX3_fold_X3_foldedOf rfl rfl rfl dv_X3_foldedOf ⟨Nat.le_of_ble_eq_true rfl, Nat.le_of_ble_eq_true rfl⟩) (wPreV hP hK (ci := 4) (q0 := 5) rfl rfl) rfl rfl hl.1 rfl (lv_room (Nat.le_of_ble_eq_true rfl)) dX3_fold_95 ⟨Nat.zero_le _, Nat.zero_le _⟩) ?_
                  refine lv_aload_n hx hb dX3_fold_98 rfl (lv_at hl 0 rfl) ?_
                  refine lv_iload hx hb dX3_fold_99 (lv_at hl 4 rfl) ?_
                  refine xR_l (va_runV (As := [.int b]) (rest := [.long (G_X3_foldedOf (t.1, t.2.1, t.2.2.1, t.2.2.2.1, t.2.2.2.2.1, t.2.2.2.2.2.1, upd t.2.2.2.2.2.2.1 n.toNatClampNeg (vp_nar .boolean (0 : Int32)), t.2.2.2.2.2.2.2) a), .int kd, .int n, .ref (w.2.2 12)]) ⟨hx, hb, hml, hown, hts⟩ (c_X3_foldedOf l w c (t.1, t.2.1, t.2.2.1, t.2.2.2.1, t.2.2.2.2.1, t.2.2.2.2.2.1, upd t.2.2.2.2.2.2.1 n.toNatClampNeg (vp_nar .boolean (0 : Int32)), t.2.2.2.2.2.2.2) r s b ht) (cwV 1 hts gX3_fold_X3_foldedOf rfl rfl rfl dv_X3_foldedOf ⟨Nat.le_of_ble_eq_true rfl, Nat.le_of_ble_eq_true rfl⟩) (wPreV hP hK (ci := 4) (q0 := 5) rfl rfl) rfl rfl hl.1 rfl (lv_room (Nat.le_of_ble_eq_true rfl)) dX3_fold_101 ⟨Nat.zero_le _, Nat.zero_le _⟩) ?_
                  refine xR_l (va_runSN (As := [.int kd, .long (G_X3_foldedOf (t.1, t.2.1, t.2.2.1, t.2.2.2.1, t.2.2.2.2.1, t.2.2.2.2.2.1, upd t.2.2.2.2.2.2.1 n.toNatClampNeg (vp_nar .boolean (0 : Int32)), t.2.2.2.2.2.2.2) a), .long (G_X3_foldedOf (t.1, t.2.1, t.2.2.1, t.2.2.2.1, t.2.2.2.2.1, t.2.2.2.2.2.1, upd t.2.2.2.2.2.2.1 n.toNatClampNeg (vp_nar .boolean (0 : Int32)), t.2.2.2.2.2.2.2) b)]) (rest := [.int n, .ref (w.2.2 12)]) ⟨hx, hb, hml, hown, hts⟩ (k_X4_reckon l w c (t.1, t.2.1, t.2.2.1, t.2.2.2.1, t.2.2.2.2.1, t.2.2.2.2.2.1, upd t.2.2.2.2.2.2.1 n.toNatClampNeg (vp_nar .boolean (0 : Int32)), t.2.2.2.2.2.2.2) r s kd (G_X3_foldedOf (t.1, t.2.1, t.2.2.1, t.2.2.2.1, t.2.2.2.2.1, t.2.2.2.2.2.1, upd t.2.2.2.2.2.2.1 n.toNatClampNeg (vp_nar .boolean (0 : Int32)), t.2.2.2.2.2.2.2) a) (G_X3_foldedOf (t.1, t.2.1, t.2.2.1, t.2.2.2.1, t.2.2.2.2.1, t.2.2.2.2.2.1, upd t.2.2.2.2.2.2.1 n.toNatClampNeg (vp_nar .boolean (0 : Int32)), t.2.2.2.2.2.2.2) b) ) ⟨va_cnB 3 hts gX3_fold_X4_reckon_n94 rfl rfl rfl (hK.2 _ nw_X3_fold_94) (hts _ mw_X3_fold_iX4_reckon) ds_X4_reckon ⟨Nat.le_of_ble_eq_true rfl, Nat.le_of_ble_eq_true rfl⟩, hts _ mw_X3_fold_stX4_reckon, trivial⟩ (wPre hP hK) rfl rfl hl.1 rfl (lv_room (Nat.le_of_ble_eq_true rfl)) dX3_fold_104 ⟨Nat.zero_le _, Nat.zero_le _⟩) ?_
                  refine va_last hx hb hK.1 hP (wC_D hA) hS 12 3 rfl rfl (okX3_n b1 b2) dX3_fold_107 (fun H locs hP _ hS => ?_)
                  have hP : va_P w.1 vwCl (wC w c (t.1, t.2.1, t.2.2.1, t.2.2.2.1, t.2.2.2.2.1, t.2.2.2.2.2.1, upd t.2.2.2.2.2.2.1 n.toNatClampNeg (vp_nar .boolean (0 : Int32)), vp_updL t.2.2.2.2.2.2.2 n.toNatClampNeg (G_X4_reckon kd (G_X3_foldedOf (t.1, t.2.1, t.2.2.1, t.2.2.2.1, t.2.2.2.2.1, t.2.2.2.2.2.1, upd t.2.2.2.2.2.2.1 n.toNatClampNeg (vp_nar .boolean (0 : Int32)), t.2.2.2.2.2.2.2) a) (G_X3_foldedOf (t.1, t.2.1, t.2.2.1, t.2.2.2.1, t.2.2.2.2.1, t.2.2.2.2.2.1, upd t.2.2.2.2.2.2.1 n.toNatClampNeg (vp_nar .boolean (0 : Int32)), t.2.2.2.2.2.2.2) b))) r s) H := hP
                  have e9 : G_X3_fold t n kd a b = (t.1, t.2.1, t.2.2.1, t.2.2.2.1, t.2.2.2.2.1, t.2.2.2.2.2.1, upd t.2.2.2.2.2.2.1 n.toNatClampNeg (vp_nar .boolean (0 : Int32)), vp_updL t.2.2.2.2.2.2.2 n.toNatClampNeg (G_X4_reckon kd (G_X3_foldedOf (t.1, t.2.1, t.2.2.1, t.2.2.2.1, t.2.2.2.2.1, t.2.2.2.2.2.1, upd t.2.2.2.2.2.2.1 n.toNatClampNeg (vp_nar .boolean (0 : Int32)), t.2.2.2.2.2.2.2) a) (G_X3_foldedOf (t.1, t.2.1, t.2.2.1, t.2.2.2.1, t.2.2.2.2.1, t.2.2.2.2.2.1, upd t.2.2.2.2.2.2.1 n.toNatClampNeg (vp_nar .boolean (0 : Int32)), t.2.2.2.2.2.2.2) b))) := Eq.trans (Eq.trans (Eq.trans (Eq.trans (Eq.trans (Eq.trans (Eq.trans (Eq.trans rfl (if_neg b1)) (if_pos b2)) (if_neg b3)) (if_neg b4)) (if_neg b5)) (if_neg b6)) (if_pos b7)) (if_pos b8)
                  exact xM_vret hx hb hr hlk  hS  (by rw [e9]; exact hP) dX3_fold_108
                ·
                  refine lv_iconst (v := 1) hx hb dX3_fold_81 (by decide) ?_
                  refine lv_goto (tgt := 86) hx hb dX3_fold_82 (by decide) ?_
                  refine va_zast hx hb hK.1 hP (wC_D hA) hS 11 2 rfl rfl (okX3_n b1 b2) dX3_fold_86 (fun H locs hP _ hS => ?_)
                  have hP : va_P w.1 vwCl (wC w c (t.1, t.2.1, t.2.2.1, t.2.2.2.1, t.2.2.2.2.1, t.2.2.2.2.2.1, upd t.2.2.2.2.2.2.1 n.toNatClampNeg (vp_nar .boolean (1 : Int32)), t.2.2.2.2.2.2.2) r s) H := hP
                  refine lv_aload_n hx hb dX3_fold_87 rfl (lv_at hl 0 rfl) ?_
                  refine va_get (D := w.1) (ci := 4) (v := .ref (w.2.2 12)) (C := RX3) (T := TX3) (N := 9) hx hb hts iw_X3_fold_X3 hown hK.1 hP 5 rfl rfl 7 (by decide) (hts _ fl_X3_fold_31) (fun _ h9 => h9) rfl dX3_fold_88 ?_
                  refine lv_iload_n hx hb dX3_fold_91 rfl (lv_at hl 1 rfl) ?_
                  refine lv_iload_n hx hb dX3_fold_92 rfl (lv_at hl 2 rfl) ?_
                  refine lv_aload_n hx hb dX3_fold_93 rfl (lv_at hl 0 rfl) ?_
                  refine lv_iload_n hx hb dX3_fold_94 rfl (lv_at hl 3 rfl) ?_
                  refine xR_l (va_runV (As := [.int a]) (rest := [.int kd, .int n, .ref (w.2.2 12)]) ⟨hx, hb, hml, hown, hts⟩ (c_X3_foldedOf l w c (t.1, t.2.1, t.2.2.1, t.2.2.2.1, t.2.2.2.2.1, t.2.2.2.2.2.1, upd t.2.2.2.2.2.2.1 n.toNatClampNeg (vp_nar .boolean (1 : Int32)), t.2.2.2.2.2.2.2) r s a ht) (cwV 1 hts gX3_fold_X3_foldedOf rfl rfl rfl dv_X3_foldedOf ⟨Nat.le_of_ble_eq_true rfl, Nat.le_of_ble_eq_true rfl⟩) (wPreV hP hK (ci := 4) (q0 := 5) rfl rfl) rfl rfl hl.1 rfl (lv_room (Nat.le_of_ble_eq_true rfl)) dX3_fold_95 ⟨Nat.zero_le _, Nat.zero_le _⟩) ?_
                  refine lv_aload_n hx hb dX3_fold_98 rfl (lv_at hl 0 rfl) ?_
                  refine lv_iload hx hb dX3_fold_99 (lv_at hl 4 rfl) ?_
                  refine xR_l (va_runV (As := [.int b]) (rest := [.long (G_X3_foldedOf (t.1, t.2.1, t.2.2.1, t.2.2.2.1, t.2.2.2.2.1, t.2.2.2.2.2.1, upd t.2.2.2.2.2.2.1 n.toNatClampNeg (vp_nar .boolean (1 : Int32)), t.2.2.2.2.2.2.2) a), .int kd, .int n, .ref (w.2.2 12)]) ⟨hx, hb, hml, hown, hts⟩ (c_X3_foldedOf l w c (t.1, t.2.1, t.2.2.1, t.2.2.2.1, t.2.2.2.2.1, t.2.2.2.2.2.1, upd t.2.2.2.2.2.2.1 n.toNatClampNeg (vp_nar .boolean (1 : Int32)), t.2.2.2.2.2.2.2) r s b ht) (cwV 1 hts gX3_fold_X3_foldedOf rfl rfl rfl dv_X3_foldedOf ⟨Nat.le_of_ble_eq_true rfl, Nat.le_of_ble_eq_true rfl⟩) (wPreV hP hK (ci := 4) (q0 := 5) rfl rfl) rfl rfl hl.1 rfl (lv_room (Nat.le_of_ble_eq_true rfl)) dX3_fold_101 ⟨Nat.zero_le _, Nat.zero_le _⟩) ?_
                  refine xR_l (va_runSN (As := [.int kd, .long (G_X3_foldedOf (t.1, t.2.1, t.2.2.1, t.2.2.2.1, t.2.2.2.2.1, t.2.2.2.2.2.1, upd t.2.2.2.2.2.2.1 n.toNatClampNeg (vp_nar .boolean (1 : Int32)), t.2.2.2.2.2.2.2) a), .long (G_X3_foldedOf (t.1, t.2.1, t.2.2.1, t.2.2.2.1, t.2.2.2.2.1, t.2.2.2.2.2.1, upd t.2.2.2.2.2.2.1 n.toNatClampNeg (vp_nar .boolean (1 : Int32)), t.2.2.2.2.2.2.2) b)]) (rest := [.int n, .ref (w.2.2 12)]) ⟨hx, hb, hml, hown, hts⟩ (k_X4_reckon l w c (t.1, t.2.1, t.2.2.1, t.2.2.2.1, t.2.2.2.2.1, t.2.2.2.2.2.1, upd t.2.2.2.2.2.2.1 n.toNatClampNeg (vp_nar .boolean (1 : Int32)), t.2.2.2.2.2.2.2) r s kd (G_X3_foldedOf (t.1, t.2.1, t.2.2.1, t.2.2.2.1, t.2.2.2.2.1, t.2.2.2.2.2.1, upd t.2.2.2.2.2.2.1 n.toNatClampNeg (vp_nar .boolean (1 : Int32)), t.2.2.2.2.2.2.2) a) (G_X3_foldedOf (t.1, t.2.1, t.2.2.1, t.2.2.2.1, t.2.2.2.2.1, t.2.2.2.2.2.1, upd t.2.2.2.2.2.2.1 n.toNatClampNeg (vp_nar .boolean (1 : Int32)), t.2.2.2.2.2.2.2) b) ) ⟨va_cnB 3 hts gX3_fold_X4_reckon_n94 rfl rfl rfl (hK.2 _ nw_X3_fold_94) (hts _ mw_X3_fold_iX4_reckon) ds_X4_reckon ⟨Nat.le_of_ble_eq_true rfl, Nat.le_of_ble_eq_true rfl⟩, hts _ mw_X3_fold_stX4_reckon, trivial⟩ (wPre hP hK) rfl rfl hl.1 rfl (lv_room (Nat.le_of_ble_eq_true rfl)) dX3_fold_104 ⟨Nat.zero_le _, Nat.zero_le _⟩) ?_
                  refine va_last hx hb hK.1 hP (wC_D hA) hS 12 3 rfl rfl (okX3_n b1 b2) dX3_fold_107 (fun H locs hP _ hS => ?_)
                  have hP : va_P w.1 vwCl (wC w c (t.1, t.2.1, t.2.2.1, t.2.2.2.1, t.2.2.2.2.1, t.2.2.2.2.2.1, upd t.2.2.2.2.2.2.1 n.toNatClampNeg (vp_nar .boolean (1 : Int32)), vp_updL t.2.2.2.2.2.2.2 n.toNatClampNeg (G_X4_reckon kd (G_X3_foldedOf (t.1, t.2.1, t.2.2.1, t.2.2.2.1, t.2.2.2.2.1, t.2.2.2.2.2.1, upd t.2.2.2.2.2.2.1 n.toNatClampNeg (vp_nar .boolean (1 : Int32)), t.2.2.2.2.2.2.2) a) (G_X3_foldedOf (t.1, t.2.1, t.2.2.1, t.2.2.2.1, t.2.2.2.2.1, t.2.2.2.2.2.1, upd t.2.2.2.2.2.2.1 n.toNatClampNeg (vp_nar .boolean (1 : Int32)), t.2.2.2.2.2.2.2) b))) r s) H := hP
                  have e9 : G_X3_fold t n kd a b = (t.1, t.2.1, t.2.2.1, t.2.2.2.1, t.2.2.2.2.1, t.2.2.2.2.2.1, upd t.2.2.2.2.2.2.1 n.toNatClampNeg (vp_nar .boolean (1 : Int32)), vp_updL t.2.2.2.2.2.2.2 n.toNatClampNeg (G_X4_reckon kd (G_X3_foldedOf (t.1, t.2.1, t.2.2.1, t.2.2.2.1, t.2.2.2.2.1, t.2.2.2.2.2.1, upd t.2.2.2.2.2.2.1 n.toNatClampNeg (vp_nar .boolean (1 : Int32)), t.2.2.2.2.2.2.2) a) (G_X3_foldedOf (t.1, t.2.1, t.2.2.1, t.2.2.2.1, t.2.2.2.2.1, t.2.2.2.2.2.1, upd t.2.2.2.2.2.2.1 n.toNatClampNeg (vp_nar .boolean (1 : Int32)), t.2.2.2.2.2.2.2) b))) := Eq.trans (Eq.trans (Eq.trans (Eq.trans (Eq.trans (Eq.trans (Eq.trans (Eq.trans rfl (if_neg b1)) (if_pos b2)) (if_neg b3)) (if_neg b4)) (if_neg b5)) (if_neg b6)) (if_pos b7)) (if_neg b8)
                  exact xM_vret hx hb hr hlk  hS  (by rw [e9]; exact hP) dX3_fold_108
      ·
        refine lv_aload_n hx hb dX3_fold_17 rfl (lv_at hl 0 rfl) ?_
        refine va_get (D := w.1) (ci := 4) (v := .ref (w.2.2 11)) (C := RX3) (T := TX3) (N := 9) hx hb hts iw_X3_fold_X3 hown hK.1 hP 5 rfl rfl 6 (by decide) (hts _ fl_X3_fold_27) (fun _ h9 => h9) rfl dX3_fold_18 ?_
        refine lv_iload_n hx hb dX3_fold_21 rfl (lv_at hl 1 rfl) ?_
        refine lv_iconst (v := 1) hx hb dX3_fold_22 (by decide) ?_
        refine va_zast hx hb hK.1 hP (wC_D hA) hS 11 2 rfl rfl (okX3_n b1 b2) dX3_fold_23 (fun H locs hP _ hS => ?_)
        have hP : va_P w.1 vwCl (wC w c (t.1, t.2.1, t.2.2.1, t.2.2.2.1, t.2.2.2.2.1, t.2.2.2.2.2.1, upd t.2.2.2.2.2.2.1 n.toNatClampNeg (vp_nar .boolean (1 : Int32)), t.2.2.2.2.2.2.2) r s) H := hP
        refine lv_aload_n hx hb dX3_fold_24 rfl (lv_at hl 0 rfl) ?_
        refine va_get (D := w.1) (ci := 4) (v := .ref (w.2.2 12)) (C := RX3) (T := TX3) (N := 9) hx hb hts iw_X3_fold_X3 hown hK.1 hP 5 rfl rfl 7 (by decide) (hts _ fl_X3_fold_31) (fun _ h9 => h9) rfl dX3_fold_25 ?_
        refine lv_iload_n hx hb dX3_fold_28 rfl (lv_at hl 1 rfl) ?_
        refine lv_iload_n hx hb dX3_fold_29 rfl (lv_at hl 3 rfl) ?_
        refine lv_i2l hx hb dX3_fold_30 rfl ?_
        refine va_last hx hb hK.1 hP (wC_D hA) hS 12 3 rfl rfl (okX3_n b1 b2) dX3_fold_31 (fun H locs hP _ hS => ?_)
        have hP : va_P w.1 vwCl (wC w c (t.1, t.2.1, t.2.2.1, t.2.2.2.1, t.2.2.2.2.1, t.2.2.2.2.2.1, upd t.2.2.2.2.2.2.1 n.toNatClampNeg (vp_nar .boolean (1 : Int32)), vp_updL t.2.2.2.2.2.2.2 n.toNatClampNeg a.toInt64) r s) H := hP
        refine lv_goto (tgt := 108) hx hb dX3_fold_32 (by decide) ?_
        have e9 : G_X3_fold t n kd a b = (t.1, t.2.1, t.2.2.1, t.2.2.2.1, t.2.2.2.2.1, t.2.2.2.2.2.1, upd t.2.2.2.2.2.2.1 n.toNatClampNeg (vp_nar .boolean (1 : Int32)), vp_updL t.2.2.2.2.2.2.2 n.toNatClampNeg a.toInt64) := Eq.trans (Eq.trans (Eq.trans rfl (if_neg b1)) (if_pos b2)) (if_pos b3)
        exact xM_vret hx hb hr hlk  hS  (by rw [e9]; exact hP) dX3_fold_108
    ·
      have e9 : G_X3_fold t n kd a b = t := Eq.trans (Eq.trans rfl (if_neg b1)) (if_neg b2)
      exact xM_vret hx hb hr hlk  hS  (by rw [e9]; exact hP) dX3_fold_12
theorem G_X3_fold_1 (t : TS) (n kd a b : Int32) : (G_X3_fold t n kd a b).1 = t.1 := by
  unfold G_X3_fold
  repeat' split
  all_goals rfl
theorem okT_fold {t : TS} {n kd a b : Int32} (ht : okT t) : okT (G_X3_fold t n kd a b) := by
  unfold okT
  rw [G_X3_fold_1]
  exact ht
