set_option maxRecDepth 20000 in
theorem iw_X3_has_X3 : ∀ w ∈ wsX30, w ∈ wsX3_has := by decide +kernel
set_option maxRecDepth 20000 in
theorem fl_X3_has_39 : Cond.fieldLink RX3 39 "ProcedureCode$Tree" "count" "I" ∈ wsX3_has := by decide +kernel
def G_X3_has (t : TS) (n : Int32) : Int32 := if n < (1 : Int32) then ((0 : Int32)) else (if t.1 < n then ((0 : Int32)) else ((1 : Int32)))
set_option maxHeartbeats 4000000 in
set_option maxRecDepth 100000 in
theorem c_X3_has (l : Launch) (w : WG) (c : CS) (t : TS) (r : RS) (s : Nat → SS) (n : Int32) : Met l yX3_has wsX3_has { frames := 0, cells := 0, slots := 0, locals := 0 } (va_Pc [.ref (w.2.2 5), .int n] (wPK w (wC w c t r s))) (xR (some (.int (G_X3_has t n)))) 0 0 xNo := by
  refine xOf (cc := cX3_has) (maxL := 2) (ret := (some .boolean)) (lv := [(0, .ref (w.2.2 5)), (1, .int n)]) (by decide) rfl (Nat.le_of_ble_eq_true rfl) rfl ?_
  intro pP eE S mM below meth C hx hb hr hml hts hown hlk hnm hw ls hl
  obtain ⟨hP, hK⟩ := hw
  refine lv_iload_n hx hb dX3_has_0 rfl (lv_at hl 1 rfl) ?_
  refine lv_iconst (v := 1) hx hb dX3_has_1 (by decide) ?_
  refine lv_icmp_lt (tgt := 17) hx hb dX3_has_2 (by decide) (fun b1 => ?_) (fun b1 => ?_)
  ·
    refine lv_iconst (v := 0) hx hb dX3_has_17 (by decide) ?_
    exact xR_zret hx hb hr hlk rfl (Eq.trans rfl (if_pos b1)) dX3_has_18
  ·
    refine lv_iload_n hx hb dX3_has_5 rfl (lv_at hl 1 rfl) ?_
    refine lv_aload_n hx hb dX3_has_6 rfl (lv_at hl 0 rfl) ?_
    refine va_get (D := w.1) (ci := 4) (v := .int t.1) (C := RX3) (T := TX3) (N := 9) hx hb hts iw_X3_has_X3 hown hK.1 hP 5 rfl rfl 8 (by decide) (hts _ fl_X3_has_39) (fun _ h9 => h9) rfl dX3_has_7 ?_
    refine lv_icmp_gt (tgt := 17) hx hb dX3_has_10 (by decide) (fun b2 => ?_) (fun b2 => ?_)
    ·
      refine lv_iconst (v := 0) hx hb dX3_has_17 (by decide) ?_
      exact xR_zret hx hb hr hlk rfl (Eq.trans (Eq.trans rfl (if_neg b1)) (if_pos b2)) dX3_has_18
    ·
      refine lv_iconst (v := 1) hx hb dX3_has_13 (by decide) ?_
      refine lv_goto (tgt := 18) hx hb dX3_has_14 (by decide) ?_
      exact xR_zret hx hb hr hlk rfl (Eq.trans (Eq.trans rfl (if_neg b1)) (if_neg b2)) dX3_has_18
def okT (t : TS) : Prop := 0 ≤ t.1.toInt ∧ t.1.toInt ≤ 200
theorem G_X3_has_iff (t : TS) (n : Int32) : ¬ G_X3_has t n = 0 ↔ 1 ≤ n.toInt ∧ n.toInt ≤ t.1.toInt := by
  have e1 : (1 : Int32).toInt = 1 := by decide
  unfold G_X3_has
  split
  · rename_i h
    rw [i32_lt, e1] at h
    exact ⟨fun q => absurd rfl q, fun q => by omega⟩
  · rename_i h
    rw [i32_lt, e1] at h
    split
    · rename_i h2
      rw [i32_lt] at h2
      exact ⟨fun q => absurd rfl q, fun q => by omega⟩
    · rename_i h2
      rw [i32_lt] at h2
      exact ⟨fun _ => by omega, fun _ => by decide⟩
theorem okT_in {t : TS} {n : Int32} (ht : okT t) (b : ¬ G_X3_has t n = 0) : vp_in n 201 := by
  obtain ⟨h1, h2⟩ := (G_X3_has_iff t n).mp b
  have h3 := ht.2
  exact vp_in_iff.mpr ⟨by omega, by omega⟩
theorem okX3_n {n : Int32} (b1 : ¬ n < (1 : Int32)) (b2 : n ≤ (200 : Int32)) : vp_in n 201 := by
  rw [i32_lt, show (1 : Int32).toInt = 1 by decide] at b1
  rw [i32_le, show (200 : Int32).toInt = 200 by decide] at b2
  exact vp_in_iff.mpr ⟨by omega, by omega⟩
theorem okX3_add {t : TS} (ht : okT t) (b : t.1 < (200 : Int32)) : vp_in (t.1 + (1 : Int32)) 201 := by
  rw [i32_lt, show (200 : Int32).toInt = 200 by decide] at b
  have h1 := ht.1
  rw [vp_in_iff, i32_inc (by omega)]
  omega
set_option maxRecDepth 20000 in
theorem dv_X3_has : yX3_has.cls = RX3 ∧ yX3_has.cls ≠ "java/lang/invoke/MethodHandle" ∧ yX3_has.cls ≠ "java/lang/invoke/VarHandle" ∧ (parseMethodDescriptor yX3_has.desc).map (fun d => d.parameters.length) = some 1 := by decide +kernel
set_option maxRecDepth 20000 in
theorem iw_X3_kindOf_X3 : ∀ w ∈ wsX30, w ∈ wsX3_kindOf := by decide +kernel
set_option maxRecDepth 20000 in
theorem fl_X3_kindOf_9 : Cond.fieldLink RX3 9 "ProcedureCode$Tree" "kinds" "[I" ∈ wsX3_kindOf := by decide +kernel
def G_X3_kindOf (t : TS) (n : Int32) : Int32 := if (G_X3_has t n) = 0 then ((-1 : Int32)) else (t.2.1 n.toNatClampNeg)
set_option maxHeartbeats 4000000 in
set_option maxRecDepth 100000 in
theorem c_X3_kindOf (l : Launch) (w : WG) (c : CS) (t : TS) (r : RS) (s : Nat → SS) (n : Int32) (ht : okT t) : Met l yX3_kindOf wsX3_kindOf { frames := 1, cells := 0, slots := 0, locals := 21 } (va_Pc [.ref (w.2.2 5), .int n] (wPK w (wC w c t r s))) (xR (some (.int (G_X3_kindOf t n)))) 0 0 xNo := by
  refine xOf (cc := cX3_kindOf) (maxL := 2) (ret := (some .int)) (lv := [(0, .ref (w.2.2 5)), (1, .int n)]) (by decide) rfl (Nat.le_of_ble_eq_true rfl) rfl ?_
  intro pP eE S mM below meth C hx hb hr hml hts hown hlk hnm hw ls hl
  obtain ⟨hP, hK⟩ := hw
  refine lv_aload_n hx hb dX3_kindOf_0 rfl (lv_at hl 0 rfl) ?_
  refine lv_iload_n hx hb dX3_kindOf_1 rfl (lv_at hl 1 rfl) ?_
  refine xR_i (va_runV (As := [.int n]) (rest := []) ⟨hx, hb, hml, hown, hts⟩ (c_X3_has l w c t r s n ) (cwV 1 hts gX3_kindOf_X3_has rfl rfl rfl dv_X3_has ⟨Nat.le_of_ble_eq_true rfl, Nat.le_of_ble_eq_true rfl⟩) (wPreV hP hK (ci := 4) (q0 := 5) rfl rfl) rfl rfl hl.1 rfl (lv_room (Nat.le_of_ble_eq_true rfl)) dX3_kindOf_2 ⟨Nat.zero_le _, Nat.zero_le _⟩) ?_
  refine lv_if_eq (tgt := 17) hx hb dX3_kindOf_5 (by decide) (fun b1 => ?_) (fun b1 => ?_)
  ·
    refine lv_iconst (v := -1) hx hb dX3_kindOf_17 (by decide) ?_
    exact xR_iret hx hb hr hlk  (Eq.trans rfl (if_pos b1)) dX3_kindOf_18
  ·
    refine lv_aload_n hx hb dX3_kindOf_8 rfl (lv_at hl 0 rfl) ?_
    refine va_get (D := w.1) (ci := 4) (v := .ref (w.2.2 6)) (C := RX3) (T := TX3) (N := 9) hx hb hts iw_X3_kindOf_X3 hown hK.1 hP 5 rfl rfl 1 (by decide) (hts _ fl_X3_kindOf_9) (fun _ h9 => h9) rfl dX3_kindOf_9 ?_
    refine lv_iload_n hx hb dX3_kindOf_12 rfl (lv_at hl 1 rfl) ?_
    refine va_iald hx hb hK.1 hP 6 0 rfl rfl (okT_in ht b1) dX3_kindOf_13 ?_
    refine lv_goto (tgt := 18) hx hb dX3_kindOf_14 (by decide) ?_
    exact xR_iret hx hb hr hlk  (Eq.trans rfl (if_neg b1)) dX3_kindOf_18
set_option maxRecDepth 20000 in
theorem iw_X3_firstOf_X3 : ∀ w ∈ wsX30, w ∈ wsX3_firstOf := by decide +kernel
set_option maxRecDepth 20000 in
theorem fl_X3_firstOf_15 : Cond.fieldLink RX3 15 "ProcedureCode$Tree" "firsts" "[I" ∈ wsX3_firstOf := by decide +kernel
def G_X3_firstOf (t : TS) (n : Int32) : Int32 := if (G_X3_has t n) = 0 then ((-1 : Int32)) else (t.2.2.1 n.toNatClampNeg)
set_option maxHeartbeats 4000000 in
set_option maxRecDepth 100000 in
theorem c_X3_firstOf (l : Launch) (w : WG) (c : CS) (t : TS) (r : RS) (s : Nat → SS) (n : Int32) (ht : okT t) : Met l yX3_firstOf wsX3_firstOf { frames := 1, cells := 0, slots := 0, locals := 21 } (va_Pc [.ref (w.2.2 5), .int n] (wPK w (wC w c t r s))) (xR (some (.int (G_X3_firstOf t n)))) 0 0 xNo := by
  refine xOf (cc := cX3_firstOf) (maxL := 2) (ret := (some .int)) (lv := [(0, .ref (w.2.2 5)), (1, .int n)]) (by decide) rfl (Nat.le_of_ble_eq_true rfl) rfl ?_
  intro pP eE S mM below meth C hx hb hr hml hts hown hlk hnm hw ls hl
  obtain ⟨hP, hK⟩ := hw
  refine lv_aload_n hx hb dX3_firstOf_0 rfl (lv_at hl 0 rfl) ?_
  refine lv_iload_n hx hb dX3_firstOf_1 rfl (lv_at hl 1 rfl) ?_
  refine xR_i (va_runV (As := [.int n]) (rest := []) ⟨hx, hb, hml, hown, hts⟩ (c_X3_has l w c t r s n ) (cwV 1 hts gX3_firstOf_X3_has rfl rfl rfl dv_X3_has ⟨Nat.le_of_ble_eq_true rfl, Nat.le_of_ble_eq_true rfl⟩) (wPreV hP hK (ci := 4) (q0 := 5) rfl rfl) rfl rfl hl.1 rfl (lv_room (Nat.le_of_ble_eq_true rfl)) dX3_firstOf_2 ⟨Nat.zero_le _, Nat.zero_le _⟩) ?_
  refine lv_if_eq (tgt := 17) hx hb dX3_firstOf_5 (by decide) (fun b1 => ?_) (fun b1 => ?_)
  ·
    refine lv_iconst (v := -1) hx hb dX3_firstOf_17 (by decide) ?_
    exact xR_iret hx hb hr hlk  (Eq.trans rfl (if_pos b1)) dX3_firstOf_18
  ·
    refine lv_aload_n hx hb dX3_firstOf_8 rfl (lv_at hl 0 rfl) ?_
    refine va_get (D := w.1) (ci := 4) (v := .ref (w.2.2 7)) (C := RX3) (T := TX3) (N := 9) hx hb hts iw_X3_firstOf_X3 hown hK.1 hP 5 rfl rfl 2 (by decide) (hts _ fl_X3_firstOf_15) (fun _ h9 => h9) rfl dX3_firstOf_9 ?_
    refine lv_iload_n hx hb dX3_firstOf_12 rfl (lv_at hl 1 rfl) ?_
    refine va_iald hx hb hK.1 hP 7 0 rfl rfl (okT_in ht b1) dX3_firstOf_13 ?_
    refine lv_goto (tgt := 18) hx hb dX3_firstOf_14 (by decide) ?_
    exact xR_iret hx hb hr hlk  (Eq.trans rfl (if_neg b1)) dX3_firstOf_18
set_option maxRecDepth 20000 in
theorem iw_X3_secondOf_X3 : ∀ w ∈ wsX30, w ∈ wsX3_secondOf := by decide +kernel
set_option maxRecDepth 20000 in
theorem fl_X3_secondOf_18 : Cond.fieldLink RX3 18 "ProcedureCode$Tree" "seconds" "[I" ∈ wsX3_secondOf := by decide +kernel
def G_X3_secondOf (t : TS) (n : Int32) : Int32 := if (G_X3_has t n) = 0 then ((-1 : Int32)) else (t.2.2.2.1 n.toNatClampNeg)
set_option maxHeartbeats 4000000 in
set_option maxRecDepth 100000 in
theorem c_X3_secondOf (l : Launch) (w : WG) (c : CS) (t : TS) (r : RS) (s : Nat → SS) (n : Int32) (ht : okT t) : Met l yX3_secondOf wsX3_secondOf { frames := 1, cells := 0, slots := 0, locals := 21 } (va_Pc [.ref (w.2.2 5), .int n] (wPK w (wC w c t r s))) (xR (some (.int (G_X3_secondOf t n)))) 0 0 xNo := by
  refine xOf (cc := cX3_secondOf) (maxL := 2) (ret := (some .int)) (lv := [(0, .ref (w.2.2 5)), (1, .int n)]) (by decide) rfl (Nat.le_of_ble_eq_true rfl) rfl ?_
  intro pP eE S mM below meth C hx hb hr hml hts hown hlk hnm hw ls hl
  obtain ⟨hP, hK⟩ := hw
  refine lv_aload_n hx hb dX3_secondOf_0 rfl (lv_at hl 0 rfl) ?_
  refine lv_iload_n hx hb dX3_secondOf_1 rfl (lv_at hl 1 rfl) ?_
  refine xR_i (va_runV (As := [.int n]) (rest := []) ⟨hx, hb, hml, hown, hts⟩ (c_X3_has l w c t r s n ) (cwV 1 hts gX3_secondOf_X3_has rfl rfl rfl dv_X3_has ⟨Nat.le_of_ble_eq_true rfl, Nat.le_of_ble_eq_true rfl⟩) (wPreV hP hK (ci := 4) (q0 := 5) rfl rfl) rfl rfl hl.1 rfl (lv_room (Nat.le_of_ble_eq_true rfl)) dX3_secondOf_2 ⟨Nat.zero_le _, Nat.zero_le _⟩) ?_
  refine lv_if_eq (tgt := 17) hx hb dX3_secondOf_5 (by decide) (fun b1 => ?_) (fun b1 => ?_)
  ·
    refine lv_iconst (v := -1) hx hb dX3_secondOf_17 (by decide) ?_
    exact xR_iret hx hb hr hlk  (Eq.trans rfl (if_pos b1)) dX3_secondOf_18
  ·
    refine lv_aload_n hx hb dX3_secondOf_8 rfl (lv_at hl 0 rfl) ?_
    refine va_get (D := w.1) (ci := 4) (v := .ref (w.2.2 8)) (C := RX3) (T := TX3) (N := 9) hx hb hts iw_X3_secondOf_X3 hown hK.1 hP 5 rfl rfl 3 (by decide) (hts _ fl_X3_secondOf_18) (fun _ h9 => h9) rfl dX3_secondOf_9 ?_
    refine lv_iload_n hx hb dX3_secondOf_12 rfl (lv_at hl 1 rfl) ?_
    refine va_iald hx hb hK.1 hP 8 0 rfl rfl (okT_in ht b1) dX3_secondOf_13 ?_
    refine lv_goto (tgt := 18) hx hb dX3_secondOf_14 (by decide) ?_
    exact xR_iret hx hb hr hlk  (Eq.trans rfl (if_neg b1)) dX3_secondOf_18
set_option maxRecDepth 20000 in
theorem iw_X3_digitsOf_X3 : ∀ w ∈ wsX30, w ∈ wsX3_digitsOf := by decide +kernel
set_option maxRecDepth 20000 in
theorem fl_X3_digitsOf_21 : Cond.fieldLink RX3 21 "ProcedureCode$Tree" "digits" "[I" ∈ wsX3_digitsOf := by decide +kernel
def G_X3_digitsOf (t : TS) (n : Int32) : Int32 := if (G_X3_has t n) = 0 then ((0 : Int32)) else (t.2.2.2.2.1 n.toNatClampNeg)
set_option maxHeartbeats 4000000 in
set_option maxRecDepth 100000 in
theorem c_X3_digitsOf (l : Launch) (w : WG) (c : CS) (t : TS) (r : RS) (s : Nat → SS) (n : Int32) (ht : okT t) : Met l yX3_digitsOf wsX3_digitsOf { frames := 1, cells := 0, slots := 0, locals := 21 } (va_Pc [.ref (w.2.2 5), .int n] (wPK w (wC w c t r s))) (xR (some (.int (G_X3_digitsOf t n)))) 0 0 xNo := by
  refine xOf (cc := cX3_digitsOf) (maxL := 2) (ret := (some .int)) (lv := [(0, .ref (w.2.2 5)), (1, .int n)]) (by decide) rfl (Nat.le_of_ble_eq_true rfl) rfl ?_
  intro pP eE S mM below meth C hx hb hr hml hts hown hlk hnm hw ls hl
  obtain ⟨hP, hK⟩ := hw
  refine lv_aload_n hx hb dX3_digitsOf_0 rfl (lv_at hl 0 rfl) ?_
  refine lv_iload_n hx hb dX3_digitsOf_1 rfl (lv_at hl 1 rfl) ?_
  refine xR_i (va_runV (As := [.int n]) (rest := []) ⟨hx, hb, hml, hown, hts⟩ (c_X3_has l w c t r s n ) (cwV 1 hts gX3_digitsOf_X3_has rfl rfl rfl dv_X3_has ⟨Nat.le_of_ble_eq_true rfl, Nat.le_of_ble_eq_true rfl⟩) (wPreV hP hK (ci := 4) (q0 := 5) rfl rfl) rfl rfl hl.1 rfl (lv_room (Nat.le_of_ble_eq_true rfl)) dX3_digitsOf_2 ⟨Nat.zero_le _, Nat.zero_le _⟩) ?_
  refine lv_if_eq (tgt := 17) hx hb dX3_digitsOf_5 (by decide) (fun b1 => ?_) (fun b1 => ?_)
  ·
    refine lv_iconst (v := 0) hx hb dX3_digitsOf_17 (by decide) ?_
    exact xR_iret hx hb hr hlk  (Eq.trans rfl (if_pos b1)) dX3_digitsOf_18
  ·
    refine lv_aload_n hx hb dX3_digitsOf_8 rfl (lv_at hl 0 rfl) ?_
    refine va_get (D := w.1) (ci := 4) (v := .ref (w.2.2 9)) (C := RX3) (T := TX3) (N := 9) hx hb hts iw_X3_digitsOf_X3 hown hK.1 hP 5 rfl rfl 4 (by decide) (hts _ fl_X3_digitsOf_21) (fun _ h9 => h9) rfl dX3_digitsOf_9 ?_
    refine lv_iload_n hx hb dX3_digitsOf_12 rfl (lv_at hl 1 rfl) ?_
    refine va_iald hx hb hK.1 hP 9 0 rfl rfl (okT_in ht b1) dX3_digitsOf_13 ?_
    refine lv_goto (tgt := 18) hx hb dX3_digitsOf_14 (by decide) ?_
    exact xR_iret hx hb hr hlk  (Eq.trans rfl (if_neg b1)) dX3_digitsOf_18
set_option maxRecDepth 20000 in
theorem iw_X3_rowsOf_X3 : ∀ w ∈ wsX30, w ∈ wsX3_rowsOf := by decide +kernel
set_option maxRecDepth 20000 in
theorem fl_X3_rowsOf_24 : Cond.fieldLink RX3 24 "ProcedureCode$Tree" "rowCounts" "[I" ∈ wsX3_rowsOf := by decide +kernel
def G_X3_rowsOf (t : TS) (n : Int32) : Int32 := if (G_X3_has t n) = 0 then ((0 : Int32)) else (t.2.2.2.2.2.1 n.toNatClampNeg)
set_option maxHeartbeats 4000000 in
set_option maxRecDepth 100000 in
theorem c_X3_rowsOf (l : Launch) (w : WG) (c : CS) (t : TS) (r : RS) (s : Nat → SS) (n : Int32) (ht : okT t) : Met l yX3_rowsOf wsX3_rowsOf { frames := 1, cells := 0, slots := 0, locals := 21 } (va_Pc [.ref (w.2.2 5), .int n] (wPK w (wC w c t r s))) (xR (some (.int (G_X3_rowsOf t n)))) 0 0 xNo := by
  refine xOf (cc := cX3_rowsOf) (maxL := 2) (ret := (some .int)) (lv := [(0, .ref (w.2.2 5)), (1, .int n)]) (by decide) rfl (Nat.le_of_ble_eq_true rfl) rfl ?_
  intro pP eE S mM below meth C hx hb hr hml hts hown hlk hnm hw ls hl
  obtain ⟨hP, hK⟩ := hw
  refine lv_aload_n hx hb dX3_rowsOf_0 rfl (lv_at hl 0 rfl) ?_
  refine lv_iload_n hx hb dX3_rowsOf_1 rfl (lv_at hl 1 rfl) ?_
  refine xR_i (va_runV (As := [.int n]) (rest := []) ⟨hx, hb, hml, hown, hts⟩ (c_X3_has l w c t r s n ) (cwV 1 hts gX3_rowsOf_X3_has rfl rfl rfl dv_X3_has ⟨Nat.le_of_ble_eq_true rfl, Nat.le_of_ble_eq_true rfl⟩) (wPreV hP hK (ci := 4) (q0 := 5) rfl rfl) rfl rfl hl.1 rfl (lv_room (Nat.le_of_ble_eq_true rfl)) dX3_rowsOf_2 ⟨Nat.zero_le _, Nat.zero_le _⟩) ?_
  refine lv_if_eq (tgt := 17) hx hb dX3_rowsOf_5 (by decide) (fun b1 => ?_) (fun b1 => ?_)
  ·
    refine lv_iconst (v := 0) hx hb dX3_rowsOf_17 (by decide) ?_
    exact xR_iret hx hb hr hlk  (Eq.trans rfl (if_pos b1)) dX3_rowsOf_18
  ·
    refine lv_aload_n hx hb dX3_rowsOf_8 rfl (lv_at hl 0 rfl) ?_
    refine va_get (D := w.1) (ci := 4) (v := .ref (w.2.2 10)) (C := RX3) (T := TX3) (N := 9) hx hb hts iw_X3_rowsOf_X3 hown hK.1 hP 5 rfl rfl 5 (by decide) (hts _ fl_X3_rowsOf_24) (fun _ h9 => h9) rfl dX3_rowsOf_9 ?_
    refine lv_iload_n hx hb dX3_rowsOf_12 rfl (lv_at hl 1 rfl) ?_
    refine va_iald hx hb hK.1 hP 10 0 rfl rfl (okT_in ht b1) dX3_rowsOf_13 ?_
    refine lv_goto (tgt := 18) hx hb dX3_rowsOf_14 (by decide) ?_
    exact xR_iret hx hb hr hlk  (Eq.trans rfl (if_neg b1)) dX3_rowsOf_18
set_option maxRecDepth 20000 in
theorem iw_X3_isFolded_X3 : ∀ w ∈ wsX30, w ∈ wsX3_isFolded := by decide +kernel
set_option maxRecDepth 20000 in
theorem fl_X3_isFolded_27 : Cond.fieldLink RX3 27 "ProcedureCode$Tree" "folded" "[Z" ∈ wsX3_isFolded := by decide +kernel
def G_X3_isFolded (t : TS) (n : Int32) : Int32 := if (G_X3_has t n) = 0 then ((0 : Int32)) else (if (t.2.2.2.2.2.2.1 n.toNatClampNeg) = 0 then ((0 : Int32)) else ((1 : Int32)))
set_option maxHeartbeats 4000000 in
set_option maxRecDepth 100000 in
theorem c_X3_isFolded (l : Launch) (w : WG) (c : CS) (t : TS) (r : RS) (s : Nat → SS) (n : Int32) (ht : okT t) : Met l yX3_isFolded wsX3_isFolded { frames := 1, cells := 0, slots := 0, locals := 21 } (va_Pc [.ref (w.2.2 5), .int n] (wPK w (wC w c t r s))) (xR (some (.int (G_X3_isFolded t n)))) 0 0 xNo := by
  refine xOf (cc := cX3_isFolded) (maxL := 2) (ret := (some .boolean)) (lv := [(0, .ref (w.2.2 5)), (1, .int n)]) (by decide) rfl (Nat.le_of_ble_eq_true rfl) rfl ?_
  intro pP eE S mM below meth C hx hb hr hml hts hown hlk hnm hw ls hl
  obtain ⟨hP, hK⟩ := hw
  refine lv_aload_n hx hb dX3_isFolded_0 rfl (lv_at hl 0 rfl) ?_
  refine lv_iload_n hx hb dX3_isFolded_1 rfl (lv_at hl 1 rfl) ?_
  refine xR_i (va_runV (As := [.int n]) (rest := []) ⟨hx, hb, hml, hown, hts⟩ (c_X3_has l w c t r s n ) (cwV 1 hts gX3_isFolded_X3_has rfl rfl rfl dv_X3_has ⟨Nat.le_of_ble_eq_true rfl, Nat.le_of_ble_eq_true rfl⟩) (wPreV hP hK (ci := 4) (q0 := 5) rfl rfl) rfl rfl hl.1 rfl (lv_room (Nat.le_of_ble_eq_true rfl)) dX3_isFolded_2 ⟨Nat.zero_le _, Nat.zero_le _⟩) ?_
  refine lv_if_eq (tgt := 21) hx hb dX3_isFolded_5 (by decide) (fun b1 => ?_) (fun b1 => ?_)
  ·
    refine lv_iconst (v := 0) hx hb dX3_isFolded_21 (by decide) ?_
    exact xR_zret hx hb hr hlk rfl (Eq.trans rfl (if_pos b1)) dX3_isFolded_22
  ·
    refine lv_aload_n hx hb dX3_isFolded_8 rfl (lv_at hl 0 rfl) ?_
    refine va_get (D := w.1) (ci := 4) (v := .ref (w.2.2 11)) (C := RX3) (T := TX3) (N := 9) hx hb hts iw_X3_isFolded_X3 hown hK.1 hP 5 rfl rfl 6 (by decide) (hts _ fl_X3_isFolded_27) (fun _ h9 => h9) rfl dX3_isFolded_9 ?_
    refine lv_iload_n hx hb dX3_isFolded_12 rfl (lv_at hl 1 rfl) ?_
    refine va_zald hx hb hK.1 hP 11 2 rfl rfl (okT_in ht b1) dX3_isFolded_13 ?_
    refine lv_if_eq (tgt := 21) hx hb dX3_isFolded_14 (by decide) (fun b2 => ?_) (fun b2 => ?_)
    ·
      refine lv_iconst (v := 0) hx hb dX3_isFolded_21 (by decide) ?_
      exact xR_zret hx hb hr hlk rfl (Eq.trans (Eq.trans rfl (if_neg b1)) (if_pos b2)) dX3_isFolded_22
    ·
      refine lv_iconst (v := 1) hx hb dX3_isFolded_17 (by decide) ?_
      refine lv_goto (tgt := 22) hx hb dX3_isFolded_18 (by decide) ?_
      exact xR_zret hx hb hr hlk rfl (Eq.trans (Eq.trans rfl (if_neg b1)) (if_neg b2)) dX3_isFolded_22
set_option maxRecDepth 20000 in
theorem iw_X3_foldedOf_X3 : ∀ w ∈ wsX30, w ∈ wsX3_foldedOf := by decide +kernel
set_option maxRecDepth 20000 in
theorem fl_X3_foldedOf_31 : Cond.fieldLink RX3 31 "ProcedureCode$Tree" "numbers" "[J" ∈ wsX3_foldedOf := by decide +kernel
def G_X3_foldedOf (t : TS) (n : Int32) : Int64 := if (G_X3_has t n) = 0 then ((0 : Int64)) else (t.2.2.2.2.2.2.2 n.toNatClampNeg)
set_option maxHeartbeats 4000000 in
set_option maxRecDepth 100000 in
theorem c_X3_foldedOf (l : Launch) (w : WG) (c : CS) (t : TS) (r : RS) (s : Nat → SS) (n : Int32) (ht : okT t) : Met l yX3_foldedOf wsX3_foldedOf { frames := 1, cells := 0, slots := 0, locals := 21 } (va_Pc [.ref (w.2.2 5), .int n] (wPK w (wC w c t r s))) (xR (some (.long (G_X3_foldedOf t n)))) 0 0 xNo := by
  refine xOf (cc := cX3_foldedOf) (maxL := 2) (ret := (some .long)) (lv := [(0, .ref (w.2.2 5)), (1, .int n)]) (by decide) rfl (Nat.le_of_ble_eq_true rfl) rfl ?_
  intro pP eE S mM below meth C hx hb hr hml hts hown hlk hnm hw ls hl
  obtain ⟨hP, hK⟩ := hw
  refine lv_aload_n hx hb dX3_foldedOf_0 rfl (lv_at hl 0 rfl) ?_
  refine lv_iload_n hx hb dX3_foldedOf_1 rfl (lv_at hl 1 rfl) ?_
  refine xR_i (va_runV (As := [.int n]) (rest := []) ⟨hx, hb, hml, hown, hts⟩ (c_X3_has l w c t r s n ) (cwV 1 hts gX3_foldedOf_X3_has rfl rfl rfl dv_X3_has ⟨Nat.le_of_ble_eq_true rfl, Nat.le_of_ble_eq_true rfl⟩) (wPreV hP hK (ci := 4) (q0 := 5) rfl rfl) rfl rfl hl.1 rfl (lv_room (Nat.le_of_ble_eq_true rfl)) dX3_foldedOf_2 ⟨Nat.zero_le _, Nat.zero_le _⟩) ?_
  refine lv_if_eq (tgt := 17) hx hb dX3_foldedOf_5 (by decide) (fun b1 => ?_) (fun b1 => ?_)
  ·
    refine lv_lconst (v := 0) hx hb dX3_foldedOf_17 (by decide) ?_
    exact xR_lret hx hb hr hlk  (Eq.trans rfl (if_pos b1)) dX3_foldedOf_18
  ·
    refine lv_aload_n hx hb dX3_foldedOf_8 rfl (lv_at hl 0 rfl) ?_
    refine va_get (D := w.1) (ci := 4) (v := .ref (w.2.2 12)) (C := RX3) (T := TX3) (N := 9) hx hb hts iw_X3_foldedOf_X3 hown hK.1 hP 5 rfl rfl 7 (by decide) (hts _ fl_X3_foldedOf_31) (fun _ h9 => h9) rfl dX3_foldedOf_9 ?_
    refine lv_iload_n hx hb dX3_foldedOf_12 rfl (lv_at hl 1 rfl) ?_
    refine va_lald hx hb hK.1 hP 12 3 rfl rfl (okT_in ht b1) dX3_foldedOf_13 ?_
    refine lv_goto (tgt := 18) hx hb dX3_foldedOf_14 (by decide) ?_
    exact xR_lret hx hb hr hlk  (Eq.trans rfl (if_neg b1)) dX3_foldedOf_18
set_option maxRecDepth 20000 in
theorem iw_X3_isValue_X3 : ∀ w ∈ wsX30, w ∈ wsX3_isValue := by decide +kernel
set_option maxRecDepth 20000 in
theorem fl_X3_isValue_9 : Cond.fieldLink RX3 9 "ProcedureCode$Tree" "kinds" "[I" ∈ wsX3_isValue := by decide +kernel
def G_X3_isValue (t : TS) (n : Int32) : Int32 := if (G_X3_has t n) = 0 then ((0 : Int32)) else (if (9 : Int32) ≤ (t.2.1 n.toNatClampNeg) then ((0 : Int32)) else ((1 : Int32)))
set_option maxHeartbeats 4000000 in
set_option maxRecDepth 100000 in
theorem c_X3_isValue (l : Launch) (w : WG) (c : CS) (t : TS) (r : RS) (s : Nat → SS) (n : Int32) (ht : okT t) : Met l yX3_isValue wsX3_isValue { frames := 1, cells := 0, slots := 0, locals := 21 } (va_Pc [.ref (w.2.2 5), .int n] (wPK w (wC w c t r s))) (xR (some (.int (G_X3_isValue t n)))) 0 0 xNo := by
  refine xOf (cc := cX3_isValue) (maxL := 2) (ret := (some .boolean)) (lv := [(0, .ref (w.2.2 5)), (1, .int n)]) (by decide) rfl (Nat.le_of_ble_eq_true rfl) rfl ?_
  intro pP eE S mM below meth C hx hb hr hml hts hown hlk hnm hw ls hl
  obtain ⟨hP, hK⟩ := hw
  refine lv_aload_n hx hb dX3_isValue_0 rfl (lv_at hl 0 rfl) ?_
  refine lv_iload_n hx hb dX3_isValue_1 rfl (lv_at hl 1 rfl) ?_
  refine xR_i (va_runV (As := [.int n]) (rest := []) ⟨hx, hb, hml, hown, hts⟩ (c_X3_has l w c t r s n ) (cwV 1 hts gX3_isValue_X3_has rfl rfl rfl dv_X3_has ⟨Nat.le_of_ble_eq_true rfl, Nat.le_of_ble_eq_true rfl⟩) (wPreV hP hK (ci := 4) (q0 := 5) rfl rfl) rfl rfl hl.1 rfl (lv_room (Nat.le_of_ble_eq_true rfl)) dX3_isValue_2 ⟨Nat.zero_le _, Nat.zero_le _⟩) ?_
  refine lv_if_eq (tgt := 23) hx hb dX3_isValue_5 (by decide) (fun b1 => ?_) (fun b1 => ?_)
  ·
    refine lv_iconst (v := 0) hx hb dX3_isValue_23 (by decide) ?_
    exact xR_zret hx hb hr hlk rfl (Eq.trans rfl (if_pos b1)) dX3_isValue_24
  ·
    refine lv_aload_n hx hb dX3_isValue_8 rfl (lv_at hl 0 rfl) ?_
    refine va_get (D := w.1) (ci := 4) (v := .ref (w.2.2 6)) (C := RX3) (T := TX3) (N := 9) hx hb hts iw_X3_isValue_X3 hown hK.1 hP 5 rfl rfl 1 (by decide) (hts _ fl_X3_isValue_9) (fun _ h9 => h9) rfl dX3_isValue_9 ?_
    refine lv_iload_n hx hb dX3_isValue_12 rfl (lv_at hl 1 rfl) ?_
    refine va_iald hx hb hK.1 hP 6 0 rfl rfl (okT_in ht b1) dX3_isValue_13 ?_
    refine lv_bipush (v := 9) hx hb dX3_isValue_14 (by decide) ?_
    refine lv_icmp_ge (tgt := 23) hx hb dX3_isValue_16 (by decide) (fun b2 => ?_) (fun b2 => ?_)
    ·
      refine lv_iconst (v := 0) hx hb dX3_isValue_23 (by decide) ?_
      exact xR_zret hx hb hr hlk rfl (Eq.trans (Eq.trans rfl (if_neg b1)) (if_pos b2)) dX3_isValue_24
    ·
      refine lv_iconst (v := 1) hx hb dX3_isValue_19 (by decide) ?_
      refine lv_goto (tgt := 24) hx hb dX3_isValue_20 (by decide) ?_
      exact xR_zret hx hb hr hlk rfl (Eq.trans (Eq.trans rfl (if_neg b1)) (if_neg b2)) dX3_isValue_24
