set_option maxRecDepth 20000 in
theorem iw_X1_has_X1 : ∀ w ∈ wsX10, w ∈ wsX1_has := by decide +kernel
set_option maxRecDepth 20000 in
theorem fl_X1_has_30 : Cond.fieldLink RX1 30 "ProcedureCode$Rows" "count" "I" ∈ wsX1_has := by decide +kernel
def G_X1_has (r : RS) (n : Int32) : Int32 := if n < 0 then ((0 : Int32)) else (if r.1 ≤ n then ((0 : Int32)) else ((1 : Int32)))
set_option maxHeartbeats 4000000 in
set_option maxRecDepth 100000 in
theorem c_X1_has (l : Launch) (w : WG) (c : CS) (t : TS) (r : RS) (s : Nat → SS) (n : Int32) : Met l yX1_has wsX1_has { frames := 0, cells := 0, slots := 0, locals := 0 } (va_Pc [.ref (w.2.2 13), .int n] (wPK w (wC w c t r s))) (xR (some (.int (G_X1_has r n)))) 0 0 xNo := by
  refine xOf (cc := cX1_has) (maxL := 2) (ret := (some .boolean)) (lv := [(0, .ref (w.2.2 13)), (1, .int n)]) (by decide) rfl (Nat.le_of_ble_eq_true rfl) rfl ?_
  intro pP eE S mM below meth C hx hb hr hml hts hown hlk hnm hw ls hl
  obtain ⟨hP, hK⟩ := hw
  refine lv_iload_n hx hb dX1_has_0 rfl (lv_at hl 1 rfl) ?_
  refine lv_if_lt (tgt := 16) hx hb dX1_has_1 (by decide) (fun b1 => ?_) (fun b1 => ?_)
  ·
    refine lv_iconst (v := 0) hx hb dX1_has_16 (by decide) ?_
    exact xR_zret hx hb hr hlk rfl (Eq.trans rfl (if_pos b1)) dX1_has_17
  ·
    refine lv_iload_n hx hb dX1_has_4 rfl (lv_at hl 1 rfl) ?_
    refine lv_aload_n hx hb dX1_has_5 rfl (lv_at hl 0 rfl) ?_
    refine va_get (D := w.1) (ci := 2) (v := .int r.1) (C := RX1) (T := TX1) (N := 7) hx hb hts iw_X1_has_X1 hown hK.1 hP 13 rfl rfl 4 (by decide) (hts _ fl_X1_has_30) (fun _ h9 => h9) rfl dX1_has_6 ?_
    refine lv_icmp_ge (tgt := 16) hx hb dX1_has_9 (by decide) (fun b2 => ?_) (fun b2 => ?_)
    ·
      refine lv_iconst (v := 0) hx hb dX1_has_16 (by decide) ?_
      exact xR_zret hx hb hr hlk rfl (Eq.trans (Eq.trans rfl (if_neg b1)) (if_pos b2)) dX1_has_17
    ·
      refine lv_iconst (v := 1) hx hb dX1_has_12 (by decide) ?_
      refine lv_goto (tgt := 17) hx hb dX1_has_13 (by decide) ?_
      exact xR_zret hx hb hr hlk rfl (Eq.trans (Eq.trans rfl (if_neg b1)) (if_neg b2)) dX1_has_17
def okR (r : RS) : Prop := 0 ≤ r.1.toInt ∧ r.1.toInt ≤ 400
theorem G_X1_has_iff (r : RS) (n : Int32) : ¬ G_X1_has r n = 0 ↔ 0 ≤ n.toInt ∧ n.toInt < r.1.toInt := by
  unfold G_X1_has
  split
  · rename_i h
    rw [i32_lt, i0] at h
    exact ⟨fun q => absurd rfl q, fun q => by omega⟩
  · rename_i h
    rw [i32_lt, i0] at h
    split
    · rename_i h2
      rw [i32_le] at h2
      exact ⟨fun q => absurd rfl q, fun q => by omega⟩
    · rename_i h2
      rw [i32_le] at h2
      exact ⟨fun _ => by omega, fun _ => by decide⟩
theorem okR_in {r : RS} {n : Int32} (hq : okR r) (b : ¬ G_X1_has r n = 0) : vp_in n 400 := by
  obtain ⟨h1, h2⟩ := (G_X1_has_iff r n).mp b
  have h3 := hq.2
  exact vp_in_iff.mpr ⟨h1, by omega⟩
theorem okX1_n {n : Int32} (b1 : ¬ n < 0) (b2 : n < (400 : Int32)) : vp_in n 400 := by
  rw [i32_lt, i0] at b1
  rw [i32_lt, show (400 : Int32).toInt = 400 by decide] at b2
  exact vp_in_iff.mpr ⟨by omega, by omega⟩
set_option maxRecDepth 20000 in
theorem dv_X1_has : yX1_has.cls = RX1 ∧ yX1_has.cls ≠ "java/lang/invoke/MethodHandle" ∧ yX1_has.cls ≠ "java/lang/invoke/VarHandle" ∧ (parseMethodDescriptor yX1_has.desc).map (fun d => d.parameters.length) = some 1 := by decide +kernel
set_option maxRecDepth 20000 in
theorem iw_X1_opOf_X1 : ∀ w ∈ wsX10, w ∈ wsX1_opOf := by decide +kernel
set_option maxRecDepth 20000 in
theorem fl_X1_opOf_9 : Cond.fieldLink RX1 9 "ProcedureCode$Rows" "ops" "[I" ∈ wsX1_opOf := by decide +kernel
def G_X1_opOf (r : RS) (n : Int32) : Int32 := if (G_X1_has r n) = 0 then ((-1 : Int32)) else (r.2.1 n.toNatClampNeg)
set_option maxHeartbeats 4000000 in
set_option maxRecDepth 100000 in
theorem c_X1_opOf (l : Launch) (w : WG) (c : CS) (t : TS) (r : RS) (s : Nat → SS) (n : Int32) (hq : okR r) : Met l yX1_opOf wsX1_opOf { frames := 1, cells := 0, slots := 0, locals := 21 } (va_Pc [.ref (w.2.2 13), .int n] (wPK w (wC w c t r s))) (xR (some (.int (G_X1_opOf r n)))) 0 0 xNo := by
  refine xOf (cc := cX1_opOf) (maxL := 2) (ret := (some .int)) (lv := [(0, .ref (w.2.2 13)), (1, .int n)]) (by decide) rfl (Nat.le_of_ble_eq_true rfl) rfl ?_
  intro pP eE S mM below meth C hx hb hr hml hts hown hlk hnm hw ls hl
  obtain ⟨hP, hK⟩ := hw
  refine lv_aload_n hx hb dX1_opOf_0 rfl (lv_at hl 0 rfl) ?_
  refine lv_iload_n hx hb dX1_opOf_1 rfl (lv_at hl 1 rfl) ?_
  refine xR_i (va_runV (As := [.int n]) (rest := []) ⟨hx, hb, hml, hown, hts⟩ (c_X1_has l w c t r s n ) (cwV 1 hts gX1_opOf_X1_has rfl rfl rfl dv_X1_has ⟨Nat.le_of_ble_eq_true rfl, Nat.le_of_ble_eq_true rfl⟩) (wPreV hP hK (ci := 2) (q0 := 13) rfl rfl) rfl rfl hl.1 rfl (lv_room (Nat.le_of_ble_eq_true rfl)) dX1_opOf_2 ⟨Nat.zero_le _, Nat.zero_le _⟩) ?_
  refine lv_if_eq (tgt := 17) hx hb dX1_opOf_5 (by decide) (fun b1 => ?_) (fun b1 => ?_)
  ·
    refine lv_iconst (v := -1) hx hb dX1_opOf_17 (by decide) ?_
    exact xR_iret hx hb hr hlk  (Eq.trans rfl (if_pos b1)) dX1_opOf_18
  ·
    refine lv_aload_n hx hb dX1_opOf_8 rfl (lv_at hl 0 rfl) ?_
    refine va_get (D := w.1) (ci := 2) (v := .ref (w.2.2 14)) (C := RX1) (T := TX1) (N := 7) hx hb hts iw_X1_opOf_X1 hown hK.1 hP 13 rfl rfl 1 (by decide) (hts _ fl_X1_opOf_9) (fun _ h9 => h9) rfl dX1_opOf_9 ?_
    refine lv_iload_n hx hb dX1_opOf_12 rfl (lv_at hl 1 rfl) ?_
    refine va_iald hx hb hK.1 hP 14 0 rfl rfl (okR_in hq b1) dX1_opOf_13 ?_
    refine lv_goto (tgt := 18) hx hb dX1_opOf_14 (by decide) ?_
    exact xR_iret hx hb hr hlk  (Eq.trans rfl (if_neg b1)) dX1_opOf_18
set_option maxRecDepth 20000 in
theorem mw_X1_numberOf_k38 : Cond.constantLong RX1 38 (-1) ∈ wsX1_numberOf := by decide +kernel
set_option maxRecDepth 20000 in
theorem iw_X1_numberOf_X1 : ∀ w ∈ wsX10, w ∈ wsX1_numberOf := by decide +kernel
set_option maxRecDepth 20000 in
theorem fl_X1_numberOf_15 : Cond.fieldLink RX1 15 "ProcedureCode$Rows" "numbers" "[J" ∈ wsX1_numberOf := by decide +kernel
def G_X1_numberOf (r : RS) (n : Int32) : Int64 := if (G_X1_has r n) = 0 then ((-1 : Int64)) else (r.2.2.1 n.toNatClampNeg)
set_option maxHeartbeats 4000000 in
set_option maxRecDepth 100000 in
theorem c_X1_numberOf (l : Launch) (w : WG) (c : CS) (t : TS) (r : RS) (s : Nat → SS) (n : Int32) (hq : okR r) : Met l yX1_numberOf wsX1_numberOf { frames := 1, cells := 0, slots := 0, locals := 21 } (va_Pc [.ref (w.2.2 13), .int n] (wPK w (wC w c t r s))) (xR (some (.long (G_X1_numberOf r n)))) 0 0 xNo := by
  refine xOf (cc := cX1_numberOf) (maxL := 2) (ret := (some .long)) (lv := [(0, .ref (w.2.2 13)), (1, .int n)]) (by decide) rfl (Nat.le_of_ble_eq_true rfl) rfl ?_
  intro pP eE S mM below meth C hx hb hr hml hts hown hlk hnm hw ls hl
  obtain ⟨hP, hK⟩ := hw
  refine lv_aload_n hx hb dX1_numberOf_0 rfl (lv_at hl 0 rfl) ?_
  refine lv_iload_n hx hb dX1_numberOf_1 rfl (lv_at hl 1 rfl) ?_
  refine xR_i (va_runV (As := [.int n]) (rest := []) ⟨hx, hb, hml, hown, hts⟩ (c_X1_has l w c t r s n ) (cwV 1 hts gX1_numberOf_X1_has rfl rfl rfl dv_X1_has ⟨Nat.le_of_ble_eq_true rfl, Nat.le_of_ble_eq_true rfl⟩) (wPreV hP hK (ci := 2) (q0 := 13) rfl rfl) rfl rfl hl.1 rfl (lv_room (Nat.le_of_ble_eq_true rfl)) dX1_numberOf_2 ⟨Nat.zero_le _, Nat.zero_le _⟩) ?_
  refine lv_if_eq (tgt := 17) hx hb dX1_numberOf_5 (by decide) (fun b1 => ?_) (fun b1 => ?_)
  ·
    refine lv_ldc2 (v := -1) hx hb hown (hts _ mw_X1_numberOf_k38) dX1_numberOf_17 ?_
    exact xR_lret hx hb hr hlk  (Eq.trans rfl (if_pos b1)) dX1_numberOf_20
  ·
    refine lv_aload_n hx hb dX1_numberOf_8 rfl (lv_at hl 0 rfl) ?_
    refine va_get (D := w.1) (ci := 2) (v := .ref (w.2.2 15)) (C := RX1) (T := TX1) (N := 7) hx hb hts iw_X1_numberOf_X1 hown hK.1 hP 13 rfl rfl 2 (by decide) (hts _ fl_X1_numberOf_15) (fun _ h9 => h9) rfl dX1_numberOf_9 ?_
    refine lv_iload_n hx hb dX1_numberOf_12 rfl (lv_at hl 1 rfl) ?_
    refine va_lald hx hb hK.1 hP 15 3 rfl rfl (okR_in hq b1) dX1_numberOf_13 ?_
    refine lv_goto (tgt := 20) hx hb dX1_numberOf_14 (by decide) ?_
    exact xR_lret hx hb hr hlk  (Eq.trans rfl (if_neg b1)) dX1_numberOf_20
set_option maxRecDepth 20000 in
theorem iw_X1_isShort_X1 : ∀ w ∈ wsX10, w ∈ wsX1_isShort := by decide +kernel
set_option maxRecDepth 20000 in
theorem fl_X1_isShort_19 : Cond.fieldLink RX1 19 "ProcedureCode$Rows" "shortWays" "[Z" ∈ wsX1_isShort := by decide +kernel
def G_X1_isShort (r : RS) (n : Int32) : Int32 := if (G_X1_has r n) = 0 then ((0 : Int32)) else (if (r.2.2.2.1 n.toNatClampNeg) = 0 then ((0 : Int32)) else ((1 : Int32)))
set_option maxHeartbeats 4000000 in
set_option maxRecDepth 100000 in
theorem c_X1_isShort (l : Launch) (w : WG) (c : CS) (t : TS) (r : RS) (s : Nat → SS) (n : Int32) (hq : okR r) : Met l yX1_isShort wsX1_isShort { frames := 1, cells := 0, slots := 0, locals := 21 } (va_Pc [.ref (w.2.2 13), .int n] (wPK w (wC w c t r s))) (xR (some (.int (G_X1_isShort r n)))) 0 0 xNo := by
  refine xOf (cc := cX1_isShort) (maxL := 2) (ret := (some .boolean)) (lv := [(0, .ref (w.2.2 13)), (1, .int n)]) (by decide) rfl (Nat.le_of_ble_eq_true rfl) rfl ?_
  intro pP eE S mM below meth C hx hb hr hml hts hown hlk hnm hw ls hl
  obtain ⟨hP, hK⟩ := hw
  refine lv_aload_n hx hb dX1_isShort_0 rfl (lv_at hl 0 rfl) ?_
  refine lv_iload_n hx hb dX1_isShort_1 rfl (lv_at hl 1 rfl) ?_
  refine xR_i (va_runV (As := [.int n]) (rest := []) ⟨hx, hb, hml, hown, hts⟩ (c_X1_has l w c t r s n ) (cwV 1 hts gX1_isShort_X1_has rfl rfl rfl dv_X1_has ⟨Nat.le_of_ble_eq_true rfl, Nat.le_of_ble_eq_true rfl⟩) (wPreV hP hK (ci := 2) (q0 := 13) rfl rfl) rfl rfl hl.1 rfl (lv_room (Nat.le_of_ble_eq_true rfl)) dX1_isShort_2 ⟨Nat.zero_le _, Nat.zero_le _⟩) ?_
  refine lv_if_eq (tgt := 21) hx hb dX1_isShort_5 (by decide) (fun b1 => ?_) (fun b1 => ?_)
  ·
    refine lv_iconst (v := 0) hx hb dX1_isShort_21 (by decide) ?_
    exact xR_zret hx hb hr hlk rfl (Eq.trans rfl (if_pos b1)) dX1_isShort_22
  ·
    refine lv_aload_n hx hb dX1_isShort_8 rfl (lv_at hl 0 rfl) ?_
    refine va_get (D := w.1) (ci := 2) (v := .ref (w.2.2 16)) (C := RX1) (T := TX1) (N := 7) hx hb hts iw_X1_isShort_X1 hown hK.1 hP 13 rfl rfl 3 (by decide) (hts _ fl_X1_isShort_19) (fun _ h9 => h9) rfl dX1_isShort_9 ?_
    refine lv_iload_n hx hb dX1_isShort_12 rfl (lv_at hl 1 rfl) ?_
    refine va_zald hx hb hK.1 hP 16 2 rfl rfl (okR_in hq b1) dX1_isShort_13 ?_
    refine lv_if_eq (tgt := 21) hx hb dX1_isShort_14 (by decide) (fun b2 => ?_) (fun b2 => ?_)
    ·
      refine lv_iconst (v := 0) hx hb dX1_isShort_21 (by decide) ?_
      exact xR_zret hx hb hr hlk rfl (Eq.trans (Eq.trans rfl (if_neg b1)) (if_pos b2)) dX1_isShort_22
    ·
      refine lv_iconst (v := 1) hx hb dX1_isShort_17 (by decide) ?_
      refine lv_goto (tgt := 22) hx hb dX1_isShort_18 (by decide) ?_
      exact xR_zret hx hb hr hlk rfl (Eq.trans (Eq.trans rfl (if_neg b1)) (if_neg b2)) dX1_isShort_22
set_option maxRecDepth 20000 in
theorem iw_X1_storingRow_X1 : ∀ w ∈ wsX10, w ∈ wsX1_storingRow := by decide +kernel
set_option maxRecDepth 20000 in
theorem fl_X1_storingRow_30 : Cond.fieldLink RX1 30 "ProcedureCode$Rows" "count" "I" ∈ wsX1_storingRow := by decide +kernel
set_option maxRecDepth 20000 in
theorem fl_X1_storingRow_9 : Cond.fieldLink RX1 9 "ProcedureCode$Rows" "ops" "[I" ∈ wsX1_storingRow := by decide +kernel
def G_X1_storingRow_L4 (r : RS) (n : Int32) : Nat → Int32 → Int32 → Int32
  | 0, _, _ => 0
  | fu + 1, sn, i => if r.1 ≤ i then ((-1 : Int32)) else (if (400 : Int32) ≤ i then ((-1 : Int32)) else (if (r.2.1 i.toNatClampNeg) = (9 : Int32) then (if sn = n then (i) else (G_X1_storingRow_L4 r n fu (sn + (1 : Int32)) (i + (1 : Int32)))) else (if (r.2.1 i.toNatClampNeg) = (10 : Int32) then (if sn = n then (i) else (G_X1_storingRow_L4 r n fu (sn + (1 : Int32)) (i + (1 : Int32)))) else (G_X1_storingRow_L4 r n fu sn (i + (1 : Int32))))))
def OK_X1_storingRow_L4 (r : RS) (n : Int32) : Nat → Int32 → Int32 → Prop
  | 0, _, _ => False
  | fu + 1, sn, i => if r.1 ≤ i then (True) else (if (400 : Int32) ≤ i then (True) else ((vp_in i 400) ∧ (if (r.2.1 i.toNatClampNeg) = (9 : Int32) then (if sn = n then (True) else (OK_X1_storingRow_L4 r n fu (sn + (1 : Int32)) (i + (1 : Int32)))) else ((vp_in i 400) ∧ (if (r.2.1 i.toNatClampNeg) = (10 : Int32) then (if sn = n then (True) else (OK_X1_storingRow_L4 r n fu (sn + (1 : Int32)) (i + (1 : Int32)))) else (OK_X1_storingRow_L4 r n fu sn (i + (1 : Int32))))))))
def G_X1_storingRow (r : RS) (n : Int32) : Int32 := G_X1_storingRow_L4 r n 402 (0 : Int32) (0 : Int32)
def OK_X1_storingRow (r : RS) (n : Int32) : Prop := OK_X1_storingRow_L4 r n 402 (0 : Int32) (0 : Int32)
set_option maxHeartbeats 4000000 in
set_option maxRecDepth 100000 in
theorem L_X1_storingRow_L4 (l : Launch) (w : WG) (c : CS) (t : TS) (r : RS) (s : Nat → SS) (n : Int32) {pP : Program} {eE : Env} {S : State} {mM : MethodId} {below : List Frame} {meth : Method} {C : Code} (hx : pP.tables.exec = Jvm.exec) (hb : C.code = cX1_storingRow) (hr : meth.sig.returnType = (some .int)) (hml : C.maxLocals = 4) (hts : ∀ q9 ∈ wsX1_storingRow, q9.before ([.ref (w.2.2 13), .int n] : List Value).toArray S = true) (hown : S.vm.findClass yX1_storingRow.cls = some mM.cls) (hlk : meth.locks = false) (hK : wK w S) (g : Int32) :
    ∀ (fu : Nat) (sn : Int32) (i : Int32), va_P w.1 vwCl (wC w c t r s) S.heap → OK_X1_storingRow_L4 r n fu sn i → g = G_X1_storingRow_L4 r n fu sn i → ∀ ls : Array Slot, lv_has ls 4 [(0, .ref (w.2.2 13)), (1, .int n), (2, .int sn), (3, .int i)] → W pP l eE { frames := 0, cells := 0, slots := 0, locals := 0 } S mM ([.ref (w.2.2 13), .int n] : List Value).toArray below meth C S.heap [] 0 0 (MQ below (xR (some (.int g))) ([.ref (w.2.2 13), .int n] : List Value).toArray S 0 0 xNo) (F0 mM 4 ls []) := by
  intro fu
  induction fu with
  | zero =>
    intro sn i hP hok hg ls hl
    exact hok.elim
  | succ fu ih =>
    intro sn i hP hok hg ls hl
    refine lv_iload_n hx hb dX1_storingRow_4 rfl (lv_at hl 3 rfl) ?_
    refine lv_aload_n hx hb dX1_storingRow_5 rfl (lv_at hl 0 rfl) ?_
    refine va_get (D := w.1) (ci := 2) (v := .int r.1) (C := RX1) (T := TX1) (N := 7) hx hb hts iw_X1_storingRow_X1 hown hK.1 hP 13 rfl rfl 4 (by decide) (hts _ fl_X1_storingRow_30) (fun _ h9 => h9) rfl dX1_storingRow_6 ?_
    refine lv_icmp_ge (tgt := 57) hx hb dX1_storingRow_9 (by decide) (fun b1 => ?_) (fun b1 => ?_)
    ·
      have k2 := Eq.mp (if_pos b1) hok
      refine lv_iconst (v := -1) hx hb dX1_storingRow_57 (by decide) ?_
      exact xR_iret hx hb hr hlk  (Eq.trans hg (if_pos b1)) dX1_storingRow_58
    ·
      have k3 := Eq.mp (if_neg b1) hok
      refine lv_iload_n hx hb dX1_storingRow_12 rfl (lv_at hl 3 rfl) ?_
      refine lv_sipush (v := 400) hx hb dX1_storingRow_13 (by decide) ?_
      refine lv_icmp_ge (tgt := 57) hx hb dX1_storingRow_16 (by decide) (fun b4 => ?_) (fun b4 => ?_)
      ·
        have k5 := Eq.mp (if_pos b4) k3
        refine lv_iconst (v := -1) hx hb dX1_storingRow_57 (by decide) ?_
        exact xR_iret hx hb hr hlk  (Eq.trans (Eq.trans hg (if_neg b1)) (if_pos b4)) dX1_storingRow_58
      ·
        have k6 := Eq.mp (if_neg b4) k3
        refine lv_aload_n hx hb dX1_storingRow_19 rfl (lv_at hl 0 rfl) ?_
        refine va_get (D := w.1) (ci := 2) (v := .ref (w.2.2 14)) (C := RX1) (T := TX1) (N := 7) hx hb hts iw_X1_storingRow_X1 hown hK.1 hP 13 rfl rfl 1 (by decide) (hts _ fl_X1_storingRow_9) (fun _ h9 => h9) rfl dX1_storingRow_20 ?_
        refine lv_iload_n hx hb dX1_storingRow_23 rfl (lv_at hl 3 rfl) ?_
        have o7 := k6.1
        have k8 := k6.2
        refine va_iald hx hb hK.1 hP 14 0 rfl rfl o7 dX1_storingRow_24 ?_
        refine lv_bipush (v := 9) hx hb dX1_storingRow_25 (by decide) ?_
        refine lv_icmp_eq (tgt := 41) hx hb dX1_storingRow_27 (by decide) (fun b9 => ?_) (fun b9 => ?_)
        ·
          have k10 := Eq.mp (if_pos b9) k8
          refine lv_iload_n hx hb dX1_storingRow_41 rfl (lv_at hl 2 rfl) ?_
          refine lv_iload_n hx hb dX1_storingRow_42 rfl (lv_at hl 1 rfl) ?_
          refine lv_icmp_ne (tgt := 48) hx hb dX1_storingRow_43 (by decide) (fun b11 => ?_) (fun b11 => ?_)
          ·
            have k12 := Eq.mp (if_neg b11) k10
            refine lv_iinc (v := sn + (1 : Int32)) (lv' := [(2, .int (sn + (1 : Int32))), (0, .ref (w.2.2 13)), (1, .int n), (3, .int i)]) hx hb dX1_storingRow_48 hl (k := 2) rfl rfl (by decide) rfl (fun ls hl => ?_)
            refine lv_iinc (v := i + (1 : Int32)) (lv' := [(3, .int (i + (1 : Int32))), (2, .int (sn + (1 : Int32))), (0, .ref (w.2.2 13)), (1, .int n)]) hx hb dX1_storingRow_51 hl (k := 3) rfl rfl (by decide) rfl (fun ls hl => ?_)
            refine lv_goto (tgt := 4) hx hb dX1_storingRow_54 (by decide) ?_
            exact ih (sn + (1 : Int32)) (i + (1 : Int32)) hP k12 (Eq.trans (Eq.trans (Eq.trans (Eq.trans hg (if_neg b1)) (if_neg b4)) (if_pos b9)) (if_neg b11)) ls (lv_sub hl [2, 3, 1, 0] rfl)
          ·
            have k13 := Eq.mp (if_pos b11) k10
            refine lv_iload_n hx hb dX1_storingRow_46 rfl (lv_at hl 3 rfl) ?_
            exact xR_iret hx hb hr hlk  (Eq.trans (Eq.trans (Eq.trans (Eq.trans hg (if_neg b1)) (if_neg b4)) (if_pos b9)) (if_pos b11)) dX1_storingRow_47
        ·
          have k14 := Eq.mp (if_neg b9) k8
          refine lv_aload_n hx hb dX1_storingRow_30 rfl (lv_at hl 0 rfl) ?_
          refine va_get (D := w.1) (ci := 2) (v := .ref (w.2.2 14)) (C := RX1) (T := TX1) (N := 7) hx hb hts iw_X1_storingRow_X1 hown hK.1 hP 13 rfl rfl 1 (by decide) (hts _ fl_X1_storingRow_9) (fun _ h9 => h9) rfl dX1_storingRow_31 ?_
          refine lv_iload_n hx hb dX1_storingRow_34 rfl (lv_at hl 3 rfl) ?_
          have o15 := k14.1
          have k16 := k14.2
          refine va_iald hx hb hK.1 hP 14 0 rfl rfl o15 dX1_storingRow_35 ?_
          refine lv_bipush (v := 10) hx hb dX1_storingRow_36 (by decide) ?_
          refine lv_icmp_ne (tgt := 51) hx hb dX1_storingRow_38 (by decide) (fun b17 => ?_) (fun b17 => ?_)
          ·
            have k18 := Eq.mp (if_neg b17) k16
            refine lv_iinc (v := i + (1 : Int32)) (lv' := [(3, .int (i + (1 : Int32))), (0, .ref (w.2.2 13)), (1, .int n), (2, .int sn)]) hx hb dX1_storingRow_51 hl (k := 3) rfl rfl (by decide) rfl (fun ls hl => ?_)
            refine lv_goto (tgt := 4) hx hb dX1_storingRow_54 (by decide) ?_
            exact ih sn (i + (1 : Int32)) hP k18 (Eq.trans (Eq.trans (Eq.trans (Eq.trans hg (if_neg b1)) (if_neg b4)) (if_neg b9)) (if_neg b17)) ls (lv_sub hl [1, 2, 3, 0] rfl)
          ·
            have k19 := Eq.mp (if_pos b17) k16
            refine lv_iload_n hx hb dX1_storingRow_41 rfl (lv_at hl 2 rfl) ?_
            refine lv_iload_n hx hb dX1_storingRow_42 rfl (lv_at hl 1 rfl) ?_
            refine lv_icmp_ne (tgt := 48) hx hb dX1_storingRow_43 (by decide) (fun b20 => ?_) (fun b20 => ?_)
            ·
              have k21 := Eq.mp (if_neg b20) k19
              refine lv_iinc (v := sn + (1 : Int32)) (lv' := [(2, .int (sn + (1 : Int32))), (0, .ref (w.2.2 13)), (1, .int n), (3, .int i)]) hx hb dX1_storingRow_48 hl (k := 2) rfl rfl (by decide) rfl (fun ls hl => ?_)
              refine lv_iinc (v := i + (1 : Int32)) (lv' := [(3, .int (i + (1 : Int32))), (2, .int (sn + (1 : Int32))), (0, .ref (w.2.2 13)), (1, .int n)]) hx hb dX1_storingRow_51 hl (k := 3) rfl rfl (by decide) rfl (fun ls hl => ?_)
              refine lv_goto (tgt := 4) hx hb dX1_storingRow_54 (by decide) ?_
              exact ih (sn + (1 : Int32)) (i + (1 : Int32)) hP k21 (Eq.trans (Eq.trans (Eq.trans (Eq.trans (Eq.trans hg (if_neg b1)) (if_neg b4)) (if_neg b9)) (if_pos b17)) (if_neg b20)) ls (lv_sub hl [2, 3, 1, 0] rfl)
            ·
              have k22 := Eq.mp (if_pos b20) k19
              refine lv_iload_n hx hb dX1_storingRow_46 rfl (lv_at hl 3 rfl) ?_
              exact xR_iret hx hb hr hlk  (Eq.trans (Eq.trans (Eq.trans (Eq.trans (Eq.trans hg (if_neg b1)) (if_neg b4)) (if_neg b9)) (if_pos b17)) (if_pos b20)) dX1_storingRow_47
set_option maxHeartbeats 4000000 in
set_option maxRecDepth 100000 in
theorem c_X1_storingRow (l : Launch) (w : WG) (c : CS) (t : TS) (r : RS) (s : Nat → SS) (n : Int32) (hok : OK_X1_storingRow r n) : Met l yX1_storingRow wsX1_storingRow { frames := 0, cells := 0, slots := 0, locals := 0 } (va_Pc [.ref (w.2.2 13), .int n] (wPK w (wC w c t r s))) (xR (some (.int (G_X1_storingRow r n)))) 0 0 xNo := by
  refine xOf (cc := cX1_storingRow) (maxL := 4) (ret := (some .int)) (lv := [(0, .ref (w.2.2 13)), (1, .int n)]) (by decide) rfl (Nat.le_of_ble_eq_true rfl) rfl ?_
  intro pP eE S mM below meth C hx hb hr hml hts hown hlk hnm hw ls hl
  obtain ⟨hP, hK⟩ := hw
  refine lv_iconst (v := 0) hx hb dX1_storingRow_0 (by decide) ?_
  refine lv_istore_n (lv' := [(2, .int (0 : Int32)), (0, .ref (w.2.2 13)), (1, .int n)]) hx hb dX1_storingRow_1 rfl hl (by decide) rfl (fun ls hl => ?_)
  refine lv_iconst (v := 0) hx hb dX1_storingRow_2 (by decide) ?_
  refine lv_istore_n (lv' := [(3, .int (0 : Int32)), (2, .int (0 : Int32)), (0, .ref (w.2.2 13)), (1, .int n)]) hx hb dX1_storingRow_3 rfl hl (by decide) rfl (fun ls hl => ?_)
  exact L_X1_storingRow_L4 l w c t r s n  hx hb hr hml hts hown hlk hK _ 402 (0 : Int32) (0 : Int32) hP hok rfl ls (lv_sub hl [2, 3, 1, 0] rfl)
set_option maxRecDepth 20000 in
theorem iw_X1_addRow_X1 : ∀ w ∈ wsX10, w ∈ wsX1_addRow := by decide +kernel
set_option maxRecDepth 20000 in
theorem fl_X1_addRow_30 : Cond.fieldLink RX1 30 "ProcedureCode$Rows" "count" "I" ∈ wsX1_addRow := by decide +kernel
set_option maxRecDepth 20000 in
theorem fl_X1_addRow_9 : Cond.fieldLink RX1 9 "ProcedureCode$Rows" "ops" "[I" ∈ wsX1_addRow := by decide +kernel
set_option maxRecDepth 20000 in
theorem fl_X1_addRow_15 : Cond.fieldLink RX1 15 "ProcedureCode$Rows" "numbers" "[J" ∈ wsX1_addRow := by decide +kernel
set_option maxRecDepth 20000 in
theorem fl_X1_addRow_19 : Cond.fieldLink RX1 19 "ProcedureCode$Rows" "shortWays" "[Z" ∈ wsX1_addRow := by decide +kernel
def G_X1_addRow (r : RS) (op : Int32) (v : Int64) (sw : Int32) : RS := if r.1 < 0 then (r) else (if r.1 < (400 : Int32) then ((r.1 + (1 : Int32), upd r.2.1 r.1.toNatClampNeg op, vp_updL r.2.2.1 r.1.toNatClampNeg v, upd r.2.2.2.1 r.1.toNatClampNeg (vp_nar .boolean sw), r.2.2.2.2.1, r.2.2.2.2.2)) else (r))
set_option maxHeartbeats 4000000 in
set_option maxRecDepth 100000 in
theorem c_X1_addRow (l : Launch) (w : WG) (hA : wAp w 26) (c : CS) (t : TS) (r : RS) (s : Nat → SS) (op : Int32) (v : Int64) (sw : Int32) : Met l yX1_addRow wsX1_addRow { frames := 0, cells := 0, slots := 0, locals := 0 } (va_Pc [.ref (w.2.2 13), .int op, .long v, .int sw] (wPK w (wC w c t r s))) (xM none (fun H => va_P w.1 vwCl (wC w c t (G_X1_addRow r op v sw) s) H) (wA w 26)) 0 0 (wA w 26) := by
  refine xOf (cc := cX1_addRow) (maxL := 5) (ret := none) (lv := [(0, .ref (w.2.2 13)), (1, .int op), (2, .long v), (4, .int sw)]) (by decide) rfl (Nat.le_of_ble_eq_true rfl) rfl ?_
  intro pP eE S mM below meth C hx hb hr hml hts hown hlk hnm hw ls hl
  obtain ⟨hP, hK⟩ := hw
  have hS : va_S (wA w 26) S.heap S.heap [] := va_S.rf
  have hP : va_P w.1 vwCl (wC w c t r s) S.heap := hP
  refine lv_aload_n hx hb dX1_addRow_0 rfl (lv_at hl 0 rfl) ?_
  refine va_get (D := w.1) (ci := 2) (v := .int r.1) (C := RX1) (T := TX1) (N := 7) hx hb hts iw_X1_addRow_X1 hown hK.1 hP 13 rfl rfl 4 (by decide) (hts _ fl_X1_addRow_30) (fun _ h9 => h9) rfl dX1_addRow_1 ?_
  refine lv_if_lt (tgt := 17) hx hb dX1_addRow_4 (by decide) (fun b1 => ?_) (fun b1 => ?_)
  ·
    have e9 : G_X1_addRow r op v sw = r := Eq.trans rfl (if_pos b1)
    exact xM_vret hx hb hr hlk  hS  (by rw [e9]; exact hP) dX1_addRow_17
  ·
    refine lv_aload_n hx hb dX1_addRow_7 rfl (lv_at hl 0 rfl) ?_
    refine va_get (D := w.1) (ci := 2) (v := .int r.1) (C := RX1) (T := TX1) (N := 7) hx hb hts iw_X1_addRow_X1 hown hK.1 hP 13 rfl rfl 4 (by decide) (hts _ fl_X1_addRow_30) (fun _ h9 => h9) rfl dX1_addRow_8 ?_
    refine lv_sipush (v := 400) hx hb dX1_addRow_11 (by decide) ?_
    refine lv_icmp_lt (tgt := 18) hx hb dX1_addRow_14 (by decide) (fun b2 => ?_) (fun b2 => ?_)
    ·
      refine lv_aload_n hx hb dX1_addRow_18 rfl (lv_at hl 0 rfl) ?_
      refine va_get (D := w.1) (ci := 2) (v := .ref (w.2.2 14)) (C := RX1) (T := TX1) (N := 7) hx hb hts iw_X1_addRow_X1 hown hK.1 hP 13 rfl rfl 1 (by decide) (hts _ fl_X1_addRow_9) (fun _ h9 => h9) rfl dX1_addRow_19 ?_
      refine lv_aload_n hx hb dX1_addRow_22 rfl (lv_at hl 0 rfl) ?_
      refine va_get (D := w.1) (ci := 2) (v := .int r.1) (C := RX1) (T := TX1) (N := 7) hx hb hts iw_X1_addRow_X1 hown hK.1 hP 13 rfl rfl 4 (by decide) (hts _ fl_X1_addRow_30) (fun _ h9 => h9) rfl dX1_addRow_23 ?_
      refine lv_iload_n hx hb dX1_addRow_26 rfl (lv_at hl 1 rfl) ?_
      refine va_iast hx hb hK.1 hP (wC_D hA) hS 14 0 rfl rfl (okX1_n b1 b2) dX1_addRow_27 (fun H locs hP _ hS => ?_)
      have hP : va_P w.1 vwCl (wC w c t (r.1, upd r.2.1 r.1.toNatClampNeg op, r.2.2.1, r.2.2.2.1, r.2.2.2.2.1, r.2.2.2.2.2) s) H := hP
      refine lv_aload_n hx hb dX1_addRow_28 rfl (lv_at hl 0 rfl) ?_
      refine va_get (D := w.1) (ci := 2) (v := .ref (w.2.2 15)) (C := RX1) (T := TX1) (N := 7) hx hb hts iw_X1_addRow_X1 hown hK.1 hP 13 rfl rfl 2 (by decide) (hts _ fl_X1_addRow_15) (fun _ h9 => h9) rfl dX1_addRow_29 ?_
      refine lv_aload_n hx hb dX1_addRow_32 rfl (lv_at hl 0 rfl) ?_
      refine va_get (D := w.1) (ci := 2) (v := .int r.1) (C := RX1) (T := TX1) (N := 7) hx hb hts iw_X1_addRow_X1 hown hK.1 hP 13 rfl rfl 4 (by decide) (hts _ fl_X1_addRow_30) (fun _ h9 => h9) rfl dX1_addRow_33 ?_
      refine lv_lload_n hx hb dX1_addRow_36 rfl (lv_at hl 2 rfl) ?_
      refine va_last hx hb hK.1 hP (wC_D hA) hS 15 3 rfl rfl (okX1_n b1 b2) dX1_addRow_37 (fun H locs hP _ hS => ?_)
      have hP : va_P w.1 vwCl (wC w c t (r.1, upd r.2.1 r.1.toNatClampNeg op, vp_updL r.2.2.1 r.1.toNatClampNeg v, r.2.2.2.1, r.2.2.2.2.1, r.2.2.2.2.2) s) H := hP
      refine lv_aload_n hx hb dX1_addRow_38 rfl (lv_at hl 0 rfl) ?_
      refine va_get (D := w.1) (ci := 2) (v := .ref (w.2.2 16)) (C := RX1) (T := TX1) (N := 7) hx hb hts iw_X1_addRow_X1 hown hK.1 hP 13 rfl rfl 3 (by decide) (hts _ fl_X1_addRow_19) (fun _ h9 => h9) rfl dX1_addRow_39 ?_
      refine lv_aload_n hx hb dX1_addRow_42 rfl (lv_at hl 0 rfl) ?_
      refine va_get (D := w.1) (ci := 2) (v := .int r.1) (C := RX1) (T := TX1) (N := 7) hx hb hts iw_X1_addRow_X1 hown hK.1 hP 13 rfl rfl 4 (by decide) (hts _ fl_X1_addRow_30) (fun _ h9 => h9) rfl dX1_addRow_43 ?_
      refine lv_iload hx hb dX1_addRow_46 (lv_at hl 3 rfl) ?_
      refine va_zast hx hb hK.1 hP (wC_D hA) hS 16 2 rfl rfl (okX1_n b1 b2) dX1_addRow_48 (fun H locs hP _ hS => ?_)
      have hP : va_P w.1 vwCl (wC w c t (r.1, upd r.2.1 r.1.toNatClampNeg op, vp_updL r.2.2.1 r.1.toNatClampNeg v, upd r.2.2.2.1 r.1.toNatClampNeg (vp_nar .boolean sw), r.2.2.2.2.1, r.2.2.2.2.2) s) H := hP
      refine lv_aload_n hx hb dX1_addRow_49 rfl (lv_at hl 0 rfl) ?_
      refine lv_dup hx hb dX1_addRow_50 rfl ?_
      refine va_get (D := w.1) (ci := 2) (v := .int r.1) (C := RX1) (T := TX1) (N := 7) hx hb hts iw_X1_addRow_X1 hown hK.1 hP 13 rfl rfl 4 (by decide) (hts _ fl_X1_addRow_30) (fun _ h9 => h9) rfl dX1_addRow_51 ?_
      refine lv_iconst (v := 1) hx hb dX1_addRow_54 (by decide) ?_
      refine lv_iadd hx hb dX1_addRow_55 ?_
      refine va_put (D := w.1) (ci := 2) (v := .int (r.1 + (1 : Int32))) (ty := .int) (C := RX1) (T := TX1) (N := 7) hx hb hts iw_X1_addRow_X1 tyX1 tyX1_ok nmX1 hown hK.1 hP (wC_D hA) hS 13 rfl rfl 4 (by decide) (hts _ fl_X1_addRow_30) (fun _ h9 => h9) rfl (by decide +kernel) rfl rfl (Nat.le_of_ble_eq_true rfl) dX1_addRow_56 (fun H locs hP _ hS => ?_)
      have hP : va_P w.1 vwCl (wC w c t (r.1 + (1 : Int32), upd r.2.1 r.1.toNatClampNeg op, vp_updL r.2.2.1 r.1.toNatClampNeg v, upd r.2.2.2.1 r.1.toNatClampNeg (vp_nar .boolean sw), r.2.2.2.2.1, r.2.2.2.2.2) s) H := hP
      have e9 : G_X1_addRow r op v sw = (r.1 + (1 : Int32), upd r.2.1 r.1.toNatClampNeg op, vp_updL r.2.2.1 r.1.toNatClampNeg v, upd r.2.2.2.1 r.1.toNatClampNeg (vp_nar .boolean sw), r.2.2.2.2.1, r.2.2.2.2.2) := Eq.trans (Eq.trans rfl (if_neg b1)) (if_pos b2)
      exact xM_vret hx hb hr hlk  hS  (by rw [e9]; exact hP) dX1_addRow_59
    ·
      have e9 : G_X1_addRow r op v sw = r := Eq.trans (Eq.trans rfl (if_neg b1)) (if_neg b2)
      exact xM_vret hx hb hr hlk  hS  (by rw [e9]; exact hP) dX1_addRow_17
set_option maxRecDepth 20000 in
theorem iw_X1_aim_X1 : ∀ w ∈ wsX10, w ∈ wsX1_aim := by decide +kernel
set_option maxRecDepth 20000 in
theorem fl_X1_aim_15 : Cond.fieldLink RX1 15 "ProcedureCode$Rows" "numbers" "[J" ∈ wsX1_aim := by decide +kernel
def G_X1_aim (r : RS) (n : Int32) (v : Int32) : RS := if (G_X1_has r n) = 0 then (r) else ((r.1, r.2.1, vp_updL r.2.2.1 n.toNatClampNeg v.toInt64, r.2.2.2.1, r.2.2.2.2.1, r.2.2.2.2.2))
set_option maxHeartbeats 4000000 in
set_option maxRecDepth 100000 in
theorem c_X1_aim (l : Launch) (w : WG) (hA : wAp w 26) (c : CS) (t : TS) (r : RS) (s : Nat → SS) (n : Int32) (v : Int32) (hq : okR r) : Met l yX1_aim wsX1_aim { frames := 1, cells := 0, slots := 0, locals := 21 } (va_Pc [.ref (w.2.2 13), .int n, .int v] (wPK w (wC w c t r s))) (xM none (fun H => va_P w.1 vwCl (wC w c t (G_X1_aim r n v) s) H) (wA w 26)) 0 0 (wA w 26) := by
  refine xOf (cc := cX1_aim) (maxL := 3) (ret := none) (lv := [(0, .ref (w.2.2 13)), (1, .int n), (2, .int v)]) (by decide) rfl (Nat.le_of_ble_eq_true rfl) rfl ?_
  intro pP eE S mM below meth C hx hb hr hml hts hown hlk hnm hw ls hl
  obtain ⟨hP, hK⟩ := hw
  have hS : va_S (wA w 26) S.heap S.heap [] := va_S.rf
  have hP : va_P w.1 vwCl (wC w c t r s) S.heap := hP
  refine lv_aload_n hx hb dX1_aim_0 rfl (lv_at hl 0 rfl) ?_
  refine lv_iload_n hx hb dX1_aim_1 rfl (lv_at hl 1 rfl) ?_
  refine xR_i (va_runV (As := [.int n]) (rest := []) ⟨hx, hb, hml, hown, hts⟩ (c_X1_has l w c t r s n ) (cwV 1 hts gX1_aim_X1_has rfl rfl rfl dv_X1_has ⟨Nat.le_of_ble_eq_true rfl, Nat.le_of_ble_eq_true rfl⟩) (wPreV hP hK (ci := 2) (q0 := 13) rfl rfl) rfl rfl hl.1 rfl (lv_room (Nat.le_of_ble_eq_true rfl)) dX1_aim_2 ⟨Nat.zero_le _, Nat.zero_le _⟩) ?_
  refine lv_if_eq (tgt := 16) hx hb dX1_aim_5 (by decide) (fun b1 => ?_) (fun b1 => ?_)
  ·
    have e9 : G_X1_aim r n v = r := Eq.trans rfl (if_pos b1)
    exact xM_vret hx hb hr hlk  hS  (by rw [e9]; exact hP) dX1_aim_16
  ·
    refine lv_aload_n hx hb dX1_aim_8 rfl (lv_at hl 0 rfl) ?_
    refine va_get (D := w.1) (ci := 2) (v := .ref (w.2.2 15)) (C := RX1) (T := TX1) (N := 7) hx hb hts iw_X1_aim_X1 hown hK.1 hP 13 rfl rfl 2 (by decide) (hts _ fl_X1_aim_15) (fun _ h9 => h9) rfl dX1_aim_9 ?_
    refine lv_iload_n hx hb dX1_aim_12 rfl (lv_at hl 1 rfl) ?_
    refine lv_iload_n hx hb dX1_aim_13 rfl (lv_at hl 2 rfl) ?_
    refine lv_i2l hx hb dX1_aim_14 rfl ?_
    refine va_last hx hb hK.1 hP (wC_D hA) hS 15 3 rfl rfl (okR_in hq b1) dX1_aim_15 (fun H locs hP _ hS => ?_)
    have hP : va_P w.1 vwCl (wC w c t (r.1, r.2.1, vp_updL r.2.2.1 n.toNatClampNeg v.toInt64, r.2.2.2.1, r.2.2.2.2.1, r.2.2.2.2.2) s) H := hP
    have e9 : G_X1_aim r n v = (r.1, r.2.1, vp_updL r.2.2.1 n.toNatClampNeg v.toInt64, r.2.2.2.1, r.2.2.2.2.1, r.2.2.2.2.2) := Eq.trans rfl (if_neg b1)
    exact xM_vret hx hb hr hlk  hS  (by rw [e9]; exact hP) dX1_aim_16
set_option maxRecDepth 20000 in
theorem iw_X1_push_X1 : ∀ w ∈ wsX10, w ∈ wsX1_push := by decide +kernel
set_option maxRecDepth 20000 in
theorem fl_X1_push_86 : Cond.fieldLink RX1 86 "ProcedureCode$Rows" "top" "I" ∈ wsX1_push := by decide +kernel
set_option maxRecDepth 20000 in
theorem fl_X1_push_23 : Cond.fieldLink RX1 23 "ProcedureCode$Rows" "stack" "[J" ∈ wsX1_push := by decide +kernel
def G_X1_push (r : RS) (v : Int64) : RS := if r.2.2.2.2.2 < 0 then (r) else (if (201 : Int32) ≤ r.2.2.2.2.2 then (r) else ((r.1, r.2.1, r.2.2.1, r.2.2.2.1, vp_updL r.2.2.2.2.1 r.2.2.2.2.2.toNatClampNeg v, r.2.2.2.2.2 + (1 : Int32))))
def OK_X1_push (r : RS) (v : Int64) : Prop := if r.2.2.2.2.2 < 0 then (True) else (if (201 : Int32) ≤ r.2.2.2.2.2 then (True) else ((vp_in r.2.2.2.2.2 201) ∧ (True)))
set_option maxHeartbeats 4000000 in
set_option maxRecDepth 100000 in
theorem c_X1_push (l : Launch) (w : WG) (hA : wAp w 26) (c : CS) (t : TS) (r : RS) (s : Nat → SS) (v : Int64) (hok : OK_X1_push r v) : Met l yX1_push wsX1_push { frames := 0, cells := 0, slots := 0, locals := 0 } (va_Pc [.ref (w.2.2 13), .long v] (wPK w (wC w c t r s))) (xM none (fun H => va_P w.1 vwCl (wC w c t (G_X1_push r v) s) H) (wA w 26)) 0 0 (wA w 26) := by
  refine xOf (cc := cX1_push) (maxL := 3) (ret := none) (lv := [(0, .ref (w.2.2 13)), (1, .long v)]) (by decide) rfl (Nat.le_of_ble_eq_true rfl) rfl ?_
  intro pP eE S mM below meth C hx hb hr hml hts hown hlk hnm hw ls hl
  obtain ⟨hP, hK⟩ := hw
  have hS : va_S (wA w 26) S.heap S.heap [] := va_S.rf
  have hP : va_P w.1 vwCl (wC w c t r s) S.heap := hP
  refine lv_aload_n hx hb dX1_push_0 rfl (lv_at hl 0 rfl) ?_
  refine va_get (D := w.1) (ci := 2) (v := .int r.2.2.2.2.2) (C := RX1) (T := TX1) (N := 7) hx hb hts iw_X1_push_X1 hown hK.1 hP 13 rfl rfl 6 (by decide) (hts _ fl_X1_push_86) (fun _ h9 => h9) rfl dX1_push_1 ?_
  refine lv_if_lt (tgt := 39) hx hb dX1_push_4 (by decide) (fun b1 => ?_) (fun b1 => ?_)
  ·
    have k2 := Eq.mp (if_pos b1) hok
    have e9 : G_X1_push r v = r := Eq.trans rfl (if_pos b1)
    exact xM_vret hx hb hr hlk  hS  (by rw [e9]; exact hP) dX1_push_39
  ·
    have k3 := Eq.mp (if_neg b1) hok
    refine lv_aload_n hx hb dX1_push_7 rfl (lv_at hl 0 rfl) ?_
    refine va_get (D := w.1) (ci := 2) (v := .int r.2.2.2.2.2) (C := RX1) (T := TX1) (N := 7) hx hb hts iw_X1_push_X1 hown hK.1 hP 13 rfl rfl 6 (by decide) (hts _ fl_X1_push_86) (fun _ h9 => h9) rfl dX1_push_8 ?_
    refine lv_aload_n hx hb dX1_push_11 rfl (lv_at hl 0 rfl) ?_
    refine va_get (D := w.1) (ci := 2) (v := .ref (w.2.2 17)) (C := RX1) (T := TX1) (N := 7) hx hb hts iw_X1_push_X1 hown hK.1 hP 13 rfl rfl 5 (by decide) (hts _ fl_X1_push_23) (fun _ h9 => h9) rfl dX1_push_12 ?_
    refine va_alen hx hb hK.1 hP 17 3 rfl rfl (v := 201) rfl dX1_push_15 ?_
    refine lv_icmp_ge (tgt := 39) hx hb dX1_push_16 (by decide) (fun b4 => ?_) (fun b4 => ?_)
    ·
      have k5 := Eq.mp (if_pos b4) k3
      have e9 : G_X1_push r v = r := Eq.trans (Eq.trans rfl (if_neg b1)) (if_pos b4)
      exact xM_vret hx hb hr hlk  hS  (by rw [e9]; exact hP) dX1_push_39
    ·
      have k6 := Eq.mp (if_neg b4) k3
      refine lv_aload_n hx hb dX1_push_19 rfl (lv_at hl 0 rfl) ?_
      refine va_get (D := w.1) (ci := 2) (v := .ref (w.2.2 17)) (C := RX1) (T := TX1) (N := 7) hx hb hts iw_X1_push_X1 hown hK.1 hP 13 rfl rfl 5 (by decide) (hts _ fl_X1_push_23) (fun _ h9 => h9) rfl dX1_push_20 ?_
      refine lv_aload_n hx hb dX1_push_23 rfl (lv_at hl 0 rfl) ?_
      refine va_get (D := w.1) (ci := 2) (v := .int r.2.2.2.2.2) (C := RX1) (T := TX1) (N := 7) hx hb hts iw_X1_push_X1 hown hK.1 hP 13 rfl rfl 6 (by decide) (hts _ fl_X1_push_86) (fun _ h9 => h9) rfl dX1_push_24 ?_
      refine lv_lload_n hx hb dX1_push_27 rfl (lv_at hl 1 rfl) ?_
      have o7 := k6.1
      have k8 := k6.2
      refine va_last hx hb hK.1 hP (wC_D hA) hS 17 3 rfl rfl o7 dX1_push_28 (fun H locs hP _ hS => ?_)
      have hP : va_P w.1 vwCl (wC w c t (r.1, r.2.1, r.2.2.1, r.2.2.2.1, vp_updL r.2.2.2.2.1 r.2.2.2.2.2.toNatClampNeg v, r.2.2.2.2.2) s) H := hP
      refine lv_aload_n hx hb dX1_push_29 rfl (lv_at hl 0 rfl) ?_
      refine lv_dup hx hb dX1_push_30 rfl ?_
      refine va_get (D := w.1) (ci := 2) (v := .int r.2.2.2.2.2) (C := RX1) (T := TX1) (N := 7) hx hb hts iw_X1_push_X1 hown hK.1 hP 13 rfl rfl 6 (by decide) (hts _ fl_X1_push_86) (fun _ h9 => h9) rfl dX1_push_31 ?_
      refine lv_iconst (v := 1) hx hb dX1_push_34 (by decide) ?_
      refine lv_iadd hx hb dX1_push_35 ?_
      refine va_put (D := w.1) (ci := 2) (v := .int (r.2.2.2.2.2 + (1 : Int32))) (ty := .int) (C := RX1) (T := TX1) (N := 7) hx hb hts iw_X1_push_X1 tyX1 tyX1_ok nmX1 hown hK.1 hP (wC_D hA) hS 13 rfl rfl 6 (by decide) (hts _ fl_X1_push_86) (fun _ h9 => h9) rfl (by decide +kernel) rfl rfl (Nat.le_of_ble_eq_true rfl) dX1_push_36 (fun H locs hP _ hS => ?_)
      have hP : va_P w.1 vwCl (wC w c t (r.1, r.2.1, r.2.2.1, r.2.2.2.1, vp_updL r.2.2.2.2.1 r.2.2.2.2.2.toNatClampNeg v, r.2.2.2.2.2 + (1 : Int32)) s) H := hP
      have e9 : G_X1_push r v = (r.1, r.2.1, r.2.2.1, r.2.2.2.1, vp_updL r.2.2.2.2.1 r.2.2.2.2.2.toNatClampNeg v, r.2.2.2.2.2 + (1 : Int32)) := Eq.trans (Eq.trans rfl (if_neg b1)) (if_neg b4)
      exact xM_vret hx hb hr hlk  hS  (by rw [e9]; exact hP) dX1_push_39
set_option maxRecDepth 20000 in
theorem iw_X1_pop_X1 : ∀ w ∈ wsX10, w ∈ wsX1_pop := by decide +kernel
set_option maxRecDepth 20000 in
theorem fl_X1_pop_86 : Cond.fieldLink RX1 86 "ProcedureCode$Rows" "top" "I" ∈ wsX1_pop := by decide +kernel
set_option maxRecDepth 20000 in
theorem fl_X1_pop_23 : Cond.fieldLink RX1 23 "ProcedureCode$Rows" "stack" "[J" ∈ wsX1_pop := by decide +kernel
def G_X1_pop (r : RS)  : Int64 × RS := if r.2.2.2.2.2 < (1 : Int32) then (((0 : Int64), r)) else (if r.2.2.2.2.2 ≤ (201 : Int32) then ((r.2.2.2.2.1 (r.2.2.2.2.2 - (1 : Int32)).toNatClampNeg, (r.1, r.2.1, r.2.2.1, r.2.2.2.1, r.2.2.2.2.1, r.2.2.2.2.2 - (1 : Int32)))) else (((0 : Int64), r)))
def OK_X1_pop (r : RS)  : Prop := if r.2.2.2.2.2 < (1 : Int32) then (True) else (if r.2.2.2.2.2 ≤ (201 : Int32) then ((vp_in (r.2.2.2.2.2 - (1 : Int32)) 201) ∧ (True)) else (True))
set_option maxHeartbeats 4000000 in
set_option maxRecDepth 100000 in
theorem c_X1_pop (l : Launch) (w : WG) (hA : wAp w 26) (c : CS) (t : TS) (r : RS) (s : Nat → SS) (hok : OK_X1_pop r) : Met l yX1_pop wsX1_pop { frames := 0, cells := 0, slots := 0, locals := 0 } (va_Pc [.ref (w.2.2 13)] (wPK w (wC w c t r s))) (xM (some (.long ((G_X1_pop r).1))) (fun H => va_P w.1 vwCl (wC w c t ((G_X1_pop r).2) s) H) (wA w 26)) 0 0 (wA w 26) := by
  refine xOf (cc := cX1_pop) (maxL := 1) (ret := (some .long)) (lv := [(0, .ref (w.2.2 13))]) (by decide) rfl (Nat.le_of_ble_eq_true rfl) rfl ?_
  intro pP eE S mM below meth C hx hb hr hml hts hown hlk hnm hw ls hl
  obtain ⟨hP, hK⟩ := hw
  have hS : va_S (wA w 26) S.heap S.heap [] := va_S.rf
  have hP : va_P w.1 vwCl (wC w c t r s) S.heap := hP
  refine lv_aload_n hx hb dX1_pop_0 rfl (lv_at hl 0 rfl) ?_
  refine va_get (D := w.1) (ci := 2) (v := .int r.2.2.2.2.2) (C := RX1) (T := TX1) (N := 7) hx hb hts iw_X1_pop_X1 hown hK.1 hP 13 rfl rfl 6 (by decide) (hts _ fl_X1_pop_86) (fun _ h9 => h9) rfl dX1_pop_1 ?_
  refine lv_iconst (v := 1) hx hb dX1_pop_4 (by decide) ?_
  refine lv_icmp_lt (tgt := 20) hx hb dX1_pop_5 (by decide) (fun b1 => ?_) (fun b1 => ?_)
  ·
    have k2 := Eq.mp (if_pos b1) hok
    refine lv_lconst (v := 0) hx hb dX1_pop_20 (by decide) ?_
    have e9 : G_X1_pop r = ((0 : Int64), r) := Eq.trans rfl (if_pos b1)
    exact xM_lret hx hb hr hlk  hS (by rw [e9]) (by rw [e9]; exact hP) dX1_pop_21
  ·
    have k3 := Eq.mp (if_neg b1) hok
    refine lv_aload_n hx hb dX1_pop_8 rfl (lv_at hl 0 rfl) ?_
    refine va_get (D := w.1) (ci := 2) (v := .int r.2.2.2.2.2) (C := RX1) (T := TX1) (N := 7) hx hb hts iw_X1_pop_X1 hown hK.1 hP 13 rfl rfl 6 (by decide) (hts _ fl_X1_pop_86) (fun _ h9 => h9) rfl dX1_pop_9 ?_
    refine lv_aload_n hx hb dX1_pop_12 rfl (lv_at hl 0 rfl) ?_
    refine va_get (D := w.1) (ci := 2) (v := .ref (w.2.2 17)) (C := RX1) (T := TX1) (N := 7) hx hb hts iw_X1_pop_X1 hown hK.1 hP 13 rfl rfl 5 (by decide) (hts _ fl_X1_pop_23) (fun _ h9 => h9) rfl dX1_pop_13 ?_
    refine va_alen hx hb hK.1 hP 17 3 rfl rfl (v := 201) rfl dX1_pop_16 ?_
    refine lv_icmp_le (tgt := 22) hx hb dX1_pop_17 (by decide) (fun b4 => ?_) (fun b4 => ?_)
    ·
      have k5 := Eq.mp (if_pos b4) k3
      refine lv_aload_n hx hb dX1_pop_22 rfl (lv_at hl 0 rfl) ?_
      refine lv_dup hx hb dX1_pop_23 rfl ?_
      refine va_get (D := w.1) (ci := 2) (v := .int r.2.2.2.2.2) (C := RX1) (T := TX1) (N := 7) hx hb hts iw_X1_pop_X1 hown hK.1 hP 13 rfl rfl 6 (by decide) (hts _ fl_X1_pop_86) (fun _ h9 => h9) rfl dX1_pop_24 ?_
      refine lv_iconst (v := 1) hx hb dX1_pop_27 (by decide) ?_
      refine lv_isub hx hb dX1_pop_28 ?_
      refine va_put (D := w.1) (ci := 2) (v := .int (r.2.2.2.2.2 - (1 : Int32))) (ty := .int) (C := RX1) (T := TX1) (N := 7) hx hb hts iw_X1_pop_X1 tyX1 tyX1_ok nmX1 hown hK.1 hP (wC_D hA) hS 13 rfl rfl 6 (by decide) (hts _ fl_X1_pop_86) (fun _ h9 => h9) rfl (by decide +kernel) rfl rfl (Nat.le_of_ble_eq_true rfl) dX1_pop_29 (fun H locs hP _ hS => ?_)
      have hP : va_P w.1 vwCl (wC w c t (r.1, r.2.1, r.2.2.1, r.2.2.2.1, r.2.2.2.2.1, r.2.2.2.2.2 - (1 : Int32)) s) H := hP
      refine lv_aload_n hx hb dX1_pop_32 rfl (lv_at hl 0 rfl) ?_
      refine va_get (D := w.1) (ci := 2) (v := .ref (w.2.2 17)) (C := RX1) (T := TX1) (N := 7) hx hb hts iw_X1_pop_X1 hown hK.1 hP 13 rfl rfl 5 (by decide) (hts _ fl_X1_pop_23) (fun _ h9 => h9) rfl dX1_pop_33 ?_
      refine lv_aload_n hx hb dX1_pop_36 rfl (lv_at hl 0 rfl) ?_
      refine va_get (D := w.1) (ci := 2) (v := .int (r.2.2.2.2.2 - (1 : Int32))) (C := RX1) (T := TX1) (N := 7) hx hb hts iw_X1_pop_X1 hown hK.1 hP 13 rfl rfl 6 (by decide) (hts _ fl_X1_pop_86) (fun _ h9 => h9) rfl dX1_pop_37 ?_
      have o6 := k5.1
      have k7 := k5.2
      refine va_lald hx hb hK.1 hP 17 3 rfl rfl o6 dX1_pop_40 ?_
      have e9 : G_X1_pop r = (r.2.2.2.2.1 (r.2.2.2.2.2 - (1 : Int32)).toNatClampNeg, (r.1, r.2.1, r.2.2.1, r.2.2.2.1, r.2.2.2.2.1, r.2.2.2.2.2 - (1 : Int32))) := Eq.trans (Eq.trans rfl (if_neg b1)) (if_pos b4)
      exact xM_lret hx hb hr hlk  hS (by rw [e9]) (by rw [e9]; exact hP) dX1_pop_41
    ·
      have k8 := Eq.mp (if_neg b4) k3
      refine lv_lconst (v := 0) hx hb dX1_pop_20 (by decide) ?_
      have e9 : G_X1_pop r = ((0 : Int64), r) := Eq.trans (Eq.trans rfl (if_neg b1)) (if_neg b4)
      exact xM_lret hx hb hr hlk  hS (by rw [e9]) (by rw [e9]; exact hP) dX1_pop_21
