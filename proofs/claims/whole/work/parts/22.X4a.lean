theorem G_X1_push_1 (r : RS) (v : Int64) : (G_X1_push r v).1 = r.1 := by
  unfold G_X1_push
  repeat' split
  all_goals rfl
theorem G_X1_pop_1 (r : RS) : (G_X1_pop r).2.1 = r.1 := by
  unfold G_X1_pop
  repeat' split
  all_goals rfl
theorem G_X1_nextTime_1 (r : RS) (x : SS) (bd bh : Int32) : (G_X1_nextTime r x bd bh).2.1.1 = r.1 := by
  unfold G_X1_nextTime
  split
  · show (G_X1_push (G_X1_pop r).2 _).1 = r.1
    rw [G_X1_push_1, G_X1_pop_1]
  · exact G_X1_pop_1 r
theorem G_X1_step_1 (c : CS) (r : RS) (x : SS) (n : Int32) : (G_X1_step c r x n).2.1.1 = r.1 := by
  unfold G_X1_step
  repeat' split
  all_goals (try simp only [G_X1_push_1, G_X1_pop_1, G_X1_nextTime_1])
theorem okX1_stepAllL {c : CS} {r : RS} {x : SS} : ∀ (fu j : Nat) (rw : Int32) (rv : RS) (xv : SS), okR rv → j ≤ 1000000 → 1000000 - j < fu → OK_X1_stepAll_L13 c r x fu rw (nI j) rv xv := by
  intro fu
  induction fu with
  | zero => intro j rw rv xv hq h1 h2; omega
  | succ fu ih =>
    intro j rw rv xv hq h1 h2
    unfold OK_X1_stepAll_L13
    split
    · trivial
    · rename_i h
      rw [i32_le, show (1000000 : Int32).toInt = 1000000 by decide, nI_toInt (by omega)] at h
      split
      · trivial
      · split
        · refine ⟨hq, ?_⟩
          rw [nI_1]
          refine ih (j + 1) _ _ _ ?_ (by omega) (by omega)
          unfold okR
          rw [G_X1_step_1]
          exact hq
        · trivial
theorem okX1_stepAll {c : CS} {r : RS} {x : SS} (hq : okR r) : OK_X1_stepAll c r x := okX1_stepAllL 1000001 0 _ _ _ hq (by omega) (by omega)
theorem okR_build (t : TS) (r : RS) {n : Int32} : okR r → okR (G_X1_build t r n).2 := by
  intro hr
  unfold G_X1_build
  split
  · exact hr
  · split
    · exact okR_emit (okR_0 _)
    · exact okR_0 _
theorem k_X1_stepAll (l : Launch) (w : WG) (hA : wAp w 26) (c : CS) (t : TS) (r : RS) (s : Nat → SS) (k : Nat) (hk : k < 4) (x : SS) (hc : okC c) (hq : okR r) : Met l yX1_stepAll wsX1_stepAll { frames := 5, cells := 0, slots := 0, locals := 135 } (va_Pc [.ref (w.2.2 13), .ref (w.2.2 (18 + 2 * k))] (wPK w (wC w c t r (va_up s k x)))) (xM none (fun H => va_P w.1 vwCl (wC w c t ((G_X1_stepAll c r x).1) (va_up s k ((G_X1_stepAll c r x).2))) H) (wA w 26)) 0 0 (wA w 26) := c_X1_stepAll l w hA c t r s k hk x  hc hq (okX1_stepAll hq)
theorem okX2_isLikeL {s : Nat → SS} : ∀ (fu j : Nat), j ≤ 64 → 64 - j < fu → OK_X2_isLike_2_L2 s fu (nI j) := by
  intro fu
  induction fu with
  | zero => intro j h1 h2; omega
  | succ fu ih =>
    intro j h1 h2
    unfold OK_X2_isLike_2_L2
    split
    · split <;> trivial
    · rename_i h
      rw [i32_le, show (64 : Int32).toInt = 64 by decide, nI_toInt (by omega)] at h
      have hv : vp_in (nI j) 64 := vp_in_nI (by omega) (by omega)
      refine ⟨hv, hv, ?_⟩
      rw [nI_1]
      split
      · exact ih (j + 1) (by omega) (by omega)
      · trivial
theorem okX2_isLike {s : Nat → SS} : OK_X2_isLike_2 s := okX2_isLikeL 70 0 (by omega) (by omega)
theorem G_X2_isLikeL_01 (s : Nat → SS) : ∀ (fu : Nat) (i : Int32), G_X2_isLike_2_L2 s fu i = 0 ∨ G_X2_isLike_2_L2 s fu i = 1 := by
  intro fu
  induction fu with
  | zero => intro i; exact Or.inl rfl
  | succ fu ih =>
    intro i
    unfold G_X2_isLike_2_L2
    repeat' split
    all_goals first | exact Or.inl rfl | exact Or.inr rfl | exact ih _
theorem G_X2_isLike_01 (s : Nat → SS) : G_X2_isLike_2 s = 0 ∨ G_X2_isLike_2 s = 1 := G_X2_isLikeL_01 s _ _
theorem okX0_add {c : CS} {u d p : Int32} (hc : okC c) : OK_X0_add c u d p := by
  unfold OK_X0_add
  repeat' split
  all_goals first | trivial | skip
  all_goals
    rename_i h
    rw [i32_lt, show (40 : Int32).toInt = 40 by decide] at h
    have h1 := hc.1
    have hv : vp_in c.1 40 := vp_in_iff.mpr ⟨h1, by omega⟩
    exact ⟨hv, hv, hv, trivial⟩

theorem k_X2_isLike_2 (l : Launch) (w : WG) (c : CS) (t : TS) (r : RS) (s : Nat → SS) : Met l yX2_isLike wsX2_isLike { frames := 0, cells := 0, slots := 0, locals := 0 } (va_Pc [.ref (w.2.2 22), .ref (w.2.2 24)] (wPK w (wC w c t r s))) (xR (some (.int (G_X2_isLike_2 s)))) 0 0 xNo := c_X2_isLike_2 l w c t r s okX2_isLike
theorem k_X0_add (l : Launch) (w : WG) (hA : wAp w 26) (c : CS) (t : TS) (r : RS) (s : Nat → SS) (u : Int32) (d : Int32) (p : Int32) (hc : okC c) : Met l yX0_add wsX0_add { frames := 1, cells := 0, slots := 0, locals := 21 } (va_Pc [.ref (w.2.2 1), .int u, .int d, .int p] (wPK w (wC w c t r s))) (xM (some (.int ((G_X0_add c u d p).1))) (fun H => va_P w.1 vwCl (wC w ((G_X0_add c u d p).2) t r s) H) (wA w 26)) 0 0 (wA w 26) := c_X0_add l w hA c t r s u d p  (okX0_add hc)
set_option maxRecDepth 20000 in
theorem iw_X4_cell_X4 : ∀ w ∈ wsX40, w ∈ wsX4_cell := by decide +kernel
set_option maxRecDepth 20000 in
theorem fl_X4_cell_10 : Cond.fieldLink RX4 10 "ProcedureCode" "cells" "LProcedureCode$Cells;" ∈ wsX4_cell := by decide +kernel
set_option maxRecDepth 20000 in
theorem dv_X0_add : yX0_add.cls = RX0 ∧ yX0_add.cls ≠ "java/lang/invoke/MethodHandle" ∧ yX0_add.cls ≠ "java/lang/invoke/VarHandle" ∧ (parseMethodDescriptor yX0_add.desc).map (fun d => d.parameters.length) = some 3 := by decide +kernel
def G_X4_cell (c : CS) (u : Int32) (d : Int32) (p : Int32) : Int32 × CS := ((G_X0_add c u d p).1, (G_X0_add c u d p).2)
set_option maxHeartbeats 4000000 in
set_option maxRecDepth 100000 in
theorem c_X4_cell (l : Launch) (w : WG) (hA : wAp w 26) (c : CS) (t : TS) (r : RS) (s : Nat → SS) (u : Int32) (d : Int32) (p : Int32) (hc : okC c) : Met l yX4_cell wsX4_cell { frames := 2, cells := 0, slots := 0, locals := 44 } (va_Pc [.ref (w.2.2 0), .int u, .int d, .int p] (wPK w (wC w c t r s))) (xM (some (.int ((G_X4_cell c u d p).1))) (fun H => va_P w.1 vwCl (wC w ((G_X4_cell c u d p).2) t r s) H) (wA w 26)) 0 0 (wA w 26) := by
  refine xOf (cc := cX4_cell) (maxL := 4) (ret := (some .int)) (lv := [(0, .ref (w.2.2 0)), (1, .int u), (2, .int d), (3, .int p)]) (by decide) rfl (Nat.le_of_ble_eq_true rfl) rfl ?_
  intro pP eE S mM below meth C hx hb hr hml hts hown hlk hnm hw ls hl
  obtain ⟨hP, hK⟩ := hw
  have hS : va_S (wA w 26) S.heap S.heap [] := va_S.rf
  have hP : va_P w.1 vwCl (wC w c t r s) S.heap := hP
  refine lv_aload_n hx hb dX4_cell_0 rfl (lv_at hl 0 rfl) ?_
  refine va_get (D := w.1) (ci := 5) (v := .ref (w.2.2 1)) (C := RX4) (T := TX4) (N := 7) hx hb hts iw_X4_cell_X4 hown hK.1 hP 0 rfl rfl 0 (by decide) (hts _ fl_X4_cell_10) (fun _ h9 => h9) rfl dX4_cell_1 ?_
  refine lv_iload_n hx hb dX4_cell_4 rfl (lv_at hl 1 rfl) ?_
  refine lv_iload_n hx hb dX4_cell_5 rfl (lv_at hl 2 rfl) ?_
  refine lv_iload_n hx hb dX4_cell_6 rfl (lv_at hl 3 rfl) ?_
  refine xM_i (va_runV (As := [.int u, .int d, .int p]) (rest := []) ⟨hx, hb, hml, hown, hts⟩ (k_X0_add l w hA c t r s u d p hc) (cwV 3 hts gX4_cell_X0_add rfl rfl rfl dv_X0_add ⟨Nat.le_of_ble_eq_true rfl, Nat.le_of_ble_eq_true rfl⟩) (wPreV hP hK (ci := 1) (q0 := 1) rfl rfl) rfl rfl hl.1 rfl (lv_room (Nat.le_of_ble_eq_true rfl)) dX4_cell_7 ⟨Nat.zero_le _, Nat.zero_le _⟩) hS (fun H locs hP hS => ?_)
  have hP : va_P w.1 vwCl (wC w ((G_X0_add c u d p).2) t r s) H := hP
  have e9 : G_X4_cell c u d p = ((G_X0_add c u d p).1, (G_X0_add c u d p).2) := rfl
  exact xM_iret hx hb hr hlk  hS (by rw [e9]) (by rw [e9]; exact hP) dX4_cell_10
set_option maxRecDepth 20000 in
theorem iw_X4_node_X4 : ∀ w ∈ wsX40, w ∈ wsX4_node := by decide +kernel
set_option maxRecDepth 20000 in
theorem fl_X4_node_21 : Cond.fieldLink RX4 21 "ProcedureCode" "tree" "LProcedureCode$Tree;" ∈ wsX4_node := by decide +kernel
set_option maxRecDepth 20000 in
theorem dv_X3_add : yX3_add.cls = RX3 ∧ yX3_add.cls ≠ "java/lang/invoke/MethodHandle" ∧ yX3_add.cls ≠ "java/lang/invoke/VarHandle" ∧ (parseMethodDescriptor yX3_add.desc).map (fun d => d.parameters.length) = some 3 := by decide +kernel
def G_X4_node (c : CS) (t : TS) (kd : Int32) (a : Int32) (b : Int32) : Int32 × TS := ((G_X3_add c t kd a b).1, (G_X3_add c t kd a b).2)
set_option maxHeartbeats 4000000 in
set_option maxRecDepth 100000 in
theorem c_X4_node (l : Launch) (w : WG) (hA : wAp w 26) (c : CS) (t : TS) (r : RS) (s : Nat → SS) (kd : Int32) (a : Int32) (b : Int32) (hc : okC c) (ht : okT t) : Met l yX4_node wsX4_node { frames := 5, cells := 0, slots := 0, locals := 110 } (va_Pc [.ref (w.2.2 0), .int kd, .int a, .int b] (wPK w (wC w c t r s))) (xM (some (.int ((G_X4_node c t kd a b).1))) (fun H => va_P w.1 vwCl (wC w c ((G_X4_node c t kd a b).2) r s) H) (wA w 26)) 0 0 (wA w 26) := by
  refine xOf (cc := cX4_node) (maxL := 4) (ret := (some .int)) (lv := [(0, .ref (w.2.2 0)), (1, .int kd), (2, .int a), (3, .int b)]) (by decide) rfl (Nat.le_of_ble_eq_true rfl) rfl ?_
  intro pP eE S mM below meth C hx hb hr hml hts hown hlk hnm hw ls hl
  obtain ⟨hP, hK⟩ := hw
  have hS : va_S (wA w 26) S.heap S.heap [] := va_S.rf
  have hP : va_P w.1 vwCl (wC w c t r s) S.heap := hP
  refine lv_aload_n hx hb dX4_node_0 rfl (lv_at hl 0 rfl) ?_
  refine va_get (D := w.1) (ci := 5) (v := .ref (w.2.2 5)) (C := RX4) (T := TX4) (N := 7) hx hb hts iw_X4_node_X4 hown hK.1 hP 0 rfl rfl 1 (by decide) (hts _ fl_X4_node_21) (fun _ h9 => h9) rfl dX4_node_1 ?_
  refine lv_iload_n hx hb dX4_node_4 rfl (lv_at hl 1 rfl) ?_
  refine lv_iload_n hx hb dX4_node_5 rfl (lv_at hl 2 rfl) ?_
  refine lv_iload_n hx hb dX4_node_6 rfl (lv_at hl 3 rfl) ?_
  refine xM_i (va_runV (As := [.int kd, .int a, .int b]) (rest := []) ⟨hx, hb, hml, hown, hts⟩ (c_X3_add l w hA c t r s kd a b hc ht) (cwV 3 hts gX4_node_X3_add rfl rfl rfl dv_X3_add ⟨Nat.le_of_ble_eq_true rfl, Nat.le_of_ble_eq_true rfl⟩) (wPreV hP hK (ci := 4) (q0 := 5) rfl rfl) rfl rfl hl.1 rfl (lv_room (Nat.le_of_ble_eq_true rfl)) dX4_node_7 ⟨Nat.zero_le _, Nat.zero_le _⟩) hS (fun H locs hP hS => ?_)
  have hP : va_P w.1 vwCl (wC w c ((G_X3_add c t kd a b).2) r s) H := hP
  have e9 : G_X4_node c t kd a b = ((G_X3_add c t kd a b).1, (G_X3_add c t kd a b).2) := rfl
  exact xM_iret hx hb hr hlk  hS (by rw [e9]) (by rw [e9]; exact hP) dX4_node_10
set_option maxRecDepth 20000 in
theorem iw_X4_make_X4 : ∀ w ∈ wsX40, w ∈ wsX4_make := by decide +kernel
set_option maxRecDepth 20000 in
theorem fl_X4_make_30 : Cond.fieldLink RX4 30 "ProcedureCode" "rows" "LProcedureCode$Rows;" ∈ wsX4_make := by decide +kernel
set_option maxRecDepth 20000 in
theorem dv_X1_build : yX1_build.cls = RX1 ∧ yX1_build.cls ≠ "java/lang/invoke/MethodHandle" ∧ yX1_build.cls ≠ "java/lang/invoke/VarHandle" ∧ (parseMethodDescriptor yX1_build.desc).map (fun d => d.parameters.length) = some 1 := by decide +kernel
def G_X4_make (t : TS) (r : RS) (n : Int32) : Int32 × RS := ((G_X1_build t r n).1, (G_X1_build t r n).2)
set_option maxHeartbeats 4000000 in
set_option maxRecDepth 100000 in
theorem c_X4_make (l : Launch) (w : WG) (hA : wAp w 26) (c : CS) (t : TS) (r : RS) (s : Nat → SS) (n : Int32) (ht : okT t) : Met l yX4_make wsX4_make { frames := 204, cells := 0, slots := 0, locals := 5491 } (va_Pc [.ref (w.2.2 0), .int n] (wPK w (wC w c t r s))) (xM (some (.int ((G_X4_make t r n).1))) (fun H => va_P w.1 vwCl (wC w c t ((G_X4_make t r n).2) s) H) (wA w 26)) 0 0 (wA w 26) := by
  refine xOf (cc := cX4_make) (maxL := 2) (ret := (some .int)) (lv := [(0, .ref (w.2.2 0)), (1, .int n)]) (by decide) rfl (Nat.le_of_ble_eq_true rfl) rfl ?_
  intro pP eE S mM below meth C hx hb hr hml hts hown hlk hnm hw ls hl
  obtain ⟨hP, hK⟩ := hw
  have hS : va_S (wA w 26) S.heap S.heap [] := va_S.rf
  have hP : va_P w.1 vwCl (wC w c t r s) S.heap := hP
  refine lv_aload_n hx hb dX4_make_0 rfl (lv_at hl 0 rfl) ?_
  refine va_get (D := w.1) (ci := 5) (v := .ref (w.2.2 13)) (C := RX4) (T := TX4) (N := 7) hx hb hts iw_X4_make_X4 hown hK.1 hP 0 rfl rfl 2 (by decide) (hts _ fl_X4_make_30) (fun _ h9 => h9) rfl dX4_make_1 ?_
  refine lv_iload_n hx hb dX4_make_4 rfl (lv_at hl 1 rfl) ?_
  refine xM_i (va_runV (As := [.int n]) (rest := []) ⟨hx, hb, hml, hown, hts⟩ (c_X1_build l w hA c t r s n ht) (cwV 1 hts gX4_make_X1_build rfl rfl rfl dv_X1_build ⟨Nat.le_of_ble_eq_true rfl, Nat.le_of_ble_eq_true rfl⟩) (wPreV hP hK (ci := 2) (q0 := 13) rfl rfl) rfl rfl hl.1 rfl (lv_room (Nat.le_of_ble_eq_true rfl)) dX4_make_5 ⟨Nat.zero_le _, Nat.zero_le _⟩) hS (fun H locs hP hS => ?_)
  have hP : va_P w.1 vwCl (wC w c t ((G_X1_build t r n).2) s) H := hP
  have e9 : G_X4_make t r n = ((G_X1_build t r n).1, (G_X1_build t r n).2) := rfl
  exact xM_iret hx hb hr hlk  hS (by rw [e9]) (by rw [e9]; exact hP) dX4_make_8
theorem okR_make {t : TS} {r : RS} {n : Int32} (h : okR r) : okR (G_X4_make t r n).2 := okR_build t r h
set_option maxRecDepth 20000 in
theorem iw_X4_code_X4 : ∀ w ∈ wsX40, w ∈ wsX4_code := by decide +kernel
set_option maxRecDepth 20000 in
theorem fl_X4_code_30 : Cond.fieldLink RX4 30 "ProcedureCode" "rows" "LProcedureCode$Rows;" ∈ wsX4_code := by decide +kernel
def G_X4_code (r : RS) (i : Int32) (wh : Int32) : Int32 := if (G_X1_has r i) = 0 then ((-1 : Int32)) else (if wh = 0 then (G_X1_opOf r i) else (if wh = (1 : Int32) then ((G_X1_numberOf r i).toInt32) else ((-1 : Int32))))
set_option maxHeartbeats 4000000 in
set_option maxRecDepth 100000 in
theorem c_X4_code (l : Launch) (w : WG) (c : CS) (t : TS) (r : RS) (s : Nat → SS) (i : Int32) (wh : Int32) (hq : okR r) : Met l yX4_code wsX4_code { frames := 2, cells := 0, slots := 0, locals := 42 } (va_Pc [.ref (w.2.2 0), .int i, .int wh] (wPK w (wC w c t r s))) (xR (some (.int (G_X4_code r i wh)))) 0 0 xNo := by
  refine xOf (cc := cX4_code) (maxL := 3) (ret := (some .int)) (lv := [(0, .ref (w.2.2 0)), (1, .int i), (2, .int wh)]) (by decide) rfl (Nat.le_of_ble_eq_true rfl) rfl ?_
  intro pP eE S mM below meth C hx hb hr hml hts hown hlk hnm hw ls hl
  obtain ⟨hP, hK⟩ := hw
  refine lv_aload_n hx hb dX4_code_0 rfl (lv_at hl 0 rfl) ?_
  refine va_get (D := w.1) (ci := 5) (v := .ref (w.2.2 13)) (C := RX4) (T := TX4) (N := 7) hx hb hts iw_X4_code_X4 hown hK.1 hP 0 rfl rfl 2 (by decide) (hts _ fl_X4_code_30) (fun _ h9 => h9) rfl dX4_code_1 ?_
  refine lv_iload_n hx hb dX4_code_4 rfl (lv_at hl 1 rfl) ?_
  refine xR_i (va_runV (As := [.int i]) (rest := []) ⟨hx, hb, hml, hown, hts⟩ (c_X1_has l w c t r s i ) (cwV 1 hts gX4_code_X1_has rfl rfl rfl dv_X1_has ⟨Nat.le_of_ble_eq_true rfl, Nat.le_of_ble_eq_true rfl⟩) (wPreV hP hK (ci := 2) (q0 := 13) rfl rfl) rfl rfl hl.1 rfl (lv_room (Nat.le_of_ble_eq_true rfl)) dX4_code_5 ⟨Nat.zero_le _, Nat.zero_le _⟩) ?_
  refine lv_if_ne (tgt := 13) hx hb dX4_code_8 (by decide) (fun b1 => ?_) (fun b1 => ?_)
  ·
    refine lv_iload_n hx hb dX4_code_13 rfl (lv_at hl 2 rfl) ?_
    refine lv_if_ne (tgt := 26) hx hb dX4_code_14 (by decide) (fun b2 => ?_) (fun b2 => ?_)
    ·
      refine lv_iload_n hx hb dX4_code_26 rfl (lv_at hl 2 rfl) ?_
      refine lv_iconst (v := 1) hx hb dX4_code_27 (by decide) ?_
      refine lv_icmp_ne (tgt := 43) hx hb dX4_code_28 (by decide) (fun b3 => ?_) (fun b3 => ?_)
      ·
        refine lv_iconst (v := -1) hx hb dX4_code_43 (by decide) ?_
        exact xR_iret hx hb hr hlk  (Eq.trans (Eq.trans (Eq.trans rfl (if_neg b1)) (if_neg b2)) (if_neg b3)) dX4_code_44
      ·
        refine lv_aload_n hx hb dX4_code_31 rfl (lv_at hl 0 rfl) ?_
        refine va_get (D := w.1) (ci := 5) (v := .ref (w.2.2 13)) (C := RX4) (T := TX4) (N := 7) hx hb hts iw_X4_code_X4 hown hK.1 hP 0 rfl rfl 2 (by decide) (hts _ fl_X4_code_30) (fun _ h9 => h9) rfl dX4_code_32 ?_
        refine lv_iload_n hx hb dX4_code_35 rfl (lv_at hl 1 rfl) ?_
        refine xR_l (va_runV (As := [.int i]) (rest := []) ⟨hx, hb, hml, hown, hts⟩ (c_X1_numberOf l w c t r s i hq) (cwV 1 hts gX4_code_X1_numberOf rfl rfl rfl dv_X1_numberOf ⟨Nat.le_of_ble_eq_true rfl, Nat.le_of_ble_eq_true rfl⟩) (wPreV hP hK (ci := 2) (q0 := 13) rfl rfl) rfl rfl hl.1 rfl (lv_room (Nat.le_of_ble_eq_true rfl)) dX4_code_36 ⟨Nat.zero_le _, Nat.zero_le _⟩) ?_
        refine lv_l2i hx hb dX4_code_39 rfl ?_
        refine lv_goto (tgt := 44) hx hb dX4_code_40 (by decide) ?_
        exact xR_iret hx hb hr hlk  (Eq.trans (Eq.trans (Eq.trans rfl (if_neg b1)) (if_neg b2)) (if_pos b3)) dX4_code_44
    ·
      refine lv_aload_n hx hb dX4_code_17 rfl (lv_at hl 0 rfl) ?_
      refine va_get (D := w.1) (ci := 5) (v := .ref (w.2.2 13)) (C := RX4) (T := TX4) (N := 7) hx hb hts iw_X4_code_X4 hown hK.1 hP 0 rfl rfl 2 (by decide) (hts _ fl_X4_code_30) (fun _ h9 => h9) rfl dX4_code_18 ?_
      refine lv_iload_n hx hb dX4_code_21 rfl (lv_at hl 1 rfl) ?_
      refine xR_i (va_runV (As := [.int i]) (rest := []) ⟨hx, hb, hml, hown, hts⟩ (c_X1_opOf l w c t r s i hq) (cwV 1 hts gX4_code_X1_opOf rfl rfl rfl dv_X1_opOf ⟨Nat.le_of_ble_eq_true rfl, Nat.le_of_ble_eq_true rfl⟩) (wPreV hP hK (ci := 2) (q0 := 13) rfl rfl) rfl rfl hl.1 rfl (lv_room (Nat.le_of_ble_eq_true rfl)) dX4_code_22 ⟨Nat.zero_le _, Nat.zero_le _⟩) ?_
      exact xR_iret hx hb hr hlk  (Eq.trans (Eq.trans rfl (if_neg b1)) (if_pos b2)) dX4_code_25
  ·
    refine lv_iconst (v := -1) hx hb dX4_code_11 (by decide) ?_
    exact xR_iret hx hb hr hlk  (Eq.trans rfl (if_pos b1)) dX4_code_12
set_option maxRecDepth 20000 in
theorem iw_X4_fast_X4 : ∀ w ∈ wsX40, w ∈ wsX4_fast := by decide +kernel
set_option maxRecDepth 20000 in
theorem fl_X4_fast_30 : Cond.fieldLink RX4 30 "ProcedureCode" "rows" "LProcedureCode$Rows;" ∈ wsX4_fast := by decide +kernel
set_option maxRecDepth 20000 in
theorem dv_X1_isShort : yX1_isShort.cls = RX1 ∧ yX1_isShort.cls ≠ "java/lang/invoke/MethodHandle" ∧ yX1_isShort.cls ≠ "java/lang/invoke/VarHandle" ∧ (parseMethodDescriptor yX1_isShort.desc).map (fun d => d.parameters.length) = some 1 := by decide +kernel
def G_X4_fast (r : RS) (i : Int32) : Int32 := if (G_X1_has r i) = 0 then ((0 : Int32)) else (if (G_X1_isShort r i) = 0 then ((0 : Int32)) else ((1 : Int32)))
set_option maxHeartbeats 4000000 in
set_option maxRecDepth 100000 in
theorem c_X4_fast (l : Launch) (w : WG) (c : CS) (t : TS) (r : RS) (s : Nat → SS) (i : Int32) (hq : okR r) : Met l yX4_fast wsX4_fast { frames := 2, cells := 0, slots := 0, locals := 42 } (va_Pc [.ref (w.2.2 0), .int i] (wPK w (wC w c t r s))) (xR (some (.int (G_X4_fast r i)))) 0 0 xNo := by
  refine xOf (cc := cX4_fast) (maxL := 2) (ret := (some .boolean)) (lv := [(0, .ref (w.2.2 0)), (1, .int i)]) (by decide) rfl (Nat.le_of_ble_eq_true rfl) rfl ?_
  intro pP eE S mM below meth C hx hb hr hml hts hown hlk hnm hw ls hl
  obtain ⟨hP, hK⟩ := hw
  refine lv_aload_n hx hb dX4_fast_0 rfl (lv_at hl 0 rfl) ?_
  refine va_get (D := w.1) (ci := 5) (v := .ref (w.2.2 13)) (C := RX4) (T := TX4) (N := 7) hx hb hts iw_X4_fast_X4 hown hK.1 hP 0 rfl rfl 2 (by decide) (hts _ fl_X4_fast_30) (fun _ h9 => h9) rfl dX4_fast_1 ?_
  refine lv_iload_n hx hb dX4_fast_4 rfl (lv_at hl 1 rfl) ?_
  refine xR_i (va_runV (As := [.int i]) (rest := []) ⟨hx, hb, hml, hown, hts⟩ (c_X1_has l w c t r s i ) (cwV 1 hts gX4_fast_X1_has rfl rfl rfl dv_X1_has ⟨Nat.le_of_ble_eq_true rfl, Nat.le_of_ble_eq_true rfl⟩) (wPreV hP hK (ci := 2) (q0 := 13) rfl rfl) rfl rfl hl.1 rfl (lv_room (Nat.le_of_ble_eq_true rfl)) dX4_fast_5 ⟨Nat.zero_le _, Nat.zero_le _⟩) ?_
  refine lv_if_eq (tgt := 26) hx hb dX4_fast_8 (by decide) (fun b1 => ?_) (fun b1 => ?_)
  ·
    refine lv_iconst (v := 0) hx hb dX4_fast_26 (by decide) ?_
    exact xR_zret hx hb hr hlk rfl (Eq.trans rfl (if_pos b1)) dX4_fast_27
  ·
    refine lv_aload_n hx hb dX4_fast_11 rfl (lv_at hl 0 rfl) ?_
    refine va_get (D := w.1) (ci := 5) (v := .ref (w.2.2 13)) (C := RX4) (T := TX4) (N := 7) hx hb hts iw_X4_fast_X4 hown hK.1 hP 0 rfl rfl 2 (by decide) (hts _ fl_X4_fast_30) (fun _ h9 => h9) rfl dX4_fast_12 ?_
    refine lv_iload_n hx hb dX4_fast_15 rfl (lv_at hl 1 rfl) ?_
    refine xR_i (va_runV (As := [.int i]) (rest := []) ⟨hx, hb, hml, hown, hts⟩ (c_X1_isShort l w c t r s i hq) (cwV 1 hts gX4_fast_X1_isShort rfl rfl rfl dv_X1_isShort ⟨Nat.le_of_ble_eq_true rfl, Nat.le_of_ble_eq_true rfl⟩) (wPreV hP hK (ci := 2) (q0 := 13) rfl rfl) rfl rfl hl.1 rfl (lv_room (Nat.le_of_ble_eq_true rfl)) dX4_fast_16 ⟨Nat.zero_le _, Nat.zero_le _⟩) ?_
    refine lv_if_eq (tgt := 26) hx hb dX4_fast_19 (by decide) (fun b2 => ?_) (fun b2 => ?_)
    ·
      refine lv_iconst (v := 0) hx hb dX4_fast_26 (by decide) ?_
      exact xR_zret hx hb hr hlk rfl (Eq.trans (Eq.trans rfl (if_neg b1)) (if_pos b2)) dX4_fast_27
    ·
      refine lv_iconst (v := 1) hx hb dX4_fast_22 (by decide) ?_
      refine lv_goto (tgt := 27) hx hb dX4_fast_23 (by decide) ?_
      exact xR_zret hx hb hr hlk rfl (Eq.trans (Eq.trans rfl (if_neg b1)) (if_neg b2)) dX4_fast_27
set_option maxRecDepth 20000 in
theorem iw_X4_point_X4 : ∀ w ∈ wsX40, w ∈ wsX4_point := by decide +kernel
set_option maxRecDepth 20000 in
theorem fl_X4_point_30 : Cond.fieldLink RX4 30 "ProcedureCode" "rows" "LProcedureCode$Rows;" ∈ wsX4_point := by decide +kernel
set_option maxRecDepth 20000 in
theorem dv_X1_storingRow : yX1_storingRow.cls = RX1 ∧ yX1_storingRow.cls ≠ "java/lang/invoke/MethodHandle" ∧ yX1_storingRow.cls ≠ "java/lang/invoke/VarHandle" ∧ (parseMethodDescriptor yX1_storingRow.desc).map (fun d => d.parameters.length) = some 1 := by decide +kernel
def G_X4_point (r : RS) (i : Int32) : Int32 := G_X1_storingRow r i
set_option maxHeartbeats 4000000 in
set_option maxRecDepth 100000 in
theorem c_X4_point (l : Launch) (w : WG) (c : CS) (t : TS) (r : RS) (s : Nat → SS) (i : Int32) : Met l yX4_point wsX4_point { frames := 1, cells := 0, slots := 0, locals := 23 } (va_Pc [.ref (w.2.2 0), .int i] (wPK w (wC w c t r s))) (xR (some (.int (G_X4_point r i)))) 0 0 xNo := by
  refine xOf (cc := cX4_point) (maxL := 2) (ret := (some .int)) (lv := [(0, .ref (w.2.2 0)), (1, .int i)]) (by decide) rfl (Nat.le_of_ble_eq_true rfl) rfl ?_
  intro pP eE S mM below meth C hx hb hr hml hts hown hlk hnm hw ls hl
  obtain ⟨hP, hK⟩ := hw
  refine lv_aload_n hx hb dX4_point_0 rfl (lv_at hl 0 rfl) ?_
  refine va_get (D := w.1) (ci := 5) (v := .ref (w.2.2 13)) (C := RX4) (T := TX4) (N := 7) hx hb hts iw_X4_point_X4 hown hK.1 hP 0 rfl rfl 2 (by decide) (hts _ fl_X4_point_30) (fun _ h9 => h9) rfl dX4_point_1 ?_
  refine lv_iload_n hx hb dX4_point_4 rfl (lv_at hl 1 rfl) ?_
  refine xR_i (va_runV (As := [.int i]) (rest := []) ⟨hx, hb, hml, hown, hts⟩ (k_X1_storingRow l w c t r s i ) (cwV 1 hts gX4_point_X1_storingRow rfl rfl rfl dv_X1_storingRow ⟨Nat.le_of_ble_eq_true rfl, Nat.le_of_ble_eq_true rfl⟩) (wPreV hP hK (ci := 2) (q0 := 13) rfl rfl) rfl rfl hl.1 rfl (lv_room (Nat.le_of_ble_eq_true rfl)) dX4_point_5 ⟨Nat.zero_le _, Nat.zero_le _⟩) ?_
  exact xR_iret hx hb hr hlk  rfl dX4_point_8
set_option maxRecDepth 20000 in
theorem iw_X4_raised_X4 : ∀ w ∈ wsX40, w ∈ wsX4_raised := by decide +kernel
set_option maxRecDepth 20000 in
theorem fl_X4_raised_37 : Cond.fieldLink RX4 37 "ProcedureCode" "walked" "LProcedureCode$Storage;" ∈ wsX4_raised := by decide +kernel
set_option maxRecDepth 20000 in
theorem nw_X4_raised_109 : Cond.fieldLinkNest RX4 109 "ProcedureCode$Storage" "raise" "I" "ProcedureCode" ∈ nws := by decide +kernel
set_option maxRecDepth 20000 in
theorem iw_X4_raised_X2 : ∀ w ∈ wsX20, w ∈ wsX4_raised := by decide +kernel
set_option maxRecDepth 20000 in
theorem fl_X4_raised_41 : Cond.fieldLink RX4 41 "ProcedureCode" "stepped" "LProcedureCode$Storage;" ∈ wsX4_raised := by decide +kernel
def G_X4_raised (s : Nat → SS) (cd : Int32) : Int32 := if cd = 0 then ((s 0).2.1) else ((s 1).2.1)
set_option maxHeartbeats 4000000 in
set_option maxRecDepth 100000 in
theorem c_X4_raised (l : Launch) (w : WG) (c : CS) (t : TS) (r : RS) (s : Nat → SS) (cd : Int32) : Met l yX4_raised wsX4_raised { frames := 0, cells := 0, slots := 0, locals := 0 } (va_Pc [.ref (w.2.2 0), .int cd] (wPK w (wC w c t r s))) (xR (some (.int (G_X4_raised s cd)))) 0 0 xNo := by
  refine xOf (cc := cX4_raised) (maxL := 2) (ret := (some .int)) (lv := [(0, .ref (w.2.2 0)), (1, .int cd)]) (by decide) rfl (Nat.le_of_ble_eq_true rfl) rfl ?_
  intro pP eE S mM below meth C hx hb hr hml hts hown hlk hnm hw ls hl
  obtain ⟨hP, hK⟩ := hw
  refine lv_iload_n hx hb dX4_raised_0 rfl (lv_at hl 1 rfl) ?_
  refine lv_if_eq (tgt := 14) hx hb dX4_raised_1 (by decide) (fun b1 => ?_) (fun b1 => ?_)
  ·
    refine lv_aload_n hx hb dX4_raised_14 rfl (lv_at hl 0 rfl) ?_
    refine va_get (D := w.1) (ci := 5) (v := .ref (w.2.2 18)) (C := RX4) (T := TX4) (N := 7) hx hb hts iw_X4_raised_X4 hown hK.1 hP 0 rfl rfl 3 (by decide) (hts _ fl_X4_raised_37) (fun _ h9 => h9) rfl dX4_raised_15 ?_
    refine va_getN (D := w.1) (ci := 3) (v := .int ((s 0).2.1)) (C := RX2) (T := TX2) (N := 4) hx hb hts iw_X4_raised_X2 hown hK.1 hP 18 rfl rfl 2 (by decide) (va_Nw.use rfl (hK.2 _ nw_X4_raised_109)) (fun _ h9 => h9) rfl dX4_raised_18 ?_
    exact xR_iret hx hb hr hlk  (Eq.trans rfl (if_pos b1)) dX4_raised_21
  ·
    refine lv_aload_n hx hb dX4_raised_4 rfl (lv_at hl 0 rfl) ?_
    refine va_get (D := w.1) (ci := 5) (v := .ref (w.2.2 20)) (C := RX4) (T := TX4) (N := 7) hx hb hts iw_X4_raised_X4 hown hK.1 hP 0 rfl rfl 4 (by decide) (hts _ fl_X4_raised_41) (fun _ h9 => h9) rfl dX4_raised_5 ?_
    refine va_getN (D := w.1) (ci := 3) (v := .int ((s 1).2.1)) (C := RX2) (T := TX2) (N := 4) hx hb hts iw_X4_raised_X2 hown hK.1 hP 20 rfl rfl 2 (by decide) (va_Nw.use rfl (hK.2 _ nw_X4_raised_109)) (fun _ h9 => h9) rfl dX4_raised_8 ?_
    refine lv_goto (tgt := 21) hx hb dX4_raised_11 (by decide) ?_
    exact xR_iret hx hb hr hlk  (Eq.trans rfl (if_neg b1)) dX4_raised_21
set_option maxRecDepth 20000 in
theorem iw_X4_put_X4 : ∀ w ∈ wsX40, w ∈ wsX4_put := by decide +kernel
set_option maxRecDepth 20000 in
theorem fl_X4_put_37 : Cond.fieldLink RX4 37 "ProcedureCode" "walked" "LProcedureCode$Storage;" ∈ wsX4_put := by decide +kernel
set_option maxRecDepth 20000 in
theorem dv_X2_setByte : yX2_setByte.cls = RX2 ∧ yX2_setByte.cls ≠ "java/lang/invoke/MethodHandle" ∧ yX2_setByte.cls ≠ "java/lang/invoke/VarHandle" ∧ (parseMethodDescriptor yX2_setByte.desc).map (fun d => d.parameters.length) = some 2 := by decide +kernel
set_option maxRecDepth 20000 in
theorem fl_X4_put_41 : Cond.fieldLink RX4 41 "ProcedureCode" "stepped" "LProcedureCode$Storage;" ∈ wsX4_put := by decide +kernel
def G_X4_put (s : Nat → SS) (p : Int32) (v : Int32) : Int32 × (Nat → SS) := if (G_X2_holds p) = 0 then (((-4 : Int32), s)) else (((1 : Int32), va_up (va_up s 0 (G_X2_setByte (s 0) p v)) 1 (G_X2_setByte ((va_up s 0 (G_X2_setByte (s 0) p v)) 1) p v)))
set_option maxHeartbeats 4000000 in
set_option maxRecDepth 100000 in
theorem c_X4_put (l : Launch) (w : WG) (hA : wAp w 26) (c : CS) (t : TS) (r : RS) (s : Nat → SS) (p : Int32) (v : Int32) : Met l yX4_put wsX4_put { frames := 2, cells := 0, slots := 0, locals := 42 } (va_Pc [.ref (w.2.2 0), .int p, .int v] (wPK w (wC w c t r s))) (xM (some (.int ((G_X4_put s p v).1))) (fun H => va_P w.1 vwCl (wC w c t r ((G_X4_put s p v).2)) H) (wA w 26)) 0 0 (wA w 26) := by
  refine xOf (cc := cX4_put) (maxL := 3) (ret := (some .int)) (lv := [(0, .ref (w.2.2 0)), (1, .int p), (2, .int v)]) (by decide) rfl (Nat.le_of_ble_eq_true rfl) rfl ?_
  intro pP eE S mM below meth C hx hb hr hml hts hown hlk hnm hw ls hl
  obtain ⟨hP, hK⟩ := hw
  have hS : va_S (wA w 26) S.heap S.heap [] := va_S.rf
  have hP : va_P w.1 vwCl (wC w c t r s) S.heap := hP
  refine lv_iload_n hx hb dX4_put_0 rfl (lv_at hl 1 rfl) ?_
  refine xR_i (va_runS (As := [.int p]) (rest := []) ⟨hx, hb, hml, hown, hts⟩ (c_X2_holds l w c t r s p ) (va_cwS 1 hts gX4_put_X2_holds rfl rfl rfl ds_X2_holds ⟨Nat.le_of_ble_eq_true rfl, Nat.le_of_ble_eq_true rfl⟩) (wPre hP hK) rfl rfl hl.1 rfl (lv_room (Nat.le_of_ble_eq_true rfl)) dX4_put_1 ⟨Nat.zero_le _, Nat.zero_le _⟩) ?_
  refine lv_if_ne (tgt := 10) hx hb dX4_put_4 (by decide) (fun b1 => ?_) (fun b1 => ?_)
  ·
    refine lv_aload_n hx hb dX4_put_10 rfl (lv_at hl 0 rfl) ?_
    refine va_get (D := w.1) (ci := 5) (v := .ref (w.2.2 18)) (C := RX4) (T := TX4) (N := 7) hx hb hts iw_X4_put_X4 hown hK.1 hP 0 rfl rfl 3 (by decide) (hts _ fl_X4_put_37) (fun _ h9 => h9) rfl dX4_put_11 ?_
    refine lv_iload_n hx hb dX4_put_14 rfl (lv_at hl 1 rfl) ?_
    refine lv_iload_n hx hb dX4_put_15 rfl (lv_at hl 2 rfl) ?_
    have hP : va_P w.1 vwCl (wC w c t r (va_up s 0 (s 0))) S.heap := by rw [va_up_id]; exact hP
    refine xM_v (va_runV (As := [.int p, .int v]) (rest := []) ⟨hx, hb, hml, hown, hts⟩ (c_X2_setByte l w hA c t r s 0 (by decide) (s 0) p v ) (cwV 2 hts gX4_put_X2_setByte rfl rfl rfl dv_X2_setByte ⟨Nat.le_of_ble_eq_true rfl, Nat.le_of_ble_eq_true rfl⟩) (wPreV hP hK (ci := 3) (q0 := (18 + 2 * 0)) rfl (wC_ox (by decide))) rfl rfl hl.1 rfl (lv_room (Nat.le_of_ble_eq_true rfl)) dX4_put_16 ⟨Nat.zero_le _, Nat.zero_le _⟩) hS (fun H locs hP hS => ?_)
    have hP : va_P w.1 vwCl (wC w c t r (va_up s 0 (G_X2_setByte (s 0) p v))) H := hP
    refine lv_aload_n hx hb dX4_put_19 rfl (lv_at hl 0 rfl) ?_
    refine va_get (D := w.1) (ci := 5) (v := .ref (w.2.2 20)) (C := RX4) (T := TX4) (N := 7) hx hb hts iw_X4_put_X4 hown hK.1 hP 0 rfl rfl 4 (by decide) (hts _ fl_X4_put_41) (fun _ h9 => h9) rfl dX4_put_20 ?_
    refine lv_iload_n hx hb dX4_put_23 rfl (lv_at hl 1 rfl) ?_
    refine lv_iload_n hx hb dX4_put_24 rfl (lv_at hl 2 rfl) ?_
    have hP : va_P w.1 vwCl (wC w c t r (va_up (va_up s 0 (G_X2_setByte (s 0) p v)) 1 ((va_up s 0 (G_X2_setByte (s 0) p v)) 1))) H := by rw [va_up_id]; exact hP
    refine xM_v (va_runV (As := [.int p, .int v]) (rest := []) ⟨hx, hb, hml, hown, hts⟩ (c_X2_setByte l w hA c t r (va_up s 0 (G_X2_setByte (s 0) p v)) 1 (by decide) ((va_up s 0 (G_X2_setByte (s 0) p v)) 1) p v ) (cwV 2 hts gX4_put_X2_setByte rfl rfl rfl dv_X2_setByte ⟨Nat.le_of_ble_eq_true rfl, Nat.le_of_ble_eq_true rfl⟩) (wPreV hP hK (ci := 3) (q0 := (18 + 2 * 1)) rfl (wC_ox (by decide))) rfl rfl hl.1 rfl (lv_room (Nat.le_of_ble_eq_true rfl)) dX4_put_25 ⟨Nat.zero_le _, Nat.zero_le _⟩) hS (fun H locs hP hS => ?_)
    have hP : va_P w.1 vwCl (wC w c t r (va_up (va_up s 0 (G_X2_setByte (s 0) p v)) 1 (G_X2_setByte ((va_up s 0 (G_X2_setByte (s 0) p v)) 1) p v))) H := hP
    refine lv_iconst (v := 1) hx hb dX4_put_28 (by decide) ?_
    have e9 : G_X4_put s p v = ((1 : Int32), va_up (va_up s 0 (G_X2_setByte (s 0) p v)) 1 (G_X2_setByte ((va_up s 0 (G_X2_setByte (s 0) p v)) 1) p v)) := Eq.trans rfl (if_neg b1)
    exact xM_iret hx hb hr hlk  hS (by rw [e9]) (by rw [e9]; exact hP) dX4_put_29
  ·
    refine lv_bipush (v := -4) hx hb dX4_put_7 (by decide) ?_
    have e9 : G_X4_put s p v = ((-4 : Int32), s) := Eq.trans rfl (if_pos b1)
    exact xM_iret hx hb hr hlk  hS (by rw [e9]) (by rw [e9]; exact hP) dX4_put_9
