theorem okX1_push {r : RS} {v : Int64} : OK_X1_push r v := by
  have e : (201 : Int32).toInt = 201 := by decide
  unfold OK_X1_push
  split
  · trivial
  · rename_i h
    split
    · trivial
    · rename_i h2
      rw [i32_lt, i0] at h
      rw [i32_le, e] at h2
      exact ⟨vp_in_iff.mpr ⟨by omega, by omega⟩, trivial⟩
theorem okX1_pop {r : RS} : OK_X1_pop r := by
  have e : (201 : Int32).toInt = 201 := by decide
  have e1 : (1 : Int32).toInt = 1 := by decide
  unfold OK_X1_pop
  split
  · trivial
  · rename_i h
    split
    · rename_i h2
      rw [i32_lt, e1] at h
      rw [i32_le, e] at h2
      refine ⟨vp_in_iff.mpr ?_, trivial⟩
      rw [i32_sub (by omega) (by omega), e1]
      omega
    · trivial
theorem okX1_storingRowL {r : RS} {n : Int32} : ∀ (fu j : Nat) (sn : Int32), j ≤ 400 → 400 - j < fu → OK_X1_storingRow_L4 r n fu sn (nI j) := by
  intro fu
  induction fu with
  | zero => intro j sn h1 h2; omega
  | succ fu ih =>
    intro j sn h1 h2
    unfold OK_X1_storingRow_L4
    split
    · trivial
    · split
      · trivial
      · rename_i h
        rw [i32_le, show (400 : Int32).toInt = 400 by decide, nI_toInt (by omega)] at h
        have hj : j < 400 := by omega
        have hv : vp_in (nI j) 400 := vp_in_nI hj (by omega)
        refine ⟨hv, ?_⟩
        rw [nI_1]
        split
        · split
          · trivial
          · exact ih (j + 1) _ (by omega) (by omega)
        · refine ⟨hv, ?_⟩
          split
          · split
            · trivial
            · exact ih (j + 1) _ (by omega) (by omega)
          · exact ih (j + 1) _ (by omega) (by omega)
theorem okX1_storingRow {r : RS} {n : Int32} : OK_X1_storingRow r n := okX1_storingRowL 402 0 0 (by omega) (by omega)
theorem okR_addRow {r : RS} {op : Int32} {v : Int64} {sw : Int32} (h : okR r) : okR (G_X1_addRow r op v sw) := by
  unfold G_X1_addRow
  split
  · exact h
  · split
    · rename_i h2
      rw [i32_lt, show (400 : Int32).toInt = 400 by decide] at h2
      have h1 := h.1
      unfold okR
      show 0 ≤ (r.1 + (1 : Int32)).toInt ∧ (r.1 + (1 : Int32)).toInt ≤ 400
      rw [i32_inc (by omega)]
      omega
    · exact h
theorem okR_aim {r : RS} {n v : Int32} (h : okR r) : okR (G_X1_aim r n v) := by
  unfold G_X1_aim
  split
  · exact h
  · exact h
theorem okR_0 (q : AI × AL × AI × AL × Int32) : okR ((0 : Int32), q) := ⟨by show 0 ≤ (0 : Int32).toInt; decide, by show (0 : Int32).toInt ≤ 400; decide⟩
theorem okR_ite {c : Prop} {hd : Decidable c} {a b : RS} (ha : okR a) (hb : okR b) : okR (@ite RS c hd a b) := by
  by_cases h : c
  · rw [if_pos h]; exact ha
  · rw [if_neg h]; exact hb
theorem k_X1_push (l : Launch) (w : WG) (hA : wAp w 26) (c : CS) (t : TS) (r : RS) (s : Nat → SS) (v : Int64) : Met l yX1_push wsX1_push { frames := 0, cells := 0, slots := 0, locals := 0 } (va_Pc [.ref (w.2.2 13), .long v] (wPK w (wC w c t r s))) (xM none (fun H => va_P w.1 vwCl (wC w c t (G_X1_push r v) s) H) (wA w 26)) 0 0 (wA w 26) := c_X1_push l w hA c t r s v  okX1_push
theorem k_X1_pop (l : Launch) (w : WG) (hA : wAp w 26) (c : CS) (t : TS) (r : RS) (s : Nat → SS) : Met l yX1_pop wsX1_pop { frames := 0, cells := 0, slots := 0, locals := 0 } (va_Pc [.ref (w.2.2 13)] (wPK w (wC w c t r s))) (xM (some (.long ((G_X1_pop r).1))) (fun H => va_P w.1 vwCl (wC w c t ((G_X1_pop r).2) s) H) (wA w 26)) 0 0 (wA w 26) := c_X1_pop l w hA c t r s   okX1_pop
theorem k_X1_storingRow (l : Launch) (w : WG) (c : CS) (t : TS) (r : RS) (s : Nat → SS) (n : Int32) : Met l yX1_storingRow wsX1_storingRow { frames := 0, cells := 0, slots := 0, locals := 0 } (va_Pc [.ref (w.2.2 13), .int n] (wPK w (wC w c t r s))) (xR (some (.int (G_X1_storingRow r n)))) 0 0 xNo := c_X1_storingRow l w c t r s n  okX1_storingRow
set_option maxRecDepth 20000 in
theorem dv_X1_pop : yX1_pop.cls = RX1 ∧ yX1_pop.cls ≠ "java/lang/invoke/MethodHandle" ∧ yX1_pop.cls ≠ "java/lang/invoke/VarHandle" ∧ (parseMethodDescriptor yX1_pop.desc).map (fun d => d.parameters.length) = some 0 := by decide +kernel
set_option maxRecDepth 20000 in
theorem dv_X1_push : yX1_push.cls = RX1 ∧ yX1_push.cls ≠ "java/lang/invoke/MethodHandle" ∧ yX1_push.cls ≠ "java/lang/invoke/VarHandle" ∧ (parseMethodDescriptor yX1_push.desc).map (fun d => d.parameters.length) = some 1 := by decide +kernel
def G_X1_nextTime (r : RS) (x : SS) (bd : Int32) (bh : Int32) : Int32 × RS × SS := if 0 < (lg_cmp ((G_X1_pop r).1) (0 : Int64)) then ((bd, G_X1_push ((G_X1_pop r).2) (((G_X1_pop r).1) - (1 : Int64)), G_X2_countOne x)) else ((bh, (G_X1_pop r).2, x))
set_option maxHeartbeats 4000000 in
set_option maxRecDepth 100000 in
theorem c_X1_nextTime (l : Launch) (w : WG) (hA : wAp w 26) (c : CS) (t : TS) (r : RS) (s : Nat → SS) (k : Nat) (hk : k < 4) (x : SS) (bd : Int32) (bh : Int32) : Met l yX1_nextTime wsX1_nextTime { frames := 1, cells := 0, slots := 0, locals := 22 } (va_Pc [.ref (w.2.2 13), .ref (w.2.2 (18 + 2 * k)), .int bd, .int bh] (wPK w (wC w c t r (va_up s k x)))) (xM (some (.int ((G_X1_nextTime r x bd bh).1))) (fun H => va_P w.1 vwCl (wC w c t ((G_X1_nextTime r x bd bh).2.1) (va_up s k ((G_X1_nextTime r x bd bh).2.2))) H) (wA w 26)) 0 0 (wA w 26) := by
  refine xOf (cc := cX1_nextTime) (maxL := 6) (ret := (some .int)) (lv := [(0, .ref (w.2.2 13)), (1, .ref (w.2.2 (18 + 2 * k))), (2, .int bd), (3, .int bh)]) (by decide) rfl (Nat.le_of_ble_eq_true rfl) rfl ?_
  intro pP eE S mM below meth C hx hb hr hml hts hown hlk hnm hw ls hl
  obtain ⟨hP, hK⟩ := hw
  have hS : va_S (wA w 26) S.heap S.heap [] := va_S.rf
  have hP : va_P w.1 vwCl (wC w c t r (va_up s k x)) S.heap := hP
  refine lv_aload_n hx hb dX1_nextTime_0 rfl (lv_at hl 0 rfl) ?_
  refine xM_l (va_runV (As := []) (rest := []) ⟨hx, hb, hml, hown, hts⟩ (k_X1_pop l w hA c t r (va_up s k x)  ) (cwV 0 hts gX1_nextTime_X1_pop rfl rfl rfl dv_X1_pop ⟨Nat.le_of_ble_eq_true rfl, Nat.le_of_ble_eq_true rfl⟩) (wPreV hP hK (ci := 2) (q0 := 13) rfl rfl) rfl rfl hl.1 rfl (lv_room (Nat.le_of_ble_eq_true rfl)) dX1_nextTime_1 ⟨Nat.zero_le _, Nat.zero_le _⟩) hS (fun H locs hP hS => ?_)
  have hP : va_P w.1 vwCl (wC w c t ((G_X1_pop r).2) (va_up s k x)) H := hP
  refine lv_lstore (lv' := [(4, .long ((G_X1_pop r).1)), (0, .ref (w.2.2 13)), (1, .ref (w.2.2 (18 + 2 * k))), (2, .int bd), (3, .int bh)]) hx hb dX1_nextTime_4 hl (by decide) rfl (fun ls hl => ?_)
  refine lv_lload hx hb dX1_nextTime_6 (lv_at hl 0 rfl) ?_
  refine lv_lconst (v := 0) hx hb dX1_nextTime_8 (by decide) ?_
  refine W.lcmp hx hb dX1_nextTime_9 ?_
  refine lv_if_gt (tgt := 15) hx hb dX1_nextTime_10 (by decide) (fun b1 => ?_) (fun b1 => ?_)
  ·
    refine lv_aload_n hx hb dX1_nextTime_15 rfl (lv_at hl 2 rfl) ?_
    refine xM_v (va_runV (As := []) (rest := []) ⟨hx, hb, hml, hown, hts⟩ (c_X2_countOne l w hA c t ((G_X1_pop r).2) s k hk x  ) (cwV 0 hts gX1_nextTime_X2_countOne rfl rfl rfl dv_X2_countOne ⟨Nat.le_of_ble_eq_true rfl, Nat.le_of_ble_eq_true rfl⟩) (wPreV hP hK (ci := 3) (q0 := (18 + 2 * k)) rfl (wC_ox hk)) rfl rfl hl.1 rfl (lv_room (Nat.le_of_ble_eq_true rfl)) dX1_nextTime_16 ⟨Nat.zero_le _, Nat.zero_le _⟩) hS (fun H locs hP hS => ?_)
    have hP : va_P w.1 vwCl (wC w c t ((G_X1_pop r).2) (va_up s k (G_X2_countOne x))) H := hP
    refine lv_aload_n hx hb dX1_nextTime_19 rfl (lv_at hl 1 rfl) ?_
    refine lv_lload hx hb dX1_nextTime_20 (lv_at hl 0 rfl) ?_
    refine lv_lconst (v := 1) hx hb dX1_nextTime_22 (by decide) ?_
    refine lv_lsub hx hb dX1_nextTime_23 ?_
    refine xM_v (va_runV (As := [.long (((G_X1_pop r).1) - (1 : Int64))]) (rest := []) ⟨hx, hb, hml, hown, hts⟩ (k_X1_push l w hA c t ((G_X1_pop r).2) (va_up s k (G_X2_countOne x)) (((G_X1_pop r).1) - (1 : Int64)) ) (cwV 1 hts gX1_nextTime_X1_push rfl rfl rfl dv_X1_push ⟨Nat.le_of_ble_eq_true rfl, Nat.le_of_ble_eq_true rfl⟩) (wPreV hP hK (ci := 2) (q0 := 13) rfl rfl) rfl rfl hl.1 rfl (lv_room (Nat.le_of_ble_eq_true rfl)) dX1_nextTime_24 ⟨Nat.zero_le _, Nat.zero_le _⟩) hS (fun H locs hP hS => ?_)
    have hP : va_P w.1 vwCl (wC w c t (G_X1_push ((G_X1_pop r).2) (((G_X1_pop r).1) - (1 : Int64))) (va_up s k (G_X2_countOne x))) H := hP
    refine lv_iload_n hx hb dX1_nextTime_27 rfl (lv_at hl 3 rfl) ?_
    have e9 : G_X1_nextTime r x bd bh = (bd, G_X1_push ((G_X1_pop r).2) (((G_X1_pop r).1) - (1 : Int64)), G_X2_countOne x) := Eq.trans rfl (if_pos b1)
    exact xM_iret hx hb hr hlk  hS (by rw [e9]) (by rw [e9]; exact hP) dX1_nextTime_28
  ·
    refine lv_iload_n hx hb dX1_nextTime_13 rfl (lv_at hl 4 rfl) ?_
    have e9 : G_X1_nextTime r x bd bh = (bh, (G_X1_pop r).2, x) := Eq.trans rfl (if_neg b1)
    exact xM_iret hx hb hr hlk  hS (by rw [e9]) (by rw [e9]; exact hP) dX1_nextTime_14
set_option maxRecDepth 20000 in
theorem dv_X1_opOf : yX1_opOf.cls = RX1 ∧ yX1_opOf.cls ≠ "java/lang/invoke/MethodHandle" ∧ yX1_opOf.cls ≠ "java/lang/invoke/VarHandle" ∧ (parseMethodDescriptor yX1_opOf.desc).map (fun d => d.parameters.length) = some 1 := by decide +kernel
set_option maxRecDepth 20000 in
theorem dv_X1_numberOf : yX1_numberOf.cls = RX1 ∧ yX1_numberOf.cls ≠ "java/lang/invoke/MethodHandle" ∧ yX1_numberOf.cls ≠ "java/lang/invoke/VarHandle" ∧ (parseMethodDescriptor yX1_numberOf.desc).map (fun d => d.parameters.length) = some 1 := by decide +kernel
set_option maxRecDepth 20000 in
theorem dv_X1_nextTime : yX1_nextTime.cls = RX1 ∧ yX1_nextTime.cls ≠ "java/lang/invoke/MethodHandle" ∧ yX1_nextTime.cls ≠ "java/lang/invoke/VarHandle" ∧ (parseMethodDescriptor yX1_nextTime.desc).map (fun d => d.parameters.length) = some 3 := by decide +kernel
def G_X1_step (c : CS) (r : RS) (x : SS) (n : Int32) : Int32 × RS × SS := if (G_X1_opOf r n) = (0 : Int32) then ((n + (1 : Int32), G_X1_push r (G_X1_numberOf r n), x)) else (if (G_X1_opOf r n) = (1 : Int32) then ((n + (1 : Int32), G_X1_push r ((G_X2_load c x ((G_X1_numberOf r n).toInt32) (0 : Int64)).1), (G_X2_load c x ((G_X1_numberOf r n).toInt32) (0 : Int64)).2)) else (if (G_X1_opOf r n) = (2 : Int32) then ((n + (1 : Int32), G_X1_push ((G_X1_pop r).2) ((G_X2_load c x ((G_X1_numberOf r n).toInt32) ((G_X1_pop r).1)).1), (G_X2_load c x ((G_X1_numberOf r n).toInt32) ((G_X1_pop r).1)).2)) else (if (G_X1_opOf r n) = (9 : Int32) then ((n + (1 : Int32), (G_X1_pop r).2, G_X2_save c x ((G_X1_numberOf r n).toInt32) (0 : Int64) ((G_X1_pop r).1))) else (if (G_X1_opOf r n) = (10 : Int32) then ((n + (1 : Int32), (G_X1_pop ((G_X1_pop r).2)).2, G_X2_save c x ((G_X1_numberOf r n).toInt32) ((G_X1_pop ((G_X1_pop r).2)).1) ((G_X1_pop r).1))) else (if (G_X1_opOf r n) = (12 : Int32) then (if (lg_cmp ((G_X1_pop r).1) (0 : Int64)) = 0 then (((G_X1_numberOf r n).toInt32, (G_X1_pop r).2, x)) else ((n + (1 : Int32), (G_X1_pop r).2, x))) else (if (G_X1_opOf r n) = (13 : Int32) then (((G_X1_nextTime r x (n + (1 : Int32)) ((G_X1_numberOf r n).toInt32)).1, (G_X1_nextTime r x (n + (1 : Int32)) ((G_X1_numberOf r n).toInt32)).2.1, (G_X1_nextTime r x (n + (1 : Int32)) ((G_X1_numberOf r n).toInt32)).2.2)) else (if (G_X1_opOf r n) = (14 : Int32) then (((G_X1_nextTime r x ((G_X1_numberOf r n).toInt32) (n + (1 : Int32))).1, (G_X1_nextTime r x ((G_X1_numberOf r n).toInt32) (n + (1 : Int32))).2.1, (G_X1_nextTime r x ((G_X1_numberOf r n).toInt32) (n + (1 : Int32))).2.2)) else (if (G_X1_opOf r n) = (15 : Int32) then ((n + (1 : Int32), (G_X1_pop r).2, x)) else ((n + (1 : Int32), G_X1_push ((G_X1_pop ((G_X1_pop r).2)).2) ((G_X2_result x (G_X1_opOf r n) ((G_X1_pop ((G_X1_pop r).2)).1) ((G_X1_pop r).1)).1), (G_X2_result x (G_X1_opOf r n) ((G_X1_pop ((G_X1_pop r).2)).1) ((G_X1_pop r).1)).2))))))))))
set_option maxHeartbeats 4000000 in
set_option maxRecDepth 100000 in
theorem c_X1_step (l : Launch) (w : WG) (hA : wAp w 26) (c : CS) (t : TS) (r : RS) (s : Nat → SS) (k : Nat) (hk : k < 4) (x : SS) (n : Int32) (hc : okC c) (hq : okR r) : Met l yX1_step wsX1_step { frames := 4, cells := 0, slots := 0, locals := 105 } (va_Pc [.ref (w.2.2 13), .ref (w.2.2 (18 + 2 * k)), .int n] (wPK w (wC w c t r (va_up s k x)))) (xM (some (.int ((G_X1_step c r x n).1))) (fun H => va_P w.1 vwCl (wC w c t ((G_X1_step c r x n).2.1) (va_up s k ((G_X1_step c r x n).2.2))) H) (wA w 26)) 0 0 (wA w 26) := by
  refine xOf (cc := cX1_step) (maxL := 11) (ret := (some .int)) (lv := [(0, .ref (w.2.2 13)), (1, .ref (w.2.2 (18 + 2 * k))), (2, .int n)]) (by decide) rfl (Nat.le_of_ble_eq_true rfl) rfl ?_
  intro pP eE S mM below meth C hx hb hr hml hts hown hlk hnm hw ls hl
  obtain ⟨hP, hK⟩ := hw
  have hS : va_S (wA w 26) S.heap S.heap [] := va_S.rf
  have hP : va_P w.1 vwCl (wC w c t r (va_up s k x)) S.heap := hP
  refine lv_aload_n hx hb dX1_step_0 rfl (lv_at hl 0 rfl) ?_
  refine lv_iload_n hx hb dX1_step_1 rfl (lv_at hl 2 rfl) ?_
  refine xR_i (va_runV (As := [.int n]) (rest := []) ⟨hx, hb, hml, hown, hts⟩ (c_X1_opOf l w c t r (va_up s k x) n hq) (cwV 1 hts gX1_step_X1_opOf rfl rfl rfl dv_X1_opOf ⟨Nat.le_of_ble_eq_true rfl, Nat.le_of_ble_eq_true rfl⟩) (wPreV hP hK (ci := 2) (q0 := 13) rfl rfl) rfl rfl hl.1 rfl (lv_room (Nat.le_of_ble_eq_true rfl)) dX1_step_2 ⟨Nat.zero_le _, Nat.zero_le _⟩) ?_
  refine lv_istore_n (lv' := [(3, .int (G_X1_opOf r n)), (0, .ref (w.2.2 13)), (1, .ref (w.2.2 (18 + 2 * k))), (2, .int n)]) hx hb dX1_step_5 rfl hl (by decide) rfl (fun ls hl => ?_)
  refine lv_aload_n hx hb dX1_step_6 rfl (lv_at hl 1 rfl) ?_
  refine lv_iload_n hx hb dX1_step_7 rfl (lv_at hl 3 rfl) ?_
  refine xR_l (va_runV (As := [.int n]) (rest := []) ⟨hx, hb, hml, hown, hts⟩ (c_X1_numberOf l w c t r (va_up s k x) n hq) (cwV 1 hts gX1_step_X1_numberOf rfl rfl rfl dv_X1_numberOf ⟨Nat.le_of_ble_eq_true rfl, Nat.le_of_ble_eq_true rfl⟩) (wPreV hP hK (ci := 2) (q0 := 13) rfl rfl) rfl rfl hl.1 rfl (lv_room (Nat.le_of_ble_eq_true rfl)) dX1_step_8 ⟨Nat.zero_le _, Nat.zero_le _⟩) ?_
  refine lv_lstore (lv' := [(4, .long (G_X1_numberOf r n)), (3, .int (G_X1_opOf r n)), (0, .ref (w.2.2 13)), (1, .ref (w.2.2 (18 + 2 * k))), (2, .int n)]) hx hb dX1_step_11 hl (by decide) rfl (fun ls hl => ?_)
  refine lv_lload hx hb dX1_step_13 (lv_at hl 0 rfl) ?_
  refine lv_l2i hx hb dX1_step_15 rfl ?_
  refine lv_istore (lv' := [(6, .int ((G_X1_numberOf r n).toInt32)), (4, .long (G_X1_numberOf r n)), (3, .int (G_X1_opOf r n)), (0, .ref (w.2.2 13)), (1, .ref (w.2.2 (18 + 2 * k))), (2, .int n)]) hx hb dX1_step_16 hl (by decide) rfl (fun ls hl => ?_)
  refine lv_iload_n hx hb dX1_step_18 rfl (lv_at hl 2 rfl) ?_
  by_cases b1 : (G_X1_opOf r n) = (0 : Int32)
  ·
    refine xTabK (tgt := 96) (z := 0) hx hb dX1_step_19 (by rw [b1]; decide) (by decide +kernel) ?_
    refine lv_aload_n hx hb dX1_step_96 rfl (lv_at hl 3 rfl) ?_
    refine lv_lload hx hb dX1_step_97 (lv_at hl 1 rfl) ?_
    refine xM_v (va_runV (As := [.long (G_X1_numberOf r n)]) (rest := []) ⟨hx, hb, hml, hown, hts⟩ (k_X1_push l w hA c t r (va_up s k x) (G_X1_numberOf r n) ) (cwV 1 hts gX1_step_X1_push rfl rfl rfl dv_X1_push ⟨Nat.le_of_ble_eq_true rfl, Nat.le_of_ble_eq_true rfl⟩) (wPreV hP hK (ci := 2) (q0 := 13) rfl rfl) rfl rfl hl.1 rfl (lv_room (Nat.le_of_ble_eq_true rfl)) dX1_step_99 ⟨Nat.zero_le _, Nat.zero_le _⟩) hS (fun H locs hP hS => ?_)
    have hP : va_P w.1 vwCl (wC w c t (G_X1_push r (G_X1_numberOf r n)) (va_up s k x)) H := hP
    refine lv_iload_n hx hb dX1_step_102 rfl (lv_at hl 5 rfl) ?_
    refine lv_iconst (v := 1) hx hb dX1_step_103 (by decide) ?_
    refine lv_iadd hx hb dX1_step_104 ?_
    have e9 : G_X1_step c r x n = (n + (1 : Int32), G_X1_push r (G_X1_numberOf r n), x) := Eq.trans rfl (if_pos b1)
    exact xM_iret hx hb hr hlk  hS (by rw [e9]) (by rw [e9]; exact hP) dX1_step_105
  by_cases b2 : (G_X1_opOf r n) = (1 : Int32)
  ·
    refine xTabK (tgt := 106) (z := 1) hx hb dX1_step_19 (by rw [b2]; decide) (by decide +kernel) ?_
    refine lv_aload_n hx hb dX1_step_106 rfl (lv_at hl 3 rfl) ?_
    refine lv_aload_n hx hb dX1_step_107 rfl (lv_at hl 4 rfl) ?_
    refine lv_iload hx hb dX1_step_108 (lv_at hl 0 rfl) ?_
    refine lv_lconst (v := 0) hx hb dX1_step_110 (by decide) ?_
    refine xM_l (va_runV (As := [.int ((G_X1_numberOf r n).toInt32), .long (0 : Int64)]) (rest := [.ref (w.2.2 13)]) ⟨hx, hb, hml, hown, hts⟩ (c_X2_load l w hA c t r s k hk x ((G_X1_numberOf r n).toInt32) (0 : Int64) hc) (cwV 2 hts gX1_step_X2_load rfl rfl rfl dv_X2_load ⟨Nat.le_of_ble_eq_true rfl, Nat.le_of_ble_eq_true rfl⟩) (wPreV hP hK (ci := 3) (q0 := (18 + 2 * k)) rfl (wC_ox hk)) rfl rfl hl.1 rfl (lv_room (Nat.le_of_ble_eq_true rfl)) dX1_step_111 ⟨Nat.zero_le _, Nat.zero_le _⟩) hS (fun H locs hP hS => ?_)
    have hP : va_P w.1 vwCl (wC w c t r (va_up s k ((G_X2_load c x ((G_X1_numberOf r n).toInt32) (0 : Int64)).2))) H := hP
    refine xM_v (va_runV (As := [.long ((G_X2_load c x ((G_X1_numberOf r n).toInt32) (0 : Int64)).1)]) (rest := []) ⟨hx, hb, hml, hown, hts⟩ (k_X1_push l w hA c t r (va_up s k ((G_X2_load c x ((G_X1_numberOf r n).toInt32) (0 : Int64)).2)) ((G_X2_load c x ((G_X1_numberOf r n).toInt32) (0 : Int64)).1) ) (cwV 1 hts gX1_step_X1_push rfl rfl rfl dv_X1_push ⟨Nat.le_of_ble_eq_true rfl, Nat.le_of_ble_eq_true rfl⟩) (wPreV hP hK (ci := 2) (q0 := 13) rfl rfl) rfl rfl hl.1 rfl (lv_room (Nat.le_of_ble_eq_true rfl)) dX1_step_114 ⟨Nat.zero_le _, Nat.zero_le _⟩) hS (fun H locs hP hS => ?_)
    have hP : va_P w.1 vwCl (wC w c t (G_X1_push r ((G_X2_load c x ((G_X1_numberOf r n).toInt32) (0 : Int64)).1)) (va_up s k ((G_X2_load c x ((G_X1_numberOf r n).toInt32) (0 : Int64)).2))) H := hP
    refine lv_iload_n hx hb dX1_step_117 rfl (lv_at hl 5 rfl) ?_
    refine lv_iconst (v := 1) hx hb dX1_step_118 (by decide) ?_
    refine lv_iadd hx hb dX1_step_119 ?_
    have e9 : G_X1_step c r x n = (n + (1 : Int32), G_X1_push r ((G_X2_load c x ((G_X1_numberOf r n).toInt32) (0 : Int64)).1), (G_X2_load c x ((G_X1_numberOf r n).toInt32) (0 : Int64)).2) := Eq.trans (Eq.trans rfl (if_neg b1)) (if_pos b2)
    exact xM_iret hx hb hr hlk  hS (by rw [e9]) (by rw [e9]; exact hP) dX1_step_120
  by_cases b3 : (G_X1_opOf r n) = (2 : Int32)
  ·
    refine xTabK (tgt := 121) (z := 2) hx hb dX1_step_19 (by rw [b3]; decide) (by decide +kernel) ?_
    refine lv_aload_n hx hb dX1_step_121 rfl (lv_at hl 3 rfl) ?_
    refine lv_aload_n hx hb dX1_step_122 rfl (lv_at hl 4 rfl) ?_
    refine lv_iload hx hb dX1_step_123 (lv_at hl 0 rfl) ?_
    refine lv_aload_n hx hb dX1_step_125 rfl (lv_at hl 3 rfl) ?_
    refine xM_l (va_runV (As := []) (rest := [.int ((G_X1_numberOf r n).toInt32), .ref (w.2.2 (18 + 2 * k)), .ref (w.2.2 13)]) ⟨hx, hb, hml, hown, hts⟩ (k_X1_pop l w hA c t r (va_up s k x)  ) (cwV 0 hts gX1_step_X1_pop rfl rfl rfl dv_X1_pop ⟨Nat.le_of_ble_eq_true rfl, Nat.le_of_ble_eq_true rfl⟩) (wPreV hP hK (ci := 2) (q0 := 13) rfl rfl) rfl rfl hl.1 rfl (lv_room (Nat.le_of_ble_eq_true rfl)) dX1_step_126 ⟨Nat.zero_le _, Nat.zero_le _⟩) hS (fun H locs hP hS => ?_)
    have hP : va_P w.1 vwCl (wC w c t ((G_X1_pop r).2) (va_up s k x)) H := hP
    refine xM_l (va_runV (As := [.int ((G_X1_numberOf r n).toInt32), .long ((G_X1_pop r).1)]) (rest := [.ref (w.2.2 13)]) ⟨hx, hb, hml, hown, hts⟩ (c_X2_load l w hA c t ((G_X1_pop r).2) s k hk x ((G_X1_numberOf r n).toInt32) ((G_X1_pop r).1) hc) (cwV 2 hts gX1_step_X2_load rfl rfl rfl dv_X2_load ⟨Nat.le_of_ble_eq_true rfl, Nat.le_of_ble_eq_true rfl⟩) (wPreV hP hK (ci := 3) (q0 := (18 + 2 * k)) rfl (wC_ox hk)) rfl rfl hl.1 rfl (lv_room (Nat.le_of_ble_eq_true rfl)) dX1_step_129 ⟨Nat.zero_le _, Nat.zero_le _⟩) hS (fun H locs hP hS => ?_)
    have hP : va_P w.1 vwCl (wC w c t ((G_X1_pop r).2) (va_up s k ((G_X2_load c x ((G_X1_numberOf r n).toInt32) ((G_X1_pop r).1)).2))) H := hP
    refine xM_v (va_runV (As := [.long ((G_X2_load c x ((G_X1_numberOf r n).toInt32) ((G_X1_pop r).1)).1)]) (rest := []) ⟨hx, hb, hml, hown, hts⟩ (k_X1_push l w hA c t ((G_X1_pop r).2) (va_up s k ((G_X2_load c x ((G_X1_numberOf r n).toInt32) ((G_X1_pop r).1)).2)) ((G_X2_load c x ((G_X1_numberOf r n).toInt32) ((G_X1_pop r).1)).1) ) (cwV 1 hts gX1_step_X1_push rfl rfl rfl dv_X1_push ⟨Nat.le_of_ble_eq_true rfl, Nat.le_of_ble_eq_true rfl⟩) (wPreV hP hK (ci := 2) (q0 := 13) rfl rfl) rfl rfl hl.1 rfl (lv_room (Nat.le_of_ble_eq_true rfl)) dX1_step_132 ⟨Nat.zero_le _, Nat.zero_le _⟩) hS (fun H locs hP hS => ?_)
    have hP : va_P w.1 vwCl (wC w c t (G_X1_push ((G_X1_pop r).2) ((G_X2_load c x ((G_X1_numberOf r n).toInt32) ((G_X1_pop r).1)).1)) (va_up s k ((G_X2_load c x ((G_X1_numberOf r n).toInt32) ((G_X1_pop r).1)).2))) H := hP
    refine lv_iload_n hx hb dX1_step_135 rfl (lv_at hl 5 rfl) ?_
    refine lv_iconst (v := 1) hx hb dX1_step_136 (by decide) ?_
    refine lv_iadd hx hb dX1_step_137 ?_
    have e9 : G_X1_step c r x n = (n + (1 : Int32), G_X1_push ((G_X1_pop r).2) ((G_X2_load c x ((G_X1_numberOf r n).toInt32) ((G_X1_pop r).1)).1), (G_X2_load c x ((G_X1_numberOf r n).toInt32) ((G_X1_pop r).1)).2) := Eq.trans (Eq.trans (Eq.trans rfl (if_neg b1)) (if_neg b2)) (if_pos b3)
    exact xM_iret hx hb hr hlk  hS (by rw [e9]) (by rw [e9]; exact hP) dX1_step_138
  by_cases b4 : (G_X1_opOf r n) = (9 : Int32)
  ·
    refine xTabK (tgt := 139) (z := 9) hx hb dX1_step_19 (by rw [b4]; decide) (by decide +kernel) ?_
    refine lv_aload_n hx hb dX1_step_139 rfl (lv_at hl 4 rfl) ?_
    refine lv_iload hx hb dX1_step_140 (lv_at hl 0 rfl) ?_
    refine lv_lconst (v := 0) hx hb dX1_step_142 (by decide) ?_
    refine lv_aload_n hx hb dX1_step_143 rfl (lv_at hl 3 rfl) ?_
    refine xM_l (va_runV (As := []) (rest := [.long (0 : Int64), .int ((G_X1_numberOf r n).toInt32), .ref (w.2.2 (18 + 2 * k))]) ⟨hx, hb, hml, hown, hts⟩ (k_X1_pop l w hA c t r (va_up s k x)  ) (cwV 0 hts gX1_step_X1_pop rfl rfl rfl dv_X1_pop ⟨Nat.le_of_ble_eq_true rfl, Nat.le_of_ble_eq_true rfl⟩) (wPreV hP hK (ci := 2) (q0 := 13) rfl rfl) rfl rfl hl.1 rfl (lv_room (Nat.le_of_ble_eq_true rfl)) dX1_step_144 ⟨Nat.zero_le _, Nat.zero_le _⟩) hS (fun H locs hP hS => ?_)
    have hP : va_P w.1 vwCl (wC w c t ((G_X1_pop r).2) (va_up s k x)) H := hP
    refine xM_v (va_runV (As := [.int ((G_X1_numberOf r n).toInt32), .long (0 : Int64), .long ((G_X1_pop r).1)]) (rest := []) ⟨hx, hb, hml, hown, hts⟩ (c_X2_save l w hA c t ((G_X1_pop r).2) s k hk x ((G_X1_numberOf r n).toInt32) (0 : Int64) ((G_X1_pop r).1) hc) (cwV 3 hts gX1_step_X2_save rfl rfl rfl dv_X2_save ⟨Nat.le_of_ble_eq_true rfl, Nat.le_of_ble_eq_true rfl⟩) (wPreV hP hK (ci := 3) (q0 := (18 + 2 * k)) rfl (wC_ox hk)) rfl rfl hl.1 rfl (lv_room (Nat.le_of_ble_eq_true rfl)) dX1_step_147 ⟨Nat.zero_le _, Nat.zero_le _⟩) hS (fun H locs hP hS => ?_)
    have hP : va_P w.1 vwCl (wC w c t ((G_X1_pop r).2) (va_up s k (G_X2_save c x ((G_X1_numberOf r n).toInt32) (0 : Int64) ((G_X1_pop r).1)))) H := hP
    refine lv_iload_n hx hb dX1_step_150 rfl (lv_at hl 5 rfl) ?_
    refine lv_iconst (v := 1) hx hb dX1_step_151 (by decide) ?_
    refine lv_iadd hx hb dX1_step_152 ?_
    have e9 : G_X1_step c r x n = (n + (1 : Int32), (G_X1_pop r).2, G_X2_save c x ((G_X1_numberOf r n).toInt32) (0 : Int64) ((G_X1_pop r).1)) := Eq.trans (Eq.trans (Eq.trans (Eq.trans rfl (if_neg b1)) (if_neg b2)) (if_neg b3)) (if_pos b4)
    exact xM_iret hx hb hr hlk  hS (by rw [e9]) (by rw [e9]; exact hP) dX1_step_153
  by_cases b5 : (G_X1_opOf r n) = (10 : Int32)
  ·
    refine xTabK (tgt := 154) (z := 10) hx hb dX1_step_19 (by rw [b5]; decide) (by decide +kernel) ?_
    refine lv_aload_n hx hb dX1_step_154 rfl (lv_at hl 3 rfl) ?_
    refine xM_l (va_runV (As := []) (rest := []) ⟨hx, hb, hml, hown, hts⟩ (k_X1_pop l w hA c t r (va_up s k x)  ) (cwV 0 hts gX1_step_X1_pop rfl rfl rfl dv_X1_pop ⟨Nat.le_of_ble_eq_true rfl, Nat.le_of_ble_eq_true rfl⟩) (wPreV hP hK (ci := 2) (q0 := 13) rfl rfl) rfl rfl hl.1 rfl (lv_room (Nat.le_of_ble_eq_true rfl)) dX1_step_155 ⟨Nat.zero_le _, Nat.zero_le _⟩) hS (fun H locs hP hS => ?_)
    have hP : va_P w.1 vwCl (wC w c t ((G_X1_pop r).2) (va_up s k x)) H := hP
    refine lv_lstore (lv' := [(7, .long ((G_X1_pop r).1)), (6, .int ((G_X1_numberOf r n).toInt32)), (4, .long (G_X1_numberOf r n)), (3, .int (G_X1_opOf r n)), (0, .ref (w.2.2 13)), (1, .ref (w.2.2 (18 + 2 * k))), (2, .int n)]) hx hb dX1_step_158 hl (by decide) rfl (fun ls hl => ?_)
    refine lv_aload_n hx hb dX1_step_160 rfl (lv_at hl 5 rfl) ?_
    refine lv_iload hx hb dX1_step_161 (lv_at hl 1 rfl) ?_
    refine lv_aload_n hx hb dX1_step_163 rfl (lv_at hl 4 rfl) ?_
    refine xM_l (va_runV (As := []) (rest := [.int ((G_X1_numberOf r n).toInt32), .ref (w.2.2 (18 + 2 * k))]) ⟨hx, hb, hml, hown, hts⟩ (k_X1_pop l w hA c t ((G_X1_pop r).2) (va_up s k x)  ) (cwV 0 hts gX1_step_X1_pop rfl rfl rfl dv_X1_pop ⟨Nat.le_of_ble_eq_true rfl, Nat.le_of_ble_eq_true rfl⟩) (wPreV hP hK (ci := 2) (q0 := 13) rfl rfl) rfl rfl hl.1 rfl (lv_room (Nat.le_of_ble_eq_true rfl)) dX1_step_164 ⟨Nat.zero_le _, Nat.zero_le _⟩) hS (fun H locs hP hS => ?_)
    have hP : va_P w.1 vwCl (wC w c t ((G_X1_pop ((G_X1_pop r).2)).2) (va_up s k x)) H := hP
    refine lv_lload hx hb dX1_step_167 (lv_at hl 0 rfl) ?_
    refine xM_v (va_runV (As := [.int ((G_X1_numberOf r n).toInt32), .long ((G_X1_pop ((G_X1_pop r).2)).1), .long ((G_X1_pop r).1)]) (rest := []) ⟨hx, hb, hml, hown, hts⟩ (c_X2_save l w hA c t ((G_X1_pop ((G_X1_pop r).2)).2) s k hk x ((G_X1_numberOf r n).toInt32) ((G_X1_pop ((G_X1_pop r).2)).1) ((G_X1_pop r).1) hc) (cwV 3 hts gX1_step_X2_save rfl rfl rfl dv_X2_save ⟨Nat.le_of_ble_eq_true rfl, Nat.le_of_ble_eq_true rfl⟩) (wPreV hP hK (ci := 3) (q0 := (18 + 2 * k)) rfl (wC_ox hk)) rfl rfl hl.1 rfl (lv_room (Nat.le_of_ble_eq_true rfl)) dX1_step_169 ⟨Nat.zero_le _, Nat.zero_le _⟩) hS (fun H locs hP hS => ?_)
    have hP : va_P w.1 vwCl (wC w c t ((G_X1_pop ((G_X1_pop r).2)).2) (va_up s k (G_X2_save c x ((G_X1_numberOf r n).toInt32) ((G_X1_pop ((G_X1_pop r).2)).1) ((G_X1_pop r).1)))) H := hP
    refine lv_iload_n hx hb dX1_step_172 rfl (lv_at hl 6 rfl) ?_
    refine lv_iconst (v := 1) hx hb dX1_step_173 (by decide) ?_
    refine lv_iadd hx hb dX1_step_174 ?_
    have e9 : G_X1_step c r x n = (n + (1 : Int32), (G_X1_pop ((G_X1_pop r).2)).2, G_X2_save c x ((G_X1_numberOf r n).toInt32) ((G_X1_pop ((G_X1_pop r).2)).1) ((G_X1_pop r).1)) := Eq.trans (Eq.trans (Eq.trans (Eq.trans (Eq.trans rfl (if_neg b1)) (if_neg b2)) (if_neg b3)) (if_neg b4)) (if_pos b5)
    exact xM_iret hx hb hr hlk  hS (by rw [e9]) (by rw [e9]; exact hP) dX1_step_175
  by_cases b6 : (G_X1_opOf r n) = (12 : Int32)
  ·
    refine xTabK (tgt := 176) (z := 12) hx hb dX1_step_19 (by rw [b6]; decide) (by decide +kernel) ?_
    refine lv_aload_n hx hb dX1_step_176 rfl (lv_at hl 3 rfl) ?_
    refine xM_l (va_runV (As := []) (rest := []) ⟨hx, hb, hml, hown, hts⟩ (k_X1_pop l w hA c t r (va_up s k x)  ) (cwV 0 hts gX1_step_X1_pop rfl rfl rfl dv_X1_pop ⟨Nat.le_of_ble_eq_true rfl, Nat.le_of_ble_eq_true rfl⟩) (wPreV hP hK (ci := 2) (q0 := 13) rfl rfl) rfl rfl hl.1 rfl (lv_room (Nat.le_of_ble_eq_true rfl)) dX1_step_177 ⟨Nat.zero_le _, Nat.zero_le _⟩) hS (fun H locs hP hS => ?_)
    have hP : va_P w.1 vwCl (wC w c t ((G_X1_pop r).2) (va_up s k x)) H := hP
    refine lv_lconst (v := 0) hx hb dX1_step_180 (by decide) ?_
    refine W.lcmp hx hb dX1_step_181 ?_
    refine lv_if_ne (tgt := 190) hx hb dX1_step_182 (by decide) (fun b7 => ?_) (fun b7 => ?_)
    ·
      refine lv_iload_n hx hb dX1_step_190 rfl (lv_at hl 5 rfl) ?_
      refine lv_iconst (v := 1) hx hb dX1_step_191 (by decide) ?_
      refine lv_iadd hx hb dX1_step_192 ?_
      have e9 : G_X1_step c r x n = (n + (1 : Int32), (G_X1_pop r).2, x) := Eq.trans (Eq.trans (Eq.trans (Eq.trans (Eq.trans (Eq.trans (Eq.trans rfl (if_neg b1)) (if_neg b2)) (if_neg b3)) (if_neg b4)) (if_neg b5)) (if_pos b6)) (if_neg b7)
      exact xM_iret hx hb hr hlk  hS (by rw [e9]) (by rw [e9]; exact hP) dX1_step_193
    ·
      refine lv_iload hx hb dX1_step_185 (lv_at hl 0 rfl) ?_
      refine lv_goto (tgt := 193) hx hb dX1_step_187 (by decide) ?_
      have e9 : G_X1_step c r x n = ((G_X1_numberOf r n).toInt32, (G_X1_pop r).2, x) := Eq.trans (Eq.trans (Eq.trans (Eq.trans (Eq.trans (Eq.trans (Eq.trans rfl (if_neg b1)) (if_neg b2)) (if_neg b3)) (if_neg b4)) (if_neg b5)) (if_pos b6)) (if_pos b7)
      exact xM_iret hx hb hr hlk  hS (by rw [e9]) (by rw [e9]; exact hP) dX1_step_193
  by_cases b8 : (G_X1_opOf r n) = (13 : Int32)
  ·
    refine xTabK (tgt := 194) (z := 13) hx hb dX1_step_19 (by rw [b8]; decide) (by decide +kernel) ?_
    refine lv_aload_n hx hb dX1_step_194 rfl (lv_at hl 3 rfl) ?_
    refine lv_aload_n hx hb dX1_step_195 rfl (lv_at hl 4 rfl) ?_
    refine lv_iload_n hx hb dX1_step_196 rfl (lv_at hl 5 rfl) ?_
    refine lv_iconst (v := 1) hx hb dX1_step_197 (by decide) ?_
    refine lv_iadd hx hb dX1_step_198 ?_
    refine lv_iload hx hb dX1_step_199 (lv_at hl 0 rfl) ?_
    refine xM_i (va_runV (As := [.ref (w.2.2 (18 + 2 * k)), .int (n + (1 : Int32)), .int ((G_X1_numberOf r n).toInt32)]) (rest := []) ⟨hx, hb, hml, hown, hts⟩ (c_X1_nextTime l w hA c t r s k hk x (n + (1 : Int32)) ((G_X1_numberOf r n).toInt32) ) (cwV 3 hts gX1_step_X1_nextTime rfl rfl rfl dv_X1_nextTime ⟨Nat.le_of_ble_eq_true rfl, Nat.le_of_ble_eq_true rfl⟩) (wPreV hP hK (ci := 2) (q0 := 13) rfl rfl) rfl rfl hl.1 rfl (lv_room (Nat.le_of_ble_eq_true rfl)) dX1_step_201 ⟨Nat.zero_le _, Nat.zero_le _⟩) hS (fun H locs hP hS => ?_)
    have hP : va_P w.1 vwCl (wC w c t ((G_X1_nextTime r x (n + (1 : Int32)) ((G_X1_numberOf r n).toInt32)).2.1) (va_up s k ((G_X1_nextTime r x (n + (1 : Int32)) ((G_X1_numberOf r n).toInt32)).2.2))) H := hP
    have e9 : G_X1_step c r x n = ((G_X1_nextTime r x (n + (1 : Int32)) ((G_X1_numberOf r n).toInt32)).1, (G_X1_nextTime r x (n + (1 : Int32)) ((G_X1_numberOf r n).toInt32)).2.1, (G_X1_nextTime r x (n + (1 : Int32)) ((G_X1_numberOf r n).toInt32)).2.2) := Eq.trans (Eq.trans (Eq.trans (Eq.trans (Eq.trans (Eq.trans (Eq.trans rfl (if_neg b1)) (if_neg b2)) (if_neg b3)) (if_neg b4)) (if_neg b5)) (if_neg b6)) (if_pos b8)
    exact xM_iret hx hb hr hlk  hS (by rw [e9]) (by rw [e9]; exact hP) dX1_step_204
  by_cases b9 : (G_X1_opOf r n) = (14 : Int32)
  ·
    refine xTabK (tgt := 205) (z := 14) hx hb dX1_step_19 (by rw [b9]; decide) (by decide +kernel) ?_
    refine lv_aload_n hx hb dX1_step_205 rfl (lv_at hl 3 rfl) ?_
    refine lv_aload_n hx hb dX1_step_206 rfl (lv_at hl 4 rfl) ?_
    refine lv_iload hx hb dX1_step_207 (lv_at hl 0 rfl) ?_
    refine lv_iload_n hx hb dX1_step_209 rfl (lv_at hl 5 rfl) ?_
    refine lv_iconst (v := 1) hx hb dX1_step_210 (by decide) ?_
    refine lv_iadd hx hb dX1_step_211 ?_
    refine xM_i (va_runV (As := [.ref (w.2.2 (18 + 2 * k)), .int ((G_X1_numberOf r n).toInt32), .int (n + (1 : Int32))]) (rest := []) ⟨hx, hb, hml, hown, hts⟩ (c_X1_nextTime l w hA c t r s k hk x ((G_X1_numberOf r n).toInt32) (n + (1 : Int32)) ) (cwV 3 hts gX1_step_X1_nextTime rfl rfl rfl dv_X1_nextTime ⟨Nat.le_of_ble_eq_true rfl, Nat.le_of_ble_eq_true rfl⟩) (wPreV hP hK (ci := 2) (q0 := 13) rfl rfl) rfl rfl hl.1 rfl (lv_room (Nat.le_of_ble_eq_true rfl)) dX1_step_212 ⟨Nat.zero_le _, Nat.zero_le _⟩) hS (fun H locs hP hS => ?_)
    have hP : va_P w.1 vwCl (wC w c t ((G_X1_nextTime r x ((G_X1_numberOf r n).toInt32) (n + (1 : Int32))).2.1) (va_up s k ((G_X1_nextTime r x ((G_X1_numberOf r n).toInt32) (n + (1 : Int32))).2.2))) H := hP
    have e9 : G_X1_step c r x n = ((G_X1_nextTime r x ((G_X1_numberOf r n).toInt32) (n + (1 : Int32))).1, (G_X1_nextTime r x ((G_X1_numberOf r n).toInt32) (n + (1 : Int32))).2.1, (G_X1_nextTime r x ((G_X1_numberOf r n).toInt32) (n + (1 : Int32))).2.2) := Eq.trans (Eq.trans (Eq.trans (Eq.trans (Eq.trans (Eq.trans (Eq.trans (Eq.trans rfl (if_neg b1)) (if_neg b2)) (if_neg b3)) (if_neg b4)) (if_neg b5)) (if_neg b6)) (if_neg b8)) (if_pos b9)
    exact xM_iret hx hb hr hlk  hS (by rw [e9]) (by rw [e9]; exact hP) dX1_step_215
  by_cases b10 : (G_X1_opOf r n) = (15 : Int32)
  ·
    refine xTabK (tgt := 216) (z := 15) hx hb dX1_step_19 (by rw [b10]; decide) (by decide +kernel) ?_
    refine lv_aload_n hx hb dX1_step_216 rfl (lv_at hl 3 rfl) ?_
    refine xM_l (va_runV (As := []) (rest := []) ⟨hx, hb, hml, hown, hts⟩ (k_X1_pop l w hA c t r (va_up s k x)  ) (cwV 0 hts gX1_step_X1_pop rfl rfl rfl dv_X1_pop ⟨Nat.le_of_ble_eq_true rfl, Nat.le_of_ble_eq_true rfl⟩) (wPreV hP hK (ci := 2) (q0 := 13) rfl rfl) rfl rfl hl.1 rfl (lv_room (Nat.le_of_ble_eq_true rfl)) dX1_step_217 ⟨Nat.zero_le _, Nat.zero_le _⟩) hS (fun H locs hP hS => ?_)
    have hP : va_P w.1 vwCl (wC w c t ((G_X1_pop r).2) (va_up s k x)) H := hP
    refine lv_pop2_2 hx hb dX1_step_220 rfl ?_
    refine lv_iload_n hx hb dX1_step_221 rfl (lv_at hl 5 rfl) ?_
    refine lv_iconst (v := 1) hx hb dX1_step_222 (by decide) ?_
    refine lv_iadd hx hb dX1_step_223 ?_
    have e9 : G_X1_step c r x n = (n + (1 : Int32), (G_X1_pop r).2, x) := Eq.trans (Eq.trans (Eq.trans (Eq.trans (Eq.trans (Eq.trans (Eq.trans (Eq.trans (Eq.trans rfl (if_neg b1)) (if_neg b2)) (if_neg b3)) (if_neg b4)) (if_neg b5)) (if_neg b6)) (if_neg b8)) (if_neg b9)) (if_pos b10)
    exact xM_iret hx hb hr hlk  hS (by rw [e9]) (by rw [e9]; exact hP) dX1_step_224
  refine xTabD (tgt := 225) (exc := [0, 1, 2, 9, 10, 12, 13, 14, 15]) hx hb dX1_step_19 (xCons (lv_neT b1 (by decide)) (xCons (lv_neT b2 (by decide)) (xCons (lv_neT b3 (by decide)) (xCons (lv_neT b4 (by decide)) (xCons (lv_neT b5 (by decide)) (xCons (lv_neT b6 (by decide)) (xCons (lv_neT b8 (by decide)) (xCons (lv_neT b9 (by decide)) (xCons (lv_neT b10 (by decide)) xNil))))))))) (by decide) (by decide +kernel) ?_
  refine lv_aload_n hx hb dX1_step_225 rfl (lv_at hl 3 rfl) ?_
  refine xM_l (va_runV (As := []) (rest := []) ⟨hx, hb, hml, hown, hts⟩ (k_X1_pop l w hA c t r (va_up s k x)  ) (cwV 0 hts gX1_step_X1_pop rfl rfl rfl dv_X1_pop ⟨Nat.le_of_ble_eq_true rfl, Nat.le_of_ble_eq_true rfl⟩) (wPreV hP hK (ci := 2) (q0 := 13) rfl rfl) rfl rfl hl.1 rfl (lv_room (Nat.le_of_ble_eq_true rfl)) dX1_step_226 ⟨Nat.zero_le _, Nat.zero_le _⟩) hS (fun H locs hP hS => ?_)
  have hP : va_P w.1 vwCl (wC w c t ((G_X1_pop r).2) (va_up s k x)) H := hP
  refine lv_lstore (lv' := [(9, .long ((G_X1_pop r).1)), (6, .int ((G_X1_numberOf r n).toInt32)), (4, .long (G_X1_numberOf r n)), (3, .int (G_X1_opOf r n)), (0, .ref (w.2.2 13)), (1, .ref (w.2.2 (18 + 2 * k))), (2, .int n)]) hx hb dX1_step_229 hl (by decide) rfl (fun ls hl => ?_)
  refine lv_aload_n hx hb dX1_step_231 rfl (lv_at hl 4 rfl) ?_
  refine lv_aload_n hx hb dX1_step_232 rfl (lv_at hl 5 rfl) ?_
  refine lv_iload_n hx hb dX1_step_233 rfl (lv_at hl 3 rfl) ?_
  refine lv_aload_n hx hb dX1_step_234 rfl (lv_at hl 4 rfl) ?_
  refine xM_l (va_runV (As := []) (rest := [.int (G_X1_opOf r n), .ref (w.2.2 (18 + 2 * k)), .ref (w.2.2 13)]) ⟨hx, hb, hml, hown, hts⟩ (k_X1_pop l w hA c t ((G_X1_pop r).2) (va_up s k x)  ) (cwV 0 hts gX1_step_X1_pop rfl rfl rfl dv_X1_pop ⟨Nat.le_of_ble_eq_true rfl, Nat.le_of_ble_eq_true rfl⟩) (wPreV hP hK (ci := 2) (q0 := 13) rfl rfl) rfl rfl hl.1 rfl (lv_room (Nat.le_of_ble_eq_true rfl)) dX1_step_235 ⟨Nat.zero_le _, Nat.zero_le _⟩) hS (fun H locs hP hS => ?_)
  have hP : va_P w.1 vwCl (wC w c t ((G_X1_pop ((G_X1_pop r).2)).2) (va_up s k x)) H := hP
  refine lv_lload hx hb dX1_step_238 (lv_at hl 0 rfl) ?_
  refine xM_l (va_runV (As := [.int (G_X1_opOf r n), .long ((G_X1_pop ((G_X1_pop r).2)).1), .long ((G_X1_pop r).1)]) (rest := [.ref (w.2.2 13)]) ⟨hx, hb, hml, hown, hts⟩ (c_X2_result l w hA c t ((G_X1_pop ((G_X1_pop r).2)).2) s k hk x (G_X1_opOf r n) ((G_X1_pop ((G_X1_pop r).2)).1) ((G_X1_pop r).1) ) (cwV 3 hts gX1_step_X2_result rfl rfl rfl dv_X2_result ⟨Nat.le_of_ble_eq_true rfl, Nat.le_of_ble_eq_true rfl⟩) (wPreV hP hK (ci := 3) (q0 := (18 + 2 * k)) rfl (wC_ox hk)) rfl rfl hl.1 rfl (lv_room (Nat.le_of_ble_eq_true rfl)) dX1_step_240 ⟨Nat.zero_le _, Nat.zero_le _⟩) hS (fun H locs hP hS => ?_)
  have hP : va_P w.1 vwCl (wC w c t ((G_X1_pop ((G_X1_pop r).2)).2) (va_up s k ((G_X2_result x (G_X1_opOf r n) ((G_X1_pop ((G_X1_pop r).2)).1) ((G_X1_pop r).1)).2))) H := hP
  refine xM_v (va_runV (As := [.long ((G_X2_result x (G_X1_opOf r n) ((G_X1_pop ((G_X1_pop r).2)).1) ((G_X1_pop r).1)).1)]) (rest := []) ⟨hx, hb, hml, hown, hts⟩ (k_X1_push l w hA c t ((G_X1_pop ((G_X1_pop r).2)).2) (va_up s k ((G_X2_result x (G_X1_opOf r n) ((G_X1_pop ((G_X1_pop r).2)).1) ((G_X1_pop r).1)).2)) ((G_X2_result x (G_X1_opOf r n) ((G_X1_pop ((G_X1_pop r).2)).1) ((G_X1_pop r).1)).1) ) (cwV 1 hts gX1_step_X1_push rfl rfl rfl dv_X1_push ⟨Nat.le_of_ble_eq_true rfl, Nat.le_of_ble_eq_true rfl⟩) (wPreV hP hK (ci := 2) (q0 := 13) rfl rfl) rfl rfl hl.1 rfl (lv_room (Nat.le_of_ble_eq_true rfl)) dX1_step_243 ⟨Nat.zero_le _, Nat.zero_le _⟩) hS (fun H locs hP hS => ?_)
  have hP : va_P w.1 vwCl (wC w c t (G_X1_push ((G_X1_pop ((G_X1_pop r).2)).2) ((G_X2_result x (G_X1_opOf r n) ((G_X1_pop ((G_X1_pop r).2)).1) ((G_X1_pop r).1)).1)) (va_up s k ((G_X2_result x (G_X1_opOf r n) ((G_X1_pop ((G_X1_pop r).2)).1) ((G_X1_pop r).1)).2))) H := hP
  refine lv_iload_n hx hb dX1_step_246 rfl (lv_at hl 6 rfl) ?_
  refine lv_iconst (v := 1) hx hb dX1_step_247 (by decide) ?_
  refine lv_iadd hx hb dX1_step_248 ?_
  have e9 : G_X1_step c r x n = (n + (1 : Int32), G_X1_push ((G_X1_pop ((G_X1_pop r).2)).2) ((G_X2_result x (G_X1_opOf r n) ((G_X1_pop ((G_X1_pop r).2)).1) ((G_X1_pop r).1)).1), (G_X2_result x (G_X1_opOf r n) ((G_X1_pop ((G_X1_pop r).2)).1) ((G_X1_pop r).1)).2) := Eq.trans (Eq.trans (Eq.trans (Eq.trans (Eq.trans (Eq.trans (Eq.trans (Eq.trans (Eq.trans rfl (if_neg b1)) (if_neg b2)) (if_neg b3)) (if_neg b4)) (if_neg b5)) (if_neg b6)) (if_neg b8)) (if_neg b9)) (if_neg b10)
  exact xM_iret hx hb hr hlk  hS (by rw [e9]) (by rw [e9]; exact hP) dX1_step_249
set_option maxRecDepth 20000 in
theorem mw_X1_stepAll_k89 : Cond.constant RX1 89 (1000000) ∈ wsX1_stepAll := by decide +kernel
set_option maxRecDepth 20000 in
theorem nw_X1_stepAll_90 : Cond.fieldLinkNest RX1 90 "ProcedureCode$Storage" "raise" "I" "ProcedureCode" ∈ nws := by decide +kernel
set_option maxRecDepth 20000 in
theorem iw_X1_stepAll_X2 : ∀ w ∈ wsX20, w ∈ wsX1_stepAll := by decide +kernel
set_option maxRecDepth 20000 in
theorem dv_X1_step : yX1_step.cls = RX1 ∧ yX1_step.cls ≠ "java/lang/invoke/MethodHandle" ∧ yX1_step.cls ≠ "java/lang/invoke/VarHandle" ∧ (parseMethodDescriptor yX1_step.desc).map (fun d => d.parameters.length) = some 2 := by decide +kernel
set_option maxRecDepth 20000 in
theorem iw_X1_stepAll_X1 : ∀ w ∈ wsX10, w ∈ wsX1_stepAll := by decide +kernel
set_option maxRecDepth 20000 in
theorem fl_X1_stepAll_86 : Cond.fieldLink RX1 86 "ProcedureCode$Rows" "top" "I" ∈ wsX1_stepAll := by decide +kernel
def G_X1_stepAll_L13 (c : CS) (r : RS) (x : SS)  : Nat → Int32 → Int32 → RS → SS → RS × SS
  | 0, _, _, _, _ => (r, x)
  | fu + 1, rw, st, rv, xv => if (1000000 : Int32) ≤ st then ((rv, xv)) else (if (G_X1_has rv rw) = 0 then ((rv, xv)) else (if xv.2.1 = 0 then (G_X1_stepAll_L13 c r x fu ((G_X1_step c rv xv rw).1) (st + (1 : Int32)) ((G_X1_step c rv xv rw).2.1) ((G_X1_step c rv xv rw).2.2)) else ((rv, xv))))
def OK_X1_stepAll_L13 (c : CS) (r : RS) (x : SS)  : Nat → Int32 → Int32 → RS → SS → Prop
  | 0, _, _, _, _ => False
  | fu + 1, rw, st, rv, xv => if (1000000 : Int32) ≤ st then (True) else (if (G_X1_has rv rw) = 0 then (True) else (if xv.2.1 = 0 then ((okR rv) ∧ (OK_X1_stepAll_L13 c r x fu ((G_X1_step c rv xv rw).1) (st + (1 : Int32)) ((G_X1_step c rv xv rw).2.1) ((G_X1_step c rv xv rw).2.2))) else (True)))
def G_X1_stepAll (c : CS) (r : RS) (x : SS)  : RS × SS := G_X1_stepAll_L13 c r x 1000001 (0 : Int32) (0 : Int32) (r.1, r.2.1, r.2.2.1, r.2.2.2.1, r.2.2.2.2.1, (0 : Int32)) (G_X2_begin x)
def OK_X1_stepAll (c : CS) (r : RS) (x : SS)  : Prop := OK_X1_stepAll_L13 c r x 1000001 (0 : Int32) (0 : Int32) (r.1, r.2.1, r.2.2.1, r.2.2.2.1, r.2.2.2.2.1, (0 : Int32)) (G_X2_begin x)
set_option maxHeartbeats 4000000 in
set_option maxRecDepth 100000 in
theorem L_X1_stepAll_L13 (l : Launch) (w : WG) (hA : wAp w 26) (c : CS) (t : TS) (r : RS) (s : Nat → SS) (k : Nat) (hk : k < 4) (x : SS) (hc : okC c) (hq : okR r) {pP : Program} {eE : Env} {S : State} {mM : MethodId} {below : List Frame} {meth : Method} {C : Code} (hx : pP.tables.exec = Jvm.exec) (hb : C.code = cX1_stepAll) (hr : meth.sig.returnType = none) (hml : C.maxLocals = 4) (hts : ∀ q9 ∈ wsX1_stepAll, q9.before ([.ref (w.2.2 13), .ref (w.2.2 (18 + 2 * k))] : List Value).toArray S = true) (hown : S.vm.findClass yX1_stepAll.cls = some mM.cls) (hlk : meth.locks = false) (hK : wK w S) (g : RS × SS) :
    ∀ (fu : Nat) (rw : Int32) (st : Int32) (rv : RS) (xv : SS) (H : Heap) (locs : List Loc), va_P w.1 vwCl (wC w c t rv (va_up s k xv)) H → va_S (wA w 26) S.heap H locs → OK_X1_stepAll_L13 c r x fu rw st rv xv → g = G_X1_stepAll_L13 c r x fu rw st rv xv → ∀ ls : Array Slot, lv_has ls 4 [(0, .ref (w.2.2 13)), (1, .ref (w.2.2 (18 + 2 * k))), (2, .int rw), (3, .int st)] → W pP l eE { frames := 5, cells := 0, slots := 0, locals := 135 } S mM ([.ref (w.2.2 13), .ref (w.2.2 (18 + 2 * k))] : List Value).toArray below meth C H locs 0 0 (MQ below (xM none (fun H => va_P w.1 vwCl (wC w c t g.1 (va_up s k g.2)) H) (wA w 26)) ([.ref (w.2.2 13), .ref (w.2.2 (18 + 2 * k))] : List Value).toArray S 0 0 (wA w 26)) (F0 mM 13 ls []) := by
  intro fu
  induction fu with
  | zero =>
    intro rw st rv xv H locs hP hS hok hg ls hl
    exact hok.elim
  | succ fu ih =>
    intro rw st rv xv H locs hP hS hok hg ls hl
    refine lv_iload_n hx hb dX1_stepAll_13 rfl (lv_at hl 3 rfl) ?_
    refine lv_ldc (v := 1000000) hx hb hown (hts _ mw_X1_stepAll_k89) dX1_stepAll_14 ?_
    refine lv_icmp_ge (tgt := 47) hx hb dX1_stepAll_16 (by decide) (fun b1 => ?_) (fun b1 => ?_)
    ·
      have k2 := Eq.mp (if_pos b1) hok
      have e9 : g = (rv, xv) := Eq.trans hg (if_pos b1)
      exact xM_vret hx hb hr hlk  hS  (by rw [e9]; exact hP) dX1_stepAll_47
    ·
      have k3 := Eq.mp (if_neg b1) hok
      refine lv_aload_n hx hb dX1_stepAll_19 rfl (lv_at hl 0 rfl) ?_
      refine lv_iload_n hx hb dX1_stepAll_20 rfl (lv_at hl 2 rfl) ?_
      refine xR_i (va_runV (As := [.int rw]) (rest := []) ⟨hx, hb, hml, hown, hts⟩ (c_X1_has l w c t rv (va_up s k xv) rw ) (cwV 1 hts gX1_stepAll_X1_has rfl rfl rfl dv_X1_has ⟨Nat.le_of_ble_eq_true rfl, Nat.le_of_ble_eq_true rfl⟩) (wPreV hP hK (ci := 2) (q0 := 13) rfl rfl) rfl rfl hl.1 rfl (lv_room (Nat.le_of_ble_eq_true rfl)) dX1_stepAll_21 ⟨Nat.zero_le _, Nat.zero_le _⟩) ?_
      refine lv_if_eq (tgt := 47) hx hb dX1_stepAll_24 (by decide) (fun b4 => ?_) (fun b4 => ?_)
      ·
        have k5 := Eq.mp (if_pos b4) k3
        have e9 : g = (rv, xv) := Eq.trans (Eq.trans hg (if_neg b1)) (if_pos b4)
        exact xM_vret hx hb hr hlk  hS  (by rw [e9]; exact hP) dX1_stepAll_47
      ·
        have k6 := Eq.mp (if_neg b4) k3
        refine lv_aload_n hx hb dX1_stepAll_27 rfl (lv_at hl 1 rfl) ?_
        refine va_getN (D := w.1) (ci := 3) (v := .int xv.2.1) (C := RX2) (T := TX2) (N := 4) hx hb hts iw_X1_stepAll_X2 hown hK.1 hP (18 + 2 * k) (wC_ox hk) rfl 2 (by decide) (va_Nw.use rfl (hK.2 _ nw_X1_stepAll_90)) (fun _ h9 => h9) rfl dX1_stepAll_28 ?_
        refine lv_if_ne (tgt := 47) hx hb dX1_stepAll_31 (by decide) (fun b7 => ?_) (fun b7 => ?_)
        ·
          have k8 := Eq.mp (if_neg b7) k6
          have e9 : g = (rv, xv) := Eq.trans (Eq.trans (Eq.trans hg (if_neg b1)) (if_neg b4)) (if_neg b7)
          exact xM_vret hx hb hr hlk  hS  (by rw [e9]; exact hP) dX1_stepAll_47
        ·
          have k9 := Eq.mp (if_pos b7) k6
          refine lv_aload_n hx hb dX1_stepAll_34 rfl (lv_at hl 0 rfl) ?_
          refine lv_aload_n hx hb dX1_stepAll_35 rfl (lv_at hl 1 rfl) ?_
          refine lv_iload_n hx hb dX1_stepAll_36 rfl (lv_at hl 2 rfl) ?_
          have o10 := k9.1
          have k11 := k9.2
          refine xM_i (va_runV (As := [.ref (w.2.2 (18 + 2 * k)), .int rw]) (rest := []) ⟨hx, hb, hml, hown, hts⟩ (c_X1_step l w hA c t rv s k hk xv rw hc o10) (cwV 2 hts gX1_stepAll_X1_step rfl rfl rfl dv_X1_step ⟨Nat.le_of_ble_eq_true rfl, Nat.le_of_ble_eq_true rfl⟩) (wPreV hP hK (ci := 2) (q0 := 13) rfl rfl) rfl rfl hl.1 rfl (lv_room (Nat.le_of_ble_eq_true rfl)) dX1_stepAll_37 ⟨Nat.zero_le _, Nat.zero_le _⟩) hS (fun H locs hP hS => ?_)
          have hP : va_P w.1 vwCl (wC w c t ((G_X1_step c rv xv rw).2.1) (va_up s k ((G_X1_step c rv xv rw).2.2))) H := hP
          refine lv_istore_n (lv' := [(2, .int ((G_X1_step c rv xv rw).1)), (0, .ref (w.2.2 13)), (1, .ref (w.2.2 (18 + 2 * k))), (3, .int st)]) hx hb dX1_stepAll_40 rfl hl (by decide) rfl (fun ls hl => ?_)
          refine lv_iinc (v := st + (1 : Int32)) (lv' := [(3, .int (st + (1 : Int32))), (2, .int ((G_X1_step c rv xv rw).1)), (0, .ref (w.2.2 13)), (1, .ref (w.2.2 (18 + 2 * k)))]) hx hb dX1_stepAll_41 hl (k := 3) rfl rfl (by decide) rfl (fun ls hl => ?_)
          refine lv_goto (tgt := 13) hx hb dX1_stepAll_44 (by decide) ?_
          exact ih ((G_X1_step c rv xv rw).1) (st + (1 : Int32)) ((G_X1_step c rv xv rw).2.1) ((G_X1_step c rv xv rw).2.2) _ _ hP hS k11 (Eq.trans (Eq.trans (Eq.trans hg (if_neg b1)) (if_neg b4)) (if_pos b7)) ls (lv_sub hl [2, 3, 1, 0] rfl)
set_option maxHeartbeats 4000000 in
set_option maxRecDepth 100000 in
theorem c_X1_stepAll (l : Launch) (w : WG) (hA : wAp w 26) (c : CS) (t : TS) (r : RS) (s : Nat → SS) (k : Nat) (hk : k < 4) (x : SS) (hc : okC c) (hq : okR r) (hok : OK_X1_stepAll c r x) : Met l yX1_stepAll wsX1_stepAll { frames := 5, cells := 0, slots := 0, locals := 135 } (va_Pc [.ref (w.2.2 13), .ref (w.2.2 (18 + 2 * k))] (wPK w (wC w c t r (va_up s k x)))) (xM none (fun H => va_P w.1 vwCl (wC w c t ((G_X1_stepAll c r x).1) (va_up s k ((G_X1_stepAll c r x).2))) H) (wA w 26)) 0 0 (wA w 26) := by
  refine xOf (cc := cX1_stepAll) (maxL := 4) (ret := none) (lv := [(0, .ref (w.2.2 13)), (1, .ref (w.2.2 (18 + 2 * k)))]) (by decide) rfl (Nat.le_of_ble_eq_true rfl) rfl ?_
  intro pP eE S mM below meth C hx hb hr hml hts hown hlk hnm hw ls hl
  obtain ⟨hP, hK⟩ := hw
  have hS : va_S (wA w 26) S.heap S.heap [] := va_S.rf
  have hP : va_P w.1 vwCl (wC w c t r (va_up s k x)) S.heap := hP
  refine lv_aload_n hx hb dX1_stepAll_0 rfl (lv_at hl 1 rfl) ?_
  refine xM_v (va_runV (As := []) (rest := []) ⟨hx, hb, hml, hown, hts⟩ (c_X2_begin l w hA c t r s k hk x  ) (cwV 0 hts gX1_stepAll_X2_begin rfl rfl rfl dv_X2_begin ⟨Nat.le_of_ble_eq_true rfl, Nat.le_of_ble_eq_true rfl⟩) (wPreV hP hK (ci := 3) (q0 := (18 + 2 * k)) rfl (wC_ox hk)) rfl rfl hl.1 rfl (lv_room (Nat.le_of_ble_eq_true rfl)) dX1_stepAll_1 ⟨Nat.zero_le _, Nat.zero_le _⟩) hS (fun H locs hP hS => ?_)
  have hP : va_P w.1 vwCl (wC w c t r (va_up s k (G_X2_begin x))) H := hP
  refine lv_aload_n hx hb dX1_stepAll_4 rfl (lv_at hl 0 rfl) ?_
  refine lv_iconst (v := 0) hx hb dX1_stepAll_5 (by decide) ?_
  refine va_put (D := w.1) (ci := 2) (v := .int (0 : Int32)) (ty := .int) (C := RX1) (T := TX1) (N := 7) hx hb hts iw_X1_stepAll_X1 tyX1 tyX1_ok nmX1 hown hK.1 hP (wC_D hA) hS 13 rfl rfl 6 (by decide) (hts _ fl_X1_stepAll_86) (fun _ h9 => h9) rfl (by decide +kernel) rfl rfl (Nat.le_of_ble_eq_true rfl) dX1_stepAll_6 (fun H locs hP _ hS => ?_)
  have hP : va_P w.1 vwCl (wC w c t (r.1, r.2.1, r.2.2.1, r.2.2.2.1, r.2.2.2.2.1, (0 : Int32)) (va_up s k (G_X2_begin x))) H := hP
  refine lv_iconst (v := 0) hx hb dX1_stepAll_9 (by decide) ?_
  refine lv_istore_n (lv' := [(2, .int (0 : Int32)), (0, .ref (w.2.2 13)), (1, .ref (w.2.2 (18 + 2 * k)))]) hx hb dX1_stepAll_10 rfl hl (by decide) rfl (fun ls hl => ?_)
  refine lv_iconst (v := 0) hx hb dX1_stepAll_11 (by decide) ?_
  refine lv_istore_n (lv' := [(3, .int (0 : Int32)), (2, .int (0 : Int32)), (0, .ref (w.2.2 13)), (1, .ref (w.2.2 (18 + 2 * k)))]) hx hb dX1_stepAll_12 rfl hl (by decide) rfl (fun ls hl => ?_)
  exact L_X1_stepAll_L13 l w hA c t r s k hk x  hc hq hx hb hr hml hts hown hlk hK _ 1000001 (0 : Int32) (0 : Int32) (r.1, r.2.1, r.2.2.1, r.2.2.2.1, r.2.2.2.2.1, (0 : Int32)) (G_X2_begin x) _ _ hP hS hok rfl ls (lv_sub hl [2, 3, 1, 0] rfl)
