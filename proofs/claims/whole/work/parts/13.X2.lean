def G_X4_reckon  (a : Int32) (y : Int64) (z : Int64) : Int64 := if a = (3 : Int32) then (y + z) else (if a = (4 : Int32) then (y - z) else (if a = (5 : Int32) then (y * z) else (if a = (6 : Int32) then (if (lg_cmp z (0 : Int64)) = 0 then ((0 : Int64)) else (y / z)) else (if a = (7 : Int32) then (if 0 ≤ (lg_cmp y z) then ((0 : Int64)) else ((1 : Int64))) else (if (lg_cmp y z) = 0 then ((1 : Int64)) else ((0 : Int64)))))))
def OK_X4_reckon  (a : Int32) (y : Int64) (z : Int64) : Prop := if a = (3 : Int32) then (True) else (if a = (4 : Int32) then (True) else (if a = (5 : Int32) then (True) else (if a = (6 : Int32) then (if (lg_cmp z (0 : Int64)) = 0 then (True) else ((¬ z = 0) ∧ (True))) else (if a = (7 : Int32) then (if 0 ≤ (lg_cmp y z) then (True) else (True)) else (if (lg_cmp y z) = 0 then (True) else (True))))))
set_option maxHeartbeats 4000000 in
set_option maxRecDepth 100000 in
theorem c_X4_reckon (l : Launch) (w : WG) (c : CS) (t : TS) (r : RS) (s : Nat → SS) (a : Int32) (y : Int64) (z : Int64) (hok : OK_X4_reckon a y z) : Met l yX4_reckon wsX4_reckon { frames := 0, cells := 0, slots := 0, locals := 0 } (va_Pc [.int a, .long y, .long z] (wPK w (wC w c t r s))) (xR (some (.long (G_X4_reckon a y z)))) 0 0 xNo := by
  refine xOf (cc := cX4_reckon) (maxL := 5) (ret := (some .long)) (lv := [(0, .int a), (1, .long y), (3, .long z)]) (by decide) rfl (Nat.le_of_ble_eq_true rfl) rfl ?_
  intro pP eE S mM below meth C hx hb hr hml hts hown hlk hnm hw ls hl
  obtain ⟨hP, hK⟩ := hw
  refine lv_iload_n hx hb dX4_reckon_0 rfl (lv_at hl 0 rfl) ?_
  by_cases b1 : a = (3 : Int32)
  ·
    have k2 := Eq.mp (if_pos b1) hok
    refine xTabK (tgt := 36) (z := 3) hx hb dX4_reckon_1 (by rw [b1]; decide) (by decide +kernel) ?_
    refine lv_lload_n hx hb dX4_reckon_36 rfl (lv_at hl 1 rfl) ?_
    refine lv_lload_n hx hb dX4_reckon_37 rfl (lv_at hl 2 rfl) ?_
    refine lv_ladd hx hb dX4_reckon_38 ?_
    exact xR_lret hx hb hr hlk  (Eq.trans rfl (if_pos b1)) dX4_reckon_39
  have k3 := Eq.mp (if_neg b1) hok
  by_cases b4 : a = (4 : Int32)
  ·
    have k5 := Eq.mp (if_pos b4) k3
    refine xTabK (tgt := 40) (z := 4) hx hb dX4_reckon_1 (by rw [b4]; decide) (by decide +kernel) ?_
    refine lv_lload_n hx hb dX4_reckon_40 rfl (lv_at hl 1 rfl) ?_
    refine lv_lload_n hx hb dX4_reckon_41 rfl (lv_at hl 2 rfl) ?_
    refine lv_lsub hx hb dX4_reckon_42 ?_
    exact xR_lret hx hb hr hlk  (Eq.trans (Eq.trans rfl (if_neg b1)) (if_pos b4)) dX4_reckon_43
  have k6 := Eq.mp (if_neg b4) k3
  by_cases b7 : a = (5 : Int32)
  ·
    have k8 := Eq.mp (if_pos b7) k6
    refine xTabK (tgt := 44) (z := 5) hx hb dX4_reckon_1 (by rw [b7]; decide) (by decide +kernel) ?_
    refine lv_lload_n hx hb dX4_reckon_44 rfl (lv_at hl 1 rfl) ?_
    refine lv_lload_n hx hb dX4_reckon_45 rfl (lv_at hl 2 rfl) ?_
    refine lv_lmul hx hb dX4_reckon_46 ?_
    exact xR_lret hx hb hr hlk  (Eq.trans (Eq.trans (Eq.trans rfl (if_neg b1)) (if_neg b4)) (if_pos b7)) dX4_reckon_47
  have k9 := Eq.mp (if_neg b7) k6
  by_cases b10 : a = (6 : Int32)
  ·
    have k11 := Eq.mp (if_pos b10) k9
    refine xTabK (tgt := 48) (z := 6) hx hb dX4_reckon_1 (by rw [b10]; decide) (by decide +kernel) ?_
    refine lv_lload_n hx hb dX4_reckon_48 rfl (lv_at hl 2 rfl) ?_
    refine lv_lconst (v := 0) hx hb dX4_reckon_49 (by decide) ?_
    refine W.lcmp hx hb dX4_reckon_50 ?_
    refine lv_if_ne (tgt := 58) hx hb dX4_reckon_51 (by decide) (fun b12 => ?_) (fun b12 => ?_)
    ·
      have k13 := Eq.mp (if_neg b12) k11
      refine lv_lload_n hx hb dX4_reckon_58 rfl (lv_at hl 1 rfl) ?_
      refine lv_lload_n hx hb dX4_reckon_59 rfl (lv_at hl 2 rfl) ?_
      have o14 := k13.1
      have k15 := k13.2
      refine lv_ldiv hx hb dX4_reckon_60 o14 ?_
      exact xR_lret hx hb hr hlk  (Eq.trans (Eq.trans (Eq.trans (Eq.trans (Eq.trans rfl (if_neg b1)) (if_neg b4)) (if_neg b7)) (if_pos b10)) (if_neg b12)) dX4_reckon_61
    ·
      have k16 := Eq.mp (if_pos b12) k11
      refine lv_lconst (v := 0) hx hb dX4_reckon_54 (by decide) ?_
      refine lv_goto (tgt := 61) hx hb dX4_reckon_55 (by decide) ?_
      exact xR_lret hx hb hr hlk  (Eq.trans (Eq.trans (Eq.trans (Eq.trans (Eq.trans rfl (if_neg b1)) (if_neg b4)) (if_neg b7)) (if_pos b10)) (if_pos b12)) dX4_reckon_61
  have k17 := Eq.mp (if_neg b10) k9
  by_cases b18 : a = (7 : Int32)
  ·
    have k19 := Eq.mp (if_pos b18) k17
    refine xTabK (tgt := 62) (z := 7) hx hb dX4_reckon_1 (by rw [b18]; decide) (by decide +kernel) ?_
    refine lv_lload_n hx hb dX4_reckon_62 rfl (lv_at hl 1 rfl) ?_
    refine lv_lload_n hx hb dX4_reckon_63 rfl (lv_at hl 2 rfl) ?_
    refine W.lcmp hx hb dX4_reckon_64 ?_
    refine lv_if_ge (tgt := 72) hx hb dX4_reckon_65 (by decide) (fun b20 => ?_) (fun b20 => ?_)
    ·
      have k21 := Eq.mp (if_pos b20) k19
      refine lv_lconst (v := 0) hx hb dX4_reckon_72 (by decide) ?_
      exact xR_lret hx hb hr hlk  (Eq.trans (Eq.trans (Eq.trans (Eq.trans (Eq.trans (Eq.trans rfl (if_neg b1)) (if_neg b4)) (if_neg b7)) (if_neg b10)) (if_pos b18)) (if_pos b20)) dX4_reckon_73
    ·
      have k22 := Eq.mp (if_neg b20) k19
      refine lv_lconst (v := 1) hx hb dX4_reckon_68 (by decide) ?_
      refine lv_goto (tgt := 73) hx hb dX4_reckon_69 (by decide) ?_
      exact xR_lret hx hb hr hlk  (Eq.trans (Eq.trans (Eq.trans (Eq.trans (Eq.trans (Eq.trans rfl (if_neg b1)) (if_neg b4)) (if_neg b7)) (if_neg b10)) (if_pos b18)) (if_neg b20)) dX4_reckon_73
  have k23 := Eq.mp (if_neg b18) k17
  refine xTabD (tgt := 74) (exc := [3, 4, 5, 6, 7]) hx hb dX4_reckon_1 (xCons (lv_neT b1 (by decide)) (xCons (lv_neT b4 (by decide)) (xCons (lv_neT b7 (by decide)) (xCons (lv_neT b10 (by decide)) (xCons (lv_neT b18 (by decide)) xNil))))) (by decide) (by decide +kernel) ?_
  refine lv_lload_n hx hb dX4_reckon_74 rfl (lv_at hl 1 rfl) ?_
  refine lv_lload_n hx hb dX4_reckon_75 rfl (lv_at hl 2 rfl) ?_
  refine W.lcmp hx hb dX4_reckon_76 ?_
  refine lv_if_ne (tgt := 84) hx hb dX4_reckon_77 (by decide) (fun b24 => ?_) (fun b24 => ?_)
  ·
    have k25 := Eq.mp (if_neg b24) k23
    refine lv_lconst (v := 0) hx hb dX4_reckon_84 (by decide) ?_
    exact xR_lret hx hb hr hlk  (Eq.trans (Eq.trans (Eq.trans (Eq.trans (Eq.trans (Eq.trans rfl (if_neg b1)) (if_neg b4)) (if_neg b7)) (if_neg b10)) (if_neg b18)) (if_neg b24)) dX4_reckon_85
  ·
    have k26 := Eq.mp (if_pos b24) k23
    refine lv_lconst (v := 1) hx hb dX4_reckon_80 (by decide) ?_
    refine lv_goto (tgt := 85) hx hb dX4_reckon_81 (by decide) ?_
    exact xR_lret hx hb hr hlk  (Eq.trans (Eq.trans (Eq.trans (Eq.trans (Eq.trans (Eq.trans rfl (if_neg b1)) (if_neg b4)) (if_neg b7)) (if_neg b10)) (if_neg b18)) (if_pos b24)) dX4_reckon_85
def G_X4_isReckoned  (a : Int32) : Int32 := if a < (3 : Int32) then ((0 : Int32)) else (if (8 : Int32) < a then ((0 : Int32)) else ((1 : Int32)))
set_option maxHeartbeats 4000000 in
set_option maxRecDepth 100000 in
theorem c_X4_isReckoned (l : Launch) (w : WG) (c : CS) (t : TS) (r : RS) (s : Nat → SS) (a : Int32) : Met l yX4_isReckoned wsX4_isReckoned { frames := 0, cells := 0, slots := 0, locals := 0 } (va_Pc [.int a] (wPK w (wC w c t r s))) (xR (some (.int (G_X4_isReckoned a)))) 0 0 xNo := by
  refine xOf (cc := cX4_isReckoned) (maxL := 1) (ret := (some .boolean)) (lv := [(0, .int a)]) (by decide) rfl (Nat.le_of_ble_eq_true rfl) rfl ?_
  intro pP eE S mM below meth C hx hb hr hml hts hown hlk hnm hw ls hl
  obtain ⟨hP, hK⟩ := hw
  refine lv_iload_n hx hb dX4_isReckoned_0 rfl (lv_at hl 0 rfl) ?_
  refine lv_iconst (v := 3) hx hb dX4_isReckoned_1 (by decide) ?_
  refine lv_icmp_lt (tgt := 15) hx hb dX4_isReckoned_2 (by decide) (fun b1 => ?_) (fun b1 => ?_)
  ·
    refine lv_iconst (v := 0) hx hb dX4_isReckoned_15 (by decide) ?_
    exact xR_zret hx hb hr hlk rfl (Eq.trans rfl (if_pos b1)) dX4_isReckoned_16
  ·
    refine lv_iload_n hx hb dX4_isReckoned_5 rfl (lv_at hl 0 rfl) ?_
    refine lv_bipush (v := 8) hx hb dX4_isReckoned_6 (by decide) ?_
    refine lv_icmp_gt (tgt := 15) hx hb dX4_isReckoned_8 (by decide) (fun b2 => ?_) (fun b2 => ?_)
    ·
      refine lv_iconst (v := 0) hx hb dX4_isReckoned_15 (by decide) ?_
      exact xR_zret hx hb hr hlk rfl (Eq.trans (Eq.trans rfl (if_neg b1)) (if_pos b2)) dX4_isReckoned_16
    ·
      refine lv_iconst (v := 1) hx hb dX4_isReckoned_11 (by decide) ?_
      refine lv_goto (tgt := 16) hx hb dX4_isReckoned_12 (by decide) ?_
      exact xR_zret hx hb hr hlk rfl (Eq.trans (Eq.trans rfl (if_neg b1)) (if_neg b2)) dX4_isReckoned_16
theorem lg_cmp_0 (z : Int64) : lg_cmp z z = 0 := by
  unfold lg_cmp
  rw [if_neg (fun h : z > z => by rw [gt_iff_lt, Int64.lt_iff_toInt_lt] at h; omega), if_pos rfl]
theorem okX4_reckon (a : Int32) (y z : Int64) : OK_X4_reckon a y z := by
  unfold OK_X4_reckon
  repeat' split
  all_goals first | trivial | skip
  all_goals
    rename_i h
    refine ⟨fun q => h ?_, trivial⟩
    rw [q]
    exact lg_cmp_0 0
theorem k_X4_reckon (l : Launch) (w : WG) (c : CS) (t : TS) (r : RS) (s : Nat → SS) (a : Int32) (y : Int64) (z : Int64) : Met l yX4_reckon wsX4_reckon { frames := 0, cells := 0, slots := 0, locals := 0 } (va_Pc [.int a, .long y, .long z] (wPK w (wC w c t r s))) (xR (some (.long (G_X4_reckon a y z)))) 0 0 xNo := c_X4_reckon l w c t r s a y z  (okX4_reckon a y z)
def G_X2_holds  (p : Int32) : Int32 := if p < 0 then ((0 : Int32)) else (if (64 : Int32) ≤ p then ((0 : Int32)) else ((1 : Int32)))
set_option maxHeartbeats 4000000 in
set_option maxRecDepth 100000 in
theorem c_X2_holds (l : Launch) (w : WG) (c : CS) (t : TS) (r : RS) (s : Nat → SS) (p : Int32) : Met l yX2_holds wsX2_holds { frames := 0, cells := 0, slots := 0, locals := 0 } (va_Pc [.int p] (wPK w (wC w c t r s))) (xR (some (.int (G_X2_holds p)))) 0 0 xNo := by
  refine xOf (cc := cX2_holds) (maxL := 1) (ret := (some .boolean)) (lv := [(0, .int p)]) (by decide) rfl (Nat.le_of_ble_eq_true rfl) rfl ?_
  intro pP eE S mM below meth C hx hb hr hml hts hown hlk hnm hw ls hl
  obtain ⟨hP, hK⟩ := hw
  refine lv_iload_n hx hb dX2_holds_0 rfl (lv_at hl 0 rfl) ?_
  refine lv_if_lt (tgt := 14) hx hb dX2_holds_1 (by decide) (fun b1 => ?_) (fun b1 => ?_)
  ·
    refine lv_iconst (v := 0) hx hb dX2_holds_14 (by decide) ?_
    exact xR_zret hx hb hr hlk rfl (Eq.trans rfl (if_pos b1)) dX2_holds_15
  ·
    refine lv_iload_n hx hb dX2_holds_4 rfl (lv_at hl 0 rfl) ?_
    refine lv_bipush (v := 64) hx hb dX2_holds_5 (by decide) ?_
    refine lv_icmp_ge (tgt := 14) hx hb dX2_holds_7 (by decide) (fun b2 => ?_) (fun b2 => ?_)
    ·
      refine lv_iconst (v := 0) hx hb dX2_holds_14 (by decide) ?_
      exact xR_zret hx hb hr hlk rfl (Eq.trans (Eq.trans rfl (if_neg b1)) (if_pos b2)) dX2_holds_15
    ·
      refine lv_iconst (v := 1) hx hb dX2_holds_10 (by decide) ?_
      refine lv_goto (tgt := 15) hx hb dX2_holds_11 (by decide) ?_
      exact xR_zret hx hb hr hlk rfl (Eq.trans (Eq.trans rfl (if_neg b1)) (if_neg b2)) dX2_holds_15
theorem okX2_holds {p : Int32} (b : ¬ G_X2_holds p = 0) : vp_in p 64 := by
  have e : (64 : Int32).toInt = 64 := by decide
  unfold G_X2_holds at b
  split at b
  · exact absurd rfl b
  · rename_i h
    split at b
    · exact absurd rfl b
    · rename_i h2
      rw [i32_lt, i0] at h
      rw [i32_le, e] at h2
      exact vp_in_iff.mpr ⟨by omega, by omega⟩
set_option maxRecDepth 20000 in
theorem ds_X2_holds : yX2_holds.cls ≠ "java/lang/invoke/MethodHandle" ∧ yX2_holds.cls ≠ "java/lang/invoke/VarHandle" ∧ (parseMethodDescriptor yX2_holds.desc).map (fun d => d.parameters.length) = some 1 := by decide +kernel
set_option maxRecDepth 20000 in
theorem iw_X2_byteAt_X2 : ∀ w ∈ wsX20, w ∈ wsX2_byteAt := by decide +kernel
set_option maxRecDepth 20000 in
theorem fl_X2_byteAt_9 : Cond.fieldLink RX2 9 "ProcedureCode$Storage" "bytes" "[B" ∈ wsX2_byteAt := by decide +kernel
def G_X2_byteAt (x : SS) (p : Int32) : Int32 := if (G_X2_holds p) = 0 then ((0 : Int32)) else (x.1 p.toNatClampNeg)
set_option maxHeartbeats 4000000 in
set_option maxRecDepth 100000 in
theorem c_X2_byteAt (l : Launch) (w : WG) (c : CS) (t : TS) (r : RS) (s : Nat → SS) (k : Nat) (hk : k < 4) (x : SS) (p : Int32) (hby : okB x.1) : Met l yX2_byteAt wsX2_byteAt { frames := 1, cells := 0, slots := 0, locals := 20 } (va_Pc [.ref (w.2.2 (18 + 2 * k)), .int p] (wPK w (wC w c t r (va_up s k x)))) (xR (some (.int (G_X2_byteAt x p)))) 0 0 xNo := by
  refine xOf (cc := cX2_byteAt) (maxL := 2) (ret := (some .byte)) (lv := [(0, .ref (w.2.2 (18 + 2 * k))), (1, .int p)]) (by decide) rfl (Nat.le_of_ble_eq_true rfl) rfl ?_
  intro pP eE S mM below meth C hx hb hr hml hts hown hlk hnm hw ls hl
  obtain ⟨hP, hK⟩ := hw
  refine lv_iload_n hx hb dX2_byteAt_0 rfl (lv_at hl 1 rfl) ?_
  refine xR_i (va_runS (As := [.int p]) (rest := []) ⟨hx, hb, hml, hown, hts⟩ (c_X2_holds l w c t r (va_up s k x) p ) (va_cwS 1 hts gX2_byteAt_X2_holds rfl rfl rfl ds_X2_holds ⟨Nat.le_of_ble_eq_true rfl, Nat.le_of_ble_eq_true rfl⟩) (wPre hP hK) rfl rfl hl.1 rfl (lv_room (Nat.le_of_ble_eq_true rfl)) dX2_byteAt_1 ⟨Nat.zero_le _, Nat.zero_le _⟩) ?_
  refine lv_if_eq (tgt := 16) hx hb dX2_byteAt_4 (by decide) (fun b1 => ?_) (fun b1 => ?_)
  ·
    refine lv_iconst (v := 0) hx hb dX2_byteAt_16 (by decide) ?_
    exact xR_zret hx hb hr hlk (by first | rfl | exact hby _) (Eq.trans rfl (if_pos b1)) dX2_byteAt_17
  ·
    refine lv_aload_n hx hb dX2_byteAt_7 rfl (lv_at hl 0 rfl) ?_
    refine va_get (D := w.1) (ci := 3) (v := .ref (w.2.2 (19 + 2 * k))) (C := RX2) (T := TX2) (N := 4) hx hb hts iw_X2_byteAt_X2 hown hK.1 hP (18 + 2 * k) (wC_ox hk) rfl 1 (by decide) (hts _ fl_X2_byteAt_9) (fun _ h9 => h9) rfl dX2_byteAt_8 ?_
    refine lv_iload_n hx hb dX2_byteAt_11 rfl (lv_at hl 1 rfl) ?_
    refine va_bald hx hb hK.1 hP (19 + 2 * k) 1 (wC_bx hk) rfl (okX2_holds b1) dX2_byteAt_12 ?_
    refine lv_goto (tgt := 17) hx hb dX2_byteAt_13 (by decide) ?_
    exact xR_zret hx hb hr hlk (by first | rfl | exact hby _) (Eq.trans rfl (if_neg b1)) dX2_byteAt_17
set_option maxRecDepth 20000 in
theorem iw_X2_setByte_X2 : ∀ w ∈ wsX20, w ∈ wsX2_setByte := by decide +kernel
set_option maxRecDepth 20000 in
theorem fl_X2_setByte_9 : Cond.fieldLink RX2 9 "ProcedureCode$Storage" "bytes" "[B" ∈ wsX2_setByte := by decide +kernel
def G_X2_setByte (x : SS) (p : Int32) (v : Int32) : SS := if (G_X2_holds p) = 0 then (x) else ((upd x.1 p.toNatClampNeg (vp_nar .byte v), x.2.1, x.2.2))
set_option maxHeartbeats 4000000 in
set_option maxRecDepth 100000 in
theorem c_X2_setByte (l : Launch) (w : WG) (hA : wAp w 26) (c : CS) (t : TS) (r : RS) (s : Nat → SS) (k : Nat) (hk : k < 4) (x : SS) (p : Int32) (v : Int32) : Met l yX2_setByte wsX2_setByte { frames := 1, cells := 0, slots := 0, locals := 20 } (va_Pc [.ref (w.2.2 (18 + 2 * k)), .int p, .int v] (wPK w (wC w c t r (va_up s k x)))) (xM none (fun H => va_P w.1 vwCl (wC w c t r (va_up s k (G_X2_setByte x p v))) H) (wA w 26)) 0 0 (wA w 26) := by
  refine xOf (cc := cX2_setByte) (maxL := 3) (ret := none) (lv := [(0, .ref (w.2.2 (18 + 2 * k))), (1, .int p), (2, .int v)]) (by decide) rfl (Nat.le_of_ble_eq_true rfl) rfl ?_
  intro pP eE S mM below meth C hx hb hr hml hts hown hlk hnm hw ls hl
  obtain ⟨hP, hK⟩ := hw
  have hS : va_S (wA w 26) S.heap S.heap [] := va_S.rf
  have hP : va_P w.1 vwCl (wC w c t r (va_up s k x)) S.heap := hP
  refine lv_iload_n hx hb dX2_setByte_0 rfl (lv_at hl 1 rfl) ?_
  refine xR_i (va_runS (As := [.int p]) (rest := []) ⟨hx, hb, hml, hown, hts⟩ (c_X2_holds l w c t r (va_up s k x) p ) (va_cwS 1 hts gX2_setByte_X2_holds rfl rfl rfl ds_X2_holds ⟨Nat.le_of_ble_eq_true rfl, Nat.le_of_ble_eq_true rfl⟩) (wPre hP hK) rfl rfl hl.1 rfl (lv_room (Nat.le_of_ble_eq_true rfl)) dX2_setByte_1 ⟨Nat.zero_le _, Nat.zero_le _⟩) ?_
  refine lv_if_eq (tgt := 14) hx hb dX2_setByte_4 (by decide) (fun b1 => ?_) (fun b1 => ?_)
  ·
    have e9 : G_X2_setByte x p v = x := Eq.trans rfl (if_pos b1)
    exact xM_vret hx hb hr hlk  hS  (by rw [e9]; exact hP) dX2_setByte_14
  ·
    refine lv_aload_n hx hb dX2_setByte_7 rfl (lv_at hl 0 rfl) ?_
    refine va_get (D := w.1) (ci := 3) (v := .ref (w.2.2 (19 + 2 * k))) (C := RX2) (T := TX2) (N := 4) hx hb hts iw_X2_setByte_X2 hown hK.1 hP (18 + 2 * k) (wC_ox hk) rfl 1 (by decide) (hts _ fl_X2_setByte_9) (fun _ h9 => h9) rfl dX2_setByte_8 ?_
    refine lv_iload_n hx hb dX2_setByte_11 rfl (lv_at hl 1 rfl) ?_
    refine lv_iload_n hx hb dX2_setByte_12 rfl (lv_at hl 2 rfl) ?_
    refine va_bast hx hb hK.1 hP (wC_D hA) hS (19 + 2 * k) 1 (wC_bx hk) rfl (okX2_holds b1) dX2_setByte_13 (fun H locs hP _ hS => ?_)
    have hP : va_P w.1 vwCl (wC w c t r (va_up s k (upd x.1 p.toNatClampNeg (vp_nar .byte v), x.2.1, x.2.2))) H := wC_pbx (x := x) hk hP
    have e9 : G_X2_setByte x p v = (upd x.1 p.toNatClampNeg (vp_nar .byte v), x.2.1, x.2.2) := Eq.trans rfl (if_neg b1)
    exact xM_vret hx hb hr hlk  hS  (by rw [e9]; exact hP) dX2_setByte_14
set_option maxRecDepth 20000 in
theorem iw_X2_begin_X2 : ∀ w ∈ wsX20, w ∈ wsX2_begin := by decide +kernel
set_option maxRecDepth 20000 in
theorem fl_X2_begin_29 : Cond.fieldLink RX2 29 "ProcedureCode$Storage" "raise" "I" ∈ wsX2_begin := by decide +kernel
set_option maxRecDepth 20000 in
theorem fl_X2_begin_33 : Cond.fieldLink RX2 33 "ProcedureCode$Storage" "counts" "I" ∈ wsX2_begin := by decide +kernel
def G_X2_begin (x : SS)  : SS := (x.1, (0 : Int32), (0 : Int32))
set_option maxHeartbeats 4000000 in
set_option maxRecDepth 100000 in
theorem c_X2_begin (l : Launch) (w : WG) (hA : wAp w 26) (c : CS) (t : TS) (r : RS) (s : Nat → SS) (k : Nat) (hk : k < 4) (x : SS) : Met l yX2_begin wsX2_begin { frames := 0, cells := 0, slots := 0, locals := 0 } (va_Pc [.ref (w.2.2 (18 + 2 * k))] (wPK w (wC w c t r (va_up s k x)))) (xM none (fun H => va_P w.1 vwCl (wC w c t r (va_up s k (G_X2_begin x))) H) (wA w 26)) 0 0 (wA w 26) := by
  refine xOf (cc := cX2_begin) (maxL := 1) (ret := none) (lv := [(0, .ref (w.2.2 (18 + 2 * k)))]) (by decide) rfl (Nat.le_of_ble_eq_true rfl) rfl ?_
  intro pP eE S mM below meth C hx hb hr hml hts hown hlk hnm hw ls hl
  obtain ⟨hP, hK⟩ := hw
  have hS : va_S (wA w 26) S.heap S.heap [] := va_S.rf
  have hP : va_P w.1 vwCl (wC w c t r (va_up s k x)) S.heap := hP
  refine lv_aload_n hx hb dX2_begin_0 rfl (lv_at hl 0 rfl) ?_
  refine lv_iconst (v := 0) hx hb dX2_begin_1 (by decide) ?_
  refine va_put (D := w.1) (ci := 3) (v := .int (0 : Int32)) (ty := .int) (C := RX2) (T := TX2) (N := 4) hx hb hts iw_X2_begin_X2 tyX2 tyX2_ok nmX2 hown hK.1 hP (wC_D hA) hS (18 + 2 * k) (wC_ox hk) rfl 2 (by decide) (hts _ fl_X2_begin_29) (fun _ h9 => h9) rfl (by decide +kernel) rfl rfl (Nat.le_of_ble_eq_true rfl) dX2_begin_2 (fun H locs hP _ hS => ?_)
  have hP : va_P w.1 vwCl (wC w c t r (va_up s k (x.1, (0 : Int32), x.2.2))) H := wC_pox (x := x) hk hP
  refine lv_aload_n hx hb dX2_begin_5 rfl (lv_at hl 0 rfl) ?_
  refine lv_iconst (v := 0) hx hb dX2_begin_6 (by decide) ?_
  refine va_put (D := w.1) (ci := 3) (v := .int (0 : Int32)) (ty := .int) (C := RX2) (T := TX2) (N := 4) hx hb hts iw_X2_begin_X2 tyX2 tyX2_ok nmX2 hown hK.1 hP (wC_D hA) hS (18 + 2 * k) (wC_ox hk) rfl 3 (by decide) (hts _ fl_X2_begin_33) (fun _ h9 => h9) rfl (by decide +kernel) rfl rfl (Nat.le_of_ble_eq_true rfl) dX2_begin_7 (fun H locs hP _ hS => ?_)
  have hP : va_P w.1 vwCl (wC w c t r (va_up s k (x.1, (0 : Int32), (0 : Int32)))) H := wC_pox (x := (x.1, (0 : Int32), x.2.2)) hk hP
  have e9 : G_X2_begin x = (x.1, (0 : Int32), (0 : Int32)) := rfl
  exact xM_vret hx hb hr hlk  hS  (by rw [e9]; exact hP) dX2_begin_10
set_option maxRecDepth 20000 in
theorem iw_X2_outcome_X2 : ∀ w ∈ wsX20, w ∈ wsX2_outcome := by decide +kernel
set_option maxRecDepth 20000 in
theorem fl_X2_outcome_29 : Cond.fieldLink RX2 29 "ProcedureCode$Storage" "raise" "I" ∈ wsX2_outcome := by decide +kernel
def G_X2_outcome (x : SS)  : Int32 := if x.2.1 = 0 then ((1 : Int32)) else ((2 : Int32))
set_option maxHeartbeats 4000000 in
set_option maxRecDepth 100000 in
theorem c_X2_outcome (l : Launch) (w : WG) (c : CS) (t : TS) (r : RS) (s : Nat → SS) (k : Nat) (hk : k < 4) (x : SS) : Met l yX2_outcome wsX2_outcome { frames := 0, cells := 0, slots := 0, locals := 0 } (va_Pc [.ref (w.2.2 (18 + 2 * k))] (wPK w (wC w c t r (va_up s k x)))) (xR (some (.int (G_X2_outcome x)))) 0 0 xNo := by
  refine xOf (cc := cX2_outcome) (maxL := 1) (ret := (some .int)) (lv := [(0, .ref (w.2.2 (18 + 2 * k)))]) (by decide) rfl (Nat.le_of_ble_eq_true rfl) rfl ?_
  intro pP eE S mM below meth C hx hb hr hml hts hown hlk hnm hw ls hl
  obtain ⟨hP, hK⟩ := hw
  refine lv_aload_n hx hb dX2_outcome_0 rfl (lv_at hl 0 rfl) ?_
  refine va_get (D := w.1) (ci := 3) (v := .int x.2.1) (C := RX2) (T := TX2) (N := 4) hx hb hts iw_X2_outcome_X2 hown hK.1 hP (18 + 2 * k) (wC_ox hk) rfl 2 (by decide) (hts _ fl_X2_outcome_29) (fun _ h9 => h9) rfl dX2_outcome_1 ?_
  refine lv_if_ne (tgt := 11) hx hb dX2_outcome_4 (by decide) (fun b1 => ?_) (fun b1 => ?_)
  ·
    refine lv_iconst (v := 2) hx hb dX2_outcome_11 (by decide) ?_
    exact xR_iret hx hb hr hlk  (Eq.trans rfl (if_neg b1)) dX2_outcome_12
  ·
    refine lv_iconst (v := 1) hx hb dX2_outcome_7 (by decide) ?_
    refine lv_goto (tgt := 12) hx hb dX2_outcome_8 (by decide) ?_
    exact xR_iret hx hb hr hlk  (Eq.trans rfl (if_pos b1)) dX2_outcome_12
set_option maxRecDepth 20000 in
theorem iw_X2_countOne_X2 : ∀ w ∈ wsX20, w ∈ wsX2_countOne := by decide +kernel
set_option maxRecDepth 20000 in
theorem fl_X2_countOne_29 : Cond.fieldLink RX2 29 "ProcedureCode$Storage" "raise" "I" ∈ wsX2_countOne := by decide +kernel
set_option maxRecDepth 20000 in
theorem fl_X2_countOne_33 : Cond.fieldLink RX2 33 "ProcedureCode$Storage" "counts" "I" ∈ wsX2_countOne := by decide +kernel
def G_X2_countOne (x : SS)  : SS := if x.2.1 = 0 then (if (x.2.2 + (1 : Int32)) ≤ (1000 : Int32) then ((x.1, x.2.1, x.2.2 + (1 : Int32))) else ((x.1, (3 : Int32), x.2.2 + (1 : Int32)))) else (x)
set_option maxHeartbeats 4000000 in
set_option maxRecDepth 100000 in
theorem c_X2_countOne (l : Launch) (w : WG) (hA : wAp w 26) (c : CS) (t : TS) (r : RS) (s : Nat → SS) (k : Nat) (hk : k < 4) (x : SS) : Met l yX2_countOne wsX2_countOne { frames := 0, cells := 0, slots := 0, locals := 0 } (va_Pc [.ref (w.2.2 (18 + 2 * k))] (wPK w (wC w c t r (va_up s k x)))) (xM none (fun H => va_P w.1 vwCl (wC w c t r (va_up s k (G_X2_countOne x))) H) (wA w 26)) 0 0 (wA w 26) := by
  refine xOf (cc := cX2_countOne) (maxL := 1) (ret := none) (lv := [(0, .ref (w.2.2 (18 + 2 * k)))]) (by decide) rfl (Nat.le_of_ble_eq_true rfl) rfl ?_
  intro pP eE S mM below meth C hx hb hr hml hts hown hlk hnm hw ls hl
  obtain ⟨hP, hK⟩ := hw
  have hS : va_S (wA w 26) S.heap S.heap [] := va_S.rf
  have hP : va_P w.1 vwCl (wC w c t r (va_up s k x)) S.heap := hP
  refine lv_aload_n hx hb dX2_countOne_0 rfl (lv_at hl 0 rfl) ?_
  refine va_get (D := w.1) (ci := 3) (v := .int x.2.1) (C := RX2) (T := TX2) (N := 4) hx hb hts iw_X2_countOne_X2 hown hK.1 hP (18 + 2 * k) (wC_ox hk) rfl 2 (by decide) (hts _ fl_X2_countOne_29) (fun _ h9 => h9) rfl dX2_countOne_1 ?_
  refine lv_if_eq (tgt := 8) hx hb dX2_countOne_4 (by decide) (fun b1 => ?_) (fun b1 => ?_)
  ·
    refine lv_aload_n hx hb dX2_countOne_8 rfl (lv_at hl 0 rfl) ?_
    refine lv_dup hx hb dX2_countOne_9 rfl ?_
    refine va_get (D := w.1) (ci := 3) (v := .int x.2.2) (C := RX2) (T := TX2) (N := 4) hx hb hts iw_X2_countOne_X2 hown hK.1 hP (18 + 2 * k) (wC_ox hk) rfl 3 (by decide) (hts _ fl_X2_countOne_33) (fun _ h9 => h9) rfl dX2_countOne_10 ?_
    refine lv_iconst (v := 1) hx hb dX2_countOne_13 (by decide) ?_
    refine lv_iadd hx hb dX2_countOne_14 ?_
    refine va_put (D := w.1) (ci := 3) (v := .int (x.2.2 + (1 : Int32))) (ty := .int) (C := RX2) (T := TX2) (N := 4) hx hb hts iw_X2_countOne_X2 tyX2 tyX2_ok nmX2 hown hK.1 hP (wC_D hA) hS (18 + 2 * k) (wC_ox hk) rfl 3 (by decide) (hts _ fl_X2_countOne_33) (fun _ h9 => h9) rfl (by decide +kernel) rfl rfl (Nat.le_of_ble_eq_true rfl) dX2_countOne_15 (fun H locs hP _ hS => ?_)
    have hP : va_P w.1 vwCl (wC w c t r (va_up s k (x.1, x.2.1, x.2.2 + (1 : Int32)))) H := wC_pox (x := x) hk hP
    refine lv_aload_n hx hb dX2_countOne_18 rfl (lv_at hl 0 rfl) ?_
    refine va_get (D := w.1) (ci := 3) (v := .int (x.2.2 + (1 : Int32))) (C := RX2) (T := TX2) (N := 4) hx hb hts iw_X2_countOne_X2 hown hK.1 hP (18 + 2 * k) (wC_ox hk) rfl 3 (by decide) (hts _ fl_X2_countOne_33) (fun _ h9 => h9) rfl dX2_countOne_19 ?_
    refine lv_sipush (v := 1000) hx hb dX2_countOne_22 (by decide) ?_
    refine lv_icmp_le (tgt := 33) hx hb dX2_countOne_25 (by decide) (fun b2 => ?_) (fun b2 => ?_)
    ·
      have e9 : G_X2_countOne x = (x.1, x.2.1, x.2.2 + (1 : Int32)) := Eq.trans (Eq.trans rfl (if_pos b1)) (if_pos b2)
      exact xM_vret hx hb hr hlk  hS  (by rw [e9]; exact hP) dX2_countOne_33
    ·
      refine lv_aload_n hx hb dX2_countOne_28 rfl (lv_at hl 0 rfl) ?_
      refine lv_iconst (v := 3) hx hb dX2_countOne_29 (by decide) ?_
      refine va_put (D := w.1) (ci := 3) (v := .int (3 : Int32)) (ty := .int) (C := RX2) (T := TX2) (N := 4) hx hb hts iw_X2_countOne_X2 tyX2 tyX2_ok nmX2 hown hK.1 hP (wC_D hA) hS (18 + 2 * k) (wC_ox hk) rfl 2 (by decide) (hts _ fl_X2_countOne_29) (fun _ h9 => h9) rfl (by decide +kernel) rfl rfl (Nat.le_of_ble_eq_true rfl) dX2_countOne_30 (fun H locs hP _ hS => ?_)
      have hP : va_P w.1 vwCl (wC w c t r (va_up s k (x.1, (3 : Int32), x.2.2 + (1 : Int32)))) H := wC_pox (x := (x.1, x.2.1, x.2.2 + (1 : Int32))) hk hP
      have e9 : G_X2_countOne x = (x.1, (3 : Int32), x.2.2 + (1 : Int32)) := Eq.trans (Eq.trans rfl (if_pos b1)) (if_neg b2)
      exact xM_vret hx hb hr hlk  hS  (by rw [e9]; exact hP) dX2_countOne_33
  ·
    have e9 : G_X2_countOne x = x := Eq.trans rfl (if_neg b1)
    exact xM_vret hx hb hr hlk  hS  (by rw [e9]; exact hP) dX2_countOne_7
set_option maxRecDepth 20000 in
theorem iw_X2_result_X2 : ∀ w ∈ wsX20, w ∈ wsX2_result := by decide +kernel
set_option maxRecDepth 20000 in
theorem fl_X2_result_29 : Cond.fieldLink RX2 29 "ProcedureCode$Storage" "raise" "I" ∈ wsX2_result := by decide +kernel
set_option maxRecDepth 20000 in
theorem nw_X2_result_53 : Cond.methodLinkNest RX2 53 yX4_reckon "ProcedureCode" ∈ nws := by decide +kernel
set_option maxRecDepth 20000 in
theorem mw_X2_result_iX4_reckon : Cond.initialized RX4 ∈ wsX2_result := by decide +kernel
set_option maxRecDepth 20000 in
theorem ds_X4_reckon : yX4_reckon.cls ≠ "java/lang/invoke/MethodHandle" ∧ yX4_reckon.cls ≠ "java/lang/invoke/VarHandle" ∧ (parseMethodDescriptor yX4_reckon.desc).map (fun d => d.parameters.length) = some 3 := by decide +kernel
set_option maxRecDepth 20000 in
theorem mw_X2_result_stX4_reckon : Cond.static yX4_reckon ∈ wsX2_result := by decide +kernel
def G_X2_result (x : SS) (a : Int32) (y : Int64) (z : Int64) : Int64 × SS := if x.2.1 = 0 then (if a = (6 : Int32) then (if (lg_cmp z (0 : Int64)) = 0 then (((0 : Int64), (x.1, (2 : Int32), x.2.2))) else ((G_X4_reckon a y z, x))) else ((G_X4_reckon a y z, x))) else (((0 : Int64), x))
set_option maxHeartbeats 4000000 in
set_option maxRecDepth 100000 in
theorem c_X2_result (l : Launch) (w : WG) (hA : wAp w 26) (c : CS) (t : TS) (r : RS) (s : Nat → SS) (k : Nat) (hk : k < 4) (x : SS) (a : Int32) (y : Int64) (z : Int64) : Met l yX2_result wsX2_result { frames := 1, cells := 0, slots := 0, locals := 24 } (va_Pc [.ref (w.2.2 (18 + 2 * k)), .int a, .long y, .long z] (wPK w (wC w c t r (va_up s k x)))) (xM (some (.long ((G_X2_result x a y z).1))) (fun H => va_P w.1 vwCl (wC w c t r (va_up s k ((G_X2_result x a y z).2))) H) (wA w 26)) 0 0 (wA w 26) := by
  refine xOf (cc := cX2_result) (maxL := 6) (ret := (some .long)) (lv := [(0, .ref (w.2.2 (18 + 2 * k))), (1, .int a), (2, .long y), (4, .long z)]) (by decide) rfl (Nat.le_of_ble_eq_true rfl) rfl ?_
  intro pP eE S mM below meth C hx hb hr hml hts hown hlk hnm hw ls hl
  obtain ⟨hP, hK⟩ := hw
  have hS : va_S (wA w 26) S.heap S.heap [] := va_S.rf
  have hP : va_P w.1 vwCl (wC w c t r (va_up s k x)) S.heap := hP
  refine lv_aload_n hx hb dX2_result_0 rfl (lv_at hl 0 rfl) ?_
  refine va_get (D := w.1) (ci := 3) (v := .int x.2.1) (C := RX2) (T := TX2) (N := 4) hx hb hts iw_X2_result_X2 hown hK.1 hP (18 + 2 * k) (wC_ox hk) rfl 2 (by decide) (hts _ fl_X2_result_29) (fun _ h9 => h9) rfl dX2_result_1 ?_
  refine lv_if_eq (tgt := 9) hx hb dX2_result_4 (by decide) (fun b1 => ?_) (fun b1 => ?_)
  ·
    refine lv_iload_n hx hb dX2_result_9 rfl (lv_at hl 1 rfl) ?_
    refine lv_bipush (v := 6) hx hb dX2_result_10 (by decide) ?_
    refine lv_icmp_ne (tgt := 29) hx hb dX2_result_12 (by decide) (fun b2 => ?_) (fun b2 => ?_)
    ·
      refine lv_iload_n hx hb dX2_result_29 rfl (lv_at hl 1 rfl) ?_
      refine lv_lload_n hx hb dX2_result_30 rfl (lv_at hl 2 rfl) ?_
      refine lv_lload hx hb dX2_result_31 (lv_at hl 3 rfl) ?_
      refine xR_l (va_runSN (As := [.int a, .long y, .long z]) (rest := []) ⟨hx, hb, hml, hown, hts⟩ (k_X4_reckon l w c t r (va_up s k x) a y z ) ⟨va_cnB 3 hts gX2_result_X4_reckon_n53 rfl rfl rfl (hK.2 _ nw_X2_result_53) (hts _ mw_X2_result_iX4_reckon) ds_X4_reckon ⟨Nat.le_of_ble_eq_true rfl, Nat.le_of_ble_eq_true rfl⟩, hts _ mw_X2_result_stX4_reckon, trivial⟩ (wPre hP hK) rfl rfl hl.1 rfl (lv_room (Nat.le_of_ble_eq_true rfl)) dX2_result_33 ⟨Nat.zero_le _, Nat.zero_le _⟩) ?_
      have e9 : G_X2_result x a y z = (G_X4_reckon a y z, x) := Eq.trans (Eq.trans rfl (if_pos b1)) (if_neg b2)
      exact xM_lret hx hb hr hlk  hS (by rw [e9]) (by rw [e9]; exact hP) dX2_result_36
    ·
      refine lv_lload hx hb dX2_result_15 (lv_at hl 3 rfl) ?_
      refine lv_lconst (v := 0) hx hb dX2_result_17 (by decide) ?_
      refine W.lcmp hx hb dX2_result_18 ?_
      refine lv_if_ne (tgt := 29) hx hb dX2_result_19 (by decide) (fun b3 => ?_) (fun b3 => ?_)
      ·
        refine lv_iload_n hx hb dX2_result_29 rfl (lv_at hl 1 rfl) ?_
        refine lv_lload_n hx hb dX2_result_30 rfl (lv_at hl 2 rfl) ?_
        refine lv_lload hx hb dX2_result_31 (lv_at hl 3 rfl) ?_
        refine xR_l (va_runSN (As := [.int a, .long y, .long z]) (rest := []) ⟨hx, hb, hml, hown, hts⟩ (k_X4_reckon l w c t r (va_up s k x) a y z ) ⟨va_cnB 3 hts gX2_result_X4_reckon_n53 rfl rfl rfl (hK.2 _ nw_X2_result_53) (hts _ mw_X2_result_iX4_reckon) ds_X4_reckon ⟨Nat.le_of_ble_eq_true rfl, Nat.le_of_ble_eq_true rfl⟩, hts _ mw_X2_result_stX4_reckon, trivial⟩ (wPre hP hK) rfl rfl hl.1 rfl (lv_room (Nat.le_of_ble_eq_true rfl)) dX2_result_33 ⟨Nat.zero_le _, Nat.zero_le _⟩) ?_
        have e9 : G_X2_result x a y z = (G_X4_reckon a y z, x) := Eq.trans (Eq.trans (Eq.trans rfl (if_pos b1)) (if_pos b2)) (if_neg b3)
        exact xM_lret hx hb hr hlk  hS (by rw [e9]) (by rw [e9]; exact hP) dX2_result_36
      ·
        refine lv_aload_n hx hb dX2_result_22 rfl (lv_at hl 0 rfl) ?_
        refine lv_iconst (v := 2) hx hb dX2_result_23 (by decide) ?_
        refine va_put (D := w.1) (ci := 3) (v := .int (2 : Int32)) (ty := .int) (C := RX2) (T := TX2) (N := 4) hx hb hts iw_X2_result_X2 tyX2 tyX2_ok nmX2 hown hK.1 hP (wC_D hA) hS (18 + 2 * k) (wC_ox hk) rfl 2 (by decide) (hts _ fl_X2_result_29) (fun _ h9 => h9) rfl (by decide +kernel) rfl rfl (Nat.le_of_ble_eq_true rfl) dX2_result_24 (fun H locs hP _ hS => ?_)
        have hP : va_P w.1 vwCl (wC w c t r (va_up s k (x.1, (2 : Int32), x.2.2))) H := wC_pox (x := x) hk hP
        refine lv_lconst (v := 0) hx hb dX2_result_27 (by decide) ?_
        have e9 : G_X2_result x a y z = ((0 : Int64), (x.1, (2 : Int32), x.2.2)) := Eq.trans (Eq.trans (Eq.trans rfl (if_pos b1)) (if_pos b2)) (if_pos b3)
        exact xM_lret hx hb hr hlk  hS (by rw [e9]) (by rw [e9]; exact hP) dX2_result_28
  ·
    refine lv_lconst (v := 0) hx hb dX2_result_7 (by decide) ?_
    have e9 : G_X2_result x a y z = ((0 : Int64), x) := Eq.trans rfl (if_neg b1)
    exact xM_lret hx hb hr hlk  hS (by rw [e9]) (by rw [e9]; exact hP) dX2_result_8
set_option maxRecDepth 20000 in
theorem iw_X2_load_X2 : ∀ w ∈ wsX20, w ∈ wsX2_load := by decide +kernel
set_option maxRecDepth 20000 in
theorem fl_X2_load_29 : Cond.fieldLink RX2 29 "ProcedureCode$Storage" "raise" "I" ∈ wsX2_load := by decide +kernel
set_option maxRecDepth 20000 in
theorem fl_X2_load_15 : Cond.fieldLink RX2 15 "ProcedureCode$Storage" "cells" "LProcedureCode$Cells;" ∈ wsX2_load := by decide +kernel
set_option maxRecDepth 20000 in
theorem dv_X0_placeBehind : yX0_placeBehind.cls = RX0 ∧ yX0_placeBehind.cls ≠ "java/lang/invoke/MethodHandle" ∧ yX0_placeBehind.cls ≠ "java/lang/invoke/VarHandle" ∧ (parseMethodDescriptor yX0_placeBehind.desc).map (fun d => d.parameters.length) = some 2 := by decide +kernel
set_option maxRecDepth 20000 in
theorem fl_X2_load_9 : Cond.fieldLink RX2 9 "ProcedureCode$Storage" "bytes" "[B" ∈ wsX2_load := by decide +kernel
set_option maxRecDepth 20000 in
theorem dv_X0_read : yX0_read.cls = RX0 ∧ yX0_read.cls ≠ "java/lang/invoke/MethodHandle" ∧ yX0_read.cls ≠ "java/lang/invoke/VarHandle" ∧ (parseMethodDescriptor yX0_read.desc).map (fun d => d.parameters.length) = some 3 := by decide +kernel
def G_X2_load (c : CS) (x : SS) (n : Int32) (z : Int64) : Int64 × SS := if x.2.1 = 0 then (if (G_X0_placeBehind c n z) = (-1 : Int32) then (((0 : Int64), (x.1, (1 : Int32), x.2.2))) else ((G_X0_read c x n (G_X0_placeBehind c n z), x))) else (((0 : Int64), x))
set_option maxHeartbeats 4000000 in
set_option maxRecDepth 100000 in
theorem c_X2_load (l : Launch) (w : WG) (hA : wAp w 26) (c : CS) (t : TS) (r : RS) (s : Nat → SS) (k : Nat) (hk : k < 4) (x : SS) (n : Int32) (z : Int64) (hc : okC c) : Met l yX2_load wsX2_load { frames := 3, cells := 0, slots := 0, locals := 75 } (va_Pc [.ref (w.2.2 (18 + 2 * k)), .int n, .long z] (wPK w (wC w c t r (va_up s k x)))) (xM (some (.long ((G_X2_load c x n z).1))) (fun H => va_P w.1 vwCl (wC w c t r (va_up s k ((G_X2_load c x n z).2))) H) (wA w 26)) 0 0 (wA w 26) := by
  refine xOf (cc := cX2_load) (maxL := 5) (ret := (some .long)) (lv := [(0, .ref (w.2.2 (18 + 2 * k))), (1, .int n), (2, .long z)]) (by decide) rfl (Nat.le_of_ble_eq_true rfl) rfl ?_
  intro pP eE S mM below meth C hx hb hr hml hts hown hlk hnm hw ls hl
  obtain ⟨hP, hK⟩ := hw
  have hS : va_S (wA w 26) S.heap S.heap [] := va_S.rf
  have hP : va_P w.1 vwCl (wC w c t r (va_up s k x)) S.heap := hP
  refine lv_aload_n hx hb dX2_load_0 rfl (lv_at hl 0 rfl) ?_
  refine va_get (D := w.1) (ci := 3) (v := .int x.2.1) (C := RX2) (T := TX2) (N := 4) hx hb hts iw_X2_load_X2 hown hK.1 hP (18 + 2 * k) (wC_ox hk) rfl 2 (by decide) (hts _ fl_X2_load_29) (fun _ h9 => h9) rfl dX2_load_1 ?_
  refine lv_if_eq (tgt := 9) hx hb dX2_load_4 (by decide) (fun b1 => ?_) (fun b1 => ?_)
  ·
    refine lv_aload_n hx hb dX2_load_9 rfl (lv_at hl 0 rfl) ?_
    refine va_get (D := w.1) (ci := 3) (v := .ref (w.2.2 1)) (C := RX2) (T := TX2) (N := 4) hx hb hts iw_X2_load_X2 hown hK.1 hP (18 + 2 * k) (wC_ox hk) rfl 0 (by decide) (hts _ fl_X2_load_15) (fun _ h9 => h9) rfl dX2_load_10 ?_
    refine lv_iload_n hx hb dX2_load_13 rfl (lv_at hl 1 rfl) ?_
    refine lv_lload_n hx hb dX2_load_14 rfl (lv_at hl 2 rfl) ?_
    refine xR_i (va_runV (As := [.int n, .long z]) (rest := []) ⟨hx, hb, hml, hown, hts⟩ (k_X0_placeBehind l w c t r (va_up s k x) n z hc) (cwV 2 hts gX2_load_X0_placeBehind rfl rfl rfl dv_X0_placeBehind ⟨Nat.le_of_ble_eq_true rfl, Nat.le_of_ble_eq_true rfl⟩) (wPreV hP hK (ci := 1) (q0 := 1) rfl rfl) rfl rfl hl.1 rfl (lv_room (Nat.le_of_ble_eq_true rfl)) dX2_load_15 ⟨Nat.zero_le _, Nat.zero_le _⟩) ?_
    refine lv_istore (lv' := [(4, .int (G_X0_placeBehind c n z)), (0, .ref (w.2.2 (18 + 2 * k))), (1, .int n), (2, .long z)]) hx hb dX2_load_18 hl (by decide) rfl (fun ls hl => ?_)
    refine lv_iload hx hb dX2_load_20 (lv_at hl 0 rfl) ?_
    refine lv_iconst (v := -1) hx hb dX2_load_22 (by decide) ?_
    refine lv_icmp_ne (tgt := 33) hx hb dX2_load_23 (by decide) (fun b2 => ?_) (fun b2 => ?_)
    ·
      refine lv_aload_n hx hb dX2_load_33 rfl (lv_at hl 1 rfl) ?_
      refine va_get (D := w.1) (ci := 3) (v := .ref (w.2.2 1)) (C := RX2) (T := TX2) (N := 4) hx hb hts iw_X2_load_X2 hown hK.1 hP (18 + 2 * k) (wC_ox hk) rfl 0 (by decide) (hts _ fl_X2_load_15) (fun _ h9 => h9) rfl dX2_load_34 ?_
      refine lv_aload_n hx hb dX2_load_37 rfl (lv_at hl 1 rfl) ?_
      refine va_get (D := w.1) (ci := 3) (v := .ref (w.2.2 (19 + 2 * k))) (C := RX2) (T := TX2) (N := 4) hx hb hts iw_X2_load_X2 hown hK.1 hP (18 + 2 * k) (wC_ox hk) rfl 1 (by decide) (hts _ fl_X2_load_9) (fun _ h9 => h9) rfl dX2_load_38 ?_
      refine lv_iload_n hx hb dX2_load_41 rfl (lv_at hl 2 rfl) ?_
      refine lv_iload hx hb dX2_load_42 (lv_at hl 0 rfl) ?_
      refine xR_l (va_runV (As := [.ref (w.2.2 (19 + 2 * k)), .int n, .int (G_X0_placeBehind c n z)]) (rest := []) ⟨hx, hb, hml, hown, hts⟩ (k_X0_read l w c t r s k hk x n (G_X0_placeBehind c n z) hc) (cwV 3 hts gX2_load_X0_read rfl rfl rfl dv_X0_read ⟨Nat.le_of_ble_eq_true rfl, Nat.le_of_ble_eq_true rfl⟩) (wPreV hP hK (ci := 1) (q0 := 1) rfl rfl) rfl rfl hl.1 rfl (lv_room (Nat.le_of_ble_eq_true rfl)) dX2_load_44 ⟨Nat.zero_le _, Nat.zero_le _⟩) ?_
      have e9 : G_X2_load c x n z = (G_X0_read c x n (G_X0_placeBehind c n z), x) := Eq.trans (Eq.trans rfl (if_pos b1)) (if_neg b2)
      exact xM_lret hx hb hr hlk  hS (by rw [e9]) (by rw [e9]; exact hP) dX2_load_47
    ·
      refine lv_aload_n hx hb dX2_load_26 rfl (lv_at hl 1 rfl) ?_
      refine lv_iconst (v := 1) hx hb dX2_load_27 (by decide) ?_
      refine va_put (D := w.1) (ci := 3) (v := .int (1 : Int32)) (ty := .int) (C := RX2) (T := TX2) (N := 4) hx hb hts iw_X2_load_X2 tyX2 tyX2_ok nmX2 hown hK.1 hP (wC_D hA) hS (18 + 2 * k) (wC_ox hk) rfl 2 (by decide) (hts _ fl_X2_load_29) (fun _ h9 => h9) rfl (by decide +kernel) rfl rfl (Nat.le_of_ble_eq_true rfl) dX2_load_28 (fun H locs hP _ hS => ?_)
      have hP : va_P w.1 vwCl (wC w c t r (va_up s k (x.1, (1 : Int32), x.2.2))) H := wC_pox (x := x) hk hP
      refine lv_lconst (v := 0) hx hb dX2_load_31 (by decide) ?_
      have e9 : G_X2_load c x n z = ((0 : Int64), (x.1, (1 : Int32), x.2.2)) := Eq.trans (Eq.trans rfl (if_pos b1)) (if_pos b2)
      exact xM_lret hx hb hr hlk  hS (by rw [e9]) (by rw [e9]; exact hP) dX2_load_32
  ·
    refine lv_lconst (v := 0) hx hb dX2_load_7 (by decide) ?_
    have e9 : G_X2_load c x n z = ((0 : Int64), x) := Eq.trans rfl (if_neg b1)
    exact xM_lret hx hb hr hlk  hS (by rw [e9]) (by rw [e9]; exact hP) dX2_load_8
set_option maxRecDepth 20000 in
theorem iw_X2_save_X2 : ∀ w ∈ wsX20, w ∈ wsX2_save := by decide +kernel
set_option maxRecDepth 20000 in
theorem fl_X2_save_29 : Cond.fieldLink RX2 29 "ProcedureCode$Storage" "raise" "I" ∈ wsX2_save := by decide +kernel
set_option maxRecDepth 20000 in
theorem fl_X2_save_15 : Cond.fieldLink RX2 15 "ProcedureCode$Storage" "cells" "LProcedureCode$Cells;" ∈ wsX2_save := by decide +kernel
set_option maxRecDepth 20000 in
theorem dv_X2_countOne : yX2_countOne.cls = RX2 ∧ yX2_countOne.cls ≠ "java/lang/invoke/MethodHandle" ∧ yX2_countOne.cls ≠ "java/lang/invoke/VarHandle" ∧ (parseMethodDescriptor yX2_countOne.desc).map (fun d => d.parameters.length) = some 0 := by decide +kernel
set_option maxRecDepth 20000 in
theorem fl_X2_save_9 : Cond.fieldLink RX2 9 "ProcedureCode$Storage" "bytes" "[B" ∈ wsX2_save := by decide +kernel
set_option maxRecDepth 20000 in
theorem dv_X0_write : yX0_write.cls = RX0 ∧ yX0_write.cls ≠ "java/lang/invoke/MethodHandle" ∧ yX0_write.cls ≠ "java/lang/invoke/VarHandle" ∧ (parseMethodDescriptor yX0_write.desc).map (fun d => d.parameters.length) = some 4 := by decide +kernel
def G_X2_save (c : CS) (x : SS) (n : Int32) (z : Int64) (v : Int64) : SS := if x.2.1 = 0 then (if (G_X0_placeBehind c n z) = (-1 : Int32) then ((x.1, (1 : Int32), x.2.2)) else (if ((G_X2_countOne x).2.1) = 0 then (G_X0_write c (G_X2_countOne x) n (G_X0_placeBehind c n z) v) else (G_X2_countOne x))) else (x)
set_option maxHeartbeats 4000000 in
set_option maxRecDepth 100000 in
theorem c_X2_save (l : Launch) (w : WG) (hA : wAp w 26) (c : CS) (t : TS) (r : RS) (s : Nat → SS) (k : Nat) (hk : k < 4) (x : SS) (n : Int32) (z : Int64) (v : Int64) (hc : okC c) : Met l yX2_save wsX2_save { frames := 3, cells := 0, slots := 0, locals := 79 } (va_Pc [.ref (w.2.2 (18 + 2 * k)), .int n, .long z, .long v] (wPK w (wC w c t r (va_up s k x)))) (xM none (fun H => va_P w.1 vwCl (wC w c t r (va_up s k (G_X2_save c x n z v))) H) (wA w 26)) 0 0 (wA w 26) := by
  refine xOf (cc := cX2_save) (maxL := 7) (ret := none) (lv := [(0, .ref (w.2.2 (18 + 2 * k))), (1, .int n), (2, .long z), (4, .long v)]) (by decide) rfl (Nat.le_of_ble_eq_true rfl) rfl ?_
  intro pP eE S mM below meth C hx hb hr hml hts hown hlk hnm hw ls hl
  obtain ⟨hP, hK⟩ := hw
  have hS : va_S (wA w 26) S.heap S.heap [] := va_S.rf
  have hP : va_P w.1 vwCl (wC w c t r (va_up s k x)) S.heap := hP
  refine lv_aload_n hx hb dX2_save_0 rfl (lv_at hl 0 rfl) ?_
  refine va_get (D := w.1) (ci := 3) (v := .int x.2.1) (C := RX2) (T := TX2) (N := 4) hx hb hts iw_X2_save_X2 hown hK.1 hP (18 + 2 * k) (wC_ox hk) rfl 2 (by decide) (hts _ fl_X2_save_29) (fun _ h9 => h9) rfl dX2_save_1 ?_
  refine lv_if_eq (tgt := 8) hx hb dX2_save_4 (by decide) (fun b1 => ?_) (fun b1 => ?_)
  ·
    refine lv_aload_n hx hb dX2_save_8 rfl (lv_at hl 0 rfl) ?_
    refine va_get (D := w.1) (ci := 3) (v := .ref (w.2.2 1)) (C := RX2) (T := TX2) (N := 4) hx hb hts iw_X2_save_X2 hown hK.1 hP (18 + 2 * k) (wC_ox hk) rfl 0 (by decide) (hts _ fl_X2_save_15) (fun _ h9 => h9) rfl dX2_save_9 ?_
    refine lv_iload_n hx hb dX2_save_12 rfl (lv_at hl 1 rfl) ?_
    refine lv_lload_n hx hb dX2_save_13 rfl (lv_at hl 2 rfl) ?_
    refine xR_i (va_runV (As := [.int n, .long z]) (rest := []) ⟨hx, hb, hml, hown, hts⟩ (k_X0_placeBehind l w c t r (va_up s k x) n z hc) (cwV 2 hts gX2_save_X0_placeBehind rfl rfl rfl dv_X0_placeBehind ⟨Nat.le_of_ble_eq_true rfl, Nat.le_of_ble_eq_true rfl⟩) (wPreV hP hK (ci := 1) (q0 := 1) rfl rfl) rfl rfl hl.1 rfl (lv_room (Nat.le_of_ble_eq_true rfl)) dX2_save_14 ⟨Nat.zero_le _, Nat.zero_le _⟩) ?_
    refine lv_istore (lv' := [(6, .int (G_X0_placeBehind c n z)), (0, .ref (w.2.2 (18 + 2 * k))), (1, .int n), (2, .long z), (4, .long v)]) hx hb dX2_save_17 hl (by decide) rfl (fun ls hl => ?_)
    refine lv_iload hx hb dX2_save_19 (lv_at hl 0 rfl) ?_
    refine lv_iconst (v := -1) hx hb dX2_save_21 (by decide) ?_
    refine lv_icmp_ne (tgt := 31) hx hb dX2_save_22 (by decide) (fun b2 => ?_) (fun b2 => ?_)
    ·
      refine lv_aload_n hx hb dX2_save_31 rfl (lv_at hl 1 rfl) ?_
      refine xM_v (va_runV (As := []) (rest := []) ⟨hx, hb, hml, hown, hts⟩ (c_X2_countOne l w hA c t r s k hk x  ) (cwV 0 hts gX2_save_X2_countOne rfl rfl rfl dv_X2_countOne ⟨Nat.le_of_ble_eq_true rfl, Nat.le_of_ble_eq_true rfl⟩) (wPreV hP hK (ci := 3) (q0 := (18 + 2 * k)) rfl (wC_ox hk)) rfl rfl hl.1 rfl (lv_room (Nat.le_of_ble_eq_true rfl)) dX2_save_32 ⟨Nat.zero_le _, Nat.zero_le _⟩) hS (fun H locs hP hS => ?_)
      have hP : va_P w.1 vwCl (wC w c t r (va_up s k (G_X2_countOne x))) H := hP
      refine lv_aload_n hx hb dX2_save_35 rfl (lv_at hl 1 rfl) ?_
      refine va_get (D := w.1) (ci := 3) (v := .int ((G_X2_countOne x).2.1)) (C := RX2) (T := TX2) (N := 4) hx hb hts iw_X2_save_X2 hown hK.1 hP (18 + 2 * k) (wC_ox hk) rfl 2 (by decide) (hts _ fl_X2_save_29) (fun _ h9 => h9) rfl dX2_save_36 ?_
      refine lv_if_ne (tgt := 58) hx hb dX2_save_39 (by decide) (fun b3 => ?_) (fun b3 => ?_)
      ·
        have e9 : G_X2_save c x n z v = G_X2_countOne x := Eq.trans (Eq.trans (Eq.trans rfl (if_pos b1)) (if_neg b2)) (if_neg b3)
        exact xM_vret hx hb hr hlk  hS  (by rw [e9]; exact hP) dX2_save_58
      ·
        refine lv_aload_n hx hb dX2_save_42 rfl (lv_at hl 1 rfl) ?_
        refine va_get (D := w.1) (ci := 3) (v := .ref (w.2.2 1)) (C := RX2) (T := TX2) (N := 4) hx hb hts iw_X2_save_X2 hown hK.1 hP (18 + 2 * k) (wC_ox hk) rfl 0 (by decide) (hts _ fl_X2_save_15) (fun _ h9 => h9) rfl dX2_save_43 ?_
        refine lv_aload_n hx hb dX2_save_46 rfl (lv_at hl 1 rfl) ?_
        refine va_get (D := w.1) (ci := 3) (v := .ref (w.2.2 (19 + 2 * k))) (C := RX2) (T := TX2) (N := 4) hx hb hts iw_X2_save_X2 hown hK.1 hP (18 + 2 * k) (wC_ox hk) rfl 1 (by decide) (hts _ fl_X2_save_9) (fun _ h9 => h9) rfl dX2_save_47 ?_
        refine lv_iload_n hx hb dX2_save_50 rfl (lv_at hl 2 rfl) ?_
        refine lv_iload hx hb dX2_save_51 (lv_at hl 0 rfl) ?_
        refine lv_lload hx hb dX2_save_53 (lv_at hl 4 rfl) ?_
        refine xM_v (va_runV (As := [.ref (w.2.2 (19 + 2 * k)), .int n, .int (G_X0_placeBehind c n z), .long v]) (rest := []) ⟨hx, hb, hml, hown, hts⟩ (k_X0_write l w hA c t r s k hk (G_X2_countOne x) n (G_X0_placeBehind c n z) v hc) (cwV 4 hts gX2_save_X0_write rfl rfl rfl dv_X0_write ⟨Nat.le_of_ble_eq_true rfl, Nat.le_of_ble_eq_true rfl⟩) (wPreV hP hK (ci := 1) (q0 := 1) rfl rfl) rfl rfl hl.1 rfl (lv_room (Nat.le_of_ble_eq_true rfl)) dX2_save_55 ⟨Nat.zero_le _, Nat.zero_le _⟩) hS (fun H locs hP hS => ?_)
        have hP : va_P w.1 vwCl (wC w c t r (va_up s k (G_X0_write c (G_X2_countOne x) n (G_X0_placeBehind c n z) v))) H := hP
        have e9 : G_X2_save c x n z v = G_X0_write c (G_X2_countOne x) n (G_X0_placeBehind c n z) v := Eq.trans (Eq.trans (Eq.trans rfl (if_pos b1)) (if_neg b2)) (if_pos b3)
        exact xM_vret hx hb hr hlk  hS  (by rw [e9]; exact hP) dX2_save_58
    ·
      refine lv_aload_n hx hb dX2_save_25 rfl (lv_at hl 1 rfl) ?_
      refine lv_iconst (v := 1) hx hb dX2_save_26 (by decide) ?_
      refine va_put (D := w.1) (ci := 3) (v := .int (1 : Int32)) (ty := .int) (C := RX2) (T := TX2) (N := 4) hx hb hts iw_X2_save_X2 tyX2 tyX2_ok nmX2 hown hK.1 hP (wC_D hA) hS (18 + 2 * k) (wC_ox hk) rfl 2 (by decide) (hts _ fl_X2_save_29) (fun _ h9 => h9) rfl (by decide +kernel) rfl rfl (Nat.le_of_ble_eq_true rfl) dX2_save_27 (fun H locs hP _ hS => ?_)
      have hP : va_P w.1 vwCl (wC w c t r (va_up s k (x.1, (1 : Int32), x.2.2))) H := wC_pox (x := x) hk hP
      have e9 : G_X2_save c x n z v = (x.1, (1 : Int32), x.2.2) := Eq.trans (Eq.trans rfl (if_pos b1)) (if_pos b2)
      exact xM_vret hx hb hr hlk  hS  (by rw [e9]; exact hP) dX2_save_30
  ·
    have e9 : G_X2_save c x n z v = x := Eq.trans rfl (if_neg b1)
    exact xM_vret hx hb hr hlk  hS  (by rw [e9]; exact hP) dX2_save_7
