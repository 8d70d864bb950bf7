set_option maxRecDepth 20000 in
theorem nw_X3_walk_125 : Cond.fieldLinkNest RX3 125 "ProcedureCode$Storage" "raise" "I" "ProcedureCode" ∈ nws := by decide +kernel
set_option maxRecDepth 20000 in
theorem iw_X3_walk_X2 : ∀ w ∈ wsX20, w ∈ wsX3_walk := by decide +kernel
set_option maxRecDepth 20000 in
theorem dv_X3_walk : yX3_walk.cls = RX3 ∧ yX3_walk.cls ≠ "java/lang/invoke/MethodHandle" ∧ yX3_walk.cls ≠ "java/lang/invoke/VarHandle" ∧ (parseMethodDescriptor yX3_walk.desc).map (fun d => d.parameters.length) = some 3 := by decide +kernel
set_option maxRecDepth 20000 in
theorem dv_X2_load : yX2_load.cls = RX2 ∧ yX2_load.cls ≠ "java/lang/invoke/MethodHandle" ∧ yX2_load.cls ≠ "java/lang/invoke/VarHandle" ∧ (parseMethodDescriptor yX2_load.desc).map (fun d => d.parameters.length) = some 2 := by decide +kernel
set_option maxRecDepth 20000 in
theorem dv_X2_save : yX2_save.cls = RX2 ∧ yX2_save.cls ≠ "java/lang/invoke/MethodHandle" ∧ yX2_save.cls ≠ "java/lang/invoke/VarHandle" ∧ (parseMethodDescriptor yX2_save.desc).map (fun d => d.parameters.length) = some 3 := by decide +kernel
set_option maxRecDepth 20000 in
theorem mw_X3_walk_k136 : Cond.constantLong RX3 136 (1001) ∈ wsX3_walk := by decide +kernel
set_option maxRecDepth 20000 in
theorem mw_X3_walk_m138 : Cond.methodLink RX3 138 Lib.MathLoose.min_long.x ∈ wsX3_walk := by decide +kernel
set_option maxRecDepth 20000 in
theorem mw_X3_walk_s138 : Cond.static Lib.MathLoose.min_long.x ∈ wsX3_walk := by decide +kernel
set_option maxRecDepth 20000 in
theorem mw_X3_walk_iMath : Cond.initialized "java/lang/Math" ∈ wsX3_walk := by decide +kernel
set_option maxRecDepth 20000 in
theorem mw_X3_walk_c138 : Cond.code Lib.MathLoose.min_long.x Lib.MathLoose.min_long.code 4 (some .long) ∈ wsX3_walk := by decide +kernel
set_option maxRecDepth 20000 in
theorem dv_X2_result : yX2_result.cls = RX2 ∧ yX2_result.cls ≠ "java/lang/invoke/MethodHandle" ∧ yX2_result.cls ≠ "java/lang/invoke/VarHandle" ∧ (parseMethodDescriptor yX2_result.desc).map (fun d => d.parameters.length) = some 3 := by decide +kernel
def G_X3_walk_L285 (wk : SS → Int64 × SS) : Nat → Int64 → Int64 → SS → Int64 × SS
  | 0, _, _, xv => (0, xv)
  | fu + 1, tm, i, xv => if 0 ≤ (lg_cmp i tm) then (((0 : Int64), xv)) else (if xv.2.1 = 0 then (G_X3_walk_L285 wk fu tm (i + (1 : Int64)) ((wk (G_X2_countOne xv)).2)) else (((0 : Int64), xv)))
def OK_X3_walk_L285 (wk : SS → Int64 × SS) : Nat → Int64 → Int64 → SS → Prop
  | 0, _, _, _ => False
  | fu + 1, tm, i, xv => if 0 ≤ (lg_cmp i tm) then (True) else (if xv.2.1 = 0 then (OK_X3_walk_L285 wk fu tm (i + (1 : Int64)) ((wk (G_X2_countOne xv)).2)) else (True))
theorem okX3_walkLL (wk : SS → Int64 × SS) (tm : Int64) (h : tm.toInt ≤ 1001) : ∀ (fu j : Nat) (xv : SS), j ≤ 1001 → 1001 - j < fu → OK_X3_walk_L285 wk fu tm (lN j) xv := by
  intro fu
  induction fu with
  | zero => intro j xv h1 h2; omega
  | succ fu ih =>
    intro j xv h1 h2
    unfold OK_X3_walk_L285
    split
    · trivial
    · rename_i hc
      rw [lg_cmp_ge, Int64.le_iff_toInt_le, lN_toInt (by omega)] at hc
      split
      · rw [lN_1]
        exact ih (j + 1) _ (by omega) (by omega)
      · trivial
theorem okX3_walkL (wk : SS → Int64 × SS) (y : Int64) (xv : SS) : OK_X3_walk_L285 wk 1003 (if (1001 : Int64) < y then (1001 : Int64) else y) 0 xv := by
  refine okX3_walkLL wk _ ?_ 1003 0 xv (by omega) (by omega)
  have e : (1001 : Int64).toInt = 1001 := by decide
  split
  · omega
  · rename_i h
    rw [Int64.lt_iff_toInt_lt, e] at h
    omega
def G_X3_walk (c : CS) (t : TS) : Nat → SS → Int32 → Int32 → Int64 × SS
  | 0, x, _, _ => (0, x)
  | d + 1, x, n, dp => if (200 : Int32) < dp then (((0 : Int64), x)) else (if (G_X3_has t n) = 0 then (((0 : Int64), x)) else (if x.2.1 = 0 then (if (G_X3_isFolded t n) = 0 then (if (G_X3_kindOf t n) = (1 : Int32) then (((G_X2_load c x (G_X3_firstOf t n) (0 : Int64)).1, (G_X2_load c x (G_X3_firstOf t n) (0 : Int64)).2)) else (if (G_X3_kindOf t n) = (2 : Int32) then (((G_X2_load c ((G_X3_walk c t d x (G_X3_secondOf t n) (dp + (1 : Int32))).2) (G_X3_firstOf t n) ((G_X3_walk c t d x (G_X3_secondOf t n) (dp + (1 : Int32))).1)).1, (G_X2_load c ((G_X3_walk c t d x (G_X3_secondOf t n) (dp + (1 : Int32))).2) (G_X3_firstOf t n) ((G_X3_walk c t d x (G_X3_secondOf t n) (dp + (1 : Int32))).1)).2)) else (if (G_X3_kindOf t n) = (9 : Int32) then (((0 : Int64), G_X2_save c ((G_X3_walk c t d x (G_X3_secondOf t n) (dp + (1 : Int32))).2) (G_X3_firstOf t n) (0 : Int64) ((G_X3_walk c t d x (G_X3_secondOf t n) (dp + (1 : Int32))).1))) else (if (G_X3_kindOf t n) = (10 : Int32) then (((0 : Int64), G_X2_save c ((G_X3_walk c t d ((G_X3_walk c t d x (G_X3_firstOf t (G_X3_secondOf t n)) (dp + (1 : Int32))).2) (G_X3_secondOf t (G_X3_secondOf t n)) (dp + (1 : Int32))).2) (G_X3_firstOf t n) ((G_X3_walk c t d x (G_X3_firstOf t (G_X3_secondOf t n)) (dp + (1 : Int32))).1) ((G_X3_walk c t d ((G_X3_walk c t d x (G_X3_firstOf t (G_X3_secondOf t n)) (dp + (1 : Int32))).2) (G_X3_secondOf t (G_X3_secondOf t n)) (dp + (1 : Int32))).1))) else (if (G_X3_kindOf t n) = (11 : Int32) then (((0 : Int64), (G_X3_walk c t d ((G_X3_walk c t d x (G_X3_firstOf t n) (dp + (1 : Int32))).2) (G_X3_secondOf t n) (dp + (1 : Int32))).2)) else (if (G_X3_kindOf t n) = (12 : Int32) then (if (lg_cmp ((G_X3_walk c t d x (G_X3_firstOf t n) (dp + (1 : Int32))).1) (0 : Int64)) = 0 then (((0 : Int64), (G_X3_walk c t d x (G_X3_firstOf t n) (dp + (1 : Int32))).2)) else (((0 : Int64), (G_X3_walk c t d ((G_X3_walk c t d x (G_X3_firstOf t n) (dp + (1 : Int32))).2) (G_X3_secondOf t n) (dp + (1 : Int32))).2))) else (if (G_X3_kindOf t n) = (13 : Int32) then (G_X3_walk_L285 (fun x => G_X3_walk c t d x (G_X3_secondOf t n) (dp + (1 : Int32))) 1003 (if (1001 : Int64) < ((G_X3_walk c t d x (G_X3_firstOf t n) (dp + (1 : Int32))).1) then (1001 : Int64) else ((G_X3_walk c t d x (G_X3_firstOf t n) (dp + (1 : Int32))).1)) (0 : Int64) ((G_X3_walk c t d x (G_X3_firstOf t n) (dp + (1 : Int32))).2)) else (((G_X2_result ((G_X3_walk c t d ((G_X3_walk c t d x (G_X3_firstOf t n) (dp + (1 : Int32))).2) (G_X3_secondOf t n) (dp + (1 : Int32))).2) (G_X3_kindOf t n) ((G_X3_walk c t d x (G_X3_firstOf t n) (dp + (1 : Int32))).1) ((G_X3_walk c t d ((G_X3_walk c t d x (G_X3_firstOf t n) (dp + (1 : Int32))).2) (G_X3_secondOf t n) (dp + (1 : Int32))).1)).1, (G_X2_result ((G_X3_walk c t d ((G_X3_walk c t d x (G_X3_firstOf t n) (dp + (1 : Int32))).2) (G_X3_secondOf t n) (dp + (1 : Int32))).2) (G_X3_kindOf t n) ((G_X3_walk c t d x (G_X3_firstOf t n) (dp + (1 : Int32))).1) ((G_X3_walk c t d ((G_X3_walk c t d x (G_X3_firstOf t n) (dp + (1 : Int32))).2) (G_X3_secondOf t n) (dp + (1 : Int32))).1)).2))))))))) else ((G_X3_foldedOf t n, x))) else (((0 : Int64), x))))
set_option maxHeartbeats 4000000 in
set_option maxRecDepth 100000 in
theorem L_X3_walk_L285 (l : Launch) (w : WG) (hA : wAp w 26) (c : CS) (t : TS) (r : RS) (s : Nat → SS) (k : Nat) (hk : k < 4) (hc : okC c) (ht : okT t) (d : Nat) (n : Int32) (dp : Int32) (nb : Int32) (wk : SS → Int64 × SS) {pP : Program} {eE : Env} {S : State} {mM : MethodId} {below : List Frame} {meth : Method} {C : Code} (hx : pP.tables.exec = Jvm.exec) (hb : C.code = cX3_walk) (hr : meth.sig.returnType = (some .long)) (hml : C.maxLocals = 13) (hts : ∀ q9 ∈ wsX3_walk, q9.before ([.ref (w.2.2 5), .ref (w.2.2 (18 + 2 * k)), .int n, .int dp] : List Value).toArray S = true) (hown : S.vm.findClass yX3_walk.cls = some mM.cls) (hlk : meth.locks = false) (hK : wK w S) (hwk : ∀ x : SS, Met l yX3_walk wsX3_walk { frames := 4 + d, cells := 0, slots := 0, locals := 105 + 32 * d } (va_Pc [.ref (w.2.2 5), .ref (w.2.2 (18 + 2 * k)), .int nb, .int (dp + (1 : Int32))] (wPK w (wC w c t r (va_up s k x)))) (xM (some (.long ((wk x).1))) (fun H => va_P w.1 vwCl (wC w c t r (va_up s k ((wk x).2))) H) (wA w 26)) 0 0 (wA w 26)) (g : Int64 × SS) :
    ∀ (fu : Nat) (tm : Int64) (i : Int64) (xv : SS) (H : Heap) (locs : List Loc), va_P w.1 vwCl (wC w c t r (va_up s k xv)) H → va_S (wA w 26) S.heap H locs → OK_X3_walk_L285 wk fu tm i xv → g = G_X3_walk_L285 wk fu tm i xv → ∀ ls : Array Slot, lv_has ls 13 [(0, .ref (w.2.2 5)), (1, .ref (w.2.2 (18 + 2 * k))), (3, .int dp), (6, .int nb), (9, .long tm), (11, .long i)] → W pP l eE { frames := 4 + (d + 1), cells := 0, slots := 0, locals := 105 + 32 * (d + 1) } S mM ([.ref (w.2.2 5), .ref (w.2.2 (18 + 2 * k)), .int n, .int dp] : List Value).toArray below meth C H locs 0 0 (MQ below (xM (some (.long g.1)) (fun H => va_P w.1 vwCl (wC w c t r (va_up s k g.2)) H) (wA w 26)) ([.ref (w.2.2 5), .ref (w.2.2 (18 + 2 * k)), .int n, .int dp] : List Value).toArray S 0 0 (wA w 26)) (F0 mM 285 ls []) := by
  intro fu
  induction fu with
  | zero =>
    intro tm i xv H locs hP hS hok hg ls hl
    exact hok.elim
  | succ fu ih =>
    intro tm i xv H locs hP hS hok hg ls hl
    refine lv_lload hx hb dX3_walk_285 (lv_at hl 5 rfl) ?_
    refine lv_lload hx hb dX3_walk_287 (lv_at hl 4 rfl) ?_
    refine W.lcmp hx hb dX3_walk_289 ?_
    refine lv_if_ge (tgt := 324) hx hb dX3_walk_290 (by decide) (fun b1 => ?_) (fun b1 => ?_)
    ·
      have k2 := Eq.mp (if_pos b1) hok
      refine lv_lconst (v := 0) hx hb dX3_walk_324 (by decide) ?_
      have e9 : g = ((0 : Int64), xv) := Eq.trans hg (if_pos b1)
      exact xM_lret hx hb hr hlk  hS (by rw [e9]) (by rw [e9]; exact hP) dX3_walk_325
    ·
      have k3 := Eq.mp (if_neg b1) hok
      refine lv_aload_n hx hb dX3_walk_293 rfl (lv_at hl 1 rfl) ?_
      refine va_getN (D := w.1) (ci := 3) (v := .int xv.2.1) (C := RX2) (T := TX2) (N := 4) hx hb hts iw_X3_walk_X2 hown hK.1 hP (18 + 2 * k) (wC_ox hk) rfl 2 (by decide) (va_Nw.use rfl (hK.2 _ nw_X3_walk_125)) (fun _ h9 => h9) rfl dX3_walk_294 ?_
      refine lv_if_ne (tgt := 324) hx hb dX3_walk_297 (by decide) (fun b4 => ?_) (fun b4 => ?_)
      ·
        have k5 := Eq.mp (if_neg b4) k3
        refine lv_lconst (v := 0) hx hb dX3_walk_324 (by decide) ?_
        have e9 : g = ((0 : Int64), xv) := Eq.trans (Eq.trans hg (if_neg b1)) (if_neg b4)
        exact xM_lret hx hb hr hlk  hS (by rw [e9]) (by rw [e9]; exact hP) dX3_walk_325
      ·
        have k6 := Eq.mp (if_pos b4) k3
        refine lv_aload_n hx hb dX3_walk_300 rfl (lv_at hl 1 rfl) ?_
        refine xM_v (va_runV (As := []) (rest := []) ⟨hx, hb, hml, hown, hts⟩ (c_X2_countOne l w hA c t r s k hk xv  ) (cwV 0 hts gX3_walk_X2_countOne rfl rfl rfl dv_X2_countOne (rec_roomc 4 105 32 (by decide) (by decide))) (wPreV hP hK (ci := 3) (q0 := (18 + 2 * k)) rfl (wC_ox hk)) rfl rfl hl.1 rfl (lv_room (Nat.le_of_ble_eq_true rfl)) dX3_walk_301 ⟨Nat.zero_le _, Nat.zero_le _⟩) hS (fun H locs hP hS => ?_)
        have hP : va_P w.1 vwCl (wC w c t r (va_up s k (G_X2_countOne xv))) H := hP
        refine lv_aload_n hx hb dX3_walk_304 rfl (lv_at hl 0 rfl) ?_
        refine lv_aload_n hx hb dX3_walk_305 rfl (lv_at hl 1 rfl) ?_
        refine lv_iload hx hb dX3_walk_306 (lv_at hl 3 rfl) ?_
        refine lv_iload_n hx hb dX3_walk_308 rfl (lv_at hl 2 rfl) ?_
        refine lv_iconst (v := 1) hx hb dX3_walk_309 (by decide) ?_
        refine lv_iadd hx hb dX3_walk_310 ?_
        refine xM_l (va_runV (As := [.ref (w.2.2 (18 + 2 * k)), .int nb, .int (dp + (1 : Int32))]) (rest := []) ⟨hx, hb, hml, hown, hts⟩ (hwk (G_X2_countOne xv)) (cwV 3 hts gX3_walk_X3_walk rfl rfl rfl dv_X3_walk (rec_room 4 105 32 13 (by decide))) (wPreV hP hK (ci := 4) (q0 := 5) rfl rfl) rfl rfl hl.1 rfl (lv_room (Nat.le_of_ble_eq_true rfl)) dX3_walk_311 ⟨Nat.zero_le _, Nat.zero_le _⟩) hS (fun H locs hP hS => ?_)
        have hP : va_P w.1 vwCl (wC w c t r (va_up s k ((wk (G_X2_countOne xv)).2))) H := hP
        refine lv_pop2_2 hx hb dX3_walk_314 rfl ?_
        refine lv_lload hx hb dX3_walk_315 (lv_at hl 5 rfl) ?_
        refine lv_lconst (v := 1) hx hb dX3_walk_317 (by decide) ?_
        refine lv_ladd hx hb dX3_walk_318 ?_
        refine lv_lstore (lv' := [(11, .long (i + (1 : Int64))), (0, .ref (w.2.2 5)), (1, .ref (w.2.2 (18 + 2 * k))), (3, .int dp), (6, .int nb), (9, .long tm)]) hx hb dX3_walk_319 hl (by decide) rfl (fun ls hl => ?_)
        refine lv_goto (tgt := 285) hx hb dX3_walk_321 (by decide) ?_
        exact ih tm (i + (1 : Int64)) ((wk (G_X2_countOne xv)).2) _ _ hP hS k6 (Eq.trans (Eq.trans hg (if_neg b1)) (if_pos b4)) ls (lv_sub hl [1, 2, 3, 4, 5, 0] rfl)
set_option maxHeartbeats 4000000 in
set_option maxRecDepth 100000 in
theorem c_X3_walk (l : Launch) (w : WG) (hA : wAp w 26) (c : CS) (t : TS) (r : RS) (s : Nat → SS) (k : Nat) (hk : k < 4) (hc : okC c) (ht : okT t) : ∀ (d : Nat) (x : SS) (n : Int32) (dp : Int32), 201 ≤ dp.toInt + d → Met l yX3_walk wsX3_walk { frames := 4 + d, cells := 0, slots := 0, locals := 105 + 32 * d } (va_Pc [.ref (w.2.2 5), .ref (w.2.2 (18 + 2 * k)), .int n, .int dp] (wPK w (wC w c t r (va_up s k x)))) (xM (some (.long ((G_X3_walk c t d x n dp).1))) (fun H => va_P w.1 vwCl (wC w c t r (va_up s k ((G_X3_walk c t d x n dp).2))) H) (wA w 26)) 0 0 (wA w 26) := by
  intro d
  induction d with
  | zero =>
    intro x n dp hd
    refine xOf (cc := cX3_walk) (maxL := 13) (ret := (some .long)) (lv := [(0, .ref (w.2.2 5)), (1, .ref (w.2.2 (18 + 2 * k))), (2, .int n), (3, .int dp)]) (by decide) rfl (Nat.le_of_ble_eq_true rfl) rfl ?_
    intro pP eE S mM below meth C hx hb hr hml hts hown hlk hnm hw ls hl
    obtain ⟨hP, hK⟩ := hw
    have hS : va_S (wA w 26) S.heap S.heap [] := va_S.rf
    have hP : va_P w.1 vwCl (wC w c t r (va_up s k x)) S.heap := hP
    refine lv_iload_n hx hb dX3_walk_0 rfl (lv_at hl 3 rfl) ?_
    refine lv_sipush (v := 200) hx hb dX3_walk_1 (by decide) ?_
    refine lv_icmp_gt (tgt := 22) hx hb dX3_walk_4 (by decide) (fun b1 => ?_) (fun b1 => ?_)
    ·
      refine lv_lconst (v := 0) hx hb dX3_walk_22 (by decide) ?_
      have e9 : G_X3_walk c t 0 x n dp = ((0 : Int64), x) := rfl
      exact xM_lret hx hb hr hlk  hS (by rw [e9]) (by rw [e9]; exact hP) dX3_walk_23
    · exact absurd (rec_zero hd b1) id
  | succ d ih =>
    intro x n dp hd
    refine xOf (cc := cX3_walk) (maxL := 13) (ret := (some .long)) (lv := [(0, .ref (w.2.2 5)), (1, .ref (w.2.2 (18 + 2 * k))), (2, .int n), (3, .int dp)]) (by decide) rfl (Nat.le_of_ble_eq_true rfl) rfl ?_
    intro pP eE S mM below meth C hx hb hr hml hts hown hlk hnm hw ls hl
    obtain ⟨hP, hK⟩ := hw
    have hS : va_S (wA w 26) S.heap S.heap [] := va_S.rf
    have hP : va_P w.1 vwCl (wC w c t r (va_up s k x)) S.heap := hP
    refine lv_iload_n hx hb dX3_walk_0 rfl (lv_at hl 3 rfl) ?_
    refine lv_sipush (v := 200) hx hb dX3_walk_1 (by decide) ?_
    refine lv_icmp_gt (tgt := 22) hx hb dX3_walk_4 (by decide) (fun b1 => ?_) (fun b1 => ?_)
    ·
      refine lv_lconst (v := 0) hx hb dX3_walk_22 (by decide) ?_
      have e9 : G_X3_walk c t (d + 1) x n dp = ((0 : Int64), x) := Eq.trans rfl (if_pos b1)
      exact xM_lret hx hb hr hlk  hS (by rw [e9]) (by rw [e9]; exact hP) dX3_walk_23
    ·
      refine lv_aload_n hx hb dX3_walk_7 rfl (lv_at hl 0 rfl) ?_
      refine lv_iload_n hx hb dX3_walk_8 rfl (lv_at hl 2 rfl) ?_
      refine xR_i (va_runV (As := [.int n]) (rest := []) ⟨hx, hb, hml, hown, hts⟩ (c_X3_has l w c t r (va_up s k x) n ) (cwV 1 hts gX3_walk_X3_has rfl rfl rfl dv_X3_has (rec_roomc 4 105 32 (by decide) (by decide))) (wPreV hP hK (ci := 4) (q0 := 5) rfl rfl) rfl rfl hl.1 rfl (lv_room (Nat.le_of_ble_eq_true rfl)) dX3_walk_9 ⟨Nat.zero_le _, Nat.zero_le _⟩) ?_
      refine lv_if_eq (tgt := 22) hx hb dX3_walk_12 (by decide) (fun b2 => ?_) (fun b2 => ?_)
      ·
        refine lv_lconst (v := 0) hx hb dX3_walk_22 (by decide) ?_
        have e9 : G_X3_walk c t (d + 1) x n dp = ((0 : Int64), x) := Eq.trans (Eq.trans rfl (if_neg b1)) (if_pos b2)
        exact xM_lret hx hb hr hlk  hS (by rw [e9]) (by rw [e9]; exact hP) dX3_walk_23
      ·
        refine lv_aload_n hx hb dX3_walk_15 rfl (lv_at hl 1 rfl) ?_
        refine va_getN (D := w.1) (ci := 3) (v := .int x.2.1) (C := RX2) (T := TX2) (N := 4) hx hb hts iw_X3_walk_X2 hown hK.1 hP (18 + 2 * k) (wC_ox hk) rfl 2 (by decide) (va_Nw.use rfl (hK.2 _ nw_X3_walk_125)) (fun _ h9 => h9) rfl dX3_walk_16 ?_
        refine lv_if_eq (tgt := 24) hx hb dX3_walk_19 (by decide) (fun b3 => ?_) (fun b3 => ?_)
        ·
          refine lv_aload_n hx hb dX3_walk_24 rfl (lv_at hl 0 rfl) ?_
          refine lv_iload_n hx hb dX3_walk_25 rfl (lv_at hl 2 rfl) ?_
          refine xR_i (va_runV (As := [.int n]) (rest := []) ⟨hx, hb, hml, hown, hts⟩ (c_X3_isFolded l w c t r (va_up s k x) n ht) (cwV 1 hts gX3_walk_X3_isFolded rfl rfl rfl dv_X3_isFolded (rec_roomc 4 105 32 (by decide) (by decide))) (wPreV hP hK (ci := 4) (q0 := 5) rfl rfl) rfl rfl hl.1 rfl (lv_room (Nat.le_of_ble_eq_true rfl)) dX3_walk_26 ⟨Nat.zero_le _, Nat.zero_le _⟩) ?_
          refine lv_if_eq (tgt := 38) hx hb dX3_walk_29 (by decide) (fun b4 => ?_) (fun b4 => ?_)
          ·
            refine lv_aload_n hx hb dX3_walk_38 rfl (lv_at hl 0 rfl) ?_
            refine lv_iload_n hx hb dX3_walk_39 rfl (lv_at hl 2 rfl) ?_
            refine xR_i (va_runV (As := [.int n]) (rest := []) ⟨hx, hb, hml, hown, hts⟩ (c_X3_kindOf l w c t r (va_up s k x) n ht) (cwV 1 hts gX3_walk_X3_kindOf rfl rfl rfl dv_X3_kindOf (rec_roomc 4 105 32 (by decide) (by decide))) (wPreV hP hK (ci := 4) (q0 := 5) rfl rfl) rfl rfl hl.1 rfl (lv_room (Nat.le_of_ble_eq_true rfl)) dX3_walk_40 ⟨Nat.zero_le _, Nat.zero_le _⟩) ?_
            refine lv_istore (lv' := [(4, .int (G_X3_kindOf t n)), (0, .ref (w.2.2 5)), (1, .ref (w.2.2 (18 + 2 * k))), (2, .int n), (3, .int dp)]) hx hb dX3_walk_43 hl (by decide) rfl (fun ls hl => ?_)
            refine lv_aload_n hx hb dX3_walk_45 rfl (lv_at hl 1 rfl) ?_
            refine lv_iload_n hx hb dX3_walk_46 rfl (lv_at hl 3 rfl) ?_
            refine xR_i (va_runV (As := [.int n]) (rest := []) ⟨hx, hb, hml, hown, hts⟩ (c_X3_firstOf l w c t r (va_up s k x) n ht) (cwV 1 hts gX3_walk_X3_firstOf rfl rfl rfl dv_X3_firstOf (rec_roomc 4 105 32 (by decide) (by decide))) (wPreV hP hK (ci := 4) (q0 := 5) rfl rfl) rfl rfl hl.1 rfl (lv_room (Nat.le_of_ble_eq_true rfl)) dX3_walk_47 ⟨Nat.zero_le _, Nat.zero_le _⟩) ?_
            refine lv_istore (lv' := [(5, .int (G_X3_firstOf t n)), (4, .int (G_X3_kindOf t n)), (0, .ref (w.2.2 5)), (1, .ref (w.2.2 (18 + 2 * k))), (2, .int n), (3, .int dp)]) hx hb dX3_walk_50 hl (by decide) rfl (fun ls hl => ?_)
            refine lv_aload_n hx hb dX3_walk_52 rfl (lv_at hl 2 rfl) ?_
            refine lv_iload_n hx hb dX3_walk_53 rfl (lv_at hl 4 rfl) ?_
            refine xR_i (va_runV (As := [.int n]) (rest := []) ⟨hx, hb, hml, hown, hts⟩ (c_X3_secondOf l w c t r (va_up s k x) n ht) (cwV 1 hts gX3_walk_X3_secondOf rfl rfl rfl dv_X3_secondOf (rec_roomc 4 105 32 (by decide) (by decide))) (wPreV hP hK (ci := 4) (q0 := 5) rfl rfl) rfl rfl hl.1 rfl (lv_room (Nat.le_of_ble_eq_true rfl)) dX3_walk_54 ⟨Nat.zero_le _, Nat.zero_le _⟩) ?_
            refine lv_istore (lv' := [(6, .int (G_X3_secondOf t n)), (5, .int (G_X3_firstOf t n)), (4, .int (G_X3_kindOf t n)), (0, .ref (w.2.2 5)), (1, .ref (w.2.2 (18 + 2 * k))), (2, .int n), (3, .int dp)]) hx hb dX3_walk_57 hl (by decide) rfl (fun ls hl => ?_)
            refine lv_iload hx hb dX3_walk_59 (lv_at hl 2 rfl) ?_
            by_cases b5 : (G_X3_kindOf t n) = (1 : Int32)
            ·
              refine xTabK (tgt := 128) (z := 1) hx hb dX3_walk_61 (by rw [b5]; decide) (by decide +kernel) ?_
              refine lv_aload_n hx hb dX3_walk_128 rfl (lv_at hl 4 rfl) ?_
              refine lv_iload hx hb dX3_walk_129 (lv_at hl 1 rfl) ?_
              refine lv_lconst (v := 0) hx hb dX3_walk_131 (by decide) ?_
              refine xM_l (va_runV (As := [.int (G_X3_firstOf t n), .long (0 : Int64)]) (rest := []) ⟨hx, hb, hml, hown, hts⟩ (c_X2_load l w hA c t r s k hk x (G_X3_firstOf t n) (0 : Int64) hc) (cwV 2 hts gX3_walk_X2_load rfl rfl rfl dv_X2_load (rec_roomc 4 105 32 (by decide) (by decide))) (wPreV hP hK (ci := 3) (q0 := (18 + 2 * k)) rfl (wC_ox hk)) rfl rfl hl.1 rfl (lv_room (Nat.le_of_ble_eq_true rfl)) dX3_walk_132 ⟨Nat.zero_le _, Nat.zero_le _⟩) hS (fun H locs hP hS => ?_)
              have hP : va_P w.1 vwCl (wC w c t r (va_up s k ((G_X2_load c x (G_X3_firstOf t n) (0 : Int64)).2))) H := hP
              have e9 : G_X3_walk c t (d + 1) x n dp = ((G_X2_load c x (G_X3_firstOf t n) (0 : Int64)).1, (G_X2_load c x (G_X3_firstOf t n) (0 : Int64)).2) := Eq.trans (Eq.trans (Eq.trans (Eq.trans (Eq.trans rfl (if_neg b1)) (if_neg b2)) (if_pos b3)) (if_pos b4)) (if_pos b5)
              exact xM_lret hx hb hr hlk  hS (by rw [e9]) (by rw [e9]; exact hP) dX3_walk_135
            by_cases b6 : (G_X3_kindOf t n) = (2 : Int32)
            ·
              refine xTabK (tgt := 136) (z := 2) hx hb dX3_walk_61 (by rw [b6]; decide) (by decide +kernel) ?_
              refine lv_aload_n hx hb dX3_walk_136 rfl (lv_at hl 4 rfl) ?_
              refine lv_iload hx hb dX3_walk_137 (lv_at hl 1 rfl) ?_
              refine lv_aload_n hx hb dX3_walk_139 rfl (lv_at hl 3 rfl) ?_
              refine lv_aload_n hx hb dX3_walk_140 rfl (lv_at hl 4 rfl) ?_
              refine lv_iload hx hb dX3_walk_141 (lv_at hl 0 rfl) ?_
              refine lv_iload_n hx hb dX3_walk_143 rfl (lv_at hl 6 rfl) ?_
              refine lv_iconst (v := 1) hx hb dX3_walk_144 (by decide) ?_
              refine lv_iadd hx hb dX3_walk_145 ?_
              refine xM_l (va_runV (As := [.ref (w.2.2 (18 + 2 * k)), .int (G_X3_secondOf t n), .int (dp + (1 : Int32))]) (rest := [.int (G_X3_firstOf t n), .ref (w.2.2 (18 + 2 * k))]) ⟨hx, hb, hml, hown, hts⟩ (ih x (G_X3_secondOf t n) (dp + (1 : Int32)) (rec_hd hd b1)) (cwV 3 hts gX3_walk_X3_walk rfl rfl rfl dv_X3_walk (rec_room 4 105 32 13 (by decide))) (wPreV hP hK (ci := 4) (q0 := 5) rfl rfl) rfl rfl hl.1 rfl (lv_room (Nat.le_of_ble_eq_true rfl)) dX3_walk_146 ⟨Nat.zero_le _, Nat.zero_le _⟩) hS (fun H locs hP hS => ?_)
              have hP : va_P w.1 vwCl (wC w c t r (va_up s k ((G_X3_walk c t d x (G_X3_secondOf t n) (dp + (1 : Int32))).2))) H := hP
              refine xM_l (va_runV (As := [.int (G_X3_firstOf t n), .long ((G_X3_walk c t d x (G_X3_secondOf t n) (dp + (1 : Int32))).1)]) (rest := []) ⟨hx, hb, hml, hown, hts⟩ (c_X2_load l w hA c t r s k hk ((G_X3_walk c t d x (G_X3_secondOf t n) (dp + (1 : Int32))).2) (G_X3_firstOf t n) ((G_X3_walk c t d x (G_X3_secondOf t n) (dp + (1 : Int32))).1) hc) (cwV 2 hts gX3_walk_X2_load rfl rfl rfl dv_X2_load (rec_roomc 4 105 32 (by decide) (by decide))) (wPreV hP hK (ci := 3) (q0 := (18 + 2 * k)) rfl (wC_ox hk)) rfl rfl hl.1 rfl (lv_room (Nat.le_of_ble_eq_true rfl)) dX3_walk_149 ⟨Nat.zero_le _, Nat.zero_le _⟩) hS (fun H locs hP hS => ?_)
              have hP : va_P w.1 vwCl (wC w c t r (va_up s k ((G_X2_load c ((G_X3_walk c t d x (G_X3_secondOf t n) (dp + (1 : Int32))).2) (G_X3_firstOf t n) ((G_X3_walk c t d x (G_X3_secondOf t n) (dp + (1 : Int32))).1)).2))) H := hP
              have e9 : G_X3_walk c t (d + 1) x n dp = ((G_X2_load c ((G_X3_walk c t d x (G_X3_secondOf t n) (dp + (1 : Int32))).2) (G_X3_firstOf t n) ((G_X3_walk c t d x (G_X3_secondOf t n) (dp + (1 : Int32))).1)).1, (G_X2_load c ((G_X3_walk c t d x (G_X3_secondOf t n) (dp + (1 : Int32))).2) (G_X3_firstOf t n) ((G_X3_walk c t d x (G_X3_secondOf t n) (dp + (1 : Int32))).1)).2) := Eq.trans (Eq.trans (Eq.trans (Eq.trans (Eq.trans (Eq.trans rfl (if_neg b1)) (if_neg b2)) (if_pos b3)) (if_pos b4)) (if_neg b5)) (if_pos b6)
              exact xM_lret hx hb hr hlk  hS (by rw [e9]) (by rw [e9]; exact hP) dX3_walk_152
            by_cases b7 : (G_X3_kindOf t n) = (9 : Int32)
            ·
              refine xTabK (tgt := 153) (z := 9) hx hb dX3_walk_61 (by rw [b7]; decide) (by decide +kernel) ?_
              refine lv_aload_n hx hb dX3_walk_153 rfl (lv_at hl 4 rfl) ?_
              refine lv_iload hx hb dX3_walk_154 (lv_at hl 1 rfl) ?_
              refine lv_lconst (v := 0) hx hb dX3_walk_156 (by decide) ?_
              refine lv_aload_n hx hb dX3_walk_157 rfl (lv_at hl 3 rfl) ?_
              refine lv_aload_n hx hb dX3_walk_158 rfl (lv_at hl 4 rfl) ?_
              refine lv_iload hx hb dX3_walk_159 (lv_at hl 0 rfl) ?_
              refine lv_iload_n hx hb dX3_walk_161 rfl (lv_at hl 6 rfl) ?_
              refine lv_iconst (v := 1) hx hb dX3_walk_162 (by decide) ?_
              refine lv_iadd hx hb dX3_walk_163 ?_
              refine xM_l (va_runV (As := [.ref (w.2.2 (18 + 2 * k)), .int (G_X3_secondOf t n), .int (dp + (1 : Int32))]) (rest := [.long (0 : Int64), .int (G_X3_firstOf t n), .ref (w.2.2 (18 + 2 * k))]) ⟨hx, hb, hml, hown, hts⟩ (ih x (G_X3_secondOf t n) (dp + (1 : Int32)) (rec_hd hd b1)) (cwV 3 hts gX3_walk_X3_walk rfl rfl rfl dv_X3_walk (rec_room 4 105 32 13 (by decide))) (wPreV hP hK (ci := 4) (q0 := 5) rfl rfl) rfl rfl hl.1 rfl (lv_room (Nat.le_of_ble_eq_true rfl)) dX3_walk_164 ⟨Nat.zero_le _, Nat.zero_le _⟩) hS (fun H locs hP hS => ?_)
              have hP : va_P w.1 vwCl (wC w c t r (va_up s k ((G_X3_walk c t d x (G_X3_secondOf t n) (dp + (1 : Int32))).2))) H := hP
              refine xM_v (va_runV (As := [.int (G_X3_firstOf t n), .long (0 : Int64), .long ((G_X3_walk c t d x (G_X3_secondOf t n) (dp + (1 : Int32))).1)]) (rest := []) ⟨hx, hb, hml, hown, hts⟩ (c_X2_save l w hA c t r s k hk ((G_X3_walk c t d x (G_X3_secondOf t n) (dp + (1 : Int32))).2) (G_X3_firstOf t n) (0 : Int64) ((G_X3_walk c t d x (G_X3_secondOf t n) (dp + (1 : Int32))).1) hc) (cwV 3 hts gX3_walk_X2_save rfl rfl rfl dv_X2_save (rec_roomc 4 105 32 (by decide) (by decide))) (wPreV hP hK (ci := 3) (q0 := (18 + 2 * k)) rfl (wC_ox hk)) rfl rfl hl.1 rfl (lv_room (Nat.le_of_ble_eq_true rfl)) dX3_walk_167 ⟨Nat.zero_le _, Nat.zero_le _⟩) hS (fun H locs hP hS => ?_)
              have hP : va_P w.1 vwCl (wC w c t r (va_up s k (G_X2_save c ((G_X3_walk c t d x (G_X3_secondOf t n) (dp + (1 : Int32))).2) (G_X3_firstOf t n) (0 : Int64) ((G_X3_walk c t d x (G_X3_secondOf t n) (dp + (1 : Int32))).1)))) H := hP
              refine lv_lconst (v := 0) hx hb dX3_walk_170 (by decide) ?_
              have e9 : G_X3_walk c t (d + 1) x n dp = ((0 : Int64), G_X2_save c ((G_X3_walk c t d x (G_X3_secondOf t n) (dp + (1 : Int32))).2) (G_X3_firstOf t n) (0 : Int64) ((G_X3_walk c t d x (G_X3_secondOf t n) (dp + (1 : Int32))).1)) := Eq.trans (Eq.trans (Eq.trans (Eq.trans (Eq.trans (Eq.trans (Eq.trans rfl (if_neg b1)) (if_neg b2)) (if_pos b3)) (if_pos b4)) (if_neg b5)) (if_neg b6)) (if_pos b7)
              exact xM_lret hx hb hr hlk  hS (by rw [e9]) (by rw [e9]; exact hP) dX3_walk_171
            by_cases b8 : (G_X3_kindOf t n) = (10 : Int32)
            ·
              refine xTabK (tgt := 172) (z := 10) hx hb dX3_walk_61 (by rw [b8]; decide) (by decide +kernel) ?_
              refine lv_aload_n hx hb dX3_walk_172 rfl (lv_at hl 3 rfl) ?_
              refine lv_aload_n hx hb dX3_walk_173 rfl (lv_at hl 4 rfl) ?_
              refine lv_aload_n hx hb dX3_walk_174 rfl (lv_at hl 3 rfl) ?_
              refine lv_iload hx hb dX3_walk_175 (lv_at hl 0 rfl) ?_
              refine xR_i (va_runV (As := [.int (G_X3_secondOf t n)]) (rest := [.ref (w.2.2 (18 + 2 * k)), .ref (w.2.2 5)]) ⟨hx, hb, hml, hown, hts⟩ (c_X3_firstOf l w c t r (va_up s k x) (G_X3_secondOf t n) ht) (cwV 1 hts gX3_walk_X3_firstOf rfl rfl rfl dv_X3_firstOf (rec_roomc 4 105 32 (by decide) (by decide))) (wPreV hP hK (ci := 4) (q0 := 5) rfl rfl) rfl rfl hl.1 rfl (lv_room (Nat.le_of_ble_eq_true rfl)) dX3_walk_177 ⟨Nat.zero_le _, Nat.zero_le _⟩) ?_
              refine lv_iload_n hx hb dX3_walk_180 rfl (lv_at hl 6 rfl) ?_
              refine lv_iconst (v := 1) hx hb dX3_walk_181 (by decide) ?_
              refine lv_iadd hx hb dX3_walk_182 ?_
              refine xM_l (va_runV (As := [.ref (w.2.2 (18 + 2 * k)), .int (G_X3_firstOf t (G_X3_secondOf t n)), .int (dp + (1 : Int32))]) (rest := []) ⟨hx, hb, hml, hown, hts⟩ (ih x (G_X3_firstOf t (G_X3_secondOf t n)) (dp + (1 : Int32)) (rec_hd hd b1)) (cwV 3 hts gX3_walk_X3_walk rfl rfl rfl dv_X3_walk (rec_room 4 105 32 13 (by decide))) (wPreV hP hK (ci := 4) (q0 := 5) rfl rfl) rfl rfl hl.1 rfl (lv_room (Nat.le_of_ble_eq_true rfl)) dX3_walk_183 ⟨Nat.zero_le _, Nat.zero_le _⟩) hS (fun H locs hP hS => ?_)
              have hP : va_P w.1 vwCl (wC w c t r (va_up s k ((G_X3_walk c t d x (G_X3_firstOf t (G_X3_secondOf t n)) (dp + (1 : Int32))).2))) H := hP
              refine lv_lstore (lv' := [(7, .long ((G_X3_walk c t d x (G_X3_firstOf t (G_X3_secondOf t n)) (dp + (1 : Int32))).1)), (6, .int (G_X3_secondOf t n)), (5, .int (G_X3_firstOf t n)), (4, .int (G_X3_kindOf t n)), (0, .ref (w.2.2 5)), (1, .ref (w.2.2 (18 + 2 * k))), (2, .int n), (3, .int dp)]) hx hb dX3_walk_186 hl (by decide) rfl (fun ls hl => ?_)
              refine lv_aload_n hx hb dX3_walk_188 rfl (lv_at hl 5 rfl) ?_
              refine lv_iload hx hb dX3_walk_189 (lv_at hl 2 rfl) ?_
              refine lv_lload hx hb dX3_walk_191 (lv_at hl 0 rfl) ?_
              refine lv_aload_n hx hb dX3_walk_193 rfl (lv_at hl 4 rfl) ?_
              refine lv_aload_n hx hb dX3_walk_194 rfl (lv_at hl 5 rfl) ?_
              refine lv_aload_n hx hb dX3_walk_195 rfl (lv_at hl 4 rfl) ?_
              refine lv_iload hx hb dX3_walk_196 (lv_at hl 1 rfl) ?_
              refine xR_i (va_runV (As := [.int (G_X3_secondOf t n)]) (rest := [.ref (w.2.2 (18 + 2 * k)), .ref (w.2.2 5), .long ((G_X3_walk c t d x (G_X3_firstOf t (G_X3_secondOf t n)) (dp + (1 : Int32))).1), .int (G_X3_firstOf t n), .ref (w.2.2 (18 + 2 * k))]) ⟨hx, hb, hml, hown, hts⟩ (c_X3_secondOf l w c t r (va_up s k ((G_X3_walk c t d x (G_X3_firstOf t (G_X3_secondOf t n)) (dp + (1 : Int32))).2)) (G_X3_secondOf t n) ht) (cwV 1 hts gX3_walk_X3_secondOf rfl rfl rfl dv_X3_secondOf (rec_roomc 4 105 32 (by decide) (by decide))) (wPreV hP hK (ci := 4) (q0 := 5) rfl rfl) rfl rfl hl.1 rfl (lv_room (Nat.le_of_ble_eq_true rfl)) dX3_walk_198 ⟨Nat.zero_le _, Nat.zero_le _⟩) ?_
              refine lv_iload_n hx hb dX3_walk_201 rfl (lv_at hl 7 rfl) ?_
              refine lv_iconst (v := 1) hx hb dX3_walk_202 (by decide) ?_
              refine lv_iadd hx hb dX3_walk_203 ?_
              refine xM_l (va_runV (As := [.ref (w.2.2 (18 + 2 * k)), .int (G_X3_secondOf t (G_X3_secondOf t n)), .int (dp + (1 : Int32))]) (rest := [.long ((G_X3_walk c t d x (G_X3_firstOf t (G_X3_secondOf t n)) (dp + (1 : Int32))).1), .int (G_X3_firstOf t n), .ref (w.2.2 (18 + 2 * k))]) ⟨hx, hb, hml, hown, hts⟩ (ih ((G_X3_walk c t d x (G_X3_firstOf t (G_X3_secondOf t n)) (dp + (1 : Int32))).2) (G_X3_secondOf t (G_X3_secondOf t n)) (dp + (1 : Int32)) (rec_hd hd b1)) (cwV 3 hts gX3_walk_X3_walk rfl rfl rfl dv_X3_walk (rec_room 4 105 32 13 (by decide))) (wPreV hP hK (ci := 4) (q0 := 5) rfl rfl) rfl rfl hl.1 rfl (lv_room (Nat.le_of_ble_eq_true rfl)) dX3_walk_204 ⟨Nat.zero_le _, Nat.zero_le _⟩) hS (fun H locs hP hS => ?_)
              have hP : va_P w.1 vwCl (wC w c t r (va_up s k ((G_X3_walk c t d ((G_X3_walk c t d x (G_X3_firstOf t (G_X3_secondOf t n)) (dp + (1 : Int32))).2) (G_X3_secondOf t (G_X3_secondOf t n)) (dp + (1 : Int32))).2))) H := hP
              refine xM_v (va_runV (As := [.int (G_X3_firstOf t n), .long ((G_X3_walk c t d x (G_X3_firstOf t (G_X3_secondOf t n)) (dp + (1 : Int32))).1), .long ((G_X3_walk c t d ((G_X3_walk c t d x (G_X3_firstOf t (G_X3_secondOf t n)) (dp + (1 : Int32))).2) (G_X3_secondOf t (G_X3_secondOf t n)) (dp + (1 : Int32))).1)]) (rest := []) ⟨hx, hb, hml, hown, hts⟩ (c_X2_save l w hA c t r s k hk ((G_X3_walk c t d ((G_X3_walk c t d x (G_X3_firstOf t (G_X3_secondOf t n)) (dp + (1 : Int32))).2) (G_X3_secondOf t (G_X3_secondOf t n)) (dp + (1 : Int32))).2) (G_X3_firstOf t n) ((G_X3_walk c t d x (G_X3_firstOf t (G_X3_secondOf t n)) (dp + (1 : Int32))).1) ((G_X3_walk c t d ((G_X3_walk c t d x (G_X3_firstOf t (G_X3_secondOf t n)) (dp + (1 : Int32))).2) (G_X3_secondOf t (G_X3_secondOf t n)) (dp + (1 : Int32))).1) hc) (cwV 3 hts gX3_walk_X2_save rfl rfl rfl dv_X2_save (rec_roomc 4 105 32 (by decide) (by decide))) (wPreV hP hK (ci := 3) (q0 := (18 + 2 * k)) rfl (wC_ox hk)) rfl rfl hl.1 rfl (lv_room (Nat.le_of_ble_eq_true rfl)) dX3_walk_207 ⟨Nat.zero_le _, Nat.zero_le _⟩) hS (fun H locs hP hS => ?_)
              have hP : va_P w.1 vwCl (wC w c t r (va_up s k (G_X2_save c ((G_X3_walk c t d ((G_X3_walk c t d x (G_X3_firstOf t (G_X3_secondOf t n)) (dp + (1 : Int32))).2) (G_X3_secondOf t (G_X3_secondOf t n)) (dp + (1 : Int32))).2) (G_X3_firstOf t n) ((G_X3_walk c t d x (G_X3_firstOf t (G_X3_secondOf t n)) (dp + (1 : Int32))).1) ((G_X3_walk c t d ((G_X3_walk c t d x (G_X3_firstOf t (G_X3_secondOf t n)) (dp + (1 : Int32))).2) (G_X3_secondOf t (G_X3_secondOf t n)) (dp + (1 : Int32))).1)))) H := hP
              refine lv_lconst (v := 0) hx hb dX3_walk_210 (by decide) ?_
              have e9 : G_X3_walk c t (d + 1) x n dp = ((0 : Int64), G_X2_save c ((G_X3_walk c t d ((G_X3_walk c t d x (G_X3_firstOf t (G_X3_secondOf t n)) (dp + (1 : Int32))).2) (G_X3_secondOf t (G_X3_secondOf t n)) (dp + (1 : Int32))).2) (G_X3_firstOf t n) ((G_X3_walk c t d x (G_X3_firstOf t (G_X3_secondOf t n)) (dp + (1 : Int32))).1) ((G_X3_walk c t d ((G_X3_walk c t d x (G_X3_firstOf t (G_X3_secondOf t n)) (dp + (1 : Int32))).2) (G_X3_secondOf t (G_X3_secondOf t n)) (dp + (1 : Int32))).1)) := Eq.trans (Eq.trans (Eq.trans (Eq.trans (Eq.trans (Eq.trans (Eq.trans (Eq.trans rfl (if_neg b1)) (if_neg b2)) (if_pos b3)) (if_pos b4)) (if_neg b5)) (if_neg b6)) (if_neg b7)) (if_pos b8)
              exact xM_lret hx hb hr hlk  hS (by rw [e9]) (by rw [e9]; exact hP) dX3_walk_211
            by_cases b9 : (G_X3_kindOf t n) = (11 : Int32)
            ·
              refine xTabK (tgt := 212) (z := 11) hx hb dX3_walk_61 (by rw [b9]; decide) (by decide +kernel) ?_
              refine lv_aload_n hx hb dX3_walk_212 rfl (lv_at hl 3 rfl) ?_
              refine lv_aload_n hx hb dX3_walk_213 rfl (lv_at hl 4 rfl) ?_
              refine lv_iload hx hb dX3_walk_214 (lv_at hl 1 rfl) ?_
              refine lv_iload_n hx hb dX3_walk_216 rfl (lv_at hl 6 rfl) ?_
              refine lv_iconst (v := 1) hx hb dX3_walk_217 (by decide) ?_
              refine lv_iadd hx hb dX3_walk_218 ?_
              refine xM_l (va_runV (As := [.ref (w.2.2 (18 + 2 * k)), .int (G_X3_firstOf t n), .int (dp + (1 : Int32))]) (rest := []) ⟨hx, hb, hml, hown, hts⟩ (ih x (G_X3_firstOf t n) (dp + (1 : Int32)) (rec_hd hd b1)) (cwV 3 hts gX3_walk_X3_walk rfl rfl rfl dv_X3_walk (rec_room 4 105 32 13 (by decide))) (wPreV hP hK (ci := 4) (q0 := 5) rfl rfl) rfl rfl hl.1 rfl (lv_room (Nat.le_of_ble_eq_true rfl)) dX3_walk_219 ⟨Nat.zero_le _, Nat.zero_le _⟩) hS (fun H locs hP hS => ?_)
              have hP : va_P w.1 vwCl (wC w c t r (va_up s k ((G_X3_walk c t d x (G_X3_firstOf t n) (dp + (1 : Int32))).2))) H := hP
              refine lv_pop2_2 hx hb dX3_walk_222 rfl ?_
              refine lv_aload_n hx hb dX3_walk_223 rfl (lv_at hl 3 rfl) ?_
              refine lv_aload_n hx hb dX3_walk_224 rfl (lv_at hl 4 rfl) ?_
              refine lv_iload hx hb dX3_walk_225 (lv_at hl 0 rfl) ?_
              refine lv_iload_n hx hb dX3_walk_227 rfl (lv_at hl 6 rfl) ?_
              refine lv_iconst (v := 1) hx hb dX3_walk_228 (by decide) ?_
              refine lv_iadd hx hb dX3_walk_229 ?_
              refine xM_l (va_runV (As := [.ref (w.2.2 (18 + 2 * k)), .int (G_X3_secondOf t n), .int (dp + (1 : Int32))]) (rest := []) ⟨hx, hb, hml, hown, hts⟩ (ih ((G_X3_walk c t d x (G_X3_firstOf t n) (dp + (1 : Int32))).2) (G_X3_secondOf t n) (dp + (1 : Int32)) (rec_hd hd b1)) (cwV 3 hts gX3_walk_X3_walk rfl rfl rfl dv_X3_walk (rec_room 4 105 32 13 (by decide))) (wPreV hP hK (ci := 4) (q0 := 5) rfl rfl) rfl rfl hl.1 rfl (lv_room (Nat.le_of_ble_eq_true rfl)) dX3_walk_230 ⟨Nat.zero_le _, Nat.zero_le _⟩) hS (fun H locs hP hS => ?_)
              have hP : va_P w.1 vwCl (wC w c t r (va_up s k ((G_X3_walk c t d ((G_X3_walk c t d x (G_X3_firstOf t n) (dp + (1 : Int32))).2) (G_X3_secondOf t n) (dp + (1 : Int32))).2))) H := hP
              refine lv_pop2_2 hx hb dX3_walk_233 rfl ?_
              refine lv_lconst (v := 0) hx hb dX3_walk_234 (by decide) ?_
              have e9 : G_X3_walk c t (d + 1) x n dp = ((0 : Int64), (G_X3_walk c t d ((G_X3_walk c t d x (G_X3_firstOf t n) (dp + (1 : Int32))).2) (G_X3_secondOf t n) (dp + (1 : Int32))).2) := Eq.trans (Eq.trans (Eq.trans (Eq.trans (Eq.trans (Eq.trans (Eq.trans (Eq.trans (Eq.trans rfl (if_neg b1)) (if_neg b2)) (if_pos b3)) (if_pos b4)) (if_neg b5)) (if_neg b6)) (if_neg b7)) (if_neg b8)) (if_pos b9)
              exact xM_lret hx hb hr hlk  hS (by rw [e9]) (by rw [e9]; exact hP) dX3_walk_235
            by_cases b10 : (G_X3_kindOf t n) = (12 : Int32)
            ·
              refine xTabK (tgt := 236) (z := 12) hx hb dX3_walk_61 (by rw [b10]; decide) (by decide +kernel) ?_
              refine lv_aload_n hx hb dX3_walk_236 rfl (lv_at hl 3 rfl) ?_
              refine lv_aload_n hx hb dX3_walk_237 rfl (lv_at hl 4 rfl) ?_
              refine lv_iload hx hb dX3_walk_238 (lv_at hl 1 rfl) ?_
              refine lv_iload_n hx hb dX3_walk_240 rfl (lv_at hl 6 rfl) ?_
              refine lv_iconst (v := 1) hx hb dX3_walk_241 (by decide) ?_
              refine lv_iadd hx hb dX3_walk_242 ?_
              refine xM_l (va_runV (As := [.ref (w.2.2 (18 + 2 * k)), .int (G_X3_firstOf t n), .int (dp + (1 : Int32))]) (rest := []) ⟨hx, hb, hml, hown, hts⟩ (ih x (G_X3_firstOf t n) (dp + (1 : Int32)) (rec_hd hd b1)) (cwV 3 hts gX3_walk_X3_walk rfl rfl rfl dv_X3_walk (rec_room 4 105 32 13 (by decide))) (wPreV hP hK (ci := 4) (q0 := 5) rfl rfl) rfl rfl hl.1 rfl (lv_room (Nat.le_of_ble_eq_true rfl)) dX3_walk_243 ⟨Nat.zero_le _, Nat.zero_le _⟩) hS (fun H locs hP hS => ?_)
              have hP : va_P w.1 vwCl (wC w c t r (va_up s k ((G_X3_walk c t d x (G_X3_firstOf t n) (dp + (1 : Int32))).2))) H := hP
              refine lv_lconst (v := 0) hx hb dX3_walk_246 (by decide) ?_
              refine W.lcmp hx hb dX3_walk_247 ?_
              refine lv_if_eq (tgt := 262) hx hb dX3_walk_248 (by decide) (fun b11 => ?_) (fun b11 => ?_)
              ·
                refine lv_lconst (v := 0) hx hb dX3_walk_262 (by decide) ?_
                have e9 : G_X3_walk c t (d + 1) x n dp = ((0 : Int64), (G_X3_walk c t d x (G_X3_firstOf t n) (dp + (1 : Int32))).2) := Eq.trans (Eq.trans (Eq.trans (Eq.trans (Eq.trans (Eq.trans (Eq.trans (Eq.trans (Eq.trans (Eq.trans (Eq.trans rfl (if_neg b1)) (if_neg b2)) (if_pos b3)) (if_pos b4)) (if_neg b5)) (if_neg b6)) (if_neg b7)) (if_neg b8)) (if_neg b9)) (if_pos b10)) (if_pos b11)
                exact xM_lret hx hb hr hlk  hS (by rw [e9]) (by rw [e9]; exact hP) dX3_walk_263
              ·
                refine lv_aload_n hx hb dX3_walk_251 rfl (lv_at hl 3 rfl) ?_
                refine lv_aload_n hx hb dX3_walk_252 rfl (lv_at hl 4 rfl) ?_
                refine lv_iload hx hb dX3_walk_253 (lv_at hl 0 rfl) ?_
                refine lv_iload_n hx hb dX3_walk_255 rfl (lv_at hl 6 rfl) ?_
                refine lv_iconst (v := 1) hx hb dX3_walk_256 (by decide) ?_
                refine lv_iadd hx hb dX3_walk_257 ?_
                refine xM_l (va_runV (As := [.ref (w.2.2 (18 + 2 * k)), .int (G_X3_secondOf t n), .int (dp + (1 : Int32))]) (rest := []) ⟨hx, hb, hml, hown, hts⟩ (ih ((G_X3_walk c t d x (G_X3_firstOf t n) (dp + (1 : Int32))).2) (G_X3_secondOf t n) (dp + (1 : Int32)) (rec_hd hd b1)) (cwV 3 hts gX3_walk_X3_walk rfl rfl rfl dv_X3_walk (rec_room 4 105 32 13 (by decide))) (wPreV hP hK (ci := 4) (q0 := 5) rfl rfl) rfl rfl hl.1 rfl (lv_room (Nat.le_of_ble_eq_true rfl)) dX3_walk_258 ⟨Nat.zero_le _, Nat.zero_le _⟩) hS (fun H locs hP hS => ?_)
                have hP : va_P w.1 vwCl (wC w c t r (va_up s k ((G_X3_walk c t d ((G_X3_walk c t d x (G_X3_firstOf t n) (dp + (1 : Int32))).2) (G_X3_secondOf t n) (dp + (1 : Int32))).2))) H := hP
                refine lv_pop2_2 hx hb dX3_walk_261 rfl ?_
                refine lv_lconst (v := 0) hx hb dX3_walk_262 (by decide) ?_
                have e9 : G_X3_walk c t (d + 1) x n dp = ((0 : Int64), (G_X3_walk c t d ((G_X3_walk c t d x (G_X3_firstOf t n) (dp + (1 : Int32))).2) (G_X3_secondOf t n) (dp + (1 : Int32))).2) := Eq.trans (Eq.trans (Eq.trans (Eq.trans (Eq.trans (Eq.trans (Eq.trans (Eq.trans (Eq.trans (Eq.trans (Eq.trans rfl (if_neg b1)) (if_neg b2)) (if_pos b3)) (if_pos b4)) (if_neg b5)) (if_neg b6)) (if_neg b7)) (if_neg b8)) (if_neg b9)) (if_pos b10)) (if_neg b11)
                exact xM_lret hx hb hr hlk  hS (by rw [e9]) (by rw [e9]; exact hP) dX3_walk_263
            by_cases b12 : (G_X3_kindOf t n) = (13 : Int32)
            ·
              refine xTabK (tgt := 264) (z := 13) hx hb dX3_walk_61 (by rw [b12]; decide) (by decide +kernel) ?_
              refine lv_aload_n hx hb dX3_walk_264 rfl (lv_at hl 3 rfl) ?_
              refine lv_aload_n hx hb dX3_walk_265 rfl (lv_at hl 4 rfl) ?_
              refine lv_iload hx hb dX3_walk_266 (lv_at hl 1 rfl) ?_
              refine lv_iload_n hx hb dX3_walk_268 rfl (lv_at hl 6 rfl) ?_
              refine lv_iconst (v := 1) hx hb dX3_walk_269 (by decide) ?_
              refine lv_iadd hx hb dX3_walk_270 ?_
              refine xM_l (va_runV (As := [.ref (w.2.2 (18 + 2 * k)), .int (G_X3_firstOf t n), .int (dp + (1 : Int32))]) (rest := []) ⟨hx, hb, hml, hown, hts⟩ (ih x (G_X3_firstOf t n) (dp + (1 : Int32)) (rec_hd hd b1)) (cwV 3 hts gX3_walk_X3_walk rfl rfl rfl dv_X3_walk (rec_room 4 105 32 13 (by decide))) (wPreV hP hK (ci := 4) (q0 := 5) rfl rfl) rfl rfl hl.1 rfl (lv_room (Nat.le_of_ble_eq_true rfl)) dX3_walk_271 ⟨Nat.zero_le _, Nat.zero_le _⟩) hS (fun H locs hP hS => ?_)
              have hP : va_P w.1 vwCl (wC w c t r (va_up s k ((G_X3_walk c t d x (G_X3_firstOf t n) (dp + (1 : Int32))).2))) H := hP
              refine lv_ldc2 (v := 1001) hx hb hown (hts _ mw_X3_walk_k136) dX3_walk_274 ?_
              refine va_mmin_long hx hb (hml.trans hl.1.symm) hown (hts _ mw_X3_walk_m138) (hts _ mw_X3_walk_s138) (hts _ mw_X3_walk_iMath) (hts _ mw_X3_walk_c138) (Nat.le_of_ble_eq_true rfl) (Nat.le_of_ble_eq_true rfl) (Nat.zero_le _) (Nat.zero_le _) dX3_walk_277 ?_
              refine lv_lstore (lv' := [(9, .long (if (1001 : Int64) < ((G_X3_walk c t d x (G_X3_firstOf t n) (dp + (1 : Int32))).1) then (1001 : Int64) else ((G_X3_walk c t d x (G_X3_firstOf t n) (dp + (1 : Int32))).1))), (6, .int (G_X3_secondOf t n)), (5, .int (G_X3_firstOf t n)), (4, .int (G_X3_kindOf t n)), (0, .ref (w.2.2 5)), (1, .ref (w.2.2 (18 + 2 * k))), (2, .int n), (3, .int dp)]) hx hb dX3_walk_280 hl (by decide) rfl (fun ls hl => ?_)
              refine lv_lconst (v := 0) hx hb dX3_walk_282 (by decide) ?_
              refine lv_lstore (lv' := [(11, .long (0 : Int64)), (9, .long (if (1001 : Int64) < ((G_X3_walk c t d x (G_X3_firstOf t n) (dp + (1 : Int32))).1) then (1001 : Int64) else ((G_X3_walk c t d x (G_X3_firstOf t n) (dp + (1 : Int32))).1))), (6, .int (G_X3_secondOf t n)), (5, .int (G_X3_firstOf t n)), (4, .int (G_X3_kindOf t n)), (0, .ref (w.2.2 5)), (1, .ref (w.2.2 (18 + 2 * k))), (2, .int n), (3, .int dp)]) hx hb dX3_walk_283 hl (by decide) rfl (fun ls hl => ?_)
              exact L_X3_walk_L285 l w hA c t r s k hk hc ht d n dp (G_X3_secondOf t n) (fun x => G_X3_walk c t d x (G_X3_secondOf t n) (dp + (1 : Int32))) hx hb hr hml hts hown hlk hK (fun x => ih x (G_X3_secondOf t n) (dp + (1 : Int32)) (rec_hd hd b1)) _ 1003 (if (1001 : Int64) < ((G_X3_walk c t d x (G_X3_firstOf t n) (dp + (1 : Int32))).1) then (1001 : Int64) else ((G_X3_walk c t d x (G_X3_firstOf t n) (dp + (1 : Int32))).1)) (0 : Int64) ((G_X3_walk c t d x (G_X3_firstOf t n) (dp + (1 : Int32))).2) _ _ hP hS (okX3_walkL _ _ _) (Eq.trans (Eq.trans (Eq.trans (Eq.trans (Eq.trans (Eq.trans (Eq.trans (Eq.trans (Eq.trans (Eq.trans (Eq.trans rfl (if_neg b1)) (if_neg b2)) (if_pos b3)) (if_pos b4)) (if_neg b5)) (if_neg b6)) (if_neg b7)) (if_neg b8)) (if_neg b9)) (if_neg b10)) (if_pos b12)) ls (lv_sub hl [5, 6, 8, 2, 1, 0] rfl)
            refine xTabD (tgt := 326) (exc := [1, 2, 9, 10, 11, 12, 13]) hx hb dX3_walk_61 (xCons (lv_neT b5 (by decide)) (xCons (lv_neT b6 (by decide)) (xCons (lv_neT b7 (by decide)) (xCons (lv_neT b8 (by decide)) (xCons (lv_neT b9 (by decide)) (xCons (lv_neT b10 (by decide)) (xCons (lv_neT b12 (by decide)) xNil))))))) (by decide) (by decide +kernel) ?_
            refine lv_aload_n hx hb dX3_walk_326 rfl (lv_at hl 3 rfl) ?_
            refine lv_aload_n hx hb dX3_walk_327 rfl (lv_at hl 4 rfl) ?_
            refine lv_iload hx hb dX3_walk_328 (lv_at hl 1 rfl) ?_
            refine lv_iload_n hx hb dX3_walk_330 rfl (lv_at hl 6 rfl) ?_
            refine lv_iconst (v := 1) hx hb dX3_walk_331 (by decide) ?_
            refine lv_iadd hx hb dX3_walk_332 ?_
            refine xM_l (va_runV (As := [.ref (w.2.2 (18 + 2 * k)), .int (G_X3_firstOf t n), .int (dp + (1 : Int32))]) (rest := []) ⟨hx, hb, hml, hown, hts⟩ (ih x (G_X3_firstOf t n) (dp + (1 : Int32)) (rec_hd hd b1)) (cwV 3 hts gX3_walk_X3_walk rfl rfl rfl dv_X3_walk (rec_room 4 105 32 13 (by decide))) (wPreV hP hK (ci := 4) (q0 := 5) rfl rfl) rfl rfl hl.1 rfl (lv_room (Nat.le_of_ble_eq_true rfl)) dX3_walk_333 ⟨Nat.zero_le _, Nat.zero_le _⟩) hS (fun H locs hP hS => ?_)
            have hP : va_P w.1 vwCl (wC w c t r (va_up s k ((G_X3_walk c t d x (G_X3_firstOf t n) (dp + (1 : Int32))).2))) H := hP
            refine lv_lstore (lv' := [(11, .long ((G_X3_walk c t d x (G_X3_firstOf t n) (dp + (1 : Int32))).1)), (6, .int (G_X3_secondOf t n)), (5, .int (G_X3_firstOf t n)), (4, .int (G_X3_kindOf t n)), (0, .ref (w.2.2 5)), (1, .ref (w.2.2 (18 + 2 * k))), (2, .int n), (3, .int dp)]) hx hb dX3_walk_336 hl (by decide) rfl (fun ls hl => ?_)
            refine lv_aload_n hx hb dX3_walk_338 rfl (lv_at hl 5 rfl) ?_
            refine lv_iload hx hb dX3_walk_339 (lv_at hl 3 rfl) ?_
            refine lv_lload hx hb dX3_walk_341 (lv_at hl 0 rfl) ?_
            refine lv_aload_n hx hb dX3_walk_343 rfl (lv_at hl 4 rfl) ?_
            refine lv_aload_n hx hb dX3_walk_344 rfl (lv_at hl 5 rfl) ?_
            refine lv_iload hx hb dX3_walk_345 (lv_at hl 1 rfl) ?_
            refine lv_iload_n hx hb dX3_walk_347 rfl (lv_at hl 7 rfl) ?_
            refine lv_iconst (v := 1) hx hb dX3_walk_348 (by decide) ?_
            refine lv_iadd hx hb dX3_walk_349 ?_
            refine xM_l (va_runV (As := [.ref (w.2.2 (18 + 2 * k)), .int (G_X3_secondOf t n), .int (dp + (1 : Int32))]) (rest := [.long ((G_X3_walk c t d x (G_X3_firstOf t n) (dp + (1 : Int32))).1), .int (G_X3_kindOf t n), .ref (w.2.2 (18 + 2 * k))]) ⟨hx, hb, hml, hown, hts⟩ (ih ((G_X3_walk c t d x (G_X3_firstOf t n) (dp + (1 : Int32))).2) (G_X3_secondOf t n) (dp + (1 : Int32)) (rec_hd hd b1)) (cwV 3 hts gX3_walk_X3_walk rfl rfl rfl dv_X3_walk (rec_room 4 105 32 13 (by decide))) (wPreV hP hK (ci := 4) (q0 := 5) rfl rfl) rfl rfl hl.1 rfl (lv_room (Nat.le_of_ble_eq_true rfl)) dX3_walk_350 ⟨Nat.zero_le _, Nat.zero_le _⟩) hS (fun H locs hP hS => ?_)
            have hP : va_P w.1 vwCl (wC w c t r (va_up s k ((G_X3_walk c t d ((G_X3_walk c t d x (G_X3_firstOf t n) (dp + (1 : Int32))).2) (G_X3_secondOf t n) (dp + (1 : Int32))).2))) H := hP
            refine xM_l (va_runV (As := [.int (G_X3_kindOf t n), .long ((G_X3_walk c t d x (G_X3_firstOf t n) (dp + (1 : Int32))).1), .long ((G_X3_walk c t d ((G_X3_walk c t d x (G_X3_firstOf t n) (dp + (1 : Int32))).2) (G_X3_secondOf t n) (dp + (1 : Int32))).1)]) (rest := []) ⟨hx, hb, hml, hown, hts⟩ (c_X2_result l w hA c t r s k hk ((G_X3_walk c t d ((G_X3_walk c t d x (G_X3_firstOf t n) (dp + (1 : Int32))).2) (G_X3_secondOf t n) (dp + (1 : Int32))).2) (G_X3_kindOf t n) ((G_X3_walk c t d x (G_X3_firstOf t n) (dp + (1 : Int32))).1) ((G_X3_walk c t d ((G_X3_walk c t d x (G_X3_firstOf t n) (dp + (1 : Int32))).2) (G_X3_secondOf t n) (dp + (1 : Int32))).1) ) (cwV 3 hts gX3_walk_X2_result rfl rfl rfl dv_X2_result (rec_roomc 4 105 32 (by decide) (by decide))) (wPreV hP hK (ci := 3) (q0 := (18 + 2 * k)) rfl (wC_ox hk)) rfl rfl hl.1 rfl (lv_room (Nat.le_of_ble_eq_true rfl)) dX3_walk_353 ⟨Nat.zero_le _, Nat.zero_le _⟩) hS (fun H locs hP hS => ?_)
            have hP : va_P w.1 vwCl (wC w c t r (va_up s k ((G_X2_result ((G_X3_walk c t d ((G_X3_walk c t d x (G_X3_firstOf t n) (dp + (1 : Int32))).2) (G_X3_secondOf t n) (dp + (1 : Int32))).2) (G_X3_kindOf t n) ((G_X3_walk c t d x (G_X3_firstOf t n) (dp + (1 : Int32))).1) ((G_X3_walk c t d ((G_X3_walk c t d x (G_X3_firstOf t n) (dp + (1 : Int32))).2) (G_X3_secondOf t n) (dp + (1 : Int32))).1)).2))) H := hP
            have e9 : G_X3_walk c t (d + 1) x n dp = ((G_X2_result ((G_X3_walk c t d ((G_X3_walk c t d x (G_X3_firstOf t n) (dp + (1 : Int32))).2) (G_X3_secondOf t n) (dp + (1 : Int32))).2) (G_X3_kindOf t n) ((G_X3_walk c t d x (G_X3_firstOf t n) (dp + (1 : Int32))).1) ((G_X3_walk c t d ((G_X3_walk c t d x (G_X3_firstOf t n) (dp + (1 : Int32))).2) (G_X3_secondOf t n) (dp + (1 : Int32))).1)).1, (G_X2_result ((G_X3_walk c t d ((G_X3_walk c t d x (G_X3_firstOf t n) (dp + (1 : Int32))).2) (G_X3_secondOf t n) (dp + (1 : Int32))).2) (G_X3_kindOf t n) ((G_X3_walk c t d x (G_X3_firstOf t n) (dp + (1 : Int32))).1) ((G_X3_walk c t d ((G_X3_walk c t d x (G_X3_firstOf t n) (dp + (1 : Int32))).2) (G_X3_secondOf t n) (dp + (1 : Int32))).1)).2) := Eq.trans (Eq.trans (Eq.trans (Eq.trans (Eq.trans (Eq.trans (Eq.trans (Eq.trans (Eq.trans (Eq.trans (Eq.trans rfl (if_neg b1)) (if_neg b2)) (if_pos b3)) (if_pos b4)) (if_neg b5)) (if_neg b6)) (if_neg b7)) (if_neg b8)) (if_neg b9)) (if_neg b10)) (if_neg b12)
            exact xM_lret hx hb hr hlk  hS (by rw [e9]) (by rw [e9]; exact hP) dX3_walk_356
          ·
            refine lv_aload_n hx hb dX3_walk_32 rfl (lv_at hl 0 rfl) ?_
            refine lv_iload_n hx hb dX3_walk_33 rfl (lv_at hl 2 rfl) ?_
            refine xR_l (va_runV (As := [.int n]) (rest := []) ⟨hx, hb, hml, hown, hts⟩ (c_X3_foldedOf l w c t r (va_up s k x) n ht) (cwV 1 hts gX3_walk_X3_foldedOf rfl rfl rfl dv_X3_foldedOf (rec_roomc 4 105 32 (by decide) (by decide))) (wPreV hP hK (ci := 4) (q0 := 5) rfl rfl) rfl rfl hl.1 rfl (lv_room (Nat.le_of_ble_eq_true rfl)) dX3_walk_34 ⟨Nat.zero_le _, Nat.zero_le _⟩) ?_
            have e9 : G_X3_walk c t (d + 1) x n dp = (G_X3_foldedOf t n, x) := Eq.trans (Eq.trans (Eq.trans (Eq.trans rfl (if_neg b1)) (if_neg b2)) (if_pos b3)) (if_neg b4)
            exact xM_lret hx hb hr hlk  hS (by rw [e9]) (by rw [e9]; exact hP) dX3_walk_37
        ·
          refine lv_lconst (v := 0) hx hb dX3_walk_22 (by decide) ?_
          have e9 : G_X3_walk c t (d + 1) x n dp = ((0 : Int64), x) := Eq.trans (Eq.trans (Eq.trans rfl (if_neg b1)) (if_neg b2)) (if_neg b3)
          exact xM_lret hx hb hr hlk  hS (by rw [e9]) (by rw [e9]; exact hP) dX3_walk_23
set_option maxRecDepth 20000 in
theorem dv_X2_begin : yX2_begin.cls = RX2 ∧ yX2_begin.cls ≠ "java/lang/invoke/MethodHandle" ∧ yX2_begin.cls ≠ "java/lang/invoke/VarHandle" ∧ (parseMethodDescriptor yX2_begin.desc).map (fun d => d.parameters.length) = some 0 := by decide +kernel
def G_X3_walkAll (c : CS) (t : TS) (x : SS) (n : Int32) : SS := (G_X3_walk c t 200 (G_X2_begin x) n (1 : Int32)).2
set_option maxHeartbeats 4000000 in
set_option maxRecDepth 100000 in
theorem c_X3_walkAll (l : Launch) (w : WG) (hA : wAp w 26) (c : CS) (t : TS) (r : RS) (s : Nat → SS) (k : Nat) (hk : k < 4) (x : SS) (n : Int32) (hc : okC c) (ht : okT t) : Met l yX3_walkAll wsX3_walkAll { frames := 205, cells := 0, slots := 0, locals := 6537 } (va_Pc [.ref (w.2.2 5), .ref (w.2.2 (18 + 2 * k)), .int n] (wPK w (wC w c t r (va_up s k x)))) (xM none (fun H => va_P w.1 vwCl (wC w c t r (va_up s k (G_X3_walkAll c t x n))) H) (wA w 26)) 0 0 (wA w 26) := by
  refine xOf (cc := cX3_walkAll) (maxL := 3) (ret := none) (lv := [(0, .ref (w.2.2 5)), (1, .ref (w.2.2 (18 + 2 * k))), (2, .int n)]) (by decide) rfl (Nat.le_of_ble_eq_true rfl) rfl ?_
  intro pP eE S mM below meth C hx hb hr hml hts hown hlk hnm hw ls hl
  obtain ⟨hP, hK⟩ := hw
  have hS : va_S (wA w 26) S.heap S.heap [] := va_S.rf
  have hP : va_P w.1 vwCl (wC w c t r (va_up s k x)) S.heap := hP
  refine lv_aload_n hx hb dX3_walkAll_0 rfl (lv_at hl 1 rfl) ?_
  refine xM_v (va_runV (As := []) (rest := []) ⟨hx, hb, hml, hown, hts⟩ (c_X2_begin l w hA c t r s k hk x  ) (cwV 0 hts gX3_walkAll_X2_begin rfl rfl rfl dv_X2_begin ⟨Nat.le_of_ble_eq_true rfl, Nat.le_of_ble_eq_true rfl⟩) (wPreV hP hK (ci := 3) (q0 := (18 + 2 * k)) rfl (wC_ox hk)) rfl rfl hl.1 rfl (lv_room (Nat.le_of_ble_eq_true rfl)) dX3_walkAll_1 ⟨Nat.zero_le _, Nat.zero_le _⟩) hS (fun H locs hP hS => ?_)
  have hP : va_P w.1 vwCl (wC w c t r (va_up s k (G_X2_begin x))) H := hP
  refine lv_aload_n hx hb dX3_walkAll_4 rfl (lv_at hl 0 rfl) ?_
  refine lv_aload_n hx hb dX3_walkAll_5 rfl (lv_at hl 1 rfl) ?_
  refine lv_iload_n hx hb dX3_walkAll_6 rfl (lv_at hl 2 rfl) ?_
  refine lv_iconst (v := 1) hx hb dX3_walkAll_7 (by decide) ?_
  refine xM_l (va_runV (As := [.ref (w.2.2 (18 + 2 * k)), .int n, .int (1 : Int32)]) (rest := []) ⟨hx, hb, hml, hown, hts⟩ (c_X3_walk l w hA c t r s k hk hc ht 200 (G_X2_begin x) n (1 : Int32) (by decide)) (cwV 3 hts gX3_walkAll_X3_walk rfl rfl rfl dv_X3_walk ⟨Nat.le_of_ble_eq_true rfl, Nat.le_of_ble_eq_true rfl⟩) (wPreV hP hK (ci := 4) (q0 := 5) rfl rfl) rfl rfl hl.1 rfl (lv_room (Nat.le_of_ble_eq_true rfl)) dX3_walkAll_8 ⟨Nat.zero_le _, Nat.zero_le _⟩) hS (fun H locs hP hS => ?_)
  have hP : va_P w.1 vwCl (wC w c t r (va_up s k ((G_X3_walk c t 200 (G_X2_begin x) n (1 : Int32)).2))) H := hP
  refine lv_pop2_2 hx hb dX3_walkAll_11 rfl ?_
  have e9 : G_X3_walkAll c t x n = (G_X3_walk c t 200 (G_X2_begin x) n (1 : Int32)).2 := rfl
  exact xM_vret hx hb hr hlk  hS  (by rw [e9]; exact hP) dX3_walkAll_12
