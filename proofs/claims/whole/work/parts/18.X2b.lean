set_option maxRecDepth 20000 in
theorem iw_X2_copyFrom_X2 : ∀ w ∈ wsX20, w ∈ wsX2_copyFrom := by decide +kernel
set_option maxRecDepth 20000 in
theorem fl_X2_copyFrom_9 : Cond.fieldLink RX2 9 "ProcedureCode$Storage" "bytes" "[B" ∈ wsX2_copyFrom := by decide +kernel
set_option maxRecDepth 20000 in
theorem mw_X2_copyFrom_m23 : Cond.methodLink RX2 23 arraycopyName ∈ wsX2_copyFrom := by decide +kernel
set_option maxRecDepth 20000 in
theorem mw_X2_copyFrom_n23 : Cond.native arraycopyName ∈ wsX2_copyFrom := by decide +kernel
set_option maxRecDepth 20000 in
theorem mw_X2_copyFrom_s23 : Cond.static arraycopyName ∈ wsX2_copyFrom := by decide +kernel
set_option maxRecDepth 20000 in
theorem mw_X2_copyFrom_iSys : Cond.initialized "java/lang/System" ∈ wsX2_copyFrom := by decide +kernel
def G_X2_copyFrom_2 (s : Nat → SS)  : (Nat → SS) := va_up s 2 (va_cpy ((s 0).1) ((s 2).1) 0 0 64, (s 2).2)
set_option maxHeartbeats 4000000 in
set_option maxRecDepth 100000 in
theorem c_X2_copyFrom_2 (l : Launch) (w : WG) (hA : wAp w 26) (c : CS) (t : TS) (r : RS) (s : Nat → SS) (hby : okB (s 0).1) : Met l yX2_copyFrom wsX2_copyFrom { frames := 1, cells := 0, slots := 0, locals := 60 } (va_Pc [.ref (w.2.2 22), .ref (w.2.2 18)] (wPK w (wC w c t r s))) (xM none (fun H => va_P w.1 vwCl (wC w c t r (G_X2_copyFrom_2 s)) H) (wA w 26)) 0 0 (wA w 26) := by
  refine xOf (cc := cX2_copyFrom) (maxL := 2) (ret := none) (lv := [(0, .ref (w.2.2 22)), (1, .ref (w.2.2 18))]) (by decide) rfl (Nat.le_of_ble_eq_true rfl) rfl ?_
  intro pP eE S mM below meth C hx hb hr hml hts hown hlk hnm hw ls hl
  obtain ⟨hP, hK⟩ := hw
  have hS : va_S (wA w 26) S.heap S.heap [] := va_S.rf
  have hP : va_P w.1 vwCl (wC w c t r s) S.heap := hP
  refine lv_aload_n hx hb dX2_copyFrom_0 rfl (lv_at hl 1 rfl) ?_
  refine va_get (D := w.1) (ci := 3) (v := .ref (w.2.2 19)) (C := RX2) (T := TX2) (N := 4) hx hb hts iw_X2_copyFrom_X2 hown hK.1 hP 18 rfl rfl 1 (by decide) (hts _ fl_X2_copyFrom_9) (fun _ h9 => h9) rfl dX2_copyFrom_1 ?_
  refine lv_iconst (v := 0) hx hb dX2_copyFrom_4 (by decide) ?_
  refine lv_aload_n hx hb dX2_copyFrom_5 rfl (lv_at hl 0 rfl) ?_
  refine va_get (D := w.1) (ci := 3) (v := .ref (w.2.2 23)) (C := RX2) (T := TX2) (N := 4) hx hb hts iw_X2_copyFrom_X2 hown hK.1 hP 22 rfl rfl 1 (by decide) (hts _ fl_X2_copyFrom_9) (fun _ h9 => h9) rfl dX2_copyFrom_6 ?_
  refine lv_iconst (v := 0) hx hb dX2_copyFrom_9 (by decide) ?_
  refine lv_bipush (v := 64) hx hb dX2_copyFrom_10 (by decide) ?_
  refine va_copyi hx hb (hml.trans hl.1.symm) hown (hts _ mw_X2_copyFrom_m23) (hts _ mw_X2_copyFrom_n23) (hts _ mw_X2_copyFrom_s23) (hts _ mw_X2_copyFrom_iSys) hK.1 hP (wC_D hA) hS 19 23 1 1 rfl rfl rfl rfl rfl (by decide) (by decide) (by decide) (by decide) (by decide) (fun i _ => okB_fits hby _) (Nat.le_of_ble_eq_true rfl) (by decide +kernel) dX2_copyFrom_12 (fun H locs hP _ hS => ?_)
  have hP : va_P w.1 vwCl (wC w c t r (va_up s 2 (va_cpy ((s 0).1) ((s 2).1) 0 0 64, (s 2).2))) H := wC_pb (k := 2) (by decide) hP
  have e9 : G_X2_copyFrom_2 s = va_up s 2 (va_cpy ((s 0).1) ((s 2).1) 0 0 64, (s 2).2) := rfl
  exact xM_vret hx hb hr hlk  hS  (by rw [e9]; exact hP) dX2_copyFrom_15
def G_X2_copyFrom_3 (s : Nat → SS)  : (Nat → SS) := va_up s 3 (va_cpy ((s 0).1) ((s 3).1) 0 0 64, (s 3).2)
set_option maxHeartbeats 4000000 in
set_option maxRecDepth 100000 in
theorem c_X2_copyFrom_3 (l : Launch) (w : WG) (hA : wAp w 26) (c : CS) (t : TS) (r : RS) (s : Nat → SS) (hby : okB (s 0).1) : Met l yX2_copyFrom wsX2_copyFrom { frames := 1, cells := 0, slots := 0, locals := 60 } (va_Pc [.ref (w.2.2 24), .ref (w.2.2 18)] (wPK w (wC w c t r s))) (xM none (fun H => va_P w.1 vwCl (wC w c t r (G_X2_copyFrom_3 s)) H) (wA w 26)) 0 0 (wA w 26) := by
  refine xOf (cc := cX2_copyFrom) (maxL := 2) (ret := none) (lv := [(0, .ref (w.2.2 24)), (1, .ref (w.2.2 18))]) (by decide) rfl (Nat.le_of_ble_eq_true rfl) rfl ?_
  intro pP eE S mM below meth C hx hb hr hml hts hown hlk hnm hw ls hl
  obtain ⟨hP, hK⟩ := hw
  have hS : va_S (wA w 26) S.heap S.heap [] := va_S.rf
  have hP : va_P w.1 vwCl (wC w c t r s) S.heap := hP
  refine lv_aload_n hx hb dX2_copyFrom_0 rfl (lv_at hl 1 rfl) ?_
  refine va_get (D := w.1) (ci := 3) (v := .ref (w.2.2 19)) (C := RX2) (T := TX2) (N := 4) hx hb hts iw_X2_copyFrom_X2 hown hK.1 hP 18 rfl rfl 1 (by decide) (hts _ fl_X2_copyFrom_9) (fun _ h9 => h9) rfl dX2_copyFrom_1 ?_
  refine lv_iconst (v := 0) hx hb dX2_copyFrom_4 (by decide) ?_
  refine lv_aload_n hx hb dX2_copyFrom_5 rfl (lv_at hl 0 rfl) ?_
  refine va_get (D := w.1) (ci := 3) (v := .ref (w.2.2 25)) (C := RX2) (T := TX2) (N := 4) hx hb hts iw_X2_copyFrom_X2 hown hK.1 hP 24 rfl rfl 1 (by decide) (hts _ fl_X2_copyFrom_9) (fun _ h9 => h9) rfl dX2_copyFrom_6 ?_
  refine lv_iconst (v := 0) hx hb dX2_copyFrom_9 (by decide) ?_
  refine lv_bipush (v := 64) hx hb dX2_copyFrom_10 (by decide) ?_
  refine va_copyi hx hb (hml.trans hl.1.symm) hown (hts _ mw_X2_copyFrom_m23) (hts _ mw_X2_copyFrom_n23) (hts _ mw_X2_copyFrom_s23) (hts _ mw_X2_copyFrom_iSys) hK.1 hP (wC_D hA) hS 19 25 1 1 rfl rfl rfl rfl rfl (by decide) (by decide) (by decide) (by decide) (by decide) (fun i _ => okB_fits hby _) (Nat.le_of_ble_eq_true rfl) (by decide +kernel) dX2_copyFrom_12 (fun H locs hP _ hS => ?_)
  have hP : va_P w.1 vwCl (wC w c t r (va_up s 3 (va_cpy ((s 0).1) ((s 3).1) 0 0 64, (s 3).2))) H := wC_pb (k := 3) (by decide) hP
  have e9 : G_X2_copyFrom_3 s = va_up s 3 (va_cpy ((s 0).1) ((s 3).1) 0 0 64, (s 3).2) := rfl
  exact xM_vret hx hb hr hlk  hS  (by rw [e9]; exact hP) dX2_copyFrom_15
set_option maxRecDepth 20000 in
theorem iw_X2_isLike_X2 : ∀ w ∈ wsX20, w ∈ wsX2_isLike := by decide +kernel
set_option maxRecDepth 20000 in
theorem fl_X2_isLike_29 : Cond.fieldLink RX2 29 "ProcedureCode$Storage" "raise" "I" ∈ wsX2_isLike := by decide +kernel
set_option maxRecDepth 20000 in
theorem fl_X2_isLike_9 : Cond.fieldLink RX2 9 "ProcedureCode$Storage" "bytes" "[B" ∈ wsX2_isLike := by decide +kernel
def G_X2_isLike_2_L2 (s : Nat → SS)  : Nat → Int32 → Int32
  | 0, _ => 0
  | fu + 1, i => if (64 : Int32) ≤ i then (if ((s 2).2.1) = ((s 3).2.1) then ((1 : Int32)) else ((0 : Int32))) else (if (((s 2).1) i.toNatClampNeg) = (((s 3).1) i.toNatClampNeg) then (G_X2_isLike_2_L2 s fu (i + (1 : Int32))) else ((0 : Int32)))
def OK_X2_isLike_2_L2 (s : Nat → SS)  : Nat → Int32 → Prop
  | 0, _ => False
  | fu + 1, i => if (64 : Int32) ≤ i then (if ((s 2).2.1) = ((s 3).2.1) then (True) else (True)) else ((vp_in i 64) ∧ ((vp_in i 64) ∧ (if (((s 2).1) i.toNatClampNeg) = (((s 3).1) i.toNatClampNeg) then (OK_X2_isLike_2_L2 s fu (i + (1 : Int32))) else (True))))
def G_X2_isLike_2 (s : Nat → SS)  : Int32 := G_X2_isLike_2_L2 s 70 (0 : Int32)
def OK_X2_isLike_2 (s : Nat → SS)  : Prop := OK_X2_isLike_2_L2 s 70 (0 : Int32)
set_option maxHeartbeats 4000000 in
set_option maxRecDepth 100000 in
theorem L_X2_isLike_2_L2 (l : Launch) (w : WG) (c : CS) (t : TS) (r : RS) (s : Nat → SS) {pP : Program} {eE : Env} {S : State} {mM : MethodId} {below : List Frame} {meth : Method} {C : Code} (hx : pP.tables.exec = Jvm.exec) (hb : C.code = cX2_isLike) (hr : meth.sig.returnType = (some .boolean)) (hml : C.maxLocals = 3) (hts : ∀ q9 ∈ wsX2_isLike, q9.before ([.ref (w.2.2 22), .ref (w.2.2 24)] : List Value).toArray S = true) (hown : S.vm.findClass yX2_isLike.cls = some mM.cls) (hlk : meth.locks = false) (hK : wK w S) (g : Int32) :
    ∀ (fu : Nat) (i : Int32), va_P w.1 vwCl (wC w c t r s) S.heap → OK_X2_isLike_2_L2 s fu i → g = G_X2_isLike_2_L2 s fu i → ∀ ls : Array Slot, lv_has ls 3 [(0, .ref (w.2.2 22)), (1, .ref (w.2.2 24)), (2, .int i)] → W pP l eE { frames := 0, cells := 0, slots := 0, locals := 0 } S mM ([.ref (w.2.2 22), .ref (w.2.2 24)] : List Value).toArray below meth C S.heap [] 0 0 (MQ below (xR (some (.int g))) ([.ref (w.2.2 22), .ref (w.2.2 24)] : List Value).toArray S 0 0 xNo) (F0 mM 2 ls []) := by
  intro fu
  induction fu with
  | zero =>
    intro i hP hok hg ls hl
    exact hok.elim
  | succ fu ih =>
    intro i hP hok hg ls hl
    refine lv_iload_n hx hb dX2_isLike_2 rfl (lv_at hl 2 rfl) ?_
    refine lv_bipush (v := 64) hx hb dX2_isLike_3 (by decide) ?_
    refine lv_icmp_ge (tgt := 31) hx hb dX2_isLike_5 (by decide) (fun b1 => ?_) (fun b1 => ?_)
    ·
      have k2 := Eq.mp (if_pos b1) hok
      refine lv_aload_n hx hb dX2_isLike_31 rfl (lv_at hl 0 rfl) ?_
      refine va_get (D := w.1) (ci := 3) (v := .int ((s 2).2.1)) (C := RX2) (T := TX2) (N := 4) hx hb hts iw_X2_isLike_X2 hown hK.1 hP 22 rfl rfl 2 (by decide) (hts _ fl_X2_isLike_29) (fun _ h9 => h9) rfl dX2_isLike_32 ?_
      refine lv_aload_n hx hb dX2_isLike_35 rfl (lv_at hl 1 rfl) ?_
      refine va_get (D := w.1) (ci := 3) (v := .int ((s 3).2.1)) (C := RX2) (T := TX2) (N := 4) hx hb hts iw_X2_isLike_X2 hown hK.1 hP 24 rfl rfl 2 (by decide) (hts _ fl_X2_isLike_29) (fun _ h9 => h9) rfl dX2_isLike_36 ?_
      refine lv_icmp_ne (tgt := 46) hx hb dX2_isLike_39 (by decide) (fun b3 => ?_) (fun b3 => ?_)
      ·
        have k4 := Eq.mp (if_neg b3) k2
        refine lv_iconst (v := 0) hx hb dX2_isLike_46 (by decide) ?_
        exact xR_zret hx hb hr hlk rfl (Eq.trans (Eq.trans hg (if_pos b1)) (if_neg b3)) dX2_isLike_47
      ·
        have k5 := Eq.mp (if_pos b3) k2
        refine lv_iconst (v := 1) hx hb dX2_isLike_42 (by decide) ?_
        refine lv_goto (tgt := 47) hx hb dX2_isLike_43 (by decide) ?_
        exact xR_zret hx hb hr hlk rfl (Eq.trans (Eq.trans hg (if_pos b1)) (if_pos b3)) dX2_isLike_47
    ·
      have k6 := Eq.mp (if_neg b1) hok
      refine lv_aload_n hx hb dX2_isLike_8 rfl (lv_at hl 0 rfl) ?_
      refine va_get (D := w.1) (ci := 3) (v := .ref (w.2.2 23)) (C := RX2) (T := TX2) (N := 4) hx hb hts iw_X2_isLike_X2 hown hK.1 hP 22 rfl rfl 1 (by decide) (hts _ fl_X2_isLike_9) (fun _ h9 => h9) rfl dX2_isLike_9 ?_
      refine lv_iload_n hx hb dX2_isLike_12 rfl (lv_at hl 2 rfl) ?_
      have o7 := k6.1
      have k8 := k6.2
      refine va_bald hx hb hK.1 hP 23 1 rfl rfl o7 dX2_isLike_13 ?_
      refine lv_aload_n hx hb dX2_isLike_14 rfl (lv_at hl 1 rfl) ?_
      refine va_get (D := w.1) (ci := 3) (v := .ref (w.2.2 25)) (C := RX2) (T := TX2) (N := 4) hx hb hts iw_X2_isLike_X2 hown hK.1 hP 24 rfl rfl 1 (by decide) (hts _ fl_X2_isLike_9) (fun _ h9 => h9) rfl dX2_isLike_15 ?_
      refine lv_iload_n hx hb dX2_isLike_18 rfl (lv_at hl 2 rfl) ?_
      have o9 := k8.1
      have k10 := k8.2
      refine va_bald hx hb hK.1 hP 25 1 rfl rfl o9 dX2_isLike_19 ?_
      refine lv_icmp_eq (tgt := 25) hx hb dX2_isLike_20 (by decide) (fun b11 => ?_) (fun b11 => ?_)
      ·
        have k12 := Eq.mp (if_pos b11) k10
        refine lv_iinc (v := i + (1 : Int32)) (lv' := [(2, .int (i + (1 : Int32))), (0, .ref (w.2.2 22)), (1, .ref (w.2.2 24))]) hx hb dX2_isLike_25 hl (k := 2) rfl rfl (by decide) rfl (fun ls hl => ?_)
        refine lv_goto (tgt := 2) hx hb dX2_isLike_28 (by decide) ?_
        exact ih (i + (1 : Int32)) hP k12 (Eq.trans (Eq.trans hg (if_neg b1)) (if_pos b11)) ls (lv_sub hl [1, 2, 0] rfl)
      ·
        have k13 := Eq.mp (if_neg b11) k10
        refine lv_iconst (v := 0) hx hb dX2_isLike_23 (by decide) ?_
        exact xR_zret hx hb hr hlk rfl (Eq.trans (Eq.trans hg (if_neg b1)) (if_neg b11)) dX2_isLike_24
set_option maxHeartbeats 4000000 in
set_option maxRecDepth 100000 in
theorem c_X2_isLike_2 (l : Launch) (w : WG) (c : CS) (t : TS) (r : RS) (s : Nat → SS) (hok : OK_X2_isLike_2 s) : Met l yX2_isLike wsX2_isLike { frames := 0, cells := 0, slots := 0, locals := 0 } (va_Pc [.ref (w.2.2 22), .ref (w.2.2 24)] (wPK w (wC w c t r s))) (xR (some (.int (G_X2_isLike_2 s)))) 0 0 xNo := by
  refine xOf (cc := cX2_isLike) (maxL := 3) (ret := (some .boolean)) (lv := [(0, .ref (w.2.2 22)), (1, .ref (w.2.2 24))]) (by decide) rfl (Nat.le_of_ble_eq_true rfl) rfl ?_
  intro pP eE S mM below meth C hx hb hr hml hts hown hlk hnm hw ls hl
  obtain ⟨hP, hK⟩ := hw
  refine lv_iconst (v := 0) hx hb dX2_isLike_0 (by decide) ?_
  refine lv_istore_n (lv' := [(2, .int (0 : Int32)), (0, .ref (w.2.2 22)), (1, .ref (w.2.2 24))]) hx hb dX2_isLike_1 rfl hl (by decide) rfl (fun ls hl => ?_)
  exact L_X2_isLike_2_L2 l w c t r s   hx hb hr hml hts hown hlk hK _ 70 (0 : Int32) hP hok rfl ls (lv_sub hl [1, 2, 0] rfl)
