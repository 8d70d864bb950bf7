set_option maxRecDepth 20000 in
theorem mw_X0_writeZoned_k69 : Cond.constantLong RX0 69 (48) ∈ wsX0_writeZoned := by decide +kernel
set_option maxRecDepth 20000 in
theorem mw_X0_writeZoned_k63 : Cond.constantLong RX0 63 (10) ∈ wsX0_writeZoned := by decide +kernel
def G_X0_writeZoned_L45 (x : SS) (p : Int32) (n : Int32) (v : Int64) : Nat → Int64 → Int32 → Int32 → SS → SS
  | 0, _, _, _, _ => x
  | fu + 1, rs, sg, i, xv => if i < p then (xv) else (G_X0_writeZoned_L45 x p n v fu (rs / (10 : Int64)) (0 : Int32) (i + (-1 : Int32)) (upd xv.1 i.toNatClampNeg (vp_nar .byte (((((48 : Int64) + (rs - rs / (10 : Int64) * (10 : Int64))) + sg.toInt64).toInt32).toInt8.toInt32)), xv.2.1, xv.2.2))
def OK_X0_writeZoned_L45 (x : SS) (p : Int32) (n : Int32) (v : Int64) : Nat → Int64 → Int32 → Int32 → SS → Prop
  | 0, _, _, _, _ => False
  | fu + 1, rs, sg, i, xv => if i < p then (True) else ((vp_in i 64) ∧ (OK_X0_writeZoned_L45 x p n v fu (rs / (10 : Int64)) (0 : Int32) (i + (-1 : Int32)) (upd xv.1 i.toNatClampNeg (vp_nar .byte (((((48 : Int64) + (rs - rs / (10 : Int64) * (10 : Int64))) + sg.toInt64).toInt32).toInt8.toInt32)), xv.2.1, xv.2.2)))
def G_X0_writeZoned (x : SS) (p : Int32) (n : Int32) (v : Int64) : SS := if (G_X0_isInside p n) = 0 then (x) else (if 0 ≤ (lg_cmp v (0 : Int64)) then (if 0 ≤ (lg_cmp v (0 : Int64)) then (G_X0_writeZoned_L45 x p n v 70 v (0 : Int32) ((p + n) - (1 : Int32)) x) else (G_X0_writeZoned_L45 x p n v 70 v (64 : Int32) ((p + n) - (1 : Int32)) x)) else (if 0 ≤ (lg_cmp v (0 : Int64)) then (G_X0_writeZoned_L45 x p n v 70 (-v) (0 : Int32) ((p + n) - (1 : Int32)) x) else (G_X0_writeZoned_L45 x p n v 70 (-v) (64 : Int32) ((p + n) - (1 : Int32)) x)))
def OK_X0_writeZoned (x : SS) (p : Int32) (n : Int32) (v : Int64) : Prop := if (G_X0_isInside p n) = 0 then (True) else (if 0 ≤ (lg_cmp v (0 : Int64)) then (if 0 ≤ (lg_cmp v (0 : Int64)) then (OK_X0_writeZoned_L45 x p n v 70 v (0 : Int32) ((p + n) - (1 : Int32)) x) else (OK_X0_writeZoned_L45 x p n v 70 v (64 : Int32) ((p + n) - (1 : Int32)) x)) else (if 0 ≤ (lg_cmp v (0 : Int64)) then (OK_X0_writeZoned_L45 x p n v 70 (-v) (0 : Int32) ((p + n) - (1 : Int32)) x) else (OK_X0_writeZoned_L45 x p n v 70 (-v) (64 : Int32) ((p + n) - (1 : Int32)) x)))
set_option maxHeartbeats 4000000 in
set_option maxRecDepth 100000 in
theorem L_X0_writeZoned_L45 (l : Launch) (w : WG) (hA : wAp w 26) (c : CS) (t : TS) (r : RS) (s : Nat → SS) (k : Nat) (hk : k < 4) (x : SS) (p : Int32) (n : Int32) (v : Int64) {pP : Program} {eE : Env} {S : State} {mM : MethodId} {below : List Frame} {meth : Method} {C : Code} (hx : pP.tables.exec = Jvm.exec) (hb : C.code = cX0_writeZoned) (hr : meth.sig.returnType = none) (hml : C.maxLocals = 9) (hts : ∀ q9 ∈ wsX0_writeZoned, q9.before ([.ref (w.2.2 (19 + 2 * k)), .int p, .int n, .long v] : List Value).toArray S = true) (hown : S.vm.findClass yX0_writeZoned.cls = some mM.cls) (hlk : meth.locks = false) (hK : wK w S) (g : SS) :
    ∀ (fu : Nat) (rs : Int64) (sg : Int32) (i : Int32) (xv : SS) (H : Heap) (locs : List Loc), va_P w.1 vwCl (wC w c t r (va_up s k xv)) H → va_S (wA w 26) S.heap H locs → OK_X0_writeZoned_L45 x p n v fu rs sg i xv → g = G_X0_writeZoned_L45 x p n v fu rs sg i xv → ∀ ls : Array Slot, lv_has ls 9 [(0, .ref (w.2.2 (19 + 2 * k))), (1, .int p), (5, .long rs), (7, .int sg), (8, .int i)] → W pP l eE { frames := 1, cells := 0, slots := 0, locals := 22 } S mM ([.ref (w.2.2 (19 + 2 * k)), .int p, .int n, .long v] : List Value).toArray below meth C H locs 0 0 (MQ below (xM none (fun H => va_P w.1 vwCl (wC w c t r (va_up s k g)) H) (wA w 26)) ([.ref (w.2.2 (19 + 2 * k)), .int p, .int n, .long v] : List Value).toArray S 0 0 (wA w 26)) (F0 mM 45 ls []) := by
  intro fu
  induction fu with
  | zero =>
    intro rs sg i xv H locs hP hS hok hg ls hl
    exact hok.elim
  | succ fu ih =>
    intro rs sg i xv H locs hP hS hok hg ls hl
    refine lv_iload hx hb dX0_writeZoned_45 (lv_at hl 4 rfl) ?_
    refine lv_iload_n hx hb dX0_writeZoned_47 rfl (lv_at hl 1 rfl) ?_
    refine lv_icmp_lt (tgt := 88) hx hb dX0_writeZoned_48 (by decide) (fun b1 => ?_) (fun b1 => ?_)
    ·
      have k2 := Eq.mp (if_pos b1) hok
      have e9 : g = xv := Eq.trans hg (if_pos b1)
      exact xM_vret hx hb hr hlk  hS  (by rw [e9]; exact hP) dX0_writeZoned_88
    ·
      have k3 := Eq.mp (if_neg b1) hok
      refine lv_aload_n hx hb dX0_writeZoned_51 rfl (lv_at hl 0 rfl) ?_
      refine lv_iload hx hb dX0_writeZoned_52 (lv_at hl 4 rfl) ?_
      refine lv_ldc2 (v := 48) hx hb hown (hts _ mw_X0_writeZoned_k69) dX0_writeZoned_54 ?_
      refine lv_lload hx hb dX0_writeZoned_57 (lv_at hl 2 rfl) ?_
      refine lv_ldc2 (v := 10) hx hb hown (hts _ mw_X0_writeZoned_k63) dX0_writeZoned_59 ?_
      refine lv_lrem hx hb dX0_writeZoned_62 (by decide) ?_
      refine lv_ladd hx hb dX0_writeZoned_63 ?_
      refine lv_iload hx hb dX0_writeZoned_64 (lv_at hl 3 rfl) ?_
      refine lv_i2l hx hb dX0_writeZoned_66 rfl ?_
      refine lv_ladd hx hb dX0_writeZoned_67 ?_
      refine lv_l2i hx hb dX0_writeZoned_68 rfl ?_
      refine lv_i2b hx hb dX0_writeZoned_69 rfl ?_
      have o4 := k3.1
      have k5 := k3.2
      refine va_bast hx hb hK.1 hP (wC_D hA) hS (19 + 2 * k) 1 (wC_bx hk) rfl o4 dX0_writeZoned_70 (fun H locs hP _ hS => ?_)
      have hP : va_P w.1 vwCl (wC w c t r (va_up s k (upd xv.1 i.toNatClampNeg (vp_nar .byte (((((48 : Int64) + (rs - rs / (10 : Int64) * (10 : Int64))) + sg.toInt64).toInt32).toInt8.toInt32)), xv.2.1, xv.2.2))) H := wC_pbx (x := xv) hk hP
      refine lv_lload hx hb dX0_writeZoned_71 (lv_at hl 2 rfl) ?_
      refine lv_ldc2 (v := 10) hx hb hown (hts _ mw_X0_writeZoned_k63) dX0_writeZoned_73 ?_
      refine lv_ldiv hx hb dX0_writeZoned_76 (by decide) ?_
      refine lv_lstore (lv' := [(5, .long (rs / (10 : Int64))), (0, .ref (w.2.2 (19 + 2 * k))), (1, .int p), (7, .int sg), (8, .int i)]) hx hb dX0_writeZoned_77 hl (by decide) rfl (fun ls hl => ?_)
      refine lv_iconst (v := 0) hx hb dX0_writeZoned_79 (by decide) ?_
      refine lv_istore (lv' := [(7, .int (0 : Int32)), (5, .long (rs / (10 : Int64))), (0, .ref (w.2.2 (19 + 2 * k))), (1, .int p), (8, .int i)]) hx hb dX0_writeZoned_80 hl (by decide) rfl (fun ls hl => ?_)
      refine lv_iinc (v := i + (-1 : Int32)) (lv' := [(8, .int (i + (-1 : Int32))), (7, .int (0 : Int32)), (5, .long (rs / (10 : Int64))), (0, .ref (w.2.2 (19 + 2 * k))), (1, .int p)]) hx hb dX0_writeZoned_82 hl (k := 4) rfl rfl (by decide) rfl (fun ls hl => ?_)
      refine lv_goto (tgt := 45) hx hb dX0_writeZoned_85 (by decide) ?_
      exact ih (rs / (10 : Int64)) (0 : Int32) (i + (-1 : Int32)) (upd xv.1 i.toNatClampNeg (vp_nar .byte (((((48 : Int64) + (rs - rs / (10 : Int64) * (10 : Int64))) + sg.toInt64).toInt32).toInt8.toInt32)), xv.2.1, xv.2.2) _ _ hP hS k5 (Eq.trans hg (if_neg b1)) ls (lv_sub hl [3, 4, 2, 1, 0] rfl)
set_option maxHeartbeats 4000000 in
set_option maxRecDepth 100000 in
theorem c_X0_writeZoned (l : Launch) (w : WG) (hA : wAp w 26) (c : CS) (t : TS) (r : RS) (s : Nat → SS) (k : Nat) (hk : k < 4) (x : SS) (p : Int32) (n : Int32) (v : Int64) (hok : OK_X0_writeZoned x p n v) : Met l yX0_writeZoned wsX0_writeZoned { frames := 1, cells := 0, slots := 0, locals := 22 } (va_Pc [.ref (w.2.2 (19 + 2 * k)), .int p, .int n, .long v] (wPK w (wC w c t r (va_up s k x)))) (xM none (fun H => va_P w.1 vwCl (wC w c t r (va_up s k (G_X0_writeZoned x p n v))) H) (wA w 26)) 0 0 (wA w 26) := by
  refine xOf (cc := cX0_writeZoned) (maxL := 9) (ret := none) (lv := [(0, .ref (w.2.2 (19 + 2 * k))), (1, .int p), (2, .int n), (3, .long v)]) (by decide) rfl (Nat.le_of_ble_eq_true rfl) rfl ?_
  intro pP eE S mM below meth C hx hb hr hml hts hown hlk hnm hw ls hl
  obtain ⟨hP, hK⟩ := hw
  have hS : va_S (wA w 26) S.heap S.heap [] := va_S.rf
  have hP : va_P w.1 vwCl (wC w c t r (va_up s k x)) S.heap := hP
  refine lv_aload_n hx hb dX0_writeZoned_0 rfl (lv_at hl 0 rfl) ?_
  refine lv_iload_n hx hb dX0_writeZoned_1 rfl (lv_at hl 1 rfl) ?_
  refine lv_iload_n hx hb dX0_writeZoned_2 rfl (lv_at hl 2 rfl) ?_
  refine xR_i (va_runS (As := [.ref (w.2.2 (19 + 2 * k)), .int p, .int n]) (rest := []) ⟨hx, hb, hml, hown, hts⟩ (c_X0_isInside l w c t r s k hk x p n ) (va_cwS 3 hts gX0_writeZoned_X0_isInside rfl rfl rfl ds_X0_isInside ⟨Nat.le_of_ble_eq_true rfl, Nat.le_of_ble_eq_true rfl⟩) (wPre hP hK) rfl rfl hl.1 rfl (lv_room (Nat.le_of_ble_eq_true rfl)) dX0_writeZoned_3 ⟨Nat.zero_le _, Nat.zero_le _⟩) ?_
  refine lv_if_ne (tgt := 10) hx hb dX0_writeZoned_6 (by decide) (fun b1 => ?_) (fun b1 => ?_)
  ·
    have k2 := Eq.mp (if_neg b1) hok
    refine lv_lload_n hx hb dX0_writeZoned_10 rfl (lv_at hl 3 rfl) ?_
    refine lv_lconst (v := 0) hx hb dX0_writeZoned_11 (by decide) ?_
    refine W.lcmp hx hb dX0_writeZoned_12 ?_
    refine lv_if_ge (tgt := 21) hx hb dX0_writeZoned_13 (by decide) (fun b3 => ?_) (fun b3 => ?_)
    ·
      have k4 := Eq.mp (if_pos b3) k2
      refine lv_lload_n hx hb dX0_writeZoned_21 rfl (lv_at hl 3 rfl) ?_
      refine lv_lstore (lv' := [(5, .long v), (0, .ref (w.2.2 (19 + 2 * k))), (1, .int p), (2, .int n), (3, .long v)]) hx hb dX0_writeZoned_22 hl (by decide) rfl (fun ls hl => ?_)
      refine lv_lload_n hx hb dX0_writeZoned_24 rfl (lv_at hl 4 rfl) ?_
      refine lv_lconst (v := 0) hx hb dX0_writeZoned_25 (by decide) ?_
      refine W.lcmp hx hb dX0_writeZoned_26 ?_
      refine lv_if_ge (tgt := 35) hx hb dX0_writeZoned_27 (by decide) (fun b5 => ?_) (fun b5 => ?_)
      ·
        have k6 := Eq.mp (if_pos b5) k4
        refine lv_iconst (v := 0) hx hb dX0_writeZoned_35 (by decide) ?_
        refine lv_istore (lv' := [(7, .int (0 : Int32)), (5, .long v), (0, .ref (w.2.2 (19 + 2 * k))), (1, .int p), (2, .int n), (3, .long v)]) hx hb dX0_writeZoned_36 hl (by decide) rfl (fun ls hl => ?_)
        refine lv_iload_n hx hb dX0_writeZoned_38 rfl (lv_at hl 3 rfl) ?_
        refine lv_iload_n hx hb dX0_writeZoned_39 rfl (lv_at hl 4 rfl) ?_
        refine lv_iadd hx hb dX0_writeZoned_40 ?_
        refine lv_iconst (v := 1) hx hb dX0_writeZoned_41 (by decide) ?_
        refine lv_isub hx hb dX0_writeZoned_42 ?_
        refine lv_istore (lv' := [(8, .int ((p + n) - (1 : Int32))), (7, .int (0 : Int32)), (5, .long v), (0, .ref (w.2.2 (19 + 2 * k))), (1, .int p), (2, .int n), (3, .long v)]) hx hb dX0_writeZoned_43 hl (by decide) rfl (fun ls hl => ?_)
        exact L_X0_writeZoned_L45 l w hA c t r s k hk x p n v  hx hb hr hml hts hown hlk hK _ 70 v (0 : Int32) ((p + n) - (1 : Int32)) x _ _ hP hS k6 (Eq.trans (Eq.trans (Eq.trans rfl (if_neg b1)) (if_pos b3)) (if_pos b5)) ls (lv_sub hl [3, 4, 2, 1, 0] rfl)
      ·
        have k7 := Eq.mp (if_neg b5) k4
        refine lv_bipush (v := 64) hx hb dX0_writeZoned_30 (by decide) ?_
        refine lv_goto (tgt := 36) hx hb dX0_writeZoned_32 (by decide) ?_
        refine lv_istore (lv' := [(7, .int (64 : Int32)), (5, .long v), (0, .ref (w.2.2 (19 + 2 * k))), (1, .int p), (2, .int n), (3, .long v)]) hx hb dX0_writeZoned_36 hl (by decide) rfl (fun ls hl => ?_)
        refine lv_iload_n hx hb dX0_writeZoned_38 rfl (lv_at hl 3 rfl) ?_
        refine lv_iload_n hx hb dX0_writeZoned_39 rfl (lv_at hl 4 rfl) ?_
        refine lv_iadd hx hb dX0_writeZoned_40 ?_
        refine lv_iconst (v := 1) hx hb dX0_writeZoned_41 (by decide) ?_
        refine lv_isub hx hb dX0_writeZoned_42 ?_
        refine lv_istore (lv' := [(8, .int ((p + n) - (1 : Int32))), (7, .int (64 : Int32)), (5, .long v), (0, .ref (w.2.2 (19 + 2 * k))), (1, .int p), (2, .int n), (3, .long v)]) hx hb dX0_writeZoned_43 hl (by decide) rfl (fun ls hl => ?_)
        exact L_X0_writeZoned_L45 l w hA c t r s k hk x p n v  hx hb hr hml hts hown hlk hK _ 70 v (64 : Int32) ((p + n) - (1 : Int32)) x _ _ hP hS k7 (Eq.trans (Eq.trans (Eq.trans rfl (if_neg b1)) (if_pos b3)) (if_neg b5)) ls (lv_sub hl [3, 4, 2, 1, 0] rfl)
    ·
      have k8 := Eq.mp (if_neg b3) k2
      refine lv_lload_n hx hb dX0_writeZoned_16 rfl (lv_at hl 3 rfl) ?_
      refine lv_lneg hx hb dX0_writeZoned_17 ?_
      refine lv_goto (tgt := 22) hx hb dX0_writeZoned_18 (by decide) ?_
      refine lv_lstore (lv' := [(5, .long (-v)), (0, .ref (w.2.2 (19 + 2 * k))), (1, .int p), (2, .int n), (3, .long v)]) hx hb dX0_writeZoned_22 hl (by decide) rfl (fun ls hl => ?_)
      refine lv_lload_n hx hb dX0_writeZoned_24 rfl (lv_at hl 4 rfl) ?_
      refine lv_lconst (v := 0) hx hb dX0_writeZoned_25 (by decide) ?_
      refine W.lcmp hx hb dX0_writeZoned_26 ?_
      refine lv_if_ge (tgt := 35) hx hb dX0_writeZoned_27 (by decide) (fun b9 => ?_) (fun b9 => ?_)
      ·
        have k10 := Eq.mp (if_pos b9) k8
        refine lv_iconst (v := 0) hx hb dX0_writeZoned_35 (by decide) ?_
        refine lv_istore (lv' := [(7, .int (0 : Int32)), (5, .long (-v)), (0, .ref (w.2.2 (19 + 2 * k))), (1, .int p), (2, .int n), (3, .long v)]) hx hb dX0_writeZoned_36 hl (by decide) rfl (fun ls hl => ?_)
        refine lv_iload_n hx hb dX0_writeZoned_38 rfl (lv_at hl 3 rfl) ?_
        refine lv_iload_n hx hb dX0_writeZoned_39 rfl (lv_at hl 4 rfl) ?_
        refine lv_iadd hx hb dX0_writeZoned_40 ?_
        refine lv_iconst (v := 1) hx hb dX0_writeZoned_41 (by decide) ?_
        refine lv_isub hx hb dX0_writeZoned_42 ?_
        refine lv_istore (lv' := [(8, .int ((p + n) - (1 : Int32))), (7, .int (0 : Int32)), (5, .long (-v)), (0, .ref (w.2.2 (19 + 2 * k))), (1, .int p), (2, .int n), (3, .long v)]) hx hb dX0_writeZoned_43 hl (by decide) rfl (fun ls hl => ?_)
        exact L_X0_writeZoned_L45 l w hA c t r s k hk x p n v  hx hb hr hml hts hown hlk hK _ 70 (-v) (0 : Int32) ((p + n) - (1 : Int32)) x _ _ hP hS k10 (Eq.trans (Eq.trans (Eq.trans rfl (if_neg b1)) (if_neg b3)) (if_pos b9)) ls (lv_sub hl [3, 4, 2, 1, 0] rfl)
      ·
        have k11 := Eq.mp (if_neg b9) k8
        refine lv_bipush (v := 64) hx hb dX0_writeZoned_30 (by decide) ?_
        refine lv_goto (tgt := 36) hx hb dX0_writeZoned_32 (by decide) ?_
        refine lv_istore (lv' := [(7, .int (64 : Int32)), (5, .long (-v)), (0, .ref (w.2.2 (19 + 2 * k))), (1, .int p), (2, .int n), (3, .long v)]) hx hb dX0_writeZoned_36 hl (by decide) rfl (fun ls hl => ?_)
        refine lv_iload_n hx hb dX0_writeZoned_38 rfl (lv_at hl 3 rfl) ?_
        refine lv_iload_n hx hb dX0_writeZoned_39 rfl (lv_at hl 4 rfl) ?_
        refine lv_iadd hx hb dX0_writeZoned_40 ?_
        refine lv_iconst (v := 1) hx hb dX0_writeZoned_41 (by decide) ?_
        refine lv_isub hx hb dX0_writeZoned_42 ?_
        refine lv_istore (lv' := [(8, .int ((p + n) - (1 : Int32))), (7, .int (64 : Int32)), (5, .long (-v)), (0, .ref (w.2.2 (19 + 2 * k))), (1, .int p), (2, .int n), (3, .long v)]) hx hb dX0_writeZoned_43 hl (by decide) rfl (fun ls hl => ?_)
        exact L_X0_writeZoned_L45 l w hA c t r s k hk x p n v  hx hb hr hml hts hown hlk hK _ 70 (-v) (64 : Int32) ((p + n) - (1 : Int32)) x _ _ hP hS k11 (Eq.trans (Eq.trans (Eq.trans rfl (if_neg b1)) (if_neg b3)) (if_neg b9)) ls (lv_sub hl [3, 4, 2, 1, 0] rfl)
  ·
    have k12 := Eq.mp (if_pos b1) hok
    have e9 : G_X0_writeZoned x p n v = x := Eq.trans rfl (if_pos b1)
    exact xM_vret hx hb hr hlk  hS  (by rw [e9]; exact hP) dX0_writeZoned_9
set_option maxRecDepth 20000 in
theorem mw_X0_writePacked_k63 : Cond.constantLong RX0 63 (10) ∈ wsX0_writePacked := by decide +kernel
set_option maxRecDepth 20000 in
theorem mw_X0_writePacked_k71 : Cond.constantLong RX0 71 (100) ∈ wsX0_writePacked := by decide +kernel
def G_X0_writePacked_L55 (x : SS) (p : Int32) (n : Int32) (v : Int64) : Nat → Int64 → Int32 → Int32 → SS → SS
  | 0, _, _, _, _ => x
  | fu + 1, rs, rt, i, xv => if i < p then (xv) else (G_X0_writePacked_L55 x p n v fu (rs / (100 : Int64)) (((rs / (10 : Int64)) - (rs / (10 : Int64)) / (10 : Int64) * (10 : Int64)).toInt32) (i + (-1 : Int32)) (upd xv.1 i.toNatClampNeg (vp_nar .byte (((((rs - rs / (10 : Int64) * (10 : Int64)).toInt32) <<< ((4 : Int32) &&& 31)) ||| rt).toInt8.toInt32)), xv.2.1, xv.2.2))
def OK_X0_writePacked_L55 (x : SS) (p : Int32) (n : Int32) (v : Int64) : Nat → Int64 → Int32 → Int32 → SS → Prop
  | 0, _, _, _, _ => False
  | fu + 1, rs, rt, i, xv => if i < p then (True) else ((vp_in i 64) ∧ (OK_X0_writePacked_L55 x p n v fu (rs / (100 : Int64)) (((rs / (10 : Int64)) - (rs / (10 : Int64)) / (10 : Int64) * (10 : Int64)).toInt32) (i + (-1 : Int32)) (upd xv.1 i.toNatClampNeg (vp_nar .byte (((((rs - rs / (10 : Int64) * (10 : Int64)).toInt32) <<< ((4 : Int32) &&& 31)) ||| rt).toInt8.toInt32)), xv.2.1, xv.2.2)))
def G_X0_writePacked (x : SS) (p : Int32) (n : Int32) (v : Int64) : SS := if (G_X0_isInside p (G_X0_sizeFor (1 : Int32) n)) = 0 then (x) else (if 0 ≤ (lg_cmp v (0 : Int64)) then (if 0 ≤ (lg_cmp v (0 : Int64)) then (G_X0_writePacked_L55 x p n v 70 v (12 : Int32) ((p + (G_X0_sizeFor (1 : Int32) n)) - (1 : Int32)) x) else (G_X0_writePacked_L55 x p n v 70 v (13 : Int32) ((p + (G_X0_sizeFor (1 : Int32) n)) - (1 : Int32)) x)) else (if 0 ≤ (lg_cmp v (0 : Int64)) then (G_X0_writePacked_L55 x p n v 70 (-v) (12 : Int32) ((p + (G_X0_sizeFor (1 : Int32) n)) - (1 : Int32)) x) else (G_X0_writePacked_L55 x p n v 70 (-v) (13 : Int32) ((p + (G_X0_sizeFor (1 : Int32) n)) - (1 : Int32)) x)))
def OK_X0_writePacked (x : SS) (p : Int32) (n : Int32) (v : Int64) : Prop := if (G_X0_isInside p (G_X0_sizeFor (1 : Int32) n)) = 0 then (True) else (if 0 ≤ (lg_cmp v (0 : Int64)) then (if 0 ≤ (lg_cmp v (0 : Int64)) then (OK_X0_writePacked_L55 x p n v 70 v (12 : Int32) ((p + (G_X0_sizeFor (1 : Int32) n)) - (1 : Int32)) x) else (OK_X0_writePacked_L55 x p n v 70 v (13 : Int32) ((p + (G_X0_sizeFor (1 : Int32) n)) - (1 : Int32)) x)) else (if 0 ≤ (lg_cmp v (0 : Int64)) then (OK_X0_writePacked_L55 x p n v 70 (-v) (12 : Int32) ((p + (G_X0_sizeFor (1 : Int32) n)) - (1 : Int32)) x) else (OK_X0_writePacked_L55 x p n v 70 (-v) (13 : Int32) ((p + (G_X0_sizeFor (1 : Int32) n)) - (1 : Int32)) x)))
set_option maxHeartbeats 4000000 in
set_option maxRecDepth 100000 in
theorem L_X0_writePacked_L55 (l : Launch) (w : WG) (hA : wAp w 26) (c : CS) (t : TS) (r : RS) (s : Nat → SS) (k : Nat) (hk : k < 4) (x : SS) (p : Int32) (n : Int32) (v : Int64) {pP : Program} {eE : Env} {S : State} {mM : MethodId} {below : List Frame} {meth : Method} {C : Code} (hx : pP.tables.exec = Jvm.exec) (hb : C.code = cX0_writePacked) (hr : meth.sig.returnType = none) (hml : C.maxLocals = 11) (hts : ∀ q9 ∈ wsX0_writePacked, q9.before ([.ref (w.2.2 (19 + 2 * k)), .int p, .int n, .long v] : List Value).toArray S = true) (hown : S.vm.findClass yX0_writePacked.cls = some mM.cls) (hlk : meth.locks = false) (hK : wK w S) (g : SS) :
    ∀ (fu : Nat) (rs : Int64) (rt : Int32) (i : Int32) (xv : SS) (H : Heap) (locs : List Loc), va_P w.1 vwCl (wC w c t r (va_up s k xv)) H → va_S (wA w 26) S.heap H locs → OK_X0_writePacked_L55 x p n v fu rs rt i xv → g = G_X0_writePacked_L55 x p n v fu rs rt i xv → ∀ ls : Array Slot, lv_has ls 11 [(0, .ref (w.2.2 (19 + 2 * k))), (1, .int p), (6, .long rs), (8, .int rt), (9, .int i)] → W pP l eE { frames := 1, cells := 0, slots := 0, locals := 22 } S mM ([.ref (w.2.2 (19 + 2 * k)), .int p, .int n, .long v] : List Value).toArray below meth C H locs 0 0 (MQ below (xM none (fun H => va_P w.1 vwCl (wC w c t r (va_up s k g)) H) (wA w 26)) ([.ref (w.2.2 (19 + 2 * k)), .int p, .int n, .long v] : List Value).toArray S 0 0 (wA w 26)) (F0 mM 55 ls []) := by
  intro fu
  induction fu with
  | zero =>
    intro rs rt i xv H locs hP hS hok hg ls hl
    exact hok.elim
  | succ fu ih =>
    intro rs rt i xv H locs hP hS hok hg ls hl
    refine lv_iload hx hb dX0_writePacked_55 (lv_at hl 4 rfl) ?_
    refine lv_iload_n hx hb dX0_writePacked_57 rfl (lv_at hl 1 rfl) ?_
    refine lv_icmp_lt (tgt := 109) hx hb dX0_writePacked_58 (by decide) (fun b1 => ?_) (fun b1 => ?_)
    ·
      have k2 := Eq.mp (if_pos b1) hok
      have e9 : g = xv := Eq.trans hg (if_pos b1)
      exact xM_vret hx hb hr hlk  hS  (by rw [e9]; exact hP) dX0_writePacked_109
    ·
      have k3 := Eq.mp (if_neg b1) hok
      refine lv_lload hx hb dX0_writePacked_61 (lv_at hl 2 rfl) ?_
      refine lv_ldc2 (v := 10) hx hb hown (hts _ mw_X0_writePacked_k63) dX0_writePacked_63 ?_
      refine lv_lrem hx hb dX0_writePacked_66 (by decide) ?_
      refine lv_l2i hx hb dX0_writePacked_67 rfl ?_
      refine lv_istore (lv' := [(10, .int ((rs - rs / (10 : Int64) * (10 : Int64)).toInt32)), (0, .ref (w.2.2 (19 + 2 * k))), (1, .int p), (6, .long rs), (8, .int rt), (9, .int i)]) hx hb dX0_writePacked_68 hl (by decide) rfl (fun ls hl => ?_)
      refine lv_aload_n hx hb dX0_writePacked_70 rfl (lv_at hl 1 rfl) ?_
      refine lv_iload hx hb dX0_writePacked_71 (lv_at hl 5 rfl) ?_
      refine lv_iload hx hb dX0_writePacked_73 (lv_at hl 0 rfl) ?_
      refine lv_iconst (v := 4) hx hb dX0_writePacked_75 (by decide) ?_
      refine lv_ishl hx hb dX0_writePacked_76 ?_
      refine lv_iload hx hb dX0_writePacked_77 (lv_at hl 4 rfl) ?_
      refine lv_ior hx hb dX0_writePacked_79 ?_
      refine lv_i2b hx hb dX0_writePacked_80 rfl ?_
      have o4 := k3.1
      have k5 := k3.2
      refine va_bast hx hb hK.1 hP (wC_D hA) hS (19 + 2 * k) 1 (wC_bx hk) rfl o4 dX0_writePacked_81 (fun H locs hP _ hS => ?_)
      have hP : va_P w.1 vwCl (wC w c t r (va_up s k (upd xv.1 i.toNatClampNeg (vp_nar .byte (((((rs - rs / (10 : Int64) * (10 : Int64)).toInt32) <<< ((4 : Int32) &&& 31)) ||| rt).toInt8.toInt32)), xv.2.1, xv.2.2))) H := wC_pbx (x := xv) hk hP
      refine lv_lload hx hb dX0_writePacked_82 (lv_at hl 3 rfl) ?_
      refine lv_ldc2 (v := 10) hx hb hown (hts _ mw_X0_writePacked_k63) dX0_writePacked_84 ?_
      refine lv_ldiv hx hb dX0_writePacked_87 (by decide) ?_
      refine lv_ldc2 (v := 10) hx hb hown (hts _ mw_X0_writePacked_k63) dX0_writePacked_88 ?_
      refine lv_lrem hx hb dX0_writePacked_91 (by decide) ?_
      refine lv_l2i hx hb dX0_writePacked_92 rfl ?_
      refine lv_istore (lv' := [(8, .int (((rs / (10 : Int64)) - (rs / (10 : Int64)) / (10 : Int64) * (10 : Int64)).toInt32)), (10, .int ((rs - rs / (10 : Int64) * (10 : Int64)).toInt32)), (0, .ref (w.2.2 (19 + 2 * k))), (1, .int p), (6, .long rs), (9, .int i)]) hx hb dX0_writePacked_93 hl (by decide) rfl (fun ls hl => ?_)
      refine lv_lload hx hb dX0_writePacked_95 (lv_at hl 4 rfl) ?_
      refine lv_ldc2 (v := 100) hx hb hown (hts _ mw_X0_writePacked_k71) dX0_writePacked_97 ?_
      refine lv_ldiv hx hb dX0_writePacked_100 (by decide) ?_
      refine lv_lstore (lv' := [(6, .long (rs / (100 : Int64))), (8, .int (((rs / (10 : Int64)) - (rs / (10 : Int64)) / (10 : Int64) * (10 : Int64)).toInt32)), (10, .int ((rs - rs / (10 : Int64) * (10 : Int64)).toInt32)), (0, .ref (w.2.2 (19 + 2 * k))), (1, .int p), (9, .int i)]) hx hb dX0_writePacked_101 hl (by decide) rfl (fun ls hl => ?_)
      refine lv_iinc (v := i + (-1 : Int32)) (lv' := [(9, .int (i + (-1 : Int32))), (6, .long (rs / (100 : Int64))), (8, .int (((rs / (10 : Int64)) - (rs / (10 : Int64)) / (10 : Int64) * (10 : Int64)).toInt32)), (10, .int ((rs - rs / (10 : Int64) * (10 : Int64)).toInt32)), (0, .ref (w.2.2 (19 + 2 * k))), (1, .int p)]) hx hb dX0_writePacked_103 hl (k := 5) rfl rfl (by decide) rfl (fun ls hl => ?_)
      refine lv_goto (tgt := 55) hx hb dX0_writePacked_106 (by decide) ?_
      exact ih (rs / (100 : Int64)) (((rs / (10 : Int64)) - (rs / (10 : Int64)) / (10 : Int64) * (10 : Int64)).toInt32) (i + (-1 : Int32)) (upd xv.1 i.toNatClampNeg (vp_nar .byte (((((rs - rs / (10 : Int64) * (10 : Int64)).toInt32) <<< ((4 : Int32) &&& 31)) ||| rt).toInt8.toInt32)), xv.2.1, xv.2.2) _ _ hP hS k5 (Eq.trans hg (if_neg b1)) ls (lv_sub hl [4, 5, 1, 2, 0] rfl)
set_option maxHeartbeats 4000000 in
set_option maxRecDepth 100000 in
theorem c_X0_writePacked (l : Launch) (w : WG) (hA : wAp w 26) (c : CS) (t : TS) (r : RS) (s : Nat → SS) (k : Nat) (hk : k < 4) (x : SS) (p : Int32) (n : Int32) (v : Int64) (hok : OK_X0_writePacked x p n v) : Met l yX0_writePacked wsX0_writePacked { frames := 1, cells := 0, slots := 0, locals := 22 } (va_Pc [.ref (w.2.2 (19 + 2 * k)), .int p, .int n, .long v] (wPK w (wC w c t r (va_up s k x)))) (xM none (fun H => va_P w.1 vwCl (wC w c t r (va_up s k (G_X0_writePacked x p n v))) H) (wA w 26)) 0 0 (wA w 26) := by
  refine xOf (cc := cX0_writePacked) (maxL := 11) (ret := none) (lv := [(0, .ref (w.2.2 (19 + 2 * k))), (1, .int p), (2, .int n), (3, .long v)]) (by decide) rfl (Nat.le_of_ble_eq_true rfl) rfl ?_
  intro pP eE S mM below meth C hx hb hr hml hts hown hlk hnm hw ls hl
  obtain ⟨hP, hK⟩ := hw
  have hS : va_S (wA w 26) S.heap S.heap [] := va_S.rf
  have hP : va_P w.1 vwCl (wC w c t r (va_up s k x)) S.heap := hP
  refine lv_iconst (v := 1) hx hb dX0_writePacked_0 (by decide) ?_
  refine lv_iload_n hx hb dX0_writePacked_1 rfl (lv_at hl 2 rfl) ?_
  refine xR_i (va_runS (As := [.int (1 : Int32), .int n]) (rest := []) ⟨hx, hb, hml, hown, hts⟩ (c_X0_sizeFor l w c t r (va_up s k x) (1 : Int32) n ) (va_cwS 2 hts gX0_writePacked_X0_sizeFor rfl rfl rfl ds_X0_sizeFor ⟨Nat.le_of_ble_eq_true rfl, Nat.le_of_ble_eq_true rfl⟩) (wPre hP hK) rfl rfl hl.1 rfl (lv_room (Nat.le_of_ble_eq_true rfl)) dX0_writePacked_2 ⟨Nat.zero_le _, Nat.zero_le _⟩) ?_
  refine lv_istore (lv' := [(5, .int (G_X0_sizeFor (1 : Int32) n)), (0, .ref (w.2.2 (19 + 2 * k))), (1, .int p), (2, .int n), (3, .long v)]) hx hb dX0_writePacked_5 hl (by decide) rfl (fun ls hl => ?_)
  refine lv_aload_n hx hb dX0_writePacked_7 rfl (lv_at hl 1 rfl) ?_
  refine lv_iload_n hx hb dX0_writePacked_8 rfl (lv_at hl 2 rfl) ?_
  refine lv_iload hx hb dX0_writePacked_9 (lv_at hl 0 rfl) ?_
  refine xR_i (va_runS (As := [.ref (w.2.2 (19 + 2 * k)), .int p, .int (G_X0_sizeFor (1 : Int32) n)]) (rest := []) ⟨hx, hb, hml, hown, hts⟩ (c_X0_isInside l w c t r s k hk x p (G_X0_sizeFor (1 : Int32) n) ) (va_cwS 3 hts gX0_writePacked_X0_isInside rfl rfl rfl ds_X0_isInside ⟨Nat.le_of_ble_eq_true rfl, Nat.le_of_ble_eq_true rfl⟩) (wPre hP hK) rfl rfl hl.1 rfl (lv_room (Nat.le_of_ble_eq_true rfl)) dX0_writePacked_11 ⟨Nat.zero_le _, Nat.zero_le _⟩) ?_
  refine lv_if_ne (tgt := 18) hx hb dX0_writePacked_14 (by decide) (fun b1 => ?_) (fun b1 => ?_)
  ·
    have k2 := Eq.mp (if_neg b1) hok
    refine lv_lload_n hx hb dX0_writePacked_18 rfl (lv_at hl 4 rfl) ?_
    refine lv_lconst (v := 0) hx hb dX0_writePacked_19 (by decide) ?_
    refine W.lcmp hx hb dX0_writePacked_20 ?_
    refine lv_if_ge (tgt := 29) hx hb dX0_writePacked_21 (by decide) (fun b3 => ?_) (fun b3 => ?_)
    ·
      have k4 := Eq.mp (if_pos b3) k2
      refine lv_lload_n hx hb dX0_writePacked_29 rfl (lv_at hl 4 rfl) ?_
      refine lv_lstore (lv' := [(6, .long v), (5, .int (G_X0_sizeFor (1 : Int32) n)), (0, .ref (w.2.2 (19 + 2 * k))), (1, .int p), (2, .int n), (3, .long v)]) hx hb dX0_writePacked_30 hl (by decide) rfl (fun ls hl => ?_)
      refine lv_lload_n hx hb dX0_writePacked_32 rfl (lv_at hl 5 rfl) ?_
      refine lv_lconst (v := 0) hx hb dX0_writePacked_33 (by decide) ?_
      refine W.lcmp hx hb dX0_writePacked_34 ?_
      refine lv_if_ge (tgt := 43) hx hb dX0_writePacked_35 (by decide) (fun b5 => ?_) (fun b5 => ?_)
      ·
        have k6 := Eq.mp (if_pos b5) k4
        refine lv_bipush (v := 12) hx hb dX0_writePacked_43 (by decide) ?_
        refine lv_istore (lv' := [(8, .int (12 : Int32)), (6, .long v), (5, .int (G_X0_sizeFor (1 : Int32) n)), (0, .ref (w.2.2 (19 + 2 * k))), (1, .int p), (2, .int n), (3, .long v)]) hx hb dX0_writePacked_45 hl (by decide) rfl (fun ls hl => ?_)
        refine lv_iload_n hx hb dX0_writePacked_47 rfl (lv_at hl 4 rfl) ?_
        refine lv_iload hx hb dX0_writePacked_48 (lv_at hl 2 rfl) ?_
        refine lv_iadd hx hb dX0_writePacked_50 ?_
        refine lv_iconst (v := 1) hx hb dX0_writePacked_51 (by decide) ?_
        refine lv_isub hx hb dX0_writePacked_52 ?_
        refine lv_istore (lv' := [(9, .int ((p + (G_X0_sizeFor (1 : Int32) n)) - (1 : Int32))), (8, .int (12 : Int32)), (6, .long v), (5, .int (G_X0_sizeFor (1 : Int32) n)), (0, .ref (w.2.2 (19 + 2 * k))), (1, .int p), (2, .int n), (3, .long v)]) hx hb dX0_writePacked_53 hl (by decide) rfl (fun ls hl => ?_)
        exact L_X0_writePacked_L55 l w hA c t r s k hk x p n v  hx hb hr hml hts hown hlk hK _ 70 v (12 : Int32) ((p + (G_X0_sizeFor (1 : Int32) n)) - (1 : Int32)) x _ _ hP hS k6 (Eq.trans (Eq.trans (Eq.trans rfl (if_neg b1)) (if_pos b3)) (if_pos b5)) ls (lv_sub hl [4, 5, 2, 1, 0] rfl)
      ·
        have k7 := Eq.mp (if_neg b5) k4
        refine lv_bipush (v := 13) hx hb dX0_writePacked_38 (by decide) ?_
        refine lv_goto (tgt := 45) hx hb dX0_writePacked_40 (by decide) ?_
        refine lv_istore (lv' := [(8, .int (13 : Int32)), (6, .long v), (5, .int (G_X0_sizeFor (1 : Int32) n)), (0, .ref (w.2.2 (19 + 2 * k))), (1, .int p), (2, .int n), (3, .long v)]) hx hb dX0_writePacked_45 hl (by decide) rfl (fun ls hl => ?_)
        refine lv_iload_n hx hb dX0_writePacked_47 rfl (lv_at hl 4 rfl) ?_
        refine lv_iload hx hb dX0_writePacked_48 (lv_at hl 2 rfl) ?_
        refine lv_iadd hx hb dX0_writePacked_50 ?_
        refine lv_iconst (v := 1) hx hb dX0_writePacked_51 (by decide) ?_
        refine lv_isub hx hb dX0_writePacked_52 ?_
        refine lv_istore (lv' := [(9, .int ((p + (G_X0_sizeFor (1 : Int32) n)) - (1 : Int32))), (8, .int (13 : Int32)), (6, .long v), (5, .int (G_X0_sizeFor (1 : Int32) n)), (0, .ref (w.2.2 (19 + 2 * k))), (1, .int p), (2, .int n), (3, .long v)]) hx hb dX0_writePacked_53 hl (by decide) rfl (fun ls hl => ?_)
        exact L_X0_writePacked_L55 l w hA c t r s k hk x p n v  hx hb hr hml hts hown hlk hK _ 70 v (13 : Int32) ((p + (G_X0_sizeFor (1 : Int32) n)) - (1 : Int32)) x _ _ hP hS k7 (Eq.trans (Eq.trans (Eq.trans rfl (if_neg b1)) (if_pos b3)) (if_neg b5)) ls (lv_sub hl [4, 5, 2, 1, 0] rfl)
    ·
      have k8 := Eq.mp (if_neg b3) k2
      refine lv_lload_n hx hb dX0_writePacked_24 rfl (lv_at hl 4 rfl) ?_
      refine lv_lneg hx hb dX0_writePacked_25 ?_
      refine lv_goto (tgt := 30) hx hb dX0_writePacked_26 (by decide) ?_
      refine lv_lstore (lv' := [(6, .long (-v)), (5, .int (G_X0_sizeFor (1 : Int32) n)), (0, .ref (w.2.2 (19 + 2 * k))), (1, .int p), (2, .int n), (3, .long v)]) hx hb dX0_writePacked_30 hl (by decide) rfl (fun ls hl => ?_)
      refine lv_lload_n hx hb dX0_writePacked_32 rfl (lv_at hl 5 rfl) ?_
      refine lv_lconst (v := 0) hx hb dX0_writePacked_33 (by decide) ?_
      refine W.lcmp hx hb dX0_writePacked_34 ?_
      refine lv_if_ge (tgt := 43) hx hb dX0_writePacked_35 (by decide) (fun b9 => ?_) (fun b9 => ?_)
      ·
        have k10 := Eq.mp (if_pos b9) k8
        refine lv_bipush (v := 12) hx hb dX0_writePacked_43 (by decide) ?_
        refine lv_istore (lv' := [(8, .int (12 : Int32)), (6, .long (-v)), (5, .int (G_X0_sizeFor (1 : Int32) n)), (0, .ref (w.2.2 (19 + 2 * k))), (1, .int p), (2, .int n), (3, .long v)]) hx hb dX0_writePacked_45 hl (by decide) rfl (fun ls hl => ?_)
        refine lv_iload_n hx hb dX0_writePacked_47 rfl (lv_at hl 4 rfl) ?_
        refine lv_iload hx hb dX0_writePacked_48 (lv_at hl 2 rfl) ?_
        refine lv_iadd hx hb dX0_writePacked_50 ?_
        refine lv_iconst (v := 1) hx hb dX0_writePacked_51 (by decide) ?_
        refine lv_isub hx hb dX0_writePacked_52 ?_
        refine lv_istore (lv' := [(9, .int ((p + (G_X0_sizeFor (1 : Int32) n)) - (1 : Int32))), (8, .int (12 : Int32)), (6, .long (-v)), (5, .int (G_X0_sizeFor (1 : Int32) n)), (0, .ref (w.2.2 (19 + 2 * k))), (1, .int p), (2, .int n), (3, .long v)]) hx hb dX0_writePacked_53 hl (by decide) rfl (fun ls hl => ?_)
        exact L_X0_writePacked_L55 l w hA c t r s k hk x p n v  hx hb hr hml hts hown hlk hK _ 70 (-v) (12 : Int32) ((p + (G_X0_sizeFor (1 : Int32) n)) - (1 : Int32)) x _ _ hP hS k10 (Eq.trans (Eq.trans (Eq.trans rfl (if_neg b1)) (if_neg b3)) (if_pos b9)) ls (lv_sub hl [4, 5, 2, 1, 0] rfl)
      ·
        have k11 := Eq.mp (if_neg b9) k8
        refine lv_bipush (v := 13) hx hb dX0_writePacked_38 (by decide) ?_
        refine lv_goto (tgt := 45) hx hb dX0_writePacked_40 (by decide) ?_
        refine lv_istore (lv' := [(8, .int (13 : Int32)), (6, .long (-v)), (5, .int (G_X0_sizeFor (1 : Int32) n)), (0, .ref (w.2.2 (19 + 2 * k))), (1, .int p), (2, .int n), (3, .long v)]) hx hb dX0_writePacked_45 hl (by decide) rfl (fun ls hl => ?_)
        refine lv_iload_n hx hb dX0_writePacked_47 rfl (lv_at hl 4 rfl) ?_
        refine lv_iload hx hb dX0_writePacked_48 (lv_at hl 2 rfl) ?_
        refine lv_iadd hx hb dX0_writePacked_50 ?_
        refine lv_iconst (v := 1) hx hb dX0_writePacked_51 (by decide) ?_
        refine lv_isub hx hb dX0_writePacked_52 ?_
        refine lv_istore (lv' := [(9, .int ((p + (G_X0_sizeFor (1 : Int32) n)) - (1 : Int32))), (8, .int (13 : Int32)), (6, .long (-v)), (5, .int (G_X0_sizeFor (1 : Int32) n)), (0, .ref (w.2.2 (19 + 2 * k))), (1, .int p), (2, .int n), (3, .long v)]) hx hb dX0_writePacked_53 hl (by decide) rfl (fun ls hl => ?_)
        exact L_X0_writePacked_L55 l w hA c t r s k hk x p n v  hx hb hr hml hts hown hlk hK _ 70 (-v) (13 : Int32) ((p + (G_X0_sizeFor (1 : Int32) n)) - (1 : Int32)) x _ _ hP hS k11 (Eq.trans (Eq.trans (Eq.trans rfl (if_neg b1)) (if_neg b3)) (if_neg b9)) ls (lv_sub hl [4, 5, 2, 1, 0] rfl)
  ·
    have k12 := Eq.mp (if_pos b1) hok
    have e9 : G_X0_writePacked x p n v = x := Eq.trans rfl (if_pos b1)
    exact xM_vret hx hb hr hlk  hS  (by rw [e9]; exact hP) dX0_writePacked_17
def G_X0_writeBinary_L19 (x : SS) (p : Int32) (v : Int32) : Nat → Int32 → Int32 → SS → SS
  | 0, _, _, _ => x
  | fu + 1, rs, i, xv => if i < p then (xv) else (G_X0_writeBinary_L19 x p v fu (rs >>> ((8 : Int32) &&& 31)) (i + (-1 : Int32)) (upd xv.1 i.toNatClampNeg (vp_nar .byte rs.toInt8.toInt32), xv.2.1, xv.2.2))
def OK_X0_writeBinary_L19 (x : SS) (p : Int32) (v : Int32) : Nat → Int32 → Int32 → SS → Prop
  | 0, _, _, _ => False
  | fu + 1, rs, i, xv => if i < p then (True) else ((vp_in i 64) ∧ (OK_X0_writeBinary_L19 x p v fu (rs >>> ((8 : Int32) &&& 31)) (i + (-1 : Int32)) (upd xv.1 i.toNatClampNeg (vp_nar .byte rs.toInt8.toInt32), xv.2.1, xv.2.2)))
def G_X0_writeBinary (x : SS) (p : Int32) (v : Int32) : SS := if (G_X0_isInside p (4 : Int32)) = 0 then (x) else (G_X0_writeBinary_L19 x p v 10 v ((p + (4 : Int32)) - (1 : Int32)) x)
def OK_X0_writeBinary (x : SS) (p : Int32) (v : Int32) : Prop := if (G_X0_isInside p (4 : Int32)) = 0 then (True) else (OK_X0_writeBinary_L19 x p v 10 v ((p + (4 : Int32)) - (1 : Int32)) x)
set_option maxHeartbeats 4000000 in
set_option maxRecDepth 100000 in
theorem L_X0_writeBinary_L19 (l : Launch) (w : WG) (hA : wAp w 26) (c : CS) (t : TS) (r : RS) (s : Nat → SS) (k : Nat) (hk : k < 4) (x : SS) (p : Int32) (v : Int32) {pP : Program} {eE : Env} {S : State} {mM : MethodId} {below : List Frame} {meth : Method} {C : Code} (hx : pP.tables.exec = Jvm.exec) (hb : C.code = cX0_writeBinary) (hr : meth.sig.returnType = none) (hml : C.maxLocals = 5) (hts : ∀ q9 ∈ wsX0_writeBinary, q9.before ([.ref (w.2.2 (19 + 2 * k)), .int p, .int v] : List Value).toArray S = true) (hown : S.vm.findClass yX0_writeBinary.cls = some mM.cls) (hlk : meth.locks = false) (hK : wK w S) (g : SS) :
    ∀ (fu : Nat) (rs : Int32) (i : Int32) (xv : SS) (H : Heap) (locs : List Loc), va_P w.1 vwCl (wC w c t r (va_up s k xv)) H → va_S (wA w 26) S.heap H locs → OK_X0_writeBinary_L19 x p v fu rs i xv → g = G_X0_writeBinary_L19 x p v fu rs i xv → ∀ ls : Array Slot, lv_has ls 5 [(0, .ref (w.2.2 (19 + 2 * k))), (1, .int p), (3, .int rs), (4, .int i)] → W pP l eE { frames := 1, cells := 0, slots := 0, locals := 22 } S mM ([.ref (w.2.2 (19 + 2 * k)), .int p, .int v] : List Value).toArray below meth C H locs 0 0 (MQ below (xM none (fun H => va_P w.1 vwCl (wC w c t r (va_up s k g)) H) (wA w 26)) ([.ref (w.2.2 (19 + 2 * k)), .int p, .int v] : List Value).toArray S 0 0 (wA w 26)) (F0 mM 19 ls []) := by
  intro fu
  induction fu with
  | zero =>
    intro rs i xv H locs hP hS hok hg ls hl
    exact hok.elim
  | succ fu ih =>
    intro rs i xv H locs hP hS hok hg ls hl
    refine lv_iload hx hb dX0_writeBinary_19 (lv_at hl 3 rfl) ?_
    refine lv_iload_n hx hb dX0_writeBinary_21 rfl (lv_at hl 1 rfl) ?_
    refine lv_icmp_lt (tgt := 42) hx hb dX0_writeBinary_22 (by decide) (fun b1 => ?_) (fun b1 => ?_)
    ·
      have k2 := Eq.mp (if_pos b1) hok
      have e9 : g = xv := Eq.trans hg (if_pos b1)
      exact xM_vret hx hb hr hlk  hS  (by rw [e9]; exact hP) dX0_writeBinary_42
    ·
      have k3 := Eq.mp (if_neg b1) hok
      refine lv_aload_n hx hb dX0_writeBinary_25 rfl (lv_at hl 0 rfl) ?_
      refine lv_iload hx hb dX0_writeBinary_26 (lv_at hl 3 rfl) ?_
      refine lv_iload_n hx hb dX0_writeBinary_28 rfl (lv_at hl 2 rfl) ?_
      refine lv_i2b hx hb dX0_writeBinary_29 rfl ?_
      have o4 := k3.1
      have k5 := k3.2
      refine va_bast hx hb hK.1 hP (wC_D hA) hS (19 + 2 * k) 1 (wC_bx hk) rfl o4 dX0_writeBinary_30 (fun H locs hP _ hS => ?_)
      have hP : va_P w.1 vwCl (wC w c t r (va_up s k (upd xv.1 i.toNatClampNeg (vp_nar .byte rs.toInt8.toInt32), xv.2.1, xv.2.2))) H := wC_pbx (x := xv) hk hP
      refine lv_iload_n hx hb dX0_writeBinary_31 rfl (lv_at hl 2 rfl) ?_
      refine lv_bipush (v := 8) hx hb dX0_writeBinary_32 (by decide) ?_
      refine lv_ishr hx hb dX0_writeBinary_34 ?_
      refine lv_istore_n (lv' := [(3, .int (rs >>> ((8 : Int32) &&& 31))), (0, .ref (w.2.2 (19 + 2 * k))), (1, .int p), (4, .int i)]) hx hb dX0_writeBinary_35 rfl hl (by decide) rfl (fun ls hl => ?_)
      refine lv_iinc (v := i + (-1 : Int32)) (lv' := [(4, .int (i + (-1 : Int32))), (3, .int (rs >>> ((8 : Int32) &&& 31))), (0, .ref (w.2.2 (19 + 2 * k))), (1, .int p)]) hx hb dX0_writeBinary_36 hl (k := 3) rfl rfl (by decide) rfl (fun ls hl => ?_)
      refine lv_goto (tgt := 19) hx hb dX0_writeBinary_39 (by decide) ?_
      exact ih (rs >>> ((8 : Int32) &&& 31)) (i + (-1 : Int32)) (upd xv.1 i.toNatClampNeg (vp_nar .byte rs.toInt8.toInt32), xv.2.1, xv.2.2) _ _ hP hS k5 (Eq.trans hg (if_neg b1)) ls (lv_sub hl [2, 3, 1, 0] rfl)
set_option maxHeartbeats 4000000 in
set_option maxRecDepth 100000 in
theorem c_X0_writeBinary (l : Launch) (w : WG) (hA : wAp w 26) (c : CS) (t : TS) (r : RS) (s : Nat → SS) (k : Nat) (hk : k < 4) (x : SS) (p : Int32) (v : Int32) (hok : OK_X0_writeBinary x p v) : Met l yX0_writeBinary wsX0_writeBinary { frames := 1, cells := 0, slots := 0, locals := 22 } (va_Pc [.ref (w.2.2 (19 + 2 * k)), .int p, .int v] (wPK w (wC w c t r (va_up s k x)))) (xM none (fun H => va_P w.1 vwCl (wC w c t r (va_up s k (G_X0_writeBinary x p v))) H) (wA w 26)) 0 0 (wA w 26) := by
  refine xOf (cc := cX0_writeBinary) (maxL := 5) (ret := none) (lv := [(0, .ref (w.2.2 (19 + 2 * k))), (1, .int p), (2, .int v)]) (by decide) rfl (Nat.le_of_ble_eq_true rfl) rfl ?_
  intro pP eE S mM below meth C hx hb hr hml hts hown hlk hnm hw ls hl
  obtain ⟨hP, hK⟩ := hw
  have hS : va_S (wA w 26) S.heap S.heap [] := va_S.rf
  have hP : va_P w.1 vwCl (wC w c t r (va_up s k x)) S.heap := hP
  refine lv_aload_n hx hb dX0_writeBinary_0 rfl (lv_at hl 0 rfl) ?_
  refine lv_iload_n hx hb dX0_writeBinary_1 rfl (lv_at hl 1 rfl) ?_
  refine lv_iconst (v := 4) hx hb dX0_writeBinary_2 (by decide) ?_
  refine xR_i (va_runS (As := [.ref (w.2.2 (19 + 2 * k)), .int p, .int (4 : Int32)]) (rest := []) ⟨hx, hb, hml, hown, hts⟩ (c_X0_isInside l w c t r s k hk x p (4 : Int32) ) (va_cwS 3 hts gX0_writeBinary_X0_isInside rfl rfl rfl ds_X0_isInside ⟨Nat.le_of_ble_eq_true rfl, Nat.le_of_ble_eq_true rfl⟩) (wPre hP hK) rfl rfl hl.1 rfl (lv_room (Nat.le_of_ble_eq_true rfl)) dX0_writeBinary_3 ⟨Nat.zero_le _, Nat.zero_le _⟩) ?_
  refine lv_if_ne (tgt := 10) hx hb dX0_writeBinary_6 (by decide) (fun b1 => ?_) (fun b1 => ?_)
  ·
    have k2 := Eq.mp (if_neg b1) hok
    refine lv_iload_n hx hb dX0_writeBinary_10 rfl (lv_at hl 2 rfl) ?_
    refine lv_istore_n (lv' := [(3, .int v), (0, .ref (w.2.2 (19 + 2 * k))), (1, .int p), (2, .int v)]) hx hb dX0_writeBinary_11 rfl hl (by decide) rfl (fun ls hl => ?_)
    refine lv_iload_n hx hb dX0_writeBinary_12 rfl (lv_at hl 2 rfl) ?_
    refine lv_iconst (v := 4) hx hb dX0_writeBinary_13 (by decide) ?_
    refine lv_iadd hx hb dX0_writeBinary_14 ?_
    refine lv_iconst (v := 1) hx hb dX0_writeBinary_15 (by decide) ?_
    refine lv_isub hx hb dX0_writeBinary_16 ?_
    refine lv_istore (lv' := [(4, .int ((p + (4 : Int32)) - (1 : Int32))), (3, .int v), (0, .ref (w.2.2 (19 + 2 * k))), (1, .int p), (2, .int v)]) hx hb dX0_writeBinary_17 hl (by decide) rfl (fun ls hl => ?_)
    exact L_X0_writeBinary_L19 l w hA c t r s k hk x p v  hx hb hr hml hts hown hlk hK _ 10 v ((p + (4 : Int32)) - (1 : Int32)) x _ _ hP hS k2 (Eq.trans rfl (if_neg b1)) ls (lv_sub hl [2, 3, 1, 0] rfl)
  ·
    have k3 := Eq.mp (if_pos b1) hok
    have e9 : G_X0_writeBinary x p v = x := Eq.trans rfl (if_pos b1)
    exact xM_vret hx hb hr hlk  hS  (by rw [e9]; exact hP) dX0_writeBinary_9
set_option maxRecDepth 20000 in
theorem iw_X0_read_X0 : ∀ w ∈ wsX00, w ∈ wsX0_read := by decide +kernel
set_option maxRecDepth 20000 in
theorem fl_X0_read_9 : Cond.fieldLink RX0 9 "ProcedureCode$Cells" "usages" "[I" ∈ wsX0_read := by decide +kernel
set_option maxRecDepth 20000 in
theorem fl_X0_read_15 : Cond.fieldLink RX0 15 "ProcedureCode$Cells" "digits" "[I" ∈ wsX0_read := by decide +kernel
set_option maxRecDepth 20000 in
theorem ds_X0_readZoned : yX0_readZoned.cls ≠ "java/lang/invoke/MethodHandle" ∧ yX0_readZoned.cls ≠ "java/lang/invoke/VarHandle" ∧ (parseMethodDescriptor yX0_readZoned.desc).map (fun d => d.parameters.length) = some 3 := by decide +kernel
set_option maxRecDepth 20000 in
theorem ds_X0_readPacked : yX0_readPacked.cls ≠ "java/lang/invoke/MethodHandle" ∧ yX0_readPacked.cls ≠ "java/lang/invoke/VarHandle" ∧ (parseMethodDescriptor yX0_readPacked.desc).map (fun d => d.parameters.length) = some 3 := by decide +kernel
set_option maxRecDepth 20000 in
theorem ds_X0_readBinary : yX0_readBinary.cls ≠ "java/lang/invoke/MethodHandle" ∧ yX0_readBinary.cls ≠ "java/lang/invoke/VarHandle" ∧ (parseMethodDescriptor yX0_readBinary.desc).map (fun d => d.parameters.length) = some 2 := by decide +kernel
def G_X0_read (c : CS) (x : SS) (n : Int32) (p : Int32) : Int64 := if (G_X0_has c n) = 0 then ((0 : Int64)) else (if (c.2.1 n.toNatClampNeg) = (2 : Int32) then (G_X0_readBinary x p) else (if (c.2.1 n.toNatClampNeg) = (1 : Int32) then (G_X0_readPacked x p (c.2.2.1 n.toNatClampNeg)) else (G_X0_readZoned x p (c.2.2.1 n.toNatClampNeg))))
def OK_X0_read (c : CS) (x : SS) (n : Int32) (p : Int32) : Prop := if (G_X0_has c n) = 0 then (True) else ((vp_in n 40) ∧ (if (c.2.1 n.toNatClampNeg) = (2 : Int32) then ((OK_X0_readBinary x p) ∧ (True)) else ((vp_in n 40) ∧ (if (c.2.1 n.toNatClampNeg) = (1 : Int32) then ((vp_in n 40) ∧ ((OK_X0_readPacked x p (c.2.2.1 n.toNatClampNeg)) ∧ (True))) else ((vp_in n 40) ∧ ((OK_X0_readZoned x p (c.2.2.1 n.toNatClampNeg)) ∧ (True)))))))
set_option maxHeartbeats 4000000 in
set_option maxRecDepth 100000 in
theorem c_X0_read (l : Launch) (w : WG) (c : CS) (t : TS) (r : RS) (s : Nat → SS) (k : Nat) (hk : k < 4) (x : SS) (n : Int32) (p : Int32) (hok : OK_X0_read c x n p) : Met l yX0_read wsX0_read { frames := 2, cells := 0, slots := 0, locals := 52 } (va_Pc [.ref (w.2.2 1), .ref (w.2.2 (19 + 2 * k)), .int n, .int p] (wPK w (wC w c t r (va_up s k x)))) (xR (some (.long (G_X0_read c x n p)))) 0 0 xNo := by
  refine xOf (cc := cX0_read) (maxL := 4) (ret := (some .long)) (lv := [(0, .ref (w.2.2 1)), (1, .ref (w.2.2 (19 + 2 * k))), (2, .int n), (3, .int p)]) (by decide) rfl (Nat.le_of_ble_eq_true rfl) rfl ?_
  intro pP eE S mM below meth C hx hb hr hml hts hown hlk hnm hw ls hl
  obtain ⟨hP, hK⟩ := hw
  refine lv_aload_n hx hb dX0_read_0 rfl (lv_at hl 0 rfl) ?_
  refine lv_iload_n hx hb dX0_read_1 rfl (lv_at hl 2 rfl) ?_
  refine xR_i (va_runV (As := [.int n]) (rest := []) ⟨hx, hb, hml, hown, hts⟩ (c_X0_has l w c t r (va_up s k x) n ) (cwV 1 hts gX0_read_X0_has rfl rfl rfl dv_X0_has ⟨Nat.le_of_ble_eq_true rfl, Nat.le_of_ble_eq_true rfl⟩) (wPreV hP hK (ci := 1) (q0 := 1) rfl rfl) rfl rfl hl.1 rfl (lv_room (Nat.le_of_ble_eq_true rfl)) dX0_read_2 ⟨Nat.zero_le _, Nat.zero_le _⟩) ?_
  refine lv_if_ne (tgt := 10) hx hb dX0_read_5 (by decide) (fun b1 => ?_) (fun b1 => ?_)
  ·
    have k2 := Eq.mp (if_neg b1) hok
    refine lv_aload_n hx hb dX0_read_10 rfl (lv_at hl 0 rfl) ?_
    refine va_get (D := w.1) (ci := 1) (v := .ref (w.2.2 2)) (C := RX0) (T := TX0) (N := 4) hx hb hts iw_X0_read_X0 hown hK.1 hP 1 rfl rfl 0 (by decide) (hts _ fl_X0_read_9) (fun _ h9 => h9) rfl dX0_read_11 ?_
    refine lv_iload_n hx hb dX0_read_14 rfl (lv_at hl 2 rfl) ?_
    have o3 := k2.1
    have k4 := k2.2
    refine va_iald hx hb hK.1 hP 2 0 rfl rfl o3 dX0_read_15 ?_
    refine lv_iconst (v := 2) hx hb dX0_read_16 (by decide) ?_
    refine lv_icmp_ne (tgt := 26) hx hb dX0_read_17 (by decide) (fun b5 => ?_) (fun b5 => ?_)
    ·
      have k6 := Eq.mp (if_neg b5) k4
      refine lv_aload_n hx hb dX0_read_26 rfl (lv_at hl 0 rfl) ?_
      refine va_get (D := w.1) (ci := 1) (v := .ref (w.2.2 2)) (C := RX0) (T := TX0) (N := 4) hx hb hts iw_X0_read_X0 hown hK.1 hP 1 rfl rfl 0 (by decide) (hts _ fl_X0_read_9) (fun _ h9 => h9) rfl dX0_read_27 ?_
      refine lv_iload_n hx hb dX0_read_30 rfl (lv_at hl 2 rfl) ?_
      have o7 := k6.1
      have k8 := k6.2
      refine va_iald hx hb hK.1 hP 2 0 rfl rfl o7 dX0_read_31 ?_
      refine lv_iconst (v := 1) hx hb dX0_read_32 (by decide) ?_
      refine lv_icmp_ne (tgt := 50) hx hb dX0_read_33 (by decide) (fun b9 => ?_) (fun b9 => ?_)
      ·
        have k10 := Eq.mp (if_neg b9) k8
        refine lv_aload_n hx hb dX0_read_50 rfl (lv_at hl 1 rfl) ?_
        refine lv_iload_n hx hb dX0_read_51 rfl (lv_at hl 3 rfl) ?_
        refine lv_aload_n hx hb dX0_read_52 rfl (lv_at hl 0 rfl) ?_
        refine va_get (D := w.1) (ci := 1) (v := .ref (w.2.2 3)) (C := RX0) (T := TX0) (N := 4) hx hb hts iw_X0_read_X0 hown hK.1 hP 1 rfl rfl 1 (by decide) (hts _ fl_X0_read_15) (fun _ h9 => h9) rfl dX0_read_53 ?_
        refine lv_iload_n hx hb dX0_read_56 rfl (lv_at hl 2 rfl) ?_
        have o11 := k10.1
        have k12 := k10.2
        refine va_iald hx hb hK.1 hP 3 0 rfl rfl o11 dX0_read_57 ?_
        have o13 := k12.1
        have k14 := k12.2
        refine xR_l (va_runS (As := [.ref (w.2.2 (19 + 2 * k)), .int p, .int (c.2.2.1 n.toNatClampNeg)]) (rest := []) ⟨hx, hb, hml, hown, hts⟩ (c_X0_readZoned l w c t r s k hk x p (c.2.2.1 n.toNatClampNeg) o13) (va_cwS 3 hts gX0_read_X0_readZoned rfl rfl rfl ds_X0_readZoned ⟨Nat.le_of_ble_eq_true rfl, Nat.le_of_ble_eq_true rfl⟩) (wPre hP hK) rfl rfl hl.1 rfl (lv_room (Nat.le_of_ble_eq_true rfl)) dX0_read_58 ⟨Nat.zero_le _, Nat.zero_le _⟩) ?_
        exact xR_lret hx hb hr hlk  (Eq.trans (Eq.trans (Eq.trans rfl (if_neg b1)) (if_neg b5)) (if_neg b9)) dX0_read_61
      ·
        have k15 := Eq.mp (if_pos b9) k8
        refine lv_aload_n hx hb dX0_read_36 rfl (lv_at hl 1 rfl) ?_
        refine lv_iload_n hx hb dX0_read_37 rfl (lv_at hl 3 rfl) ?_
        refine lv_aload_n hx hb dX0_read_38 rfl (lv_at hl 0 rfl) ?_
        refine va_get (D := w.1) (ci := 1) (v := .ref (w.2.2 3)) (C := RX0) (T := TX0) (N := 4) hx hb hts iw_X0_read_X0 hown hK.1 hP 1 rfl rfl 1 (by decide) (hts _ fl_X0_read_15) (fun _ h9 => h9) rfl dX0_read_39 ?_
        refine lv_iload_n hx hb dX0_read_42 rfl (lv_at hl 2 rfl) ?_
        have o16 := k15.1
        have k17 := k15.2
        refine va_iald hx hb hK.1 hP 3 0 rfl rfl o16 dX0_read_43 ?_
        have o18 := k17.1
        have k19 := k17.2
        refine xR_l (va_runS (As := [.ref (w.2.2 (19 + 2 * k)), .int p, .int (c.2.2.1 n.toNatClampNeg)]) (rest := []) ⟨hx, hb, hml, hown, hts⟩ (c_X0_readPacked l w c t r s k hk x p (c.2.2.1 n.toNatClampNeg) o18) (va_cwS 3 hts gX0_read_X0_readPacked rfl rfl rfl ds_X0_readPacked ⟨Nat.le_of_ble_eq_true rfl, Nat.le_of_ble_eq_true rfl⟩) (wPre hP hK) rfl rfl hl.1 rfl (lv_room (Nat.le_of_ble_eq_true rfl)) dX0_read_44 ⟨Nat.zero_le _, Nat.zero_le _⟩) ?_
        refine lv_goto (tgt := 61) hx hb dX0_read_47 (by decide) ?_
        exact xR_lret hx hb hr hlk  (Eq.trans (Eq.trans (Eq.trans rfl (if_neg b1)) (if_neg b5)) (if_pos b9)) dX0_read_61
    ·
      have k20 := Eq.mp (if_pos b5) k4
      refine lv_aload_n hx hb dX0_read_20 rfl (lv_at hl 1 rfl) ?_
      refine lv_iload_n hx hb dX0_read_21 rfl (lv_at hl 3 rfl) ?_
      have o21 := k20.1
      have k22 := k20.2
      refine xR_l (va_runS (As := [.ref (w.2.2 (19 + 2 * k)), .int p]) (rest := []) ⟨hx, hb, hml, hown, hts⟩ (c_X0_readBinary l w c t r s k hk x p o21) (va_cwS 2 hts gX0_read_X0_readBinary rfl rfl rfl ds_X0_readBinary ⟨Nat.le_of_ble_eq_true rfl, Nat.le_of_ble_eq_true rfl⟩) (wPre hP hK) rfl rfl hl.1 rfl (lv_room (Nat.le_of_ble_eq_true rfl)) dX0_read_22 ⟨Nat.zero_le _, Nat.zero_le _⟩) ?_
      exact xR_lret hx hb hr hlk  (Eq.trans (Eq.trans rfl (if_neg b1)) (if_pos b5)) dX0_read_25
  ·
    have k23 := Eq.mp (if_pos b1) hok
    refine lv_lconst (v := 0) hx hb dX0_read_8 (by decide) ?_
    exact xR_lret hx hb hr hlk  (Eq.trans rfl (if_pos b1)) dX0_read_9
set_option maxRecDepth 20000 in
theorem iw_X0_write_X0 : ∀ w ∈ wsX00, w ∈ wsX0_write := by decide +kernel
set_option maxRecDepth 20000 in
theorem fl_X0_write_15 : Cond.fieldLink RX0 15 "ProcedureCode$Cells" "digits" "[I" ∈ wsX0_write := by decide +kernel
set_option maxRecDepth 20000 in
theorem ds_X0_lowestDigits : yX0_lowestDigits.cls ≠ "java/lang/invoke/MethodHandle" ∧ yX0_lowestDigits.cls ≠ "java/lang/invoke/VarHandle" ∧ (parseMethodDescriptor yX0_lowestDigits.desc).map (fun d => d.parameters.length) = some 2 := by decide +kernel
set_option maxRecDepth 20000 in
theorem fl_X0_write_9 : Cond.fieldLink RX0 9 "ProcedureCode$Cells" "usages" "[I" ∈ wsX0_write := by decide +kernel
set_option maxRecDepth 20000 in
theorem ds_X0_writeZoned : yX0_writeZoned.cls ≠ "java/lang/invoke/MethodHandle" ∧ yX0_writeZoned.cls ≠ "java/lang/invoke/VarHandle" ∧ (parseMethodDescriptor yX0_writeZoned.desc).map (fun d => d.parameters.length) = some 4 := by decide +kernel
set_option maxRecDepth 20000 in
theorem ds_X0_writePacked : yX0_writePacked.cls ≠ "java/lang/invoke/MethodHandle" ∧ yX0_writePacked.cls ≠ "java/lang/invoke/VarHandle" ∧ (parseMethodDescriptor yX0_writePacked.desc).map (fun d => d.parameters.length) = some 4 := by decide +kernel
set_option maxRecDepth 20000 in
theorem ds_X0_writeBinary : yX0_writeBinary.cls ≠ "java/lang/invoke/MethodHandle" ∧ yX0_writeBinary.cls ≠ "java/lang/invoke/VarHandle" ∧ (parseMethodDescriptor yX0_writeBinary.desc).map (fun d => d.parameters.length) = some 3 := by decide +kernel
def G_X0_write (c : CS) (x : SS) (n : Int32) (p : Int32) (v : Int64) : SS := if (G_X0_has c n) = 0 then (x) else (if (c.2.1 n.toNatClampNeg) = (2 : Int32) then (G_X0_writeBinary x p ((G_X0_lowestDigits v (c.2.2.1 n.toNatClampNeg)).toInt32)) else (if (c.2.1 n.toNatClampNeg) = (1 : Int32) then (G_X0_writePacked x p (c.2.2.1 n.toNatClampNeg) (G_X0_lowestDigits v (c.2.2.1 n.toNatClampNeg))) else (G_X0_writeZoned x p (c.2.2.1 n.toNatClampNeg) (G_X0_lowestDigits v (c.2.2.1 n.toNatClampNeg)))))
def OK_X0_write (c : CS) (x : SS) (n : Int32) (p : Int32) (v : Int64) : Prop := if (G_X0_has c n) = 0 then (True) else ((vp_in n 40) ∧ ((OK_X0_lowestDigits v (c.2.2.1 n.toNatClampNeg)) ∧ ((vp_in n 40) ∧ (if (c.2.1 n.toNatClampNeg) = (2 : Int32) then ((OK_X0_writeBinary x p ((G_X0_lowestDigits v (c.2.2.1 n.toNatClampNeg)).toInt32)) ∧ (True)) else ((vp_in n 40) ∧ (if (c.2.1 n.toNatClampNeg) = (1 : Int32) then ((vp_in n 40) ∧ ((OK_X0_writePacked x p (c.2.2.1 n.toNatClampNeg) (G_X0_lowestDigits v (c.2.2.1 n.toNatClampNeg))) ∧ (True))) else ((vp_in n 40) ∧ ((OK_X0_writeZoned x p (c.2.2.1 n.toNatClampNeg) (G_X0_lowestDigits v (c.2.2.1 n.toNatClampNeg))) ∧ (True)))))))))
set_option maxHeartbeats 4000000 in
set_option maxRecDepth 100000 in
theorem c_X0_write (l : Launch) (w : WG) (hA : wAp w 26) (c : CS) (t : TS) (r : RS) (s : Nat → SS) (k : Nat) (hk : k < 4) (x : SS) (n : Int32) (p : Int32) (v : Int64) (hok : OK_X0_write c x n p v) : Met l yX0_write wsX0_write { frames := 2, cells := 0, slots := 0, locals := 52 } (va_Pc [.ref (w.2.2 1), .ref (w.2.2 (19 + 2 * k)), .int n, .int p, .long v] (wPK w (wC w c t r (va_up s k x)))) (xM none (fun H => va_P w.1 vwCl (wC w c t r (va_up s k (G_X0_write c x n p v))) H) (wA w 26)) 0 0 (wA w 26) := by
  refine xOf (cc := cX0_write) (maxL := 8) (ret := none) (lv := [(0, .ref (w.2.2 1)), (1, .ref (w.2.2 (19 + 2 * k))), (2, .int n), (3, .int p), (4, .long v)]) (by decide) rfl (Nat.le_of_ble_eq_true rfl) rfl ?_
  intro pP eE S mM below meth C hx hb hr hml hts hown hlk hnm hw ls hl
  obtain ⟨hP, hK⟩ := hw
  have hS : va_S (wA w 26) S.heap S.heap [] := va_S.rf
  have hP : va_P w.1 vwCl (wC w c t r (va_up s k x)) S.heap := hP
  refine lv_aload_n hx hb dX0_write_0 rfl (lv_at hl 0 rfl) ?_
  refine lv_iload_n hx hb dX0_write_1 rfl (lv_at hl 2 rfl) ?_
  refine xR_i (va_runV (As := [.int n]) (rest := []) ⟨hx, hb, hml, hown, hts⟩ (c_X0_has l w c t r (va_up s k x) n ) (cwV 1 hts gX0_write_X0_has rfl rfl rfl dv_X0_has ⟨Nat.le_of_ble_eq_true rfl, Nat.le_of_ble_eq_true rfl⟩) (wPreV hP hK (ci := 1) (q0 := 1) rfl rfl) rfl rfl hl.1 rfl (lv_room (Nat.le_of_ble_eq_true rfl)) dX0_write_2 ⟨Nat.zero_le _, Nat.zero_le _⟩) ?_
  refine lv_if_ne (tgt := 9) hx hb dX0_write_5 (by decide) (fun b1 => ?_) (fun b1 => ?_)
  ·
    have k2 := Eq.mp (if_neg b1) hok
    refine lv_lload hx hb dX0_write_9 (lv_at hl 4 rfl) ?_
    refine lv_aload_n hx hb dX0_write_11 rfl (lv_at hl 0 rfl) ?_
    refine va_get (D := w.1) (ci := 1) (v := .ref (w.2.2 3)) (C := RX0) (T := TX0) (N := 4) hx hb hts iw_X0_write_X0 hown hK.1 hP 1 rfl rfl 1 (by decide) (hts _ fl_X0_write_15) (fun _ h9 => h9) rfl dX0_write_12 ?_
    refine lv_iload_n hx hb dX0_write_15 rfl (lv_at hl 2 rfl) ?_
    have o3 := k2.1
    have k4 := k2.2
    refine va_iald hx hb hK.1 hP 3 0 rfl rfl o3 dX0_write_16 ?_
    have o5 := k4.1
    have k6 := k4.2
    refine xR_l (va_runS (As := [.long v, .int (c.2.2.1 n.toNatClampNeg)]) (rest := []) ⟨hx, hb, hml, hown, hts⟩ (c_X0_lowestDigits l w c t r (va_up s k x) v (c.2.2.1 n.toNatClampNeg) o5) (va_cwS 2 hts gX0_write_X0_lowestDigits rfl rfl rfl ds_X0_lowestDigits ⟨Nat.le_of_ble_eq_true rfl, Nat.le_of_ble_eq_true rfl⟩) (wPre hP hK) rfl rfl hl.1 rfl (lv_room (Nat.le_of_ble_eq_true rfl)) dX0_write_17 ⟨Nat.zero_le _, Nat.zero_le _⟩) ?_
    refine lv_lstore (lv' := [(6, .long (G_X0_lowestDigits v (c.2.2.1 n.toNatClampNeg))), (0, .ref (w.2.2 1)), (1, .ref (w.2.2 (19 + 2 * k))), (2, .int n), (3, .int p), (4, .long v)]) hx hb dX0_write_20 hl (by decide) rfl (fun ls hl => ?_)
    refine lv_aload_n hx hb dX0_write_22 rfl (lv_at hl 1 rfl) ?_
    refine va_get (D := w.1) (ci := 1) (v := .ref (w.2.2 2)) (C := RX0) (T := TX0) (N := 4) hx hb hts iw_X0_write_X0 hown hK.1 hP 1 rfl rfl 0 (by decide) (hts _ fl_X0_write_9) (fun _ h9 => h9) rfl dX0_write_23 ?_
    refine lv_iload_n hx hb dX0_write_26 rfl (lv_at hl 3 rfl) ?_
    have o7 := k6.1
    have k8 := k6.2
    refine va_iald hx hb hK.1 hP 2 0 rfl rfl o7 dX0_write_27 ?_
    refine lv_iconst (v := 2) hx hb dX0_write_28 (by decide) ?_
    refine lv_icmp_ne (tgt := 43) hx hb dX0_write_29 (by decide) (fun b9 => ?_) (fun b9 => ?_)
    ·
      have k10 := Eq.mp (if_neg b9) k8
      refine lv_aload_n hx hb dX0_write_43 rfl (lv_at hl 1 rfl) ?_
      refine va_get (D := w.1) (ci := 1) (v := .ref (w.2.2 2)) (C := RX0) (T := TX0) (N := 4) hx hb hts iw_X0_write_X0 hown hK.1 hP 1 rfl rfl 0 (by decide) (hts _ fl_X0_write_9) (fun _ h9 => h9) rfl dX0_write_44 ?_
      refine lv_iload_n hx hb dX0_write_47 rfl (lv_at hl 3 rfl) ?_
      have o11 := k10.1
      have k12 := k10.2
      refine va_iald hx hb hK.1 hP 2 0 rfl rfl o11 dX0_write_48 ?_
      refine lv_iconst (v := 1) hx hb dX0_write_49 (by decide) ?_
      refine lv_icmp_ne (tgt := 69) hx hb dX0_write_50 (by decide) (fun b13 => ?_) (fun b13 => ?_)
      ·
        have k14 := Eq.mp (if_neg b13) k12
        refine lv_aload_n hx hb dX0_write_69 rfl (lv_at hl 2 rfl) ?_
        refine lv_iload_n hx hb dX0_write_70 rfl (lv_at hl 4 rfl) ?_
        refine lv_aload_n hx hb dX0_write_71 rfl (lv_at hl 1 rfl) ?_
        refine va_get (D := w.1) (ci := 1) (v := .ref (w.2.2 3)) (C := RX0) (T := TX0) (N := 4) hx hb hts iw_X0_write_X0 hown hK.1 hP 1 rfl rfl 1 (by decide) (hts _ fl_X0_write_15) (fun _ h9 => h9) rfl dX0_write_72 ?_
        refine lv_iload_n hx hb dX0_write_75 rfl (lv_at hl 3 rfl) ?_
        have o15 := k14.1
        have k16 := k14.2
        refine va_iald hx hb hK.1 hP 3 0 rfl rfl o15 dX0_write_76 ?_
        refine lv_lload hx hb dX0_write_77 (lv_at hl 0 rfl) ?_
        have o17 := k16.1
        have k18 := k16.2
        refine xM_v (va_runS (As := [.ref (w.2.2 (19 + 2 * k)), .int p, .int (c.2.2.1 n.toNatClampNeg), .long (G_X0_lowestDigits v (c.2.2.1 n.toNatClampNeg))]) (rest := []) ⟨hx, hb, hml, hown, hts⟩ (c_X0_writeZoned l w hA c t r s k hk x p (c.2.2.1 n.toNatClampNeg) (G_X0_lowestDigits v (c.2.2.1 n.toNatClampNeg)) o17) (va_cwS 4 hts gX0_write_X0_writeZoned rfl rfl rfl ds_X0_writeZoned ⟨Nat.le_of_ble_eq_true rfl, Nat.le_of_ble_eq_true rfl⟩) (wPre hP hK) rfl rfl hl.1 rfl (lv_room (Nat.le_of_ble_eq_true rfl)) dX0_write_79 ⟨Nat.zero_le _, Nat.zero_le _⟩) hS (fun H locs hP hS => ?_)
        have hP : va_P w.1 vwCl (wC w c t r (va_up s k (G_X0_writeZoned x p (c.2.2.1 n.toNatClampNeg) (G_X0_lowestDigits v (c.2.2.1 n.toNatClampNeg))))) H := hP
        have e9 : G_X0_write c x n p v = G_X0_writeZoned x p (c.2.2.1 n.toNatClampNeg) (G_X0_lowestDigits v (c.2.2.1 n.toNatClampNeg)) := Eq.trans (Eq.trans (Eq.trans rfl (if_neg b1)) (if_neg b9)) (if_neg b13)
        exact xM_vret hx hb hr hlk  hS  (by rw [e9]; exact hP) dX0_write_82
      ·
        have k19 := Eq.mp (if_pos b13) k12
        refine lv_aload_n hx hb dX0_write_53 rfl (lv_at hl 2 rfl) ?_
        refine lv_iload_n hx hb dX0_write_54 rfl (lv_at hl 4 rfl) ?_
        refine lv_aload_n hx hb dX0_write_55 rfl (lv_at hl 1 rfl) ?_
        refine va_get (D := w.1) (ci := 1) (v := .ref (w.2.2 3)) (C := RX0) (T := TX0) (N := 4) hx hb hts iw_X0_write_X0 hown hK.1 hP 1 rfl rfl 1 (by decide) (hts _ fl_X0_write_15) (fun _ h9 => h9) rfl dX0_write_56 ?_
        refine lv_iload_n hx hb dX0_write_59 rfl (lv_at hl 3 rfl) ?_
        have o20 := k19.1
        have k21 := k19.2
        refine va_iald hx hb hK.1 hP 3 0 rfl rfl o20 dX0_write_60 ?_
        refine lv_lload hx hb dX0_write_61 (lv_at hl 0 rfl) ?_
        have o22 := k21.1
        have k23 := k21.2
        refine xM_v (va_runS (As := [.ref (w.2.2 (19 + 2 * k)), .int p, .int (c.2.2.1 n.toNatClampNeg), .long (G_X0_lowestDigits v (c.2.2.1 n.toNatClampNeg))]) (rest := []) ⟨hx, hb, hml, hown, hts⟩ (c_X0_writePacked l w hA c t r s k hk x p (c.2.2.1 n.toNatClampNeg) (G_X0_lowestDigits v (c.2.2.1 n.toNatClampNeg)) o22) (va_cwS 4 hts gX0_write_X0_writePacked rfl rfl rfl ds_X0_writePacked ⟨Nat.le_of_ble_eq_true rfl, Nat.le_of_ble_eq_true rfl⟩) (wPre hP hK) rfl rfl hl.1 rfl (lv_room (Nat.le_of_ble_eq_true rfl)) dX0_write_63 ⟨Nat.zero_le _, Nat.zero_le _⟩) hS (fun H locs hP hS => ?_)
        have hP : va_P w.1 vwCl (wC w c t r (va_up s k (G_X0_writePacked x p (c.2.2.1 n.toNatClampNeg) (G_X0_lowestDigits v (c.2.2.1 n.toNatClampNeg))))) H := hP
        refine lv_goto (tgt := 82) hx hb dX0_write_66 (by decide) ?_
        have e9 : G_X0_write c x n p v = G_X0_writePacked x p (c.2.2.1 n.toNatClampNeg) (G_X0_lowestDigits v (c.2.2.1 n.toNatClampNeg)) := Eq.trans (Eq.trans (Eq.trans rfl (if_neg b1)) (if_neg b9)) (if_pos b13)
        exact xM_vret hx hb hr hlk  hS  (by rw [e9]; exact hP) dX0_write_82
    ·
      have k24 := Eq.mp (if_pos b9) k8
      refine lv_aload_n hx hb dX0_write_32 rfl (lv_at hl 2 rfl) ?_
      refine lv_iload_n hx hb dX0_write_33 rfl (lv_at hl 4 rfl) ?_
      refine lv_lload hx hb dX0_write_34 (lv_at hl 0 rfl) ?_
      refine lv_l2i hx hb dX0_write_36 rfl ?_
      have o25 := k24.1
      have k26 := k24.2
      refine xM_v (va_runS (As := [.ref (w.2.2 (19 + 2 * k)), .int p, .int ((G_X0_lowestDigits v (c.2.2.1 n.toNatClampNeg)).toInt32)]) (rest := []) ⟨hx, hb, hml, hown, hts⟩ (c_X0_writeBinary l w hA c t r s k hk x p ((G_X0_lowestDigits v (c.2.2.1 n.toNatClampNeg)).toInt32) o25) (va_cwS 3 hts gX0_write_X0_writeBinary rfl rfl rfl ds_X0_writeBinary ⟨Nat.le_of_ble_eq_true rfl, Nat.le_of_ble_eq_true rfl⟩) (wPre hP hK) rfl rfl hl.1 rfl (lv_room (Nat.le_of_ble_eq_true rfl)) dX0_write_37 ⟨Nat.zero_le _, Nat.zero_le _⟩) hS (fun H locs hP hS => ?_)
      have hP : va_P w.1 vwCl (wC w c t r (va_up s k (G_X0_writeBinary x p ((G_X0_lowestDigits v (c.2.2.1 n.toNatClampNeg)).toInt32)))) H := hP
      refine lv_goto (tgt := 82) hx hb dX0_write_40 (by decide) ?_
      have e9 : G_X0_write c x n p v = G_X0_writeBinary x p ((G_X0_lowestDigits v (c.2.2.1 n.toNatClampNeg)).toInt32) := Eq.trans (Eq.trans rfl (if_neg b1)) (if_pos b9)
      exact xM_vret hx hb hr hlk  hS  (by rw [e9]; exact hP) dX0_write_82
  ·
    have k27 := Eq.mp (if_pos b1) hok
    have e9 : G_X0_write c x n p v = x := Eq.trans rfl (if_pos b1)
    exact xM_vret hx hb hr hlk  hS  (by rw [e9]; exact hP) dX0_write_8
set_option maxRecDepth 20000 in
theorem iw_X0_add_X0 : ∀ w ∈ wsX00, w ∈ wsX0_add := by decide +kernel
set_option maxRecDepth 20000 in
theorem fl_X0_add_21 : Cond.fieldLink RX0 21 "ProcedureCode$Cells" "count" "I" ∈ wsX0_add := by decide +kernel
set_option maxRecDepth 20000 in
theorem fl_X0_add_9 : Cond.fieldLink RX0 9 "ProcedureCode$Cells" "usages" "[I" ∈ wsX0_add := by decide +kernel
set_option maxRecDepth 20000 in
theorem fl_X0_add_15 : Cond.fieldLink RX0 15 "ProcedureCode$Cells" "digits" "[I" ∈ wsX0_add := by decide +kernel
set_option maxRecDepth 20000 in
theorem fl_X0_add_18 : Cond.fieldLink RX0 18 "ProcedureCode$Cells" "places" "[I" ∈ wsX0_add := by decide +kernel
def G_X0_add (c : CS) (u : Int32) (d : Int32) (p : Int32) : Int32 × CS := if u < 0 then (((-4 : Int32), c)) else (if (2 : Int32) < u then (((-4 : Int32), c)) else (if d < (1 : Int32) then (((-4 : Int32), c)) else (if d ≤ (9 : Int32) then (if p < 0 then (((-4 : Int32), c)) else (if p ≤ ((64 : Int32) - (G_X0_sizeFor u d)) then (if c.1 < (40 : Int32) then (((c.1 + (1 : Int32)) - (1 : Int32), (c.1 + (1 : Int32), upd c.2.1 c.1.toNatClampNeg u, upd c.2.2.1 c.1.toNatClampNeg d, upd c.2.2.2 c.1.toNatClampNeg p))) else (((-1 : Int32), c))) else (((-4 : Int32), c)))) else (((-4 : Int32), c)))))
def OK_X0_add (c : CS) (u : Int32) (d : Int32) (p : Int32) : Prop := if u < 0 then (True) else (if (2 : Int32) < u then (True) else (if d < (1 : Int32) then (True) else (if d ≤ (9 : Int32) then (if p < 0 then (True) else (if p ≤ ((64 : Int32) - (G_X0_sizeFor u d)) then (if c.1 < (40 : Int32) then ((vp_in c.1 40) ∧ ((vp_in c.1 40) ∧ ((vp_in c.1 40) ∧ (True)))) else (True)) else (True))) else (True))))
set_option maxHeartbeats 4000000 in
set_option maxRecDepth 100000 in
theorem c_X0_add (l : Launch) (w : WG) (hA : wAp w 26) (c : CS) (t : TS) (r : RS) (s : Nat → SS) (u : Int32) (d : Int32) (p : Int32) (hok : OK_X0_add c u d p) : Met l yX0_add wsX0_add { frames := 1, cells := 0, slots := 0, locals := 21 } (va_Pc [.ref (w.2.2 1), .int u, .int d, .int p] (wPK w (wC w c t r s))) (xM (some (.int ((G_X0_add c u d p).1))) (fun H => va_P w.1 vwCl (wC w ((G_X0_add c u d p).2) t r s) H) (wA w 26)) 0 0 (wA w 26) := by
  refine xOf (cc := cX0_add) (maxL := 4) (ret := (some .int)) (lv := [(0, .ref (w.2.2 1)), (1, .int u), (2, .int d), (3, .int p)]) (by decide) rfl (Nat.le_of_ble_eq_true rfl) rfl ?_
  intro pP eE S mM below meth C hx hb hr hml hts hown hlk hnm hw ls hl
  obtain ⟨hP, hK⟩ := hw
  have hS : va_S (wA w 26) S.heap S.heap [] := va_S.rf
  have hP : va_P w.1 vwCl (wC w c t r s) S.heap := hP
  refine lv_iload_n hx hb dX0_add_0 rfl (lv_at hl 1 rfl) ?_
  refine lv_if_lt (tgt := 20) hx hb dX0_add_1 (by decide) (fun b1 => ?_) (fun b1 => ?_)
  ·
    have k2 := Eq.mp (if_pos b1) hok
    refine lv_bipush (v := -4) hx hb dX0_add_20 (by decide) ?_
    have e9 : G_X0_add c u d p = ((-4 : Int32), c) := Eq.trans rfl (if_pos b1)
    exact xM_iret hx hb hr hlk  hS (by rw [e9]) (by rw [e9]; exact hP) dX0_add_22
  ·
    have k3 := Eq.mp (if_neg b1) hok
    refine lv_iload_n hx hb dX0_add_4 rfl (lv_at hl 1 rfl) ?_
    refine lv_iconst (v := 2) hx hb dX0_add_5 (by decide) ?_
    refine lv_icmp_gt (tgt := 20) hx hb dX0_add_6 (by decide) (fun b4 => ?_) (fun b4 => ?_)
    ·
      have k5 := Eq.mp (if_pos b4) k3
      refine lv_bipush (v := -4) hx hb dX0_add_20 (by decide) ?_
      have e9 : G_X0_add c u d p = ((-4 : Int32), c) := Eq.trans (Eq.trans rfl (if_neg b1)) (if_pos b4)
      exact xM_iret hx hb hr hlk  hS (by rw [e9]) (by rw [e9]; exact hP) dX0_add_22
    ·
      have k6 := Eq.mp (if_neg b4) k3
      refine lv_iload_n hx hb dX0_add_9 rfl (lv_at hl 2 rfl) ?_
      refine lv_iconst (v := 1) hx hb dX0_add_10 (by decide) ?_
      refine lv_icmp_lt (tgt := 20) hx hb dX0_add_11 (by decide) (fun b7 => ?_) (fun b7 => ?_)
      ·
        have k8 := Eq.mp (if_pos b7) k6
        refine lv_bipush (v := -4) hx hb dX0_add_20 (by decide) ?_
        have e9 : G_X0_add c u d p = ((-4 : Int32), c) := Eq.trans (Eq.trans (Eq.trans rfl (if_neg b1)) (if_neg b4)) (if_pos b7)
        exact xM_iret hx hb hr hlk  hS (by rw [e9]) (by rw [e9]; exact hP) dX0_add_22
      ·
        have k9 := Eq.mp (if_neg b7) k6
        refine lv_iload_n hx hb dX0_add_14 rfl (lv_at hl 2 rfl) ?_
        refine lv_bipush (v := 9) hx hb dX0_add_15 (by decide) ?_
        refine lv_icmp_le (tgt := 23) hx hb dX0_add_17 (by decide) (fun b10 => ?_) (fun b10 => ?_)
        ·
          have k11 := Eq.mp (if_pos b10) k9
          refine lv_iload_n hx hb dX0_add_23 rfl (lv_at hl 3 rfl) ?_
          refine lv_if_lt (tgt := 39) hx hb dX0_add_24 (by decide) (fun b12 => ?_) (fun b12 => ?_)
          ·
            have k13 := Eq.mp (if_pos b12) k11
            refine lv_bipush (v := -4) hx hb dX0_add_39 (by decide) ?_
            have e9 : G_X0_add c u d p = ((-4 : Int32), c) := Eq.trans (Eq.trans (Eq.trans (Eq.trans (Eq.trans rfl (if_neg b1)) (if_neg b4)) (if_neg b7)) (if_pos b10)) (if_pos b12)
            exact xM_iret hx hb hr hlk  hS (by rw [e9]) (by rw [e9]; exact hP) dX0_add_41
          ·
            have k14 := Eq.mp (if_neg b12) k11
            refine lv_iload_n hx hb dX0_add_27 rfl (lv_at hl 3 rfl) ?_
            refine lv_bipush (v := 64) hx hb dX0_add_28 (by decide) ?_
            refine lv_iload_n hx hb dX0_add_30 rfl (lv_at hl 1 rfl) ?_
            refine lv_iload_n hx hb dX0_add_31 rfl (lv_at hl 2 rfl) ?_
            refine xR_i (va_runS (As := [.int u, .int d]) (rest := [.int (64 : Int32), .int p]) ⟨hx, hb, hml, hown, hts⟩ (c_X0_sizeFor l w c t r s u d ) (va_cwS 2 hts gX0_add_X0_sizeFor rfl rfl rfl ds_X0_sizeFor ⟨Nat.le_of_ble_eq_true rfl, Nat.le_of_ble_eq_true rfl⟩) (wPre hP hK) rfl rfl hl.1 rfl (lv_room (Nat.le_of_ble_eq_true rfl)) dX0_add_32 ⟨Nat.zero_le _, Nat.zero_le _⟩) ?_
            refine lv_isub hx hb dX0_add_35 ?_
            refine lv_icmp_le (tgt := 42) hx hb dX0_add_36 (by decide) (fun b15 => ?_) (fun b15 => ?_)
            ·
              have k16 := Eq.mp (if_pos b15) k14
              refine lv_aload_n hx hb dX0_add_42 rfl (lv_at hl 0 rfl) ?_
              refine va_get (D := w.1) (ci := 1) (v := .int c.1) (C := RX0) (T := TX0) (N := 4) hx hb hts iw_X0_add_X0 hown hK.1 hP 1 rfl rfl 3 (by decide) (hts _ fl_X0_add_21) (fun _ h9 => h9) rfl dX0_add_43 ?_
              refine lv_bipush (v := 40) hx hb dX0_add_46 (by decide) ?_
              refine lv_icmp_lt (tgt := 53) hx hb dX0_add_48 (by decide) (fun b17 => ?_) (fun b17 => ?_)
              ·
                have k18 := Eq.mp (if_pos b17) k16
                refine lv_aload_n hx hb dX0_add_53 rfl (lv_at hl 0 rfl) ?_
                refine va_get (D := w.1) (ci := 1) (v := .ref (w.2.2 2)) (C := RX0) (T := TX0) (N := 4) hx hb hts iw_X0_add_X0 hown hK.1 hP 1 rfl rfl 0 (by decide) (hts _ fl_X0_add_9) (fun _ h9 => h9) rfl dX0_add_54 ?_
                refine lv_aload_n hx hb dX0_add_57 rfl (lv_at hl 0 rfl) ?_
                refine va_get (D := w.1) (ci := 1) (v := .int c.1) (C := RX0) (T := TX0) (N := 4) hx hb hts iw_X0_add_X0 hown hK.1 hP 1 rfl rfl 3 (by decide) (hts _ fl_X0_add_21) (fun _ h9 => h9) rfl dX0_add_58 ?_
                refine lv_iload_n hx hb dX0_add_61 rfl (lv_at hl 1 rfl) ?_
                have o19 := k18.1
                have k20 := k18.2
                refine va_iast hx hb hK.1 hP (wC_D hA) hS 2 0 rfl rfl o19 dX0_add_62 (fun H locs hP _ hS => ?_)
                have hP : va_P w.1 vwCl (wC w (c.1, upd c.2.1 c.1.toNatClampNeg u, c.2.2.1, c.2.2.2) t r s) H := hP
                refine lv_aload_n hx hb dX0_add_63 rfl (lv_at hl 0 rfl) ?_
                refine va_get (D := w.1) (ci := 1) (v := .ref (w.2.2 3)) (C := RX0) (T := TX0) (N := 4) hx hb hts iw_X0_add_X0 hown hK.1 hP 1 rfl rfl 1 (by decide) (hts _ fl_X0_add_15) (fun _ h9 => h9) rfl dX0_add_64 ?_
                refine lv_aload_n hx hb dX0_add_67 rfl (lv_at hl 0 rfl) ?_
                refine va_get (D := w.1) (ci := 1) (v := .int c.1) (C := RX0) (T := TX0) (N := 4) hx hb hts iw_X0_add_X0 hown hK.1 hP 1 rfl rfl 3 (by decide) (hts _ fl_X0_add_21) (fun _ h9 => h9) rfl dX0_add_68 ?_
                refine lv_iload_n hx hb dX0_add_71 rfl (lv_at hl 2 rfl) ?_
                have o21 := k20.1
                have k22 := k20.2
                refine va_iast hx hb hK.1 hP (wC_D hA) hS 3 0 rfl rfl o21 dX0_add_72 (fun H locs hP _ hS => ?_)
                have hP : va_P w.1 vwCl (wC w (c.1, upd c.2.1 c.1.toNatClampNeg u, upd c.2.2.1 c.1.toNatClampNeg d, c.2.2.2) t r s) H := hP
                refine lv_aload_n hx hb dX0_add_73 rfl (lv_at hl 0 rfl) ?_
                refine va_get (D := w.1) (ci := 1) (v := .ref (w.2.2 4)) (C := RX0) (T := TX0) (N := 4) hx hb hts iw_X0_add_X0 hown hK.1 hP 1 rfl rfl 2 (by decide) (hts _ fl_X0_add_18) (fun _ h9 => h9) rfl dX0_add_74 ?_
                refine lv_aload_n hx hb dX0_add_77 rfl (lv_at hl 0 rfl) ?_
                refine va_get (D := w.1) (ci := 1) (v := .int c.1) (C := RX0) (T := TX0) (N := 4) hx hb hts iw_X0_add_X0 hown hK.1 hP 1 rfl rfl 3 (by decide) (hts _ fl_X0_add_21) (fun _ h9 => h9) rfl dX0_add_78 ?_
                refine lv_iload_n hx hb dX0_add_81 rfl (lv_at hl 3 rfl) ?_
                have o23 := k22.1
                have k24 := k22.2
                refine va_iast hx hb hK.1 hP (wC_D hA) hS 4 0 rfl rfl o23 dX0_add_82 (fun H locs hP _ hS => ?_)
                have hP : va_P w.1 vwCl (wC w (c.1, upd c.2.1 c.1.toNatClampNeg u, upd c.2.2.1 c.1.toNatClampNeg d, upd c.2.2.2 c.1.toNatClampNeg p) t r s) H := hP
                refine lv_aload_n hx hb dX0_add_83 rfl (lv_at hl 0 rfl) ?_
                refine lv_dup hx hb dX0_add_84 rfl ?_
                refine va_get (D := w.1) (ci := 1) (v := .int c.1) (C := RX0) (T := TX0) (N := 4) hx hb hts iw_X0_add_X0 hown hK.1 hP 1 rfl rfl 3 (by decide) (hts _ fl_X0_add_21) (fun _ h9 => h9) rfl dX0_add_85 ?_
                refine lv_iconst (v := 1) hx hb dX0_add_88 (by decide) ?_
                refine lv_iadd hx hb dX0_add_89 ?_
                refine va_put (D := w.1) (ci := 1) (v := .int (c.1 + (1 : Int32))) (ty := .int) (C := RX0) (T := TX0) (N := 4) hx hb hts iw_X0_add_X0 tyX0 tyX0_ok nmX0 hown hK.1 hP (wC_D hA) hS 1 rfl rfl 3 (by decide) (hts _ fl_X0_add_21) (fun _ h9 => h9) rfl (by decide +kernel) rfl rfl (Nat.le_of_ble_eq_true rfl) dX0_add_90 (fun H locs hP _ hS => ?_)
                have hP : va_P w.1 vwCl (wC w (c.1 + (1 : Int32), upd c.2.1 c.1.toNatClampNeg u, upd c.2.2.1 c.1.toNatClampNeg d, upd c.2.2.2 c.1.toNatClampNeg p) t r s) H := hP
                refine lv_aload_n hx hb dX0_add_93 rfl (lv_at hl 0 rfl) ?_
                refine va_get (D := w.1) (ci := 1) (v := .int (c.1 + (1 : Int32))) (C := RX0) (T := TX0) (N := 4) hx hb hts iw_X0_add_X0 hown hK.1 hP 1 rfl rfl 3 (by decide) (hts _ fl_X0_add_21) (fun _ h9 => h9) rfl dX0_add_94 ?_
                refine lv_iconst (v := 1) hx hb dX0_add_97 (by decide) ?_
                refine lv_isub hx hb dX0_add_98 ?_
                have e9 : G_X0_add c u d p = ((c.1 + (1 : Int32)) - (1 : Int32), (c.1 + (1 : Int32), upd c.2.1 c.1.toNatClampNeg u, upd c.2.2.1 c.1.toNatClampNeg d, upd c.2.2.2 c.1.toNatClampNeg p)) := Eq.trans (Eq.trans (Eq.trans (Eq.trans (Eq.trans (Eq.trans (Eq.trans rfl (if_neg b1)) (if_neg b4)) (if_neg b7)) (if_pos b10)) (if_neg b12)) (if_pos b15)) (if_pos b17)
                exact xM_iret hx hb hr hlk  hS (by rw [e9]) (by rw [e9]; exact hP) dX0_add_99
              ·
                have k25 := Eq.mp (if_neg b17) k16
                refine lv_iconst (v := -1) hx hb dX0_add_51 (by decide) ?_
                have e9 : G_X0_add c u d p = ((-1 : Int32), c) := Eq.trans (Eq.trans (Eq.trans (Eq.trans (Eq.trans (Eq.trans (Eq.trans rfl (if_neg b1)) (if_neg b4)) (if_neg b7)) (if_pos b10)) (if_neg b12)) (if_pos b15)) (if_neg b17)
                exact xM_iret hx hb hr hlk  hS (by rw [e9]) (by rw [e9]; exact hP) dX0_add_52
            ·
              have k26 := Eq.mp (if_neg b15) k14
              refine lv_bipush (v := -4) hx hb dX0_add_39 (by decide) ?_
              have e9 : G_X0_add c u d p = ((-4 : Int32), c) := Eq.trans (Eq.trans (Eq.trans (Eq.trans (Eq.trans (Eq.trans rfl (if_neg b1)) (if_neg b4)) (if_neg b7)) (if_pos b10)) (if_neg b12)) (if_neg b15)
              exact xM_iret hx hb hr hlk  hS (by rw [e9]) (by rw [e9]; exact hP) dX0_add_41
        ·
          have k27 := Eq.mp (if_neg b10) k9
          refine lv_bipush (v := -4) hx hb dX0_add_20 (by decide) ?_
          have e9 : G_X0_add c u d p = ((-4 : Int32), c) := Eq.trans (Eq.trans (Eq.trans (Eq.trans rfl (if_neg b1)) (if_neg b4)) (if_neg b7)) (if_neg b10)
          exact xM_iret hx hb hr hlk  hS (by rw [e9]) (by rw [e9]; exact hP) dX0_add_22
