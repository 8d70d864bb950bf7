/-! the reference's world: 25 cells -/
/-- code, raisedByWalk, raisedByCode -/
abbrev ME : Type := Int32 × Int32 × Int32
/-- cells, usages, digits, sizes, places -/
abbrev MC : Type := Int32 × AI × AI × AI × AI
/-- nodes, kinds, as, bs, sure, folded, folds -/
abbrev MT : Type := Int32 × AI × AI × AI × AI × AI × AL
/-- kept, keptOps, keptDigits, keptNumbers -/
abbrev MK : Type := Int32 × AI × AI × AL
/-- rows, ops, rowDigits, numbers -/
abbrev MR : Type := Int32 × AI × AI × AL
/-- size, tasks, taskOps, taskDigits, taskNumbers, opened, open -/
abbrev MQS : Type := Int32 × AI × AI × AI × AL × Int32 × AI
/-- values, turns -/
abbrev MV : Type := AL × AL
def wM (w : WG) (me : ME) (mb : AI) (mc : MC) (mt : MT) (mk : MK) (mr : MR) (mq : MQS) (mv : MV) : va_W :=
  [(w.2.2 0, .inr (6, [.int me.1, .ref (w.2.2 1), .ref (w.2.2 2), .ref (w.2.2 3), .ref (w.2.2 4), .ref (w.2.2 5), .int mc.1, .ref (w.2.2 6), .ref (w.2.2 7), .ref (w.2.2 8), .ref (w.2.2 9), .ref (w.2.2 10), .ref (w.2.2 11), .int mt.1, .ref (w.2.2 12), .ref (w.2.2 13), .ref (w.2.2 14), .ref (w.2.2 15), .ref (w.2.2 16), .ref (w.2.2 17), .int mk.1, .int mr.1, .ref (w.2.2 18), .ref (w.2.2 19), .ref (w.2.2 20), .ref (w.2.2 21), .ref (w.2.2 22), .int mq.1, .int mq.2.2.2.2.2.1, .ref (w.2.2 23), .ref (w.2.2 24), .int me.2.1, .int me.2.2])),
   (w.2.2 1, .inl (w.2.1 1, 128, .inl mb)),
   (w.2.2 2, .inl (w.2.1 0, 40, .inl mc.2.1)),
   (w.2.2 3, .inl (w.2.1 0, 40, .inl mc.2.2.1)),
   (w.2.2 4, .inl (w.2.1 0, 40, .inl mc.2.2.2.1)),
   (w.2.2 5, .inl (w.2.1 0, 40, .inl mc.2.2.2.2)),
   (w.2.2 6, .inl (w.2.1 0, 201, .inl mt.2.1)),
   (w.2.2 7, .inl (w.2.1 0, 201, .inl mt.2.2.1)),
   (w.2.2 8, .inl (w.2.1 0, 201, .inl mt.2.2.2.1)),
   (w.2.2 9, .inl (w.2.1 0, 201, .inl mt.2.2.2.2.1)),
   (w.2.2 10, .inl (w.2.1 2, 201, .inl mt.2.2.2.2.2.1)),
   (w.2.2 11, .inl (w.2.1 3, 201, .inr (.inl mt.2.2.2.2.2.2))),
   (w.2.2 12, .inl (w.2.1 0, 401, .inl mk.2.1)),
   (w.2.2 13, .inl (w.2.1 0, 401, .inl mk.2.2.1)),
   (w.2.2 14, .inl (w.2.1 0, 401, .inl mr.2.1)),
   (w.2.2 15, .inl (w.2.1 0, 401, .inl mr.2.2.1)),
   (w.2.2 16, .inl (w.2.1 3, 401, .inr (.inl mk.2.2.2))),
   (w.2.2 17, .inl (w.2.1 3, 401, .inr (.inl mr.2.2.2))),
   (w.2.2 18, .inl (w.2.1 0, 3000, .inl mq.2.1)),
   (w.2.2 19, .inl (w.2.1 0, 3000, .inl mq.2.2.1)),
   (w.2.2 20, .inl (w.2.1 0, 3000, .inl mq.2.2.2.1)),
   (w.2.2 21, .inl (w.2.1 0, 500, .inl mq.2.2.2.2.2.2)),
   (w.2.2 22, .inl (w.2.1 3, 3000, .inr (.inl mq.2.2.2.2.1))),
   (w.2.2 23, .inl (w.2.1 3, 500, .inr (.inl mv.1))),
   (w.2.2 24, .inl (w.2.1 3, 500, .inr (.inl mv.2)))]
theorem wM_D {w : WG} {me : ME} {mb : AI} {mc : MC} {mt : MT} {mk : MK} {mr : MR} {mq : MQS} {mv : MV} (h : wAp w 25) : va_D (wA w 25) (wM w me mb mc mt mk mr mq mv) := wD_of h rfl

set_option maxRecDepth 20000 in
theorem iw_X5_thrown_X5 : ∀ w ∈ wsX50, w ∈ wsX5_thrown := by decide +kernel
set_option maxRecDepth 20000 in
theorem fl_X5_thrown_85 : Cond.fieldLink RX5 85 "ProcedureCodeModel" "code" "I" ∈ wsX5_thrown := by decide +kernel
def G_X5_thrown (me : ME)  : Int32 := me.1
set_option maxHeartbeats 4000000 in
set_option maxRecDepth 100000 in
theorem c_X5_thrown (l : Launch) (w : WG) (me : ME) (mb : AI) (mc : MC) (mt : MT) (mk : MK) (mr : MR) (mq : MQS) (mv : MV) : Met l yX5_thrown wsX5_thrown { frames := 0, cells := 0, slots := 0, locals := 0 } (va_Pc [.ref (w.2.2 0)] (wPK w (wM w me mb mc mt mk mr mq mv))) (xR (some (.int (G_X5_thrown me)))) 0 0 xNo := by
  refine xOf (cc := cX5_thrown) (maxL := 1) (ret := (some .int)) (lv := [(0, .ref (w.2.2 0))]) (by decide) rfl (Nat.le_of_ble_eq_true rfl) rfl ?_
  intro pP eE S mM below meth C hx hb hr hml hts hown hlk hnm hw ls hl
  obtain ⟨hP, hK⟩ := hw
  refine lv_aload_n hx hb dX5_thrown_0 rfl (lv_at hl 0 rfl) ?_
  refine va_get (D := w.1) (ci := 6) (v := .int me.1) (C := RX5) (T := TX5) (N := 33) hx hb hts iw_X5_thrown_X5 hown hK.1 hP 0 rfl rfl 0 (by decide) (hts _ fl_X5_thrown_85) (fun _ h9 => h9) rfl dX5_thrown_1 ?_
  exact xR_iret hx hb hr hlk  rfl dX5_thrown_4
set_option maxRecDepth 20000 in
theorem iw_X5_cell_X5 : ∀ w ∈ wsX50, w ∈ wsX5_cell := by decide +kernel
set_option maxRecDepth 20000 in
theorem fl_X5_cell_85 : Cond.fieldLink RX5 85 "ProcedureCodeModel" "code" "I" ∈ wsX5_cell := by decide +kernel
set_option maxRecDepth 20000 in
theorem fl_X5_cell_89 : Cond.fieldLink RX5 89 "ProcedureCodeModel" "cells" "I" ∈ wsX5_cell := by decide +kernel
set_option maxRecDepth 20000 in
theorem fl_X5_cell_13 : Cond.fieldLink RX5 13 "ProcedureCodeModel" "usages" "[I" ∈ wsX5_cell := by decide +kernel
set_option maxRecDepth 20000 in
theorem fl_X5_cell_17 : Cond.fieldLink RX5 17 "ProcedureCodeModel" "digits" "[I" ∈ wsX5_cell := by decide +kernel
set_option maxRecDepth 20000 in
theorem fl_X5_cell_20 : Cond.fieldLink RX5 20 "ProcedureCodeModel" "sizes" "[I" ∈ wsX5_cell := by decide +kernel
set_option maxRecDepth 20000 in
theorem fl_X5_cell_23 : Cond.fieldLink RX5 23 "ProcedureCodeModel" "places" "[I" ∈ wsX5_cell := by decide +kernel
def G_X5_cell (me : ME) (mc : MC) (u : Int32) (d : Int32) (p : Int32) : Int32 × ME × MC := if u < 0 then (((-4 : Int32), ((0 : Int32), me.2.1, me.2.2), mc)) else (if (2 : Int32) < u then (((-4 : Int32), ((0 : Int32), me.2.1, me.2.2), mc)) else (if d < (1 : Int32) then (((-4 : Int32), ((0 : Int32), me.2.1, me.2.2), mc)) else (if d ≤ (9 : Int32) then (if u = 0 then (if p < 0 then (((-4 : Int32), ((0 : Int32), me.2.1, me.2.2), mc)) else (if p ≤ ((64 : Int32) - d) then (if mc.1 = (40 : Int32) then (((-1 : Int32), ((0 : Int32), me.2.1, me.2.2), mc)) else (((mc.1 + (1 : Int32)) - (1 : Int32), ((0 : Int32), me.2.1, me.2.2), (mc.1 + (1 : Int32), upd mc.2.1 mc.1.toNatClampNeg u, upd mc.2.2.1 mc.1.toNatClampNeg d, upd mc.2.2.2.1 mc.1.toNatClampNeg d, upd mc.2.2.2.2 mc.1.toNatClampNeg p)))) else (((-4 : Int32), ((0 : Int32), me.2.1, me.2.2), mc)))) else (if u = (1 : Int32) then (if p < 0 then (((-4 : Int32), ((0 : Int32), me.2.1, me.2.2), mc)) else (if p ≤ ((64 : Int32) - ((d / (2 : Int32)) + (1 : Int32))) then (if mc.1 = (40 : Int32) then (((-1 : Int32), ((0 : Int32), me.2.1, me.2.2), mc)) else (((mc.1 + (1 : Int32)) - (1 : Int32), ((0 : Int32), me.2.1, me.2.2), (mc.1 + (1 : Int32), upd mc.2.1 mc.1.toNatClampNeg u, upd mc.2.2.1 mc.1.toNatClampNeg d, upd mc.2.2.2.1 mc.1.toNatClampNeg ((d / (2 : Int32)) + (1 : Int32)), upd mc.2.2.2.2 mc.1.toNatClampNeg p)))) else (((-4 : Int32), ((0 : Int32), me.2.1, me.2.2), mc)))) else (if p < 0 then (((-4 : Int32), ((0 : Int32), me.2.1, me.2.2), mc)) else (if p ≤ ((64 : Int32) - (4 : Int32)) then (if mc.1 = (40 : Int32) then (((-1 : Int32), ((0 : Int32), me.2.1, me.2.2), mc)) else (((mc.1 + (1 : Int32)) - (1 : Int32), ((0 : Int32), me.2.1, me.2.2), (mc.1 + (1 : Int32), upd mc.2.1 mc.1.toNatClampNeg u, upd mc.2.2.1 mc.1.toNatClampNeg d, upd mc.2.2.2.1 mc.1.toNatClampNeg (4 : Int32), upd mc.2.2.2.2 mc.1.toNatClampNeg p)))) else (((-4 : Int32), ((0 : Int32), me.2.1, me.2.2), mc)))))) else (((-4 : Int32), ((0 : Int32), me.2.1, me.2.2), mc)))))
def OK_X5_cell (me : ME) (mc : MC) (u : Int32) (d : Int32) (p : Int32) : Prop := if u < 0 then (True) else (if (2 : Int32) < u then (True) else (if d < (1 : Int32) then (True) else (if d ≤ (9 : Int32) then (if u = 0 then (if p < 0 then (True) else (if p ≤ ((64 : Int32) - d) then (if mc.1 = (40 : Int32) then (True) else ((vp_in mc.1 40) ∧ ((vp_in mc.1 40) ∧ ((vp_in mc.1 40) ∧ ((vp_in mc.1 40) ∧ (True)))))) else (True))) else (if u = (1 : Int32) then (if p < 0 then (True) else (if p ≤ ((64 : Int32) - ((d / (2 : Int32)) + (1 : Int32))) then (if mc.1 = (40 : Int32) then (True) else ((vp_in mc.1 40) ∧ ((vp_in mc.1 40) ∧ ((vp_in mc.1 40) ∧ ((vp_in mc.1 40) ∧ (True)))))) else (True))) else (if p < 0 then (True) else (if p ≤ ((64 : Int32) - (4 : Int32)) then (if mc.1 = (40 : Int32) then (True) else ((vp_in mc.1 40) ∧ ((vp_in mc.1 40) ∧ ((vp_in mc.1 40) ∧ ((vp_in mc.1 40) ∧ (True)))))) else (True))))) else (True))))
set_option maxHeartbeats 4000000 in
set_option maxRecDepth 100000 in
theorem c_X5_cell (l : Launch) (w : WG) (hA : wAp w 25) (me : ME) (mb : AI) (mc : MC) (mt : MT) (mk : MK) (mr : MR) (mq : MQS) (mv : MV) (u : Int32) (d : Int32) (p : Int32) (hok : OK_X5_cell me mc u d p) : Met l yX5_cell wsX5_cell { frames := 0, cells := 0, slots := 0, locals := 0 } (va_Pc [.ref (w.2.2 0), .int u, .int d, .int p] (wPK w (wM w me mb mc mt mk mr mq mv))) (xM (some (.int ((G_X5_cell me mc u d p).1))) (fun H => va_P w.1 vwCl (wM w ((G_X5_cell me mc u d p).2.1) mb ((G_X5_cell me mc u d p).2.2) mt mk mr mq mv) H) (wA w 25)) 0 0 (wA w 25) := by
  refine xOf (cc := cX5_cell) (maxL := 5) (ret := (some .int)) (lv := [(0, .ref (w.2.2 0)), (1, .int u), (2, .int d), (3, .int p)]) (by decide) rfl (Nat.le_of_ble_eq_true rfl) rfl ?_
  intro pP eE S mM below meth C hx hb hr hml hts hown hlk hnm hw ls hl
  obtain ⟨hP, hK⟩ := hw
  have hS : va_S (wA w 25) S.heap S.heap [] := va_S.rf
  have hP : va_P w.1 vwCl (wM w me mb mc mt mk mr mq mv) S.heap := hP
  refine lv_aload_n hx hb dX5_cell_0 rfl (lv_at hl 0 rfl) ?_
  refine lv_iconst (v := 0) hx hb dX5_cell_1 (by decide) ?_
  refine va_put (D := w.1) (ci := 6) (v := .int (0 : Int32)) (ty := .int) (C := RX5) (T := TX5) (N := 33) hx hb hts iw_X5_cell_X5 tyX5 tyX5_ok nmX5 hown hK.1 hP (wM_D hA) hS 0 rfl rfl 0 (by decide) (hts _ fl_X5_cell_85) (fun _ h9 => h9) rfl (by decide +kernel) rfl rfl (Nat.le_of_ble_eq_true rfl) dX5_cell_2 (fun H locs hP _ hS => ?_)
  have hP : va_P w.1 vwCl (wM w ((0 : Int32), me.2.1, me.2.2) mb mc mt mk mr mq mv) H := hP
  refine lv_iload_n hx hb dX5_cell_5 rfl (lv_at hl 1 rfl) ?_
  refine lv_if_lt (tgt := 25) hx hb dX5_cell_6 (by decide) (fun b1 => ?_) (fun b1 => ?_)
  ·
    have k2 := Eq.mp (if_pos b1) hok
    refine lv_bipush (v := -4) hx hb dX5_cell_25 (by decide) ?_
    have e9 : G_X5_cell me mc u d p = ((-4 : Int32), ((0 : Int32), me.2.1, me.2.2), mc) := Eq.trans rfl (if_pos b1)
    exact xM_iret hx hb hr hlk  hS (by rw [e9]) (by rw [e9]; exact hP) dX5_cell_27
  ·
    have k3 := Eq.mp (if_neg b1) hok
    refine lv_iload_n hx hb dX5_cell_9 rfl (lv_at hl 1 rfl) ?_
    refine lv_iconst (v := 2) hx hb dX5_cell_10 (by decide) ?_
    refine lv_icmp_gt (tgt := 25) hx hb dX5_cell_11 (by decide) (fun b4 => ?_) (fun b4 => ?_)
    ·
      have k5 := Eq.mp (if_pos b4) k3
      refine lv_bipush (v := -4) hx hb dX5_cell_25 (by decide) ?_
      have e9 : G_X5_cell me mc u d p = ((-4 : Int32), ((0 : Int32), me.2.1, me.2.2), mc) := Eq.trans (Eq.trans rfl (if_neg b1)) (if_pos b4)
      exact xM_iret hx hb hr hlk  hS (by rw [e9]) (by rw [e9]; exact hP) dX5_cell_27
    ·
      have k6 := Eq.mp (if_neg b4) k3
      refine lv_iload_n hx hb dX5_cell_14 rfl (lv_at hl 2 rfl) ?_
      refine lv_iconst (v := 1) hx hb dX5_cell_15 (by decide) ?_
      refine lv_icmp_lt (tgt := 25) hx hb dX5_cell_16 (by decide) (fun b7 => ?_) (fun b7 => ?_)
      ·
        have k8 := Eq.mp (if_pos b7) k6
        refine lv_bipush (v := -4) hx hb dX5_cell_25 (by decide) ?_
        have e9 : G_X5_cell me mc u d p = ((-4 : Int32), ((0 : Int32), me.2.1, me.2.2), mc) := Eq.trans (Eq.trans (Eq.trans rfl (if_neg b1)) (if_neg b4)) (if_pos b7)
        exact xM_iret hx hb hr hlk  hS (by rw [e9]) (by rw [e9]; exact hP) dX5_cell_27
      ·
        have k9 := Eq.mp (if_neg b7) k6
        refine lv_iload_n hx hb dX5_cell_19 rfl (lv_at hl 2 rfl) ?_
        refine lv_bipush (v := 9) hx hb dX5_cell_20 (by decide) ?_
        refine lv_icmp_le (tgt := 28) hx hb dX5_cell_22 (by decide) (fun b10 => ?_) (fun b10 => ?_)
        ·
          have k11 := Eq.mp (if_pos b10) k9
          refine lv_iload_n hx hb dX5_cell_28 rfl (lv_at hl 1 rfl) ?_
          refine lv_if_ne (tgt := 36) hx hb dX5_cell_29 (by decide) (fun b12 => ?_) (fun b12 => ?_)
          ·
            have k13 := Eq.mp (if_neg b12) k11
            refine lv_iload_n hx hb dX5_cell_36 rfl (lv_at hl 1 rfl) ?_
            refine lv_iconst (v := 1) hx hb dX5_cell_37 (by decide) ?_
            refine lv_icmp_ne (tgt := 49) hx hb dX5_cell_38 (by decide) (fun b14 => ?_) (fun b14 => ?_)
            ·
              have k15 := Eq.mp (if_neg b14) k13
              refine lv_iconst (v := 4) hx hb dX5_cell_49 (by decide) ?_
              refine lv_istore (lv' := [(4, .int (4 : Int32)), (0, .ref (w.2.2 0)), (1, .int u), (2, .int d), (3, .int p)]) hx hb dX5_cell_50 hl (by decide) rfl (fun ls hl => ?_)
              refine lv_iload_n hx hb dX5_cell_52 rfl (lv_at hl 4 rfl) ?_
              refine lv_if_lt (tgt := 65) hx hb dX5_cell_53 (by decide) (fun b16 => ?_) (fun b16 => ?_)
              ·
                have k17 := Eq.mp (if_pos b16) k15
                refine lv_bipush (v := -4) hx hb dX5_cell_65 (by decide) ?_
                have e9 : G_X5_cell me mc u d p = ((-4 : Int32), ((0 : Int32), me.2.1, me.2.2), mc) := Eq.trans (Eq.trans (Eq.trans (Eq.trans (Eq.trans (Eq.trans (Eq.trans rfl (if_neg b1)) (if_neg b4)) (if_neg b7)) (if_pos b10)) (if_neg b12)) (if_neg b14)) (if_pos b16)
                exact xM_iret hx hb hr hlk  hS (by rw [e9]) (by rw [e9]; exact hP) dX5_cell_67
              ·
                have k18 := Eq.mp (if_neg b16) k15
                refine lv_iload_n hx hb dX5_cell_56 rfl (lv_at hl 4 rfl) ?_
                refine lv_bipush (v := 64) hx hb dX5_cell_57 (by decide) ?_
                refine lv_iload hx hb dX5_cell_59 (lv_at hl 0 rfl) ?_
                refine lv_isub hx hb dX5_cell_61 ?_
                refine lv_icmp_le (tgt := 68) hx hb dX5_cell_62 (by decide) (fun b19 => ?_) (fun b19 => ?_)
                ·
                  have k20 := Eq.mp (if_pos b19) k18
                  refine lv_aload_n hx hb dX5_cell_68 rfl (lv_at hl 1 rfl) ?_
                  refine va_get (D := w.1) (ci := 6) (v := .int mc.1) (C := RX5) (T := TX5) (N := 33) hx hb hts iw_X5_cell_X5 hown hK.1 hP 0 rfl rfl 6 (by decide) (hts _ fl_X5_cell_89) (fun _ h9 => h9) rfl dX5_cell_69 ?_
                  refine lv_bipush (v := 40) hx hb dX5_cell_72 (by decide) ?_
                  refine lv_icmp_ne (tgt := 79) hx hb dX5_cell_74 (by decide) (fun b21 => ?_) (fun b21 => ?_)
                  ·
                    have k22 := Eq.mp (if_neg b21) k20
                    refine lv_aload_n hx hb dX5_cell_79 rfl (lv_at hl 1 rfl) ?_
                    refine va_get (D := w.1) (ci := 6) (v := .ref (w.2.2 2)) (C := RX5) (T := TX5) (N := 33) hx hb hts iw_X5_cell_X5 hown hK.1 hP 0 rfl rfl 2 (by decide) (hts _ fl_X5_cell_13) (fun _ h9 => h9) rfl dX5_cell_80 ?_
                    refine lv_aload_n hx hb dX5_cell_83 rfl (lv_at hl 1 rfl) ?_
                    refine va_get (D := w.1) (ci := 6) (v := .int mc.1) (C := RX5) (T := TX5) (N := 33) hx hb hts iw_X5_cell_X5 hown hK.1 hP 0 rfl rfl 6 (by decide) (hts _ fl_X5_cell_89) (fun _ h9 => h9) rfl dX5_cell_84 ?_
                    refine lv_iload_n hx hb dX5_cell_87 rfl (lv_at hl 2 rfl) ?_
                    have o23 := k22.1
                    have k24 := k22.2
                    refine va_iast hx hb hK.1 hP (wM_D hA) hS 2 0 rfl rfl o23 dX5_cell_88 (fun H locs hP _ hS => ?_)
                    have hP : va_P w.1 vwCl (wM w ((0 : Int32), me.2.1, me.2.2) mb (mc.1, upd mc.2.1 mc.1.toNatClampNeg u, mc.2.2.1, mc.2.2.2.1, mc.2.2.2.2) mt mk mr mq mv) H := hP
                    refine lv_aload_n hx hb dX5_cell_89 rfl (lv_at hl 1 rfl) ?_
                    refine va_get (D := w.1) (ci := 6) (v := .ref (w.2.2 3)) (C := RX5) (T := TX5) (N := 33) hx hb hts iw_X5_cell_X5 hown hK.1 hP 0 rfl rfl 3 (by decide) (hts _ fl_X5_cell_17) (fun _ h9 => h9) rfl dX5_cell_90 ?_
                    refine lv_aload_n hx hb dX5_cell_93 rfl (lv_at hl 1 rfl) ?_
                    refine va_get (D := w.1) (ci := 6) (v := .int mc.1) (C := RX5) (T := TX5) (N := 33) hx hb hts iw_X5_cell_X5 hown hK.1 hP 0 rfl rfl 6 (by decide) (hts _ fl_X5_cell_89) (fun _ h9 => h9) rfl dX5_cell_94 ?_
                    refine lv_iload_n hx hb dX5_cell_97 rfl (lv_at hl 3 rfl) ?_
                    have o25 := k24.1
                    have k26 := k24.2
                    refine va_iast hx hb hK.1 hP (wM_D hA) hS 3 0 rfl rfl o25 dX5_cell_98 (fun H locs hP _ hS => ?_)
                    have hP : va_P w.1 vwCl (wM w ((0 : Int32), me.2.1, me.2.2) mb (mc.1, upd mc.2.1 mc.1.toNatClampNeg u, upd mc.2.2.1 mc.1.toNatClampNeg d, mc.2.2.2.1, mc.2.2.2.2) mt mk mr mq mv) H := hP
                    refine lv_aload_n hx hb dX5_cell_99 rfl (lv_at hl 1 rfl) ?_
                    refine va_get (D := w.1) (ci := 6) (v := .ref (w.2.2 4)) (C := RX5) (T := TX5) (N := 33) hx hb hts iw_X5_cell_X5 hown hK.1 hP 0 rfl rfl 4 (by decide) (hts _ fl_X5_cell_20) (fun _ h9 => h9) rfl dX5_cell_100 ?_
                    refine lv_aload_n hx hb dX5_cell_103 rfl (lv_at hl 1 rfl) ?_
                    refine va_get (D := w.1) (ci := 6) (v := .int mc.1) (C := RX5) (T := TX5) (N := 33) hx hb hts iw_X5_cell_X5 hown hK.1 hP 0 rfl rfl 6 (by decide) (hts _ fl_X5_cell_89) (fun _ h9 => h9) rfl dX5_cell_104 ?_
                    refine lv_iload hx hb dX5_cell_107 (lv_at hl 0 rfl) ?_
                    have o27 := k26.1
                    have k28 := k26.2
                    refine va_iast hx hb hK.1 hP (wM_D hA) hS 4 0 rfl rfl o27 dX5_cell_109 (fun H locs hP _ hS => ?_)
                    have hP : va_P w.1 vwCl (wM w ((0 : Int32), me.2.1, me.2.2) mb (mc.1, upd mc.2.1 mc.1.toNatClampNeg u, upd mc.2.2.1 mc.1.toNatClampNeg d, upd mc.2.2.2.1 mc.1.toNatClampNeg (4 : Int32), mc.2.2.2.2) mt mk mr mq mv) H := hP
                    refine lv_aload_n hx hb dX5_cell_110 rfl (lv_at hl 1 rfl) ?_
                    refine va_get (D := w.1) (ci := 6) (v := .ref (w.2.2 5)) (C := RX5) (T := TX5) (N := 33) hx hb hts iw_X5_cell_X5 hown hK.1 hP 0 rfl rfl 5 (by decide) (hts _ fl_X5_cell_23) (fun _ h9 => h9) rfl dX5_cell_111 ?_
                    refine lv_aload_n hx hb dX5_cell_114 rfl (lv_at hl 1 rfl) ?_
                    refine va_get (D := w.1) (ci := 6) (v := .int mc.1) (C := RX5) (T := TX5) (N := 33) hx hb hts iw_X5_cell_X5 hown hK.1 hP 0 rfl rfl 6 (by decide) (hts _ fl_X5_cell_89) (fun _ h9 => h9) rfl dX5_cell_115 ?_
                    refine lv_iload_n hx hb dX5_cell_118 rfl (lv_at hl 4 rfl) ?_
                    have o29 := k28.1
                    have k30 := k28.2
                    refine va_iast hx hb hK.1 hP (wM_D hA) hS 5 0 rfl rfl o29 dX5_cell_119 (fun H locs hP _ hS => ?_)
                    have hP : va_P w.1 vwCl (wM w ((0 : Int32), me.2.1, me.2.2) mb (mc.1, upd mc.2.1 mc.1.toNatClampNeg u, upd mc.2.2.1 mc.1.toNatClampNeg d, upd mc.2.2.2.1 mc.1.toNatClampNeg (4 : Int32), upd mc.2.2.2.2 mc.1.toNatClampNeg p) mt mk mr mq mv) H := hP
                    refine lv_aload_n hx hb dX5_cell_120 rfl (lv_at hl 1 rfl) ?_
                    refine lv_dup hx hb dX5_cell_121 rfl ?_
                    refine va_get (D := w.1) (ci := 6) (v := .int mc.1) (C := RX5) (T := TX5) (N := 33) hx hb hts iw_X5_cell_X5 hown hK.1 hP 0 rfl rfl 6 (by decide) (hts _ fl_X5_cell_89) (fun _ h9 => h9) rfl dX5_cell_122 ?_
                    refine lv_iconst (v := 1) hx hb dX5_cell_125 (by decide) ?_
                    refine lv_iadd hx hb dX5_cell_126 ?_
                    refine va_put (D := w.1) (ci := 6) (v := .int (mc.1 + (1 : Int32))) (ty := .int) (C := RX5) (T := TX5) (N := 33) hx hb hts iw_X5_cell_X5 tyX5 tyX5_ok nmX5 hown hK.1 hP (wM_D hA) hS 0 rfl rfl 6 (by decide) (hts _ fl_X5_cell_89) (fun _ h9 => h9) rfl (by decide +kernel) rfl rfl (Nat.le_of_ble_eq_true rfl) dX5_cell_127 (fun H locs hP _ hS => ?_)
                    have hP : va_P w.1 vwCl (wM w ((0 : Int32), me.2.1, me.2.2) mb (mc.1 + (1 : Int32), upd mc.2.1 mc.1.toNatClampNeg u, upd mc.2.2.1 mc.1.toNatClampNeg d, upd mc.2.2.2.1 mc.1.toNatClampNeg (4 : Int32), upd mc.2.2.2.2 mc.1.toNatClampNeg p) mt mk mr mq mv) H := hP
                    refine lv_aload_n hx hb dX5_cell_130 rfl (lv_at hl 1 rfl) ?_
                    refine va_get (D := w.1) (ci := 6) (v := .int (mc.1 + (1 : Int32))) (C := RX5) (T := TX5) (N := 33) hx hb hts iw_X5_cell_X5 hown hK.1 hP 0 rfl rfl 6 (by decide) (hts _ fl_X5_cell_89) (fun _ h9 => h9) rfl dX5_cell_131 ?_
                    refine lv_iconst (v := 1) hx hb dX5_cell_134 (by decide) ?_
                    refine lv_isub hx hb dX5_cell_135 ?_
                    have e9 : G_X5_cell me mc u d p = ((mc.1 + (1 : Int32)) - (1 : Int32), ((0 : Int32), me.2.1, me.2.2), (mc.1 + (1 : Int32), upd mc.2.1 mc.1.toNatClampNeg u, upd mc.2.2.1 mc.1.toNatClampNeg d, upd mc.2.2.2.1 mc.1.toNatClampNeg (4 : Int32), upd mc.2.2.2.2 mc.1.toNatClampNeg p)) := Eq.trans (Eq.trans (Eq.trans (Eq.trans (Eq.trans (Eq.trans (Eq.trans (Eq.trans (Eq.trans rfl (if_neg b1)) (if_neg b4)) (if_neg b7)) (if_pos b10)) (if_neg b12)) (if_neg b14)) (if_neg b16)) (if_pos b19)) (if_neg b21)
                    exact xM_iret hx hb hr hlk  hS (by rw [e9]) (by rw [e9]; exact hP) dX5_cell_136
                  ·
                    have k31 := Eq.mp (if_pos b21) k20
                    refine lv_iconst (v := -1) hx hb dX5_cell_77 (by decide) ?_
                    have e9 : G_X5_cell me mc u d p = ((-1 : Int32), ((0 : Int32), me.2.1, me.2.2), mc) := Eq.trans (Eq.trans (Eq.trans (Eq.trans (Eq.trans (Eq.trans (Eq.trans (Eq.trans (Eq.trans rfl (if_neg b1)) (if_neg b4)) (if_neg b7)) (if_pos b10)) (if_neg b12)) (if_neg b14)) (if_neg b16)) (if_pos b19)) (if_pos b21)
                    exact xM_iret hx hb hr hlk  hS (by rw [e9]) (by rw [e9]; exact hP) dX5_cell_78
                ·
                  have k32 := Eq.mp (if_neg b19) k18
                  refine lv_bipush (v := -4) hx hb dX5_cell_65 (by decide) ?_
                  have e9 : G_X5_cell me mc u d p = ((-4 : Int32), ((0 : Int32), me.2.1, me.2.2), mc) := Eq.trans (Eq.trans (Eq.trans (Eq.trans (Eq.trans (Eq.trans (Eq.trans (Eq.trans rfl (if_neg b1)) (if_neg b4)) (if_neg b7)) (if_pos b10)) (if_neg b12)) (if_neg b14)) (if_neg b16)) (if_neg b19)
                  exact xM_iret hx hb hr hlk  hS (by rw [e9]) (by rw [e9]; exact hP) dX5_cell_67
            ·
              have k33 := Eq.mp (if_pos b14) k13
              refine lv_iload_n hx hb dX5_cell_41 rfl (lv_at hl 2 rfl) ?_
              refine lv_iconst (v := 2) hx hb dX5_cell_42 (by decide) ?_
              refine lv_idiv hx hb dX5_cell_43 (by decide) ?_
              refine lv_iconst (v := 1) hx hb dX5_cell_44 (by decide) ?_
              refine lv_iadd hx hb dX5_cell_45 ?_
              refine lv_goto (tgt := 50) hx hb dX5_cell_46 (by decide) ?_
              refine lv_istore (lv' := [(4, .int ((d / (2 : Int32)) + (1 : Int32))), (0, .ref (w.2.2 0)), (1, .int u), (2, .int d), (3, .int p)]) hx hb dX5_cell_50 hl (by decide) rfl (fun ls hl => ?_)
              refine lv_iload_n hx hb dX5_cell_52 rfl (lv_at hl 4 rfl) ?_
              refine lv_if_lt (tgt := 65) hx hb dX5_cell_53 (by decide) (fun b34 => ?_) (fun b34 => ?_)
              ·
                have k35 := Eq.mp (if_pos b34) k33
                refine lv_bipush (v := -4) hx hb dX5_cell_65 (by decide) ?_
                have e9 : G_X5_cell me mc u d p = ((-4 : Int32), ((0 : Int32), me.2.1, me.2.2), mc) := Eq.trans (Eq.trans (Eq.trans (Eq.trans (Eq.trans (Eq.trans (Eq.trans rfl (if_neg b1)) (if_neg b4)) (if_neg b7)) (if_pos b10)) (if_neg b12)) (if_pos b14)) (if_pos b34)
                exact xM_iret hx hb hr hlk  hS (by rw [e9]) (by rw [e9]; exact hP) dX5_cell_67
              ·
                have k36 := Eq.mp (if_neg b34) k33
                refine lv_iload_n hx hb dX5_cell_56 rfl (lv_at hl 4 rfl) ?_
                refine lv_bipush (v := 64) hx hb dX5_cell_57 (by decide) ?_
                refine lv_iload hx hb dX5_cell_59 (lv_at hl 0 rfl) ?_
                refine lv_isub hx hb dX5_cell_61 ?_
                refine lv_icmp_le (tgt := 68) hx hb dX5_cell_62 (by decide) (fun b37 => ?_) (fun b37 => ?_)
                ·
                  have k38 := Eq.mp (if_pos b37) k36
                  refine lv_aload_n hx hb dX5_cell_68 rfl (lv_at hl 1 rfl) ?_
                  refine va_get (D := w.1) (ci := 6) (v := .int mc.1) (C := RX5) (T := TX5) (N := 33) hx hb hts iw_X5_cell_X5 hown hK.1 hP 0 rfl rfl 6 (by decide) (hts _ fl_X5_cell_89) (fun _ h9 => h9) rfl dX5_cell_69 ?_
                  refine lv_bipush (v := 40) hx hb dX5_cell_72 (by decide) ?_
                  refine lv_icmp_ne (tgt := 79) hx hb dX5_cell_74 (by decide) (fun b39 => ?_) (fun b39 => ?_)
                  ·
                    have k40 := Eq.mp (if_neg b39) k38
                    refine lv_aload_n hx hb dX5_cell_79 rfl (lv_at hl 1 rfl) ?_
                    refine va_get (D := w.1) (ci := 6) (v := .ref (w.2.2 2)) (C := RX5) (T := TX5) (N := 33) hx hb hts iw_X5_cell_X5 hown hK.1 hP 0 rfl rfl 2 (by decide) (hts _ fl_X5_cell_13) (fun _ h9 => h9) rfl dX5_cell_80 ?_
                    refine lv_aload_n hx hb dX5_cell_83 rfl (lv_at hl 1 rfl) ?_
                    refine va_get (D := w.1) (ci := 6) (v := .int mc.1) (C := RX5) (T := TX5) (N := 33) hx hb hts iw_X5_cell_X5 hown hK.1 hP 0 rfl rfl 6 (by decide) (hts _ fl_X5_cell_89) (fun _ h9 => h9) rfl dX5_cell_84 ?_
                    refine lv_iload_n hx hb dX5_cell_87 rfl (lv_at hl 2 rfl) ?_
                    have o41 := k40.1
                    have k42 := k40.2
                    refine va_iast hx hb hK.1 hP (wM_D hA) hS 2 0 rfl rfl o41 dX5_cell_88 (fun H locs hP _ hS => ?_)
                    have hP : va_P w.1 vwCl (wM w ((0 : Int32), me.2.1, me.2.2) mb (mc.1, upd mc.2.1 mc.1.toNatClampNeg u, mc.2.2.1, mc.2.2.2.1, mc.2.2.2.2) mt mk mr mq mv) H := hP
                    refine lv_aload_n hx hb dX5_cell_89 rfl (lv_at hl 1 rfl) ?_
                    refine va_get (D := w.1) (ci := 6) (v := .ref (w.2.2 3)) (C := RX5) (T := TX5) (N := 33) hx hb hts iw_X5_cell_X5 hown hK.1 hP 0 rfl rfl 3 (by decide) (hts _ fl_X5_cell_17) (fun _ h9 => h9) rfl dX5_cell_90 ?_
                    refine lv_aload_n hx hb dX5_cell_93 rfl (lv_at hl 1 rfl) ?_
                    refine va_get (D := w.1) (ci := 6) (v := .int mc.1) (C := RX5) (T := TX5) (N := 33) hx hb hts iw_X5_cell_X5 hown hK.1 hP 0 rfl rfl 6 (by decide) (hts _ fl_X5_cell_89) (fun _ h9 => h9) rfl dX5_cell_94 ?_
                    refine lv_iload_n hx hb dX5_cell_97 rfl (lv_at hl 3 rfl) ?_
                    have o43 := k42.1
                    have k44 := k42.2
                    refine va_iast hx hb hK.1 hP (wM_D hA) hS 3 0 rfl rfl o43 dX5_cell_98 (fun H locs hP _ hS => ?_)
                    have hP : va_P w.1 vwCl (wM w ((0 : Int32), me.2.1, me.2.2) mb (mc.1, upd mc.2.1 mc.1.toNatClampNeg u, upd mc.2.2.1 mc.1.toNatClampNeg d, mc.2.2.2.1, mc.2.2.2.2) mt mk mr mq mv) H := hP
                    refine lv_aload_n hx hb dX5_cell_99 rfl (lv_at hl 1 rfl) ?_
                    refine va_get (D := w.1) (ci := 6) (v := .ref (w.2.2 4)) (C := RX5) (T := TX5) (N := 33) hx hb hts iw_X5_cell_X5 hown hK.1 hP 0 rfl rfl 4 (by decide) (hts _ fl_X5_cell_20) (fun _ h9 => h9) rfl dX5_cell_100 ?_
                    refine lv_aload_n hx hb dX5_cell_103 rfl (lv_at hl 1 rfl) ?_
                    refine va_get (D := w.1) (ci := 6) (v := .int mc.1) (C := RX5) (T := TX5) (N := 33) hx hb hts iw_X5_cell_X5 hown hK.1 hP 0 rfl rfl 6 (by decide) (hts _ fl_X5_cell_89) (fun _ h9 => h9) rfl dX5_cell_104 ?_
                    refine lv_iload hx hb dX5_cell_107 (lv_at hl 0 rfl) ?_
                    have o45 := k44.1
                    have k46 := k44.2
                    refine va_iast hx hb hK.1 hP (wM_D hA) hS 4 0 rfl rfl o45 dX5_cell_109 (fun H locs hP _ hS => ?_)
                    have hP : va_P w.1 vwCl (wM w ((0 : Int32), me.2.1, me.2.2) mb (mc.1, upd mc.2.1 mc.1.toNatClampNeg u, upd mc.2.2.1 mc.1.toNatClampNeg d, upd mc.2.2.2.1 mc.1.toNatClampNeg ((d / (2 : Int32)) + (1 : Int32)), mc.2.2.2.2) mt mk mr mq mv) H := hP
                    refine lv_aload_n hx hb dX5_cell_110 rfl (lv_at hl 1 rfl) ?_
                    refine va_get (D := w.1) (ci := 6) (v := .ref (w.2.2 5)) (C := RX5) (T := TX5) (N := 33) hx hb hts iw_X5_cell_X5 hown hK.1 hP 0 rfl rfl 5 (by decide) (hts _ fl_X5_cell_23) (fun _ h9 => h9) rfl dX5_cell_111 ?_
                    refine lv_aload_n hx hb dX5_cell_114 rfl (lv_at hl 1 rfl) ?_
                    refine va_get (D := w.1) (ci := 6) (v := .int mc.1) (C := RX5) (T := TX5) (N := 33) hx hb hts iw_X5_cell_X5 hown hK.1 hP 0 rfl rfl 6 (by decide) (hts _ fl_X5_cell_89) (fun _ h9 => h9) rfl dX5_cell_115 ?_
                    refine lv_iload_n hx hb dX5_cell_118 rfl (lv_at hl 4 rfl) ?_
                    have o47 := k46.1
                    have k48 := k46.2
                    refine va_iast hx hb hK.1 hP (wM_D hA) hS 5 0 rfl rfl o47 dX5_cell_119 (fun H locs hP _ hS => ?_)
                    have hP : va_P w.1 vwCl (wM w ((0 : Int32), me.2.1, me.2.2) mb (mc.1, upd mc.2.1 mc.1.toNatClampNeg u, upd mc.2.2.1 mc.1.toNatClampNeg d, upd mc.2.2.2.1 mc.1.toNatClampNeg ((d / (2 : Int32)) + (1 : Int32)), upd mc.2.2.2.2 mc.1.toNatClampNeg p) mt mk mr mq mv) H := hP
                    refine lv_aload_n hx hb dX5_cell_120 rfl (lv_at hl 1 rfl) ?_
                    refine lv_dup hx hb dX5_cell_121 rfl ?_
                    refine va_get (D := w.1) (ci := 6) (v := .int mc.1) (C := RX5) (T := TX5) (N := 33) hx hb hts iw_X5_cell_X5 hown hK.1 hP 0 rfl rfl 6 (by decide) (hts _ fl_X5_cell_89) (fun _ h9 => h9) rfl dX5_cell_122 ?_
                    refine lv_iconst (v := 1) hx hb dX5_cell_125 (by decide) ?_
                    refine lv_iadd hx hb dX5_cell_126 ?_
                    refine va_put (D := w.1) (ci := 6) (v := .int (mc.1 + (1 : Int32))) (ty := .int) (C := RX5) (T := TX5) (N := 33) hx hb hts iw_X5_cell_X5 tyX5 tyX5_ok nmX5 hown hK.1 hP (wM_D hA) hS 0 rfl rfl 6 (by decide) (hts _ fl_X5_cell_89) (fun _ h9 => h9) rfl (by decide +kernel) rfl rfl (Nat.le_of_ble_eq_true rfl) dX5_cell_127 (fun H locs hP _ hS => ?_)
                    have hP : va_P w.1 vwCl (wM w ((0 : Int32), me.2.1, me.2.2) mb (mc.1 + (1 : Int32), upd mc.2.1 mc.1.toNatClampNeg u, upd mc.2.2.1 mc.1.toNatClampNeg d, upd mc.2.2.2.1 mc.1.toNatClampNeg ((d / (2 : Int32)) + (1 : Int32)), upd mc.2.2.2.2 mc.1.toNatClampNeg p) mt mk mr mq mv) H := hP
                    refine lv_aload_n hx hb dX5_cell_130 rfl (lv_at hl 1 rfl) ?_
                    refine va_get (D := w.1) (ci := 6) (v := .int (mc.1 + (1 : Int32))) (C := RX5) (T := TX5) (N := 33) hx hb hts iw_X5_cell_X5 hown hK.1 hP 0 rfl rfl 6 (by decide) (hts _ fl_X5_cell_89) (fun _ h9 => h9) rfl dX5_cell_131 ?_
                    refine lv_iconst (v := 1) hx hb dX5_cell_134 (by decide) ?_
                    refine lv_isub hx hb dX5_cell_135 ?_
                    have e9 : G_X5_cell me mc u d p = ((mc.1 + (1 : Int32)) - (1 : Int32), ((0 : Int32), me.2.1, me.2.2), (mc.1 + (1 : Int32), upd mc.2.1 mc.1.toNatClampNeg u, upd mc.2.2.1 mc.1.toNatClampNeg d, upd mc.2.2.2.1 mc.1.toNatClampNeg ((d / (2 : Int32)) + (1 : Int32)), upd mc.2.2.2.2 mc.1.toNatClampNeg p)) := Eq.trans (Eq.trans (Eq.trans (Eq.trans (Eq.trans (Eq.trans (Eq.trans (Eq.trans (Eq.trans rfl (if_neg b1)) (if_neg b4)) (if_neg b7)) (if_pos b10)) (if_neg b12)) (if_pos b14)) (if_neg b34)) (if_pos b37)) (if_neg b39)
                    exact xM_iret hx hb hr hlk  hS (by rw [e9]) (by rw [e9]; exact hP) dX5_cell_136
                  ·
                    have k49 := Eq.mp (if_pos b39) k38
                    refine lv_iconst (v := -1) hx hb dX5_cell_77 (by decide) ?_
                    have e9 : G_X5_cell me mc u d p = ((-1 : Int32), ((0 : Int32), me.2.1, me.2.2), mc) := Eq.trans (Eq.trans (Eq.trans (Eq.trans (Eq.trans (Eq.trans (Eq.trans (Eq.trans (Eq.trans rfl (if_neg b1)) (if_neg b4)) (if_neg b7)) (if_pos b10)) (if_neg b12)) (if_pos b14)) (if_neg b34)) (if_pos b37)) (if_pos b39)
                    exact xM_iret hx hb hr hlk  hS (by rw [e9]) (by rw [e9]; exact hP) dX5_cell_78
                ·
                  have k50 := Eq.mp (if_neg b37) k36
                  refine lv_bipush (v := -4) hx hb dX5_cell_65 (by decide) ?_
                  have e9 : G_X5_cell me mc u d p = ((-4 : Int32), ((0 : Int32), me.2.1, me.2.2), mc) := Eq.trans (Eq.trans (Eq.trans (Eq.trans (Eq.trans (Eq.trans (Eq.trans (Eq.trans rfl (if_neg b1)) (if_neg b4)) (if_neg b7)) (if_pos b10)) (if_neg b12)) (if_pos b14)) (if_neg b34)) (if_neg b37)
                  exact xM_iret hx hb hr hlk  hS (by rw [e9]) (by rw [e9]; exact hP) dX5_cell_67
          ·
            have k51 := Eq.mp (if_pos b12) k11
            refine lv_iload_n hx hb dX5_cell_32 rfl (lv_at hl 2 rfl) ?_
            refine lv_goto (tgt := 50) hx hb dX5_cell_33 (by decide) ?_
            refine lv_istore (lv' := [(4, .int d), (0, .ref (w.2.2 0)), (1, .int u), (2, .int d), (3, .int p)]) hx hb dX5_cell_50 hl (by decide) rfl (fun ls hl => ?_)
            refine lv_iload_n hx hb dX5_cell_52 rfl (lv_at hl 4 rfl) ?_
            refine lv_if_lt (tgt := 65) hx hb dX5_cell_53 (by decide) (fun b52 => ?_) (fun b52 => ?_)
            ·
              have k53 := Eq.mp (if_pos b52) k51
              refine lv_bipush (v := -4) hx hb dX5_cell_65 (by decide) ?_
              have e9 : G_X5_cell me mc u d p = ((-4 : Int32), ((0 : Int32), me.2.1, me.2.2), mc) := Eq.trans (Eq.trans (Eq.trans (Eq.trans (Eq.trans (Eq.trans rfl (if_neg b1)) (if_neg b4)) (if_neg b7)) (if_pos b10)) (if_pos b12)) (if_pos b52)
              exact xM_iret hx hb hr hlk  hS (by rw [e9]) (by rw [e9]; exact hP) dX5_cell_67
            ·
              have k54 := Eq.mp (if_neg b52) k51
              refine lv_iload_n hx hb dX5_cell_56 rfl (lv_at hl 4 rfl) ?_
              refine lv_bipush (v := 64) hx hb dX5_cell_57 (by decide) ?_
              refine lv_iload hx hb dX5_cell_59 (lv_at hl 0 rfl) ?_
              refine lv_isub hx hb dX5_cell_61 ?_
              refine lv_icmp_le (tgt := 68) hx hb dX5_cell_62 (by decide) (fun b55 => ?_) (fun b55 => ?_)
              ·
                have k56 := Eq.mp (if_pos b55) k54
                refine lv_aload_n hx hb dX5_cell_68 rfl (lv_at hl 1 rfl) ?_
                refine va_get (D := w.1) (ci := 6) (v := .int mc.1) (C := RX5) (T := TX5) (N := 33) hx hb hts iw_X5_cell_X5 hown hK.1 hP 0 rfl rfl 6 (by decide) (hts _ fl_X5_cell_89) (fun _ h9 => h9) rfl dX5_cell_69 ?_
                refine lv_bipush (v := 40) hx hb dX5_cell_72 (by decide) ?_
                refine lv_icmp_ne (tgt := 79) hx hb dX5_cell_74 (by decide) (fun b57 => ?_) (fun b57 => ?_)
                ·
                  have k58 := Eq.mp (if_neg b57) k56
                  refine lv_aload_n hx hb dX5_cell_79 rfl (lv_at hl 1 rfl) ?_
                  refine va_get (D := w.1) (ci := 6) (v := .ref (w.2.2 2)) (C := RX5) (T := TX5) (N := 33) hx hb hts iw_X5_cell_X5 hown hK.1 hP 0 rfl rfl 2 (by decide) (hts _ fl_X5_cell_13) (fun _ h9 => h9) rfl dX5_cell_80 ?_
                  refine lv_aload_n hx hb dX5_cell_83 rfl (lv_at hl 1 rfl) ?_
                  refine va_get (D := w.1) (ci := 6) (v := .int mc.1) (C := RX5) (T := TX5) (N := 33) hx hb hts iw_X5_cell_X5 hown hK.1 hP 0 rfl rfl 6 (by decide) (hts _ fl_X5_cell_89) (fun _ h9 => h9) rfl dX5_cell_84 ?_
                  refine lv_iload_n hx hb dX5_cell_87 rfl (lv_at hl 2 rfl) ?_
                  have o59 := k58.1
                  have k60 := k58.2
                  refine va_iast hx hb hK.1 hP (wM_D hA) hS 2 0 rfl rfl o59 dX5_cell_88 (fun H locs hP _ hS => ?_)
                  have hP : va_P w.1 vwCl (wM w ((0 : Int32), me.2.1, me.2.2) mb (mc.1, upd mc.2.1 mc.1.toNatClampNeg u, mc.2.2.1, mc.2.2.2.1, mc.2.2.2.2) mt mk mr mq mv) H := hP
                  refine lv_aload_n hx hb dX5_cell_89 rfl (lv_at hl 1 rfl) ?_
                  refine va_get (D := w.1) (ci := 6) (v := .ref (w.2.2 3)) (C := RX5) (T := TX5) (N := 33) hx hb hts iw_X5_cell_X5 hown hK.1 hP 0 rfl rfl 3 (by decide) (hts _ fl_X5_cell_17) (fun _ h9 => h9) rfl dX5_cell_90 ?_
                  refine lv_aload_n hx hb dX5_cell_93 rfl (lv_at hl 1 rfl) ?_
                  refine va_get (D := w.1) (ci := 6) (v := .int mc.1) (C := RX5) (T := TX5) (N := 33) hx hb hts iw_X5_cell_X5 hown hK.1 hP 0 rfl rfl 6 (by decide) (hts _ fl_X5_cell_89) (fun _ h9 => h9) rfl dX5_cell_94 ?_
                  refine lv_iload_n hx hb dX5_cell_97 rfl (lv_at hl 3 rfl) ?_
                  have o61 := k60.1
                  have k62 := k60.2
                  refine va_iast hx hb hK.1 hP (wM_D hA) hS 3 0 rfl rfl o61 dX5_cell_98 (fun H locs hP _ hS => ?_)
                  have hP : va_P w.1 vwCl (wM w ((0 : Int32), me.2.1, me.2.2) mb (mc.1, upd mc.2.1 mc.1.toNatClampNeg u, upd mc.2.2.1 mc.1.toNatClampNeg d, mc.2.2.2.1, mc.2.2.2.2) mt mk mr mq mv) H := hP
                  refine lv_aload_n hx hb dX5_cell_99 rfl (lv_at hl 1 rfl) ?_
                  refine va_get (D := w.1) (ci := 6) (v := .ref (w.2.2 4)) (C := RX5) (T := TX5) (N := 33) hx hb hts iw_X5_cell_X5 hown hK.1 hP 0 rfl rfl 4 (by decide) (hts _ fl_X5_cell_20) (fun _ h9 => h9) rfl dX5_cell_100 ?_
                  refine lv_aload_n hx hb dX5_cell_103 rfl (lv_at hl 1 rfl) ?_
                  refine va_get (D := w.1) (ci := 6) (v := .int mc.1) (C := RX5) (T := TX5) (N := 33) hx hb hts iw_X5_cell_X5 hown hK.1 hP 0 rfl rfl 6 (by decide) (hts _ fl_X5_cell_89) (fun _ h9 => h9) rfl dX5_cell_104 ?_
                  refine lv_iload hx hb dX5_cell_107 (lv_at hl 0 rfl) ?_
                  have o63 := k62.1
                  have k64 := k62.2
                  refine va_iast hx hb hK.1 hP (wM_D hA) hS 4 0 rfl rfl o63 dX5_cell_109 (fun H locs hP _ hS => ?_)
                  have hP : va_P w.1 vwCl (wM w ((0 : Int32), me.2.1, me.2.2) mb (mc.1, upd mc.2.1 mc.1.toNatClampNeg u, upd mc.2.2.1 mc.1.toNatClampNeg d, upd mc.2.2.2.1 mc.1.toNatClampNeg d, mc.2.2.2.2) mt mk mr mq mv) H := hP
                  refine lv_aload_n hx hb dX5_cell_110 rfl (lv_at hl 1 rfl) ?_
                  refine va_get (D := w.1) (ci := 6) (v := .ref (w.2.2 5)) (C := RX5) (T := TX5) (N := 33) hx hb hts iw_X5_cell_X5 hown hK.1 hP 0 rfl rfl 5 (by decide) (hts _ fl_X5_cell_23) (fun _ h9 => h9) rfl dX5_cell_111 ?_
                  refine lv_aload_n hx hb dX5_cell_114 rfl (lv_at hl 1 rfl) ?_
                  refine va_get (D := w.1) (ci := 6) (v := .int mc.1) (C := RX5) (T := TX5) (N := 33) hx hb hts iw_X5_cell_X5 hown hK.1 hP 0 rfl rfl 6 (by decide) (hts _ fl_X5_cell_89) (fun _ h9 => h9) rfl dX5_cell_115 ?_
                  refine lv_iload_n hx hb dX5_cell_118 rfl (lv_at hl 4 rfl) ?_
                  have o65 := k64.1
                  have k66 := k64.2
                  refine va_iast hx hb hK.1 hP (wM_D hA) hS 5 0 rfl rfl o65 dX5_cell_119 (fun H locs hP _ hS => ?_)
                  have hP : va_P w.1 vwCl (wM w ((0 : Int32), me.2.1, me.2.2) mb (mc.1, upd mc.2.1 mc.1.toNatClampNeg u, upd mc.2.2.1 mc.1.toNatClampNeg d, upd mc.2.2.2.1 mc.1.toNatClampNeg d, upd mc.2.2.2.2 mc.1.toNatClampNeg p) mt mk mr mq mv) H := hP
                  refine lv_aload_n hx hb dX5_cell_120 rfl (lv_at hl 1 rfl) ?_
                  refine lv_dup hx hb dX5_cell_121 rfl ?_
                  refine va_get (D := w.1) (ci := 6) (v := .int mc.1) (C := RX5) (T := TX5) (N := 33) hx hb hts iw_X5_cell_X5 hown hK.1 hP 0 rfl rfl 6 (by decide) (hts _ fl_X5_cell_89) (fun _ h9 => h9) rfl dX5_cell_122 ?_
                  refine lv_iconst (v := 1) hx hb dX5_cell_125 (by decide) ?_
                  refine lv_iadd hx hb dX5_cell_126 ?_
                  refine va_put (D := w.1) (ci := 6) (v := .int (mc.1 + (1 : Int32))) (ty := .int) (C := RX5) (T := TX5) (N := 33) hx hb hts iw_X5_cell_X5 tyX5 tyX5_ok nmX5 hown hK.1 hP (wM_D hA) hS 0 rfl rfl 6 (by decide) (hts _ fl_X5_cell_89) (fun _ h9 => h9) rfl (by decide +kernel) rfl rfl (Nat.le_of_ble_eq_true rfl) dX5_cell_127 (fun H locs hP _ hS => ?_)
                  have hP : va_P w.1 vwCl (wM w ((0 : Int32), me.2.1, me.2.2) mb (mc.1 + (1 : Int32), upd mc.2.1 mc.1.toNatClampNeg u, upd mc.2.2.1 mc.1.toNatClampNeg d, upd mc.2.2.2.1 mc.1.toNatClampNeg d, upd mc.2.2.2.2 mc.1.toNatClampNeg p) mt mk mr mq mv) H := hP
                  refine lv_aload_n hx hb dX5_cell_130 rfl (lv_at hl 1 rfl) ?_
                  refine va_get (D := w.1) (ci := 6) (v := .int (mc.1 + (1 : Int32))) (C := RX5) (T := TX5) (N := 33) hx hb hts iw_X5_cell_X5 hown hK.1 hP 0 rfl rfl 6 (by decide) (hts _ fl_X5_cell_89) (fun _ h9 => h9) rfl dX5_cell_131 ?_
                  refine lv_iconst (v := 1) hx hb dX5_cell_134 (by decide) ?_
                  refine lv_isub hx hb dX5_cell_135 ?_
                  have e9 : G_X5_cell me mc u d p = ((mc.1 + (1 : Int32)) - (1 : Int32), ((0 : Int32), me.2.1, me.2.2), (mc.1 + (1 : Int32), upd mc.2.1 mc.1.toNatClampNeg u, upd mc.2.2.1 mc.1.toNatClampNeg d, upd mc.2.2.2.1 mc.1.toNatClampNeg d, upd mc.2.2.2.2 mc.1.toNatClampNeg p)) := Eq.trans (Eq.trans (Eq.trans (Eq.trans (Eq.trans (Eq.trans (Eq.trans (Eq.trans rfl (if_neg b1)) (if_neg b4)) (if_neg b7)) (if_pos b10)) (if_pos b12)) (if_neg b52)) (if_pos b55)) (if_neg b57)
                  exact xM_iret hx hb hr hlk  hS (by rw [e9]) (by rw [e9]; exact hP) dX5_cell_136
                ·
                  have k67 := Eq.mp (if_pos b57) k56
                  refine lv_iconst (v := -1) hx hb dX5_cell_77 (by decide) ?_
                  have e9 : G_X5_cell me mc u d p = ((-1 : Int32), ((0 : Int32), me.2.1, me.2.2), mc) := Eq.trans (Eq.trans (Eq.trans (Eq.trans (Eq.trans (Eq.trans (Eq.trans (Eq.trans rfl (if_neg b1)) (if_neg b4)) (if_neg b7)) (if_pos b10)) (if_pos b12)) (if_neg b52)) (if_pos b55)) (if_pos b57)
                  exact xM_iret hx hb hr hlk  hS (by rw [e9]) (by rw [e9]; exact hP) dX5_cell_78
              ·
                have k68 := Eq.mp (if_neg b55) k54
                refine lv_bipush (v := -4) hx hb dX5_cell_65 (by decide) ?_
                have e9 : G_X5_cell me mc u d p = ((-4 : Int32), ((0 : Int32), me.2.1, me.2.2), mc) := Eq.trans (Eq.trans (Eq.trans (Eq.trans (Eq.trans (Eq.trans (Eq.trans rfl (if_neg b1)) (if_neg b4)) (if_neg b7)) (if_pos b10)) (if_pos b12)) (if_neg b52)) (if_neg b55)
                exact xM_iret hx hb hr hlk  hS (by rw [e9]) (by rw [e9]; exact hP) dX5_cell_67
        ·
          have k69 := Eq.mp (if_neg b10) k9
          refine lv_bipush (v := -4) hx hb dX5_cell_25 (by decide) ?_
          have e9 : G_X5_cell me mc u d p = ((-4 : Int32), ((0 : Int32), me.2.1, me.2.2), mc) := Eq.trans (Eq.trans (Eq.trans (Eq.trans rfl (if_neg b1)) (if_neg b4)) (if_neg b7)) (if_neg b10)
          exact xM_iret hx hb hr hlk  hS (by rw [e9]) (by rw [e9]; exact hP) dX5_cell_27
set_option maxRecDepth 20000 in
theorem mw_X5_ten_k92 : Cond.constantLong RX5 92 (10) ∈ wsX5_ten := by decide +kernel
def G_X5_ten_L4  (n : Int32) : Nat → Int64 → Int32 → Int64
  | 0, _, _ => 0
  | fu + 1, tv, i => if n ≤ i then (tv) else (G_X5_ten_L4 n fu (tv * (10 : Int64)) (i + (1 : Int32)))
def OK_X5_ten_L4  (n : Int32) : Nat → Int64 → Int32 → Prop
  | 0, _, _ => False
  | fu + 1, tv, i => if n ≤ i then (True) else (OK_X5_ten_L4 n fu (tv * (10 : Int64)) (i + (1 : Int32)))
def G_X5_ten  (n : Int32) : Int64 := G_X5_ten_L4 n 12 (1 : Int64) (0 : Int32)
def OK_X5_ten  (n : Int32) : Prop := OK_X5_ten_L4 n 12 (1 : Int64) (0 : Int32)
set_option maxHeartbeats 4000000 in
set_option maxRecDepth 100000 in
theorem L_X5_ten_L4 (l : Launch) (w : WG) (me : ME) (mb : AI) (mc : MC) (mt : MT) (mk : MK) (mr : MR) (mq : MQS) (mv : MV) (n : Int32) {pP : Program} {eE : Env} {S : State} {mM : MethodId} {below : List Frame} {meth : Method} {C : Code} (hx : pP.tables.exec = Jvm.exec) (hb : C.code = cX5_ten) (hr : meth.sig.returnType = (some .long)) (hml : C.maxLocals = 4) (hts : ∀ q9 ∈ wsX5_ten, q9.before ([.int n] : List Value).toArray S = true) (hown : S.vm.findClass yX5_ten.cls = some mM.cls) (hlk : meth.locks = false) (hK : wK w S) (g : Int64) :
    ∀ (fu : Nat) (tv : Int64) (i : Int32), va_P w.1 vwCl (wM w me mb mc mt mk mr mq mv) S.heap → OK_X5_ten_L4 n fu tv i → g = G_X5_ten_L4 n fu tv i → ∀ ls : Array Slot, lv_has ls 4 [(0, .int n), (1, .long tv), (3, .int i)] → W pP l eE { frames := 0, cells := 0, slots := 0, locals := 0 } S mM ([.int n] : List Value).toArray below meth C S.heap [] 0 0 (MQ below (xR (some (.long g))) ([.int n] : List Value).toArray S 0 0 xNo) (F0 mM 4 ls []) := by
  intro fu
  induction fu with
  | zero =>
    intro tv i hP hok hg ls hl
    exact hok.elim
  | succ fu ih =>
    intro tv i hP hok hg ls hl
    refine lv_iload_n hx hb dX5_ten_4 rfl (lv_at hl 2 rfl) ?_
    refine lv_iload_n hx hb dX5_ten_5 rfl (lv_at hl 0 rfl) ?_
    refine lv_icmp_ge (tgt := 21) hx hb dX5_ten_6 (by decide) (fun b1 => ?_) (fun b1 => ?_)
    ·
      have k2 := Eq.mp (if_pos b1) hok
      refine lv_lload_n hx hb dX5_ten_21 rfl (lv_at hl 1 rfl) ?_
      exact xR_lret hx hb hr hlk  (Eq.trans hg (if_pos b1)) dX5_ten_22
    ·
      have k3 := Eq.mp (if_neg b1) hok
      refine lv_lload_n hx hb dX5_ten_9 rfl (lv_at hl 1 rfl) ?_
      refine lv_ldc2 (v := 10) hx hb hown (hts _ mw_X5_ten_k92) dX5_ten_10 ?_
      refine lv_lmul hx hb dX5_ten_13 ?_
      refine lv_lstore_n (lv' := [(1, .long (tv * (10 : Int64))), (0, .int n), (3, .int i)]) hx hb dX5_ten_14 rfl hl (by decide) rfl (fun ls hl => ?_)
      refine lv_iinc (v := i + (1 : Int32)) (lv' := [(3, .int (i + (1 : Int32))), (1, .long (tv * (10 : Int64))), (0, .int n)]) hx hb dX5_ten_15 hl (k := 2) rfl rfl (by decide) rfl (fun ls hl => ?_)
      refine lv_goto (tgt := 4) hx hb dX5_ten_18 (by decide) ?_
      exact ih (tv * (10 : Int64)) (i + (1 : Int32)) hP k3 (Eq.trans hg (if_neg b1)) ls (lv_sub hl [2, 1, 0] rfl)
set_option maxHeartbeats 4000000 in
set_option maxRecDepth 100000 in
theorem c_X5_ten (l : Launch) (w : WG) (me : ME) (mb : AI) (mc : MC) (mt : MT) (mk : MK) (mr : MR) (mq : MQS) (mv : MV) (n : Int32) (hok : OK_X5_ten n) : Met l yX5_ten wsX5_ten { frames := 0, cells := 0, slots := 0, locals := 0 } (va_Pc [.int n] (wPK w (wM w me mb mc mt mk mr mq mv))) (xR (some (.long (G_X5_ten n)))) 0 0 xNo := by
  refine xOf (cc := cX5_ten) (maxL := 4) (ret := (some .long)) (lv := [(0, .int n)]) (by decide) rfl (Nat.le_of_ble_eq_true rfl) rfl ?_
  intro pP eE S mM below meth C hx hb hr hml hts hown hlk hnm hw ls hl
  obtain ⟨hP, hK⟩ := hw
  refine lv_lconst (v := 1) hx hb dX5_ten_0 (by decide) ?_
  refine lv_lstore_n (lv' := [(1, .long (1 : Int64)), (0, .int n)]) hx hb dX5_ten_1 rfl hl (by decide) rfl (fun ls hl => ?_)
  refine lv_iconst (v := 0) hx hb dX5_ten_2 (by decide) ?_
  refine lv_istore_n (lv' := [(3, .int (0 : Int32)), (1, .long (1 : Int64)), (0, .int n)]) hx hb dX5_ten_3 rfl hl (by decide) rfl (fun ls hl => ?_)
  exact L_X5_ten_L4 l w me mb mc mt mk mr mq mv n  hx hb hr hml hts hown hlk hK _ 12 (1 : Int64) (0 : Int32) hP hok rfl ls (lv_sub hl [2, 1, 0] rfl)
set_option maxRecDepth 20000 in
theorem iw_X5_octet_X5 : ∀ w ∈ wsX50, w ∈ wsX5_octet := by decide +kernel
set_option maxRecDepth 20000 in
theorem fl_X5_octet_7 : Cond.fieldLink RX5 7 "ProcedureCodeModel" "bytes" "[B" ∈ wsX5_octet := by decide +kernel
def G_X5_octet (mb : AI) (s : Int32) (p : Int32) : Int32 := (mb (((64 : Int32) * s) + p).toNatClampNeg) &&& (255 : Int32)
def OK_X5_octet (mb : AI) (s : Int32) (p : Int32) : Prop := (vp_in (((64 : Int32) * s) + p) 128) ∧ (True)
set_option maxHeartbeats 4000000 in
set_option maxRecDepth 100000 in
theorem c_X5_octet (l : Launch) (w : WG) (me : ME) (mb : AI) (mc : MC) (mt : MT) (mk : MK) (mr : MR) (mq : MQS) (mv : MV) (s : Int32) (p : Int32) (hok : OK_X5_octet mb s p) : Met l yX5_octet wsX5_octet { frames := 0, cells := 0, slots := 0, locals := 0 } (va_Pc [.ref (w.2.2 0), .int s, .int p] (wPK w (wM w me mb mc mt mk mr mq mv))) (xR (some (.int (G_X5_octet mb s p)))) 0 0 xNo := by
  refine xOf (cc := cX5_octet) (maxL := 3) (ret := (some .int)) (lv := [(0, .ref (w.2.2 0)), (1, .int s), (2, .int p)]) (by decide) rfl (Nat.le_of_ble_eq_true rfl) rfl ?_
  intro pP eE S mM below meth C hx hb hr hml hts hown hlk hnm hw ls hl
  obtain ⟨hP, hK⟩ := hw
  refine lv_aload_n hx hb dX5_octet_0 rfl (lv_at hl 0 rfl) ?_
  refine va_get (D := w.1) (ci := 6) (v := .ref (w.2.2 1)) (C := RX5) (T := TX5) (N := 33) hx hb hts iw_X5_octet_X5 hown hK.1 hP 0 rfl rfl 1 (by decide) (hts _ fl_X5_octet_7) (fun _ h9 => h9) rfl dX5_octet_1 ?_
  refine lv_bipush (v := 64) hx hb dX5_octet_4 (by decide) ?_
  refine lv_iload_n hx hb dX5_octet_6 rfl (lv_at hl 1 rfl) ?_
  refine lv_imul hx hb dX5_octet_7 ?_
  refine lv_iload_n hx hb dX5_octet_8 rfl (lv_at hl 2 rfl) ?_
  refine lv_iadd hx hb dX5_octet_9 ?_
  have o1 := hok.1
  have k2 := hok.2
  refine va_bald hx hb hK.1 hP 1 1 rfl rfl o1 dX5_octet_10 ?_
  refine lv_sipush (v := 255) hx hb dX5_octet_11 (by decide) ?_
  refine lv_iand hx hb dX5_octet_14 ?_
  exact xR_iret hx hb hr hlk  rfl dX5_octet_15
set_option maxRecDepth 20000 in
theorem dv_X5_octet : yX5_octet.cls = RX5 ∧ yX5_octet.cls ≠ "java/lang/invoke/MethodHandle" ∧ yX5_octet.cls ≠ "java/lang/invoke/VarHandle" ∧ (parseMethodDescriptor yX5_octet.desc).map (fun d => d.parameters.length) = some 2 := by decide +kernel
def G_X5_half (mb : AI) (s : Int32) (p : Int32) (i : Int32) : Int32 := if (i - i / (2 : Int32) * (2 : Int32)) = 0 then ((G_X5_octet mb s (p + (i / (2 : Int32)))) >>> ((4 : Int32) &&& 31)) else ((G_X5_octet mb s (p + (i / (2 : Int32)))) &&& (15 : Int32))
def OK_X5_half (mb : AI) (s : Int32) (p : Int32) (i : Int32) : Prop := if (i - i / (2 : Int32) * (2 : Int32)) = 0 then ((OK_X5_octet mb s (p + (i / (2 : Int32)))) ∧ (True)) else ((OK_X5_octet mb s (p + (i / (2 : Int32)))) ∧ (True))
set_option maxHeartbeats 4000000 in
set_option maxRecDepth 100000 in
theorem c_X5_half (l : Launch) (w : WG) (me : ME) (mb : AI) (mc : MC) (mt : MT) (mk : MK) (mr : MR) (mq : MQS) (mv : MV) (s : Int32) (p : Int32) (i : Int32) (hok : OK_X5_half mb s p i) : Met l yX5_half wsX5_half { frames := 1, cells := 0, slots := 0, locals := 22 } (va_Pc [.ref (w.2.2 0), .int s, .int p, .int i] (wPK w (wM w me mb mc mt mk mr mq mv))) (xR (some (.int (G_X5_half mb s p i)))) 0 0 xNo := by
  refine xOf (cc := cX5_half) (maxL := 4) (ret := (some .int)) (lv := [(0, .ref (w.2.2 0)), (1, .int s), (2, .int p), (3, .int i)]) (by decide) rfl (Nat.le_of_ble_eq_true rfl) rfl ?_
  intro pP eE S mM below meth C hx hb hr hml hts hown hlk hnm hw ls hl
  obtain ⟨hP, hK⟩ := hw
  refine lv_iload_n hx hb dX5_half_0 rfl (lv_at hl 3 rfl) ?_
  refine lv_iconst (v := 2) hx hb dX5_half_1 (by decide) ?_
  refine lv_irem hx hb dX5_half_2 (by decide) ?_
  refine lv_if_ne (tgt := 21) hx hb dX5_half_3 (by decide) (fun b1 => ?_) (fun b1 => ?_)
  ·
    have k2 := Eq.mp (if_neg b1) hok
    refine lv_aload_n hx hb dX5_half_21 rfl (lv_at hl 0 rfl) ?_
    refine lv_iload_n hx hb dX5_half_22 rfl (lv_at hl 1 rfl) ?_
    refine lv_iload_n hx hb dX5_half_23 rfl (lv_at hl 2 rfl) ?_
    refine lv_iload_n hx hb dX5_half_24 rfl (lv_at hl 3 rfl) ?_
    refine lv_iconst (v := 2) hx hb dX5_half_25 (by decide) ?_
    refine lv_idiv hx hb dX5_half_26 (by decide) ?_
    refine lv_iadd hx hb dX5_half_27 ?_
    have o3 := k2.1
    have k4 := k2.2
    refine xR_i (va_runV (As := [.int s, .int (p + (i / (2 : Int32)))]) (rest := []) ⟨hx, hb, hml, hown, hts⟩ (c_X5_octet l w me mb mc mt mk mr mq mv s (p + (i / (2 : Int32))) o3) (cwV 2 hts gX5_half_X5_octet rfl rfl rfl dv_X5_octet ⟨Nat.le_of_ble_eq_true rfl, Nat.le_of_ble_eq_true rfl⟩) (wPreV hP hK (ci := 6) (q0 := 0) rfl rfl) rfl rfl hl.1 rfl (lv_room (Nat.le_of_ble_eq_true rfl)) dX5_half_28 ⟨Nat.zero_le _, Nat.zero_le _⟩) ?_
    refine lv_bipush (v := 15) hx hb dX5_half_31 (by decide) ?_
    refine lv_iand hx hb dX5_half_33 ?_
    exact xR_iret hx hb hr hlk  (Eq.trans rfl (if_neg b1)) dX5_half_34
  ·
    have k5 := Eq.mp (if_pos b1) hok
    refine lv_aload_n hx hb dX5_half_6 rfl (lv_at hl 0 rfl) ?_
    refine lv_iload_n hx hb dX5_half_7 rfl (lv_at hl 1 rfl) ?_
    refine lv_iload_n hx hb dX5_half_8 rfl (lv_at hl 2 rfl) ?_
    refine lv_iload_n hx hb dX5_half_9 rfl (lv_at hl 3 rfl) ?_
    refine lv_iconst (v := 2) hx hb dX5_half_10 (by decide) ?_
    refine lv_idiv hx hb dX5_half_11 (by decide) ?_
    refine lv_iadd hx hb dX5_half_12 ?_
    have o6 := k5.1
    have k7 := k5.2
    refine xR_i (va_runV (As := [.int s, .int (p + (i / (2 : Int32)))]) (rest := []) ⟨hx, hb, hml, hown, hts⟩ (c_X5_octet l w me mb mc mt mk mr mq mv s (p + (i / (2 : Int32))) o6) (cwV 2 hts gX5_half_X5_octet rfl rfl rfl dv_X5_octet ⟨Nat.le_of_ble_eq_true rfl, Nat.le_of_ble_eq_true rfl⟩) (wPreV hP hK (ci := 6) (q0 := 0) rfl rfl) rfl rfl hl.1 rfl (lv_room (Nat.le_of_ble_eq_true rfl)) dX5_half_13 ⟨Nat.zero_le _, Nat.zero_le _⟩) ?_
    refine lv_iconst (v := 4) hx hb dX5_half_16 (by decide) ?_
    refine lv_ishr hx hb dX5_half_17 ?_
    refine lv_goto (tgt := 34) hx hb dX5_half_18 (by decide) ?_
    exact xR_iret hx hb hr hlk  (Eq.trans rfl (if_pos b1)) dX5_half_34
set_option maxRecDepth 20000 in
theorem iw_X5_lay_X5 : ∀ w ∈ wsX50, w ∈ wsX5_lay := by decide +kernel
set_option maxRecDepth 20000 in
theorem fl_X5_lay_7 : Cond.fieldLink RX5 7 "ProcedureCodeModel" "bytes" "[B" ∈ wsX5_lay := by decide +kernel
def G_X5_lay (mb : AI) (s : Int32) (p : Int32) (y : Int32) : AI := upd mb (((64 : Int32) * s) + p).toNatClampNeg (vp_nar .byte y.toInt8.toInt32)
def OK_X5_lay (mb : AI) (s : Int32) (p : Int32) (y : Int32) : Prop := (vp_in (((64 : Int32) * s) + p) 128) ∧ (True)
set_option maxHeartbeats 4000000 in
set_option maxRecDepth 100000 in
theorem c_X5_lay (l : Launch) (w : WG) (hA : wAp w 25) (me : ME) (mb : AI) (mc : MC) (mt : MT) (mk : MK) (mr : MR) (mq : MQS) (mv : MV) (s : Int32) (p : Int32) (y : Int32) (hok : OK_X5_lay mb s p y) : Met l yX5_lay wsX5_lay { frames := 0, cells := 0, slots := 0, locals := 0 } (va_Pc [.ref (w.2.2 0), .int s, .int p, .int y] (wPK w (wM w me mb mc mt mk mr mq mv))) (xM none (fun H => va_P w.1 vwCl (wM w me (G_X5_lay mb s p y) mc mt mk mr mq mv) H) (wA w 25)) 0 0 (wA w 25) := by
  refine xOf (cc := cX5_lay) (maxL := 4) (ret := none) (lv := [(0, .ref (w.2.2 0)), (1, .int s), (2, .int p), (3, .int y)]) (by decide) rfl (Nat.le_of_ble_eq_true rfl) rfl ?_
  intro pP eE S mM below meth C hx hb hr hml hts hown hlk hnm hw ls hl
  obtain ⟨hP, hK⟩ := hw
  have hS : va_S (wA w 25) S.heap S.heap [] := va_S.rf
  have hP : va_P w.1 vwCl (wM w me mb mc mt mk mr mq mv) S.heap := hP
  refine lv_aload_n hx hb dX5_lay_0 rfl (lv_at hl 0 rfl) ?_
  refine va_get (D := w.1) (ci := 6) (v := .ref (w.2.2 1)) (C := RX5) (T := TX5) (N := 33) hx hb hts iw_X5_lay_X5 hown hK.1 hP 0 rfl rfl 1 (by decide) (hts _ fl_X5_lay_7) (fun _ h9 => h9) rfl dX5_lay_1 ?_
  refine lv_bipush (v := 64) hx hb dX5_lay_4 (by decide) ?_
  refine lv_iload_n hx hb dX5_lay_6 rfl (lv_at hl 1 rfl) ?_
  refine lv_imul hx hb dX5_lay_7 ?_
  refine lv_iload_n hx hb dX5_lay_8 rfl (lv_at hl 2 rfl) ?_
  refine lv_iadd hx hb dX5_lay_9 ?_
  refine lv_iload_n hx hb dX5_lay_10 rfl (lv_at hl 3 rfl) ?_
  refine lv_i2b hx hb dX5_lay_11 rfl ?_
  have o1 := hok.1
  have k2 := hok.2
  refine va_bast hx hb hK.1 hP (wM_D hA) hS 1 1 rfl rfl o1 dX5_lay_12 (fun H locs hP _ hS => ?_)
  have hP : va_P w.1 vwCl (wM w me (upd mb (((64 : Int32) * s) + p).toNatClampNeg (vp_nar .byte y.toInt8.toInt32)) mc mt mk mr mq mv) H := hP
  have e9 : G_X5_lay mb s p y = upd mb (((64 : Int32) * s) + p).toNatClampNeg (vp_nar .byte y.toInt8.toInt32) := rfl
  exact xM_vret hx hb hr hlk  hS  (by rw [e9]; exact hP) dX5_lay_13
set_option maxRecDepth 20000 in
theorem iw_X5_isCell_X5 : ∀ w ∈ wsX50, w ∈ wsX5_isCell := by decide +kernel
set_option maxRecDepth 20000 in
theorem fl_X5_isCell_89 : Cond.fieldLink RX5 89 "ProcedureCodeModel" "cells" "I" ∈ wsX5_isCell := by decide +kernel
def G_X5_isCell (mc : MC) (n : Int32) : Int32 := if n < 0 then ((0 : Int32)) else (if mc.1 ≤ n then ((0 : Int32)) else ((1 : Int32)))
set_option maxHeartbeats 4000000 in
set_option maxRecDepth 100000 in
theorem c_X5_isCell (l : Launch) (w : WG) (me : ME) (mb : AI) (mc : MC) (mt : MT) (mk : MK) (mr : MR) (mq : MQS) (mv : MV) (n : Int32) : Met l yX5_isCell wsX5_isCell { frames := 0, cells := 0, slots := 0, locals := 0 } (va_Pc [.ref (w.2.2 0), .int n] (wPK w (wM w me mb mc mt mk mr mq mv))) (xR (some (.int (G_X5_isCell mc n)))) 0 0 xNo := by
  refine xOf (cc := cX5_isCell) (maxL := 2) (ret := (some .boolean)) (lv := [(0, .ref (w.2.2 0)), (1, .int n)]) (by decide) rfl (Nat.le_of_ble_eq_true rfl) rfl ?_
  intro pP eE S mM below meth C hx hb hr hml hts hown hlk hnm hw ls hl
  obtain ⟨hP, hK⟩ := hw
  refine lv_iload_n hx hb dX5_isCell_0 rfl (lv_at hl 1 rfl) ?_
  refine lv_if_lt (tgt := 16) hx hb dX5_isCell_1 (by decide) (fun b1 => ?_) (fun b1 => ?_)
  ·
    refine lv_iconst (v := 0) hx hb dX5_isCell_16 (by decide) ?_
    exact xR_zret hx hb hr hlk rfl (Eq.trans rfl (if_pos b1)) dX5_isCell_17
  ·
    refine lv_iload_n hx hb dX5_isCell_4 rfl (lv_at hl 1 rfl) ?_
    refine lv_aload_n hx hb dX5_isCell_5 rfl (lv_at hl 0 rfl) ?_
    refine va_get (D := w.1) (ci := 6) (v := .int mc.1) (C := RX5) (T := TX5) (N := 33) hx hb hts iw_X5_isCell_X5 hown hK.1 hP 0 rfl rfl 6 (by decide) (hts _ fl_X5_isCell_89) (fun _ h9 => h9) rfl dX5_isCell_6 ?_
    refine lv_icmp_ge (tgt := 16) hx hb dX5_isCell_9 (by decide) (fun b2 => ?_) (fun b2 => ?_)
    ·
      refine lv_iconst (v := 0) hx hb dX5_isCell_16 (by decide) ?_
      exact xR_zret hx hb hr hlk rfl (Eq.trans (Eq.trans rfl (if_neg b1)) (if_pos b2)) dX5_isCell_17
    ·
      refine lv_iconst (v := 1) hx hb dX5_isCell_12 (by decide) ?_
      refine lv_goto (tgt := 17) hx hb dX5_isCell_13 (by decide) ?_
      exact xR_zret hx hb hr hlk rfl (Eq.trans (Eq.trans rfl (if_neg b1)) (if_neg b2)) dX5_isCell_17
set_option maxRecDepth 20000 in
theorem iw_X5_isNode_X5 : ∀ w ∈ wsX50, w ∈ wsX5_isNode := by decide +kernel
set_option maxRecDepth 20000 in
theorem fl_X5_isNode_118 : Cond.fieldLink RX5 118 "ProcedureCodeModel" "nodes" "I" ∈ wsX5_isNode := by decide +kernel
def G_X5_isNode (mt : MT) (n : Int32) : Int32 := if n ≤ 0 then ((0 : Int32)) else (if mt.1 < n then ((0 : Int32)) else ((1 : Int32)))
set_option maxHeartbeats 4000000 in
set_option maxRecDepth 100000 in
theorem c_X5_isNode (l : Launch) (w : WG) (me : ME) (mb : AI) (mc : MC) (mt : MT) (mk : MK) (mr : MR) (mq : MQS) (mv : MV) (n : Int32) : Met l yX5_isNode wsX5_isNode { frames := 0, cells := 0, slots := 0, locals := 0 } (va_Pc [.ref (w.2.2 0), .int n] (wPK w (wM w me mb mc mt mk mr mq mv))) (xR (some (.int (G_X5_isNode mt n)))) 0 0 xNo := by
  refine xOf (cc := cX5_isNode) (maxL := 2) (ret := (some .boolean)) (lv := [(0, .ref (w.2.2 0)), (1, .int n)]) (by decide) rfl (Nat.le_of_ble_eq_true rfl) rfl ?_
  intro pP eE S mM below meth C hx hb hr hml hts hown hlk hnm hw ls hl
  obtain ⟨hP, hK⟩ := hw
  refine lv_iload_n hx hb dX5_isNode_0 rfl (lv_at hl 1 rfl) ?_
  refine lv_if_le (tgt := 16) hx hb dX5_isNode_1 (by decide) (fun b1 => ?_) (fun b1 => ?_)
  ·
    refine lv_iconst (v := 0) hx hb dX5_isNode_16 (by decide) ?_
    exact xR_zret hx hb hr hlk rfl (Eq.trans rfl (if_pos b1)) dX5_isNode_17
  ·
    refine lv_iload_n hx hb dX5_isNode_4 rfl (lv_at hl 1 rfl) ?_
    refine lv_aload_n hx hb dX5_isNode_5 rfl (lv_at hl 0 rfl) ?_
    refine va_get (D := w.1) (ci := 6) (v := .int mt.1) (C := RX5) (T := TX5) (N := 33) hx hb hts iw_X5_isNode_X5 hown hK.1 hP 0 rfl rfl 13 (by decide) (hts _ fl_X5_isNode_118) (fun _ h9 => h9) rfl dX5_isNode_6 ?_
    refine lv_icmp_gt (tgt := 16) hx hb dX5_isNode_9 (by decide) (fun b2 => ?_) (fun b2 => ?_)
    ·
      refine lv_iconst (v := 0) hx hb dX5_isNode_16 (by decide) ?_
      exact xR_zret hx hb hr hlk rfl (Eq.trans (Eq.trans rfl (if_neg b1)) (if_pos b2)) dX5_isNode_17
    ·
      refine lv_iconst (v := 1) hx hb dX5_isNode_12 (by decide) ?_
      refine lv_goto (tgt := 17) hx hb dX5_isNode_13 (by decide) ?_
      exact xR_zret hx hb hr hlk rfl (Eq.trans (Eq.trans rfl (if_neg b1)) (if_neg b2)) dX5_isNode_17
set_option maxRecDepth 20000 in
theorem dv_X5_isNode : yX5_isNode.cls = RX5 ∧ yX5_isNode.cls ≠ "java/lang/invoke/MethodHandle" ∧ yX5_isNode.cls ≠ "java/lang/invoke/VarHandle" ∧ (parseMethodDescriptor yX5_isNode.desc).map (fun d => d.parameters.length) = some 1 := by decide +kernel
set_option maxRecDepth 20000 in
theorem iw_X5_isValue_X5 : ∀ w ∈ wsX50, w ∈ wsX5_isValue := by decide +kernel
set_option maxRecDepth 20000 in
theorem fl_X5_isValue_26 : Cond.fieldLink RX5 26 "ProcedureCodeModel" "kinds" "[I" ∈ wsX5_isValue := by decide +kernel
def G_X5_isValue (mt : MT) (n : Int32) : Int32 := if (G_X5_isNode mt n) = 0 then ((0 : Int32)) else (if (9 : Int32) ≤ (mt.2.1 n.toNatClampNeg) then ((0 : Int32)) else ((1 : Int32)))
def OK_X5_isValue (mt : MT) (n : Int32) : Prop := if (G_X5_isNode mt n) = 0 then (True) else ((vp_in n 201) ∧ (if (9 : Int32) ≤ (mt.2.1 n.toNatClampNeg) then (True) else (True)))
set_option maxHeartbeats 4000000 in
set_option maxRecDepth 100000 in
theorem c_X5_isValue (l : Launch) (w : WG) (me : ME) (mb : AI) (mc : MC) (mt : MT) (mk : MK) (mr : MR) (mq : MQS) (mv : MV) (n : Int32) (hok : OK_X5_isValue mt n) : Met l yX5_isValue wsX5_isValue { frames := 1, cells := 0, slots := 0, locals := 21 } (va_Pc [.ref (w.2.2 0), .int n] (wPK w (wM w me mb mc mt mk mr mq mv))) (xR (some (.int (G_X5_isValue mt n)))) 0 0 xNo := by
  refine xOf (cc := cX5_isValue) (maxL := 2) (ret := (some .boolean)) (lv := [(0, .ref (w.2.2 0)), (1, .int n)]) (by decide) rfl (Nat.le_of_ble_eq_true rfl) rfl ?_
  intro pP eE S mM below meth C hx hb hr hml hts hown hlk hnm hw ls hl
  obtain ⟨hP, hK⟩ := hw
  refine lv_aload_n hx hb dX5_isValue_0 rfl (lv_at hl 0 rfl) ?_
  refine lv_iload_n hx hb dX5_isValue_1 rfl (lv_at hl 1 rfl) ?_
  refine xR_i (va_runV (As := [.int n]) (rest := []) ⟨hx, hb, hml, hown, hts⟩ (c_X5_isNode l w me mb mc mt mk mr mq mv n ) (cwV 1 hts gX5_isValue_X5_isNode rfl rfl rfl dv_X5_isNode ⟨Nat.le_of_ble_eq_true rfl, Nat.le_of_ble_eq_true rfl⟩) (wPreV hP hK (ci := 6) (q0 := 0) rfl rfl) rfl rfl hl.1 rfl (lv_room (Nat.le_of_ble_eq_true rfl)) dX5_isValue_2 ⟨Nat.zero_le _, Nat.zero_le _⟩) ?_
  refine lv_if_eq (tgt := 23) hx hb dX5_isValue_5 (by decide) (fun b1 => ?_) (fun b1 => ?_)
  ·
    have k2 := Eq.mp (if_pos b1) hok
    refine lv_iconst (v := 0) hx hb dX5_isValue_23 (by decide) ?_
    exact xR_zret hx hb hr hlk rfl (Eq.trans rfl (if_pos b1)) dX5_isValue_24
  ·
    have k3 := Eq.mp (if_neg b1) hok
    refine lv_aload_n hx hb dX5_isValue_8 rfl (lv_at hl 0 rfl) ?_
    refine va_get (D := w.1) (ci := 6) (v := .ref (w.2.2 6)) (C := RX5) (T := TX5) (N := 33) hx hb hts iw_X5_isValue_X5 hown hK.1 hP 0 rfl rfl 7 (by decide) (hts _ fl_X5_isValue_26) (fun _ h9 => h9) rfl dX5_isValue_9 ?_
    refine lv_iload_n hx hb dX5_isValue_12 rfl (lv_at hl 1 rfl) ?_
    have o4 := k3.1
    have k5 := k3.2
    refine va_iald hx hb hK.1 hP 6 0 rfl rfl o4 dX5_isValue_13 ?_
    refine lv_bipush (v := 9) hx hb dX5_isValue_14 (by decide) ?_
    refine lv_icmp_ge (tgt := 23) hx hb dX5_isValue_16 (by decide) (fun b6 => ?_) (fun b6 => ?_)
    ·
      have k7 := Eq.mp (if_pos b6) k5
      refine lv_iconst (v := 0) hx hb dX5_isValue_23 (by decide) ?_
      exact xR_zret hx hb hr hlk rfl (Eq.trans (Eq.trans rfl (if_neg b1)) (if_pos b6)) dX5_isValue_24
    ·
      have k8 := Eq.mp (if_neg b6) k5
      refine lv_iconst (v := 1) hx hb dX5_isValue_19 (by decide) ?_
      refine lv_goto (tgt := 24) hx hb dX5_isValue_20 (by decide) ?_
      exact xR_zret hx hb hr hlk rfl (Eq.trans (Eq.trans rfl (if_neg b1)) (if_neg b6)) dX5_isValue_24
