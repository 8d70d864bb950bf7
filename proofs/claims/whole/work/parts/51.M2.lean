set_option maxRecDepth 20000 in
theorem mw_X5_read_k92 : Cond.constantLong RX5 92 (10) ∈ wsX5_read := by decide +kernel
set_option maxRecDepth 20000 in
theorem dv_X5_half : yX5_half.cls = RX5 ∧ yX5_half.cls ≠ "java/lang/invoke/MethodHandle" ∧ yX5_half.cls ≠ "java/lang/invoke/VarHandle" ∧ (parseMethodDescriptor yX5_half.desc).map (fun d => d.parameters.length) = some 3 := by decide +kernel
set_option maxRecDepth 20000 in
theorem iw_X5_read_X5 : ∀ w ∈ wsX50, w ∈ wsX5_read := by decide +kernel
set_option maxRecDepth 20000 in
theorem fl_X5_read_17 : Cond.fieldLink RX5 17 "ProcedureCodeModel" "digits" "[I" ∈ wsX5_read := by decide +kernel
set_option maxRecDepth 20000 in
theorem fl_X5_read_13 : Cond.fieldLink RX5 13 "ProcedureCodeModel" "usages" "[I" ∈ wsX5_read := by decide +kernel
set_option maxRecDepth 20000 in
theorem fl_X5_read_20 : Cond.fieldLink RX5 20 "ProcedureCodeModel" "sizes" "[I" ∈ wsX5_read := by decide +kernel
def G_X5_read_L77 (mb : AI) (mc : MC) (s : Int32) (n : Int32) (p : Int32) : Nat → Int32 → Int64 → Int32 → Int64
  | 0, _, _, _ => 0
  | fu + 1, dn, nu, i => if dn ≤ i then (if ((G_X5_octet mb s ((p + dn) - (1 : Int32))) &&& (64 : Int32)) = 0 then (nu) else ((0 : Int64) - nu)) else (G_X5_read_L77 mb mc s n p fu dn (((10 : Int64) * nu) + ((((G_X5_octet mb s (p + i)) &&& (15 : Int32)) - ((G_X5_octet mb s (p + i)) &&& (15 : Int32)) / (10 : Int32) * (10 : Int32)).toInt64)) (i + (1 : Int32)))
def OK_X5_read_L77 (mb : AI) (mc : MC) (s : Int32) (n : Int32) (p : Int32) : Nat → Int32 → Int64 → Int32 → Prop
  | 0, _, _, _ => False
  | fu + 1, dn, nu, i => if dn ≤ i then ((OK_X5_octet mb s ((p + dn) - (1 : Int32))) ∧ (if ((G_X5_octet mb s ((p + dn) - (1 : Int32))) &&& (64 : Int32)) = 0 then (True) else (True))) else ((OK_X5_octet mb s (p + i)) ∧ (OK_X5_read_L77 mb mc s n p fu dn (((10 : Int64) * nu) + ((((G_X5_octet mb s (p + i)) &&& (15 : Int32)) - ((G_X5_octet mb s (p + i)) &&& (15 : Int32)) / (10 : Int32) * (10 : Int32)).toInt64)) (i + (1 : Int32))))
def G_X5_read_L161 (mb : AI) (mc : MC) (s : Int32) (n : Int32) (p : Int32) : Nat → Int64 → Int32 → Int32 → Int64
  | 0, _, _, _ => 0
  | fu + 1, nu, la, i => if la ≤ i then (if (G_X5_half mb s p la) = (13 : Int32) then ((0 : Int64) - nu) else (nu)) else (G_X5_read_L161 mb mc s n p fu (((10 : Int64) * nu) + (((G_X5_half mb s p i) - (G_X5_half mb s p i) / (10 : Int32) * (10 : Int32)).toInt64)) la (i + (1 : Int32)))
def OK_X5_read_L161 (mb : AI) (mc : MC) (s : Int32) (n : Int32) (p : Int32) : Nat → Int64 → Int32 → Int32 → Prop
  | 0, _, _, _ => False
  | fu + 1, nu, la, i => if la ≤ i then ((OK_X5_half mb s p la) ∧ (if (G_X5_half mb s p la) = (13 : Int32) then (True) else (True))) else ((OK_X5_half mb s p i) ∧ (OK_X5_read_L161 mb mc s n p fu (((10 : Int64) * nu) + (((G_X5_half mb s p i) - (G_X5_half mb s p i) / (10 : Int32) * (10 : Int32)).toInt64)) la (i + (1 : Int32))))
def G_X5_read (mb : AI) (mc : MC) (s : Int32) (n : Int32) (p : Int32) : Int64 := if (mc.2.1 n.toNatClampNeg) = (2 : Int32) then ((((((G_X5_octet mb s p) <<< ((24 : Int32) &&& 31)) ||| ((G_X5_octet mb s (p + (1 : Int32))) <<< ((16 : Int32) &&& 31))) ||| ((G_X5_octet mb s (p + (2 : Int32))) <<< ((8 : Int32) &&& 31))) ||| (G_X5_octet mb s (p + (3 : Int32)))).toInt64) else (if (mc.2.1 n.toNatClampNeg) = 0 then (G_X5_read_L77 mb mc s n p 12 (mc.2.2.1 n.toNatClampNeg) (0 : Int64) (0 : Int32)) else (G_X5_read_L161 mb mc s n p 12 (0 : Int64) (((2 : Int32) * (mc.2.2.2.1 n.toNatClampNeg)) - (1 : Int32)) ((((2 : Int32) * (mc.2.2.2.1 n.toNatClampNeg)) - (1 : Int32)) - (mc.2.2.1 n.toNatClampNeg))))
def OK_X5_read (mb : AI) (mc : MC) (s : Int32) (n : Int32) (p : Int32) : Prop := (vp_in n 40) ∧ ((vp_in n 40) ∧ (if (mc.2.1 n.toNatClampNeg) = (2 : Int32) then ((OK_X5_octet mb s p) ∧ ((OK_X5_octet mb s (p + (1 : Int32))) ∧ ((OK_X5_octet mb s (p + (2 : Int32))) ∧ ((OK_X5_octet mb s (p + (3 : Int32))) ∧ (True))))) else ((vp_in n 40) ∧ (if (mc.2.1 n.toNatClampNeg) = 0 then (OK_X5_read_L77 mb mc s n p 12 (mc.2.2.1 n.toNatClampNeg) (0 : Int64) (0 : Int32)) else ((vp_in n 40) ∧ (OK_X5_read_L161 mb mc s n p 12 (0 : Int64) (((2 : Int32) * (mc.2.2.2.1 n.toNatClampNeg)) - (1 : Int32)) ((((2 : Int32) * (mc.2.2.2.1 n.toNatClampNeg)) - (1 : Int32)) - (mc.2.2.1 n.toNatClampNeg))))))))
set_option maxHeartbeats 4000000 in
set_option maxRecDepth 100000 in
theorem L_X5_read_L77 (l : Launch) (w : WG) (me : ME) (mb : AI) (mc : MC) (mt : MT) (mk : MK) (mr : MR) (mq : MQS) (mv : MV) (s : Int32) (n : Int32) (p : Int32) {pP : Program} {eE : Env} {S : State} {mM : MethodId} {below : List Frame} {meth : Method} {C : Code} (hx : pP.tables.exec = Jvm.exec) (hb : C.code = cX5_read) (hr : meth.sig.returnType = (some .long)) (hml : C.maxLocals = 9) (hts : ∀ q9 ∈ wsX5_read, q9.before ([.ref (w.2.2 0), .int s, .int n, .int p] : List Value).toArray S = true) (hown : S.vm.findClass yX5_read.cls = some mM.cls) (hlk : meth.locks = false) (hK : wK w S) (g : Int64) :
    ∀ (fu : Nat) (dn : Int32) (nu : Int64) (i : Int32), va_P w.1 vwCl (wM w me mb mc mt mk mr mq mv) S.heap → OK_X5_read_L77 mb mc s n p fu dn nu i → g = G_X5_read_L77 mb mc s n p fu dn nu i → ∀ ls : Array Slot, lv_has ls 9 [(0, .ref (w.2.2 0)), (1, .int s), (3, .int p), (4, .int dn), (5, .long nu), (7, .int i)] → W pP l eE { frames := 2, cells := 0, slots := 0, locals := 45 } S mM ([.ref (w.2.2 0), .int s, .int n, .int p] : List Value).toArray below meth C S.heap [] 0 0 (MQ below (xR (some (.long g))) ([.ref (w.2.2 0), .int s, .int n, .int p] : List Value).toArray S 0 0 xNo) (F0 mM 77 ls []) := by
  intro fu
  induction fu with
  | zero =>
    intro dn nu i hP hok hg ls hl
    exact hok.elim
  | succ fu ih =>
    intro dn nu i hP hok hg ls hl
    refine lv_iload hx hb dX5_read_77 (lv_at hl 5 rfl) ?_
    refine lv_iload hx hb dX5_read_79 (lv_at hl 3 rfl) ?_
    refine lv_icmp_ge (tgt := 115) hx hb dX5_read_81 (by decide) (fun b1 => ?_) (fun b1 => ?_)
    ·
      have k2 := Eq.mp (if_pos b1) hok
      refine lv_aload_n hx hb dX5_read_115 rfl (lv_at hl 0 rfl) ?_
      refine lv_iload_n hx hb dX5_read_116 rfl (lv_at hl 1 rfl) ?_
      refine lv_iload_n hx hb dX5_read_117 rfl (lv_at hl 2 rfl) ?_
      refine lv_iload hx hb dX5_read_118 (lv_at hl 3 rfl) ?_
      refine lv_iadd hx hb dX5_read_120 ?_
      refine lv_iconst (v := 1) hx hb dX5_read_121 (by decide) ?_
      refine lv_isub hx hb dX5_read_122 ?_
      have o3 := k2.1
      have k4 := k2.2
      refine xR_i (va_runV (As := [.int s, .int ((p + dn) - (1 : Int32))]) (rest := []) ⟨hx, hb, hml, hown, hts⟩ (c_X5_octet l w me mb mc mt mk mr mq mv s ((p + dn) - (1 : Int32)) o3) (cwV 2 hts gX5_read_X5_octet rfl rfl rfl dv_X5_octet ⟨Nat.le_of_ble_eq_true rfl, Nat.le_of_ble_eq_true rfl⟩) (wPreV hP hK (ci := 6) (q0 := 0) rfl rfl) rfl rfl hl.1 rfl (lv_room (Nat.le_of_ble_eq_true rfl)) dX5_read_123 ⟨Nat.zero_le _, Nat.zero_le _⟩) ?_
      refine lv_bipush (v := 64) hx hb dX5_read_126 (by decide) ?_
      refine lv_iand hx hb dX5_read_128 ?_
      refine lv_if_eq (tgt := 139) hx hb dX5_read_129 (by decide) (fun b5 => ?_) (fun b5 => ?_)
      ·
        have k6 := Eq.mp (if_pos b5) k4
        refine lv_lload hx hb dX5_read_139 (lv_at hl 4 rfl) ?_
        exact xR_lret hx hb hr hlk  (Eq.trans (Eq.trans hg (if_pos b1)) (if_pos b5)) dX5_read_141
      ·
        have k7 := Eq.mp (if_neg b5) k4
        refine lv_lconst (v := 0) hx hb dX5_read_132 (by decide) ?_
        refine lv_lload hx hb dX5_read_133 (lv_at hl 4 rfl) ?_
        refine lv_lsub hx hb dX5_read_135 ?_
        refine lv_goto (tgt := 141) hx hb dX5_read_136 (by decide) ?_
        exact xR_lret hx hb hr hlk  (Eq.trans (Eq.trans hg (if_pos b1)) (if_neg b5)) dX5_read_141
    ·
      have k8 := Eq.mp (if_neg b1) hok
      refine lv_ldc2 (v := 10) hx hb hown (hts _ mw_X5_read_k92) dX5_read_84 ?_
      refine lv_lload hx hb dX5_read_87 (lv_at hl 4 rfl) ?_
      refine lv_lmul hx hb dX5_read_89 ?_
      refine lv_aload_n hx hb dX5_read_90 rfl (lv_at hl 0 rfl) ?_
      refine lv_iload_n hx hb dX5_read_91 rfl (lv_at hl 1 rfl) ?_
      refine lv_iload_n hx hb dX5_read_92 rfl (lv_at hl 2 rfl) ?_
      refine lv_iload hx hb dX5_read_93 (lv_at hl 5 rfl) ?_
      refine lv_iadd hx hb dX5_read_95 ?_
      have o9 := k8.1
      have k10 := k8.2
      refine xR_i (va_runV (As := [.int s, .int (p + i)]) (rest := [.long ((10 : Int64) * nu)]) ⟨hx, hb, hml, hown, hts⟩ (c_X5_octet l w me mb mc mt mk mr mq mv s (p + i) o9) (cwV 2 hts gX5_read_X5_octet rfl rfl rfl dv_X5_octet ⟨Nat.le_of_ble_eq_true rfl, Nat.le_of_ble_eq_true rfl⟩) (wPreV hP hK (ci := 6) (q0 := 0) rfl rfl) rfl rfl hl.1 rfl (lv_room (Nat.le_of_ble_eq_true rfl)) dX5_read_96 ⟨Nat.zero_le _, Nat.zero_le _⟩) ?_
      refine lv_bipush (v := 15) hx hb dX5_read_99 (by decide) ?_
      refine lv_iand hx hb dX5_read_101 ?_
      refine lv_bipush (v := 10) hx hb dX5_read_102 (by decide) ?_
      refine lv_irem hx hb dX5_read_104 (by decide) ?_
      refine lv_i2l hx hb dX5_read_105 rfl ?_
      refine lv_ladd hx hb dX5_read_106 ?_
      refine lv_lstore (lv' := [(5, .long (((10 : Int64) * nu) + ((((G_X5_octet mb s (p + i)) &&& (15 : Int32)) - ((G_X5_octet mb s (p + i)) &&& (15 : Int32)) / (10 : Int32) * (10 : Int32)).toInt64))), (0, .ref (w.2.2 0)), (1, .int s), (3, .int p), (4, .int dn), (7, .int i)]) hx hb dX5_read_107 hl (by decide) rfl (fun ls hl => ?_)
      refine lv_iinc (v := i + (1 : Int32)) (lv' := [(7, .int (i + (1 : Int32))), (5, .long (((10 : Int64) * nu) + ((((G_X5_octet mb s (p + i)) &&& (15 : Int32)) - ((G_X5_octet mb s (p + i)) &&& (15 : Int32)) / (10 : Int32) * (10 : Int32)).toInt64))), (0, .ref (w.2.2 0)), (1, .int s), (3, .int p), (4, .int dn)]) hx hb dX5_read_109 hl (k := 5) rfl rfl (by decide) rfl (fun ls hl => ?_)
      refine lv_goto (tgt := 77) hx hb dX5_read_112 (by decide) ?_
      exact ih dn (((10 : Int64) * nu) + ((((G_X5_octet mb s (p + i)) &&& (15 : Int32)) - ((G_X5_octet mb s (p + i)) &&& (15 : Int32)) / (10 : Int32) * (10 : Int32)).toInt64)) (i + (1 : Int32)) hP k10 (Eq.trans hg (if_neg b1)) ls (lv_sub hl [2, 3, 4, 5, 1, 0] rfl)
set_option maxHeartbeats 4000000 in
set_option maxRecDepth 100000 in
theorem L_X5_read_L161 (l : Launch) (w : WG) (me : ME) (mb : AI) (mc : MC) (mt : MT) (mk : MK) (mr : MR) (mq : MQS) (mv : MV) (s : Int32) (n : Int32) (p : Int32) {pP : Program} {eE : Env} {S : State} {mM : MethodId} {below : List Frame} {meth : Method} {C : Code} (hx : pP.tables.exec = Jvm.exec) (hb : C.code = cX5_read) (hr : meth.sig.returnType = (some .long)) (hml : C.maxLocals = 9) (hts : ∀ q9 ∈ wsX5_read, q9.before ([.ref (w.2.2 0), .int s, .int n, .int p] : List Value).toArray S = true) (hown : S.vm.findClass yX5_read.cls = some mM.cls) (hlk : meth.locks = false) (hK : wK w S) (g : Int64) :
    ∀ (fu : Nat) (nu : Int64) (la : Int32) (i : Int32), va_P w.1 vwCl (wM w me mb mc mt mk mr mq mv) S.heap → OK_X5_read_L161 mb mc s n p fu nu la i → g = G_X5_read_L161 mb mc s n p fu nu la i → ∀ ls : Array Slot, lv_has ls 9 [(0, .ref (w.2.2 0)), (1, .int s), (3, .int p), (5, .long nu), (7, .int la), (8, .int i)] → W pP l eE { frames := 2, cells := 0, slots := 0, locals := 45 } S mM ([.ref (w.2.2 0), .int s, .int n, .int p] : List Value).toArray below meth C S.heap [] 0 0 (MQ below (xR (some (.long g))) ([.ref (w.2.2 0), .int s, .int n, .int p] : List Value).toArray S 0 0 xNo) (F0 mM 161 ls []) := by
  intro fu
  induction fu with
  | zero =>
    intro nu la i hP hok hg ls hl
    exact hok.elim
  | succ fu ih =>
    intro nu la i hP hok hg ls hl
    refine lv_iload hx hb dX5_read_161 (lv_at hl 5 rfl) ?_
    refine lv_iload hx hb dX5_read_163 (lv_at hl 4 rfl) ?_
    refine lv_icmp_ge (tgt := 195) hx hb dX5_read_165 (by decide) (fun b1 => ?_) (fun b1 => ?_)
    ·
      have k2 := Eq.mp (if_pos b1) hok
      refine lv_aload_n hx hb dX5_read_195 rfl (lv_at hl 0 rfl) ?_
      refine lv_iload_n hx hb dX5_read_196 rfl (lv_at hl 1 rfl) ?_
      refine lv_iload_n hx hb dX5_read_197 rfl (lv_at hl 2 rfl) ?_
      refine lv_iload hx hb dX5_read_198 (lv_at hl 4 rfl) ?_
      have o3 := k2.1
      have k4 := k2.2
      refine xR_i (va_runV (As := [.int s, .int p, .int la]) (rest := []) ⟨hx, hb, hml, hown, hts⟩ (c_X5_half l w me mb mc mt mk mr mq mv s p la o3) (cwV 3 hts gX5_read_X5_half rfl rfl rfl dv_X5_half ⟨Nat.le_of_ble_eq_true rfl, Nat.le_of_ble_eq_true rfl⟩) (wPreV hP hK (ci := 6) (q0 := 0) rfl rfl) rfl rfl hl.1 rfl (lv_room (Nat.le_of_ble_eq_true rfl)) dX5_read_200 ⟨Nat.zero_le _, Nat.zero_le _⟩) ?_
      refine lv_bipush (v := 13) hx hb dX5_read_203 (by decide) ?_
      refine lv_icmp_ne (tgt := 215) hx hb dX5_read_205 (by decide) (fun b5 => ?_) (fun b5 => ?_)
      ·
        have k6 := Eq.mp (if_neg b5) k4
        refine lv_lload hx hb dX5_read_215 (lv_at hl 3 rfl) ?_
        exact xR_lret hx hb hr hlk  (Eq.trans (Eq.trans hg (if_pos b1)) (if_neg b5)) dX5_read_217
      ·
        have k7 := Eq.mp (if_pos b5) k4
        refine lv_lconst (v := 0) hx hb dX5_read_208 (by decide) ?_
        refine lv_lload hx hb dX5_read_209 (lv_at hl 3 rfl) ?_
        refine lv_lsub hx hb dX5_read_211 ?_
        refine lv_goto (tgt := 217) hx hb dX5_read_212 (by decide) ?_
        exact xR_lret hx hb hr hlk  (Eq.trans (Eq.trans hg (if_pos b1)) (if_pos b5)) dX5_read_217
    ·
      have k8 := Eq.mp (if_neg b1) hok
      refine lv_ldc2 (v := 10) hx hb hown (hts _ mw_X5_read_k92) dX5_read_168 ?_
      refine lv_lload hx hb dX5_read_171 (lv_at hl 3 rfl) ?_
      refine lv_lmul hx hb dX5_read_173 ?_
      refine lv_aload_n hx hb dX5_read_174 rfl (lv_at hl 0 rfl) ?_
      refine lv_iload_n hx hb dX5_read_175 rfl (lv_at hl 1 rfl) ?_
      refine lv_iload_n hx hb dX5_read_176 rfl (lv_at hl 2 rfl) ?_
      refine lv_iload hx hb dX5_read_177 (lv_at hl 5 rfl) ?_
      have o9 := k8.1
      have k10 := k8.2
      refine xR_i (va_runV (As := [.int s, .int p, .int i]) (rest := [.long ((10 : Int64) * nu)]) ⟨hx, hb, hml, hown, hts⟩ (c_X5_half l w me mb mc mt mk mr mq mv s p i o9) (cwV 3 hts gX5_read_X5_half rfl rfl rfl dv_X5_half ⟨Nat.le_of_ble_eq_true rfl, Nat.le_of_ble_eq_true rfl⟩) (wPreV hP hK (ci := 6) (q0 := 0) rfl rfl) rfl rfl hl.1 rfl (lv_room (Nat.le_of_ble_eq_true rfl)) dX5_read_179 ⟨Nat.zero_le _, Nat.zero_le _⟩) ?_
      refine lv_bipush (v := 10) hx hb dX5_read_182 (by decide) ?_
      refine lv_irem hx hb dX5_read_184 (by decide) ?_
      refine lv_i2l hx hb dX5_read_185 rfl ?_
      refine lv_ladd hx hb dX5_read_186 ?_
      refine lv_lstore (lv' := [(5, .long (((10 : Int64) * nu) + (((G_X5_half mb s p i) - (G_X5_half mb s p i) / (10 : Int32) * (10 : Int32)).toInt64))), (0, .ref (w.2.2 0)), (1, .int s), (3, .int p), (7, .int la), (8, .int i)]) hx hb dX5_read_187 hl (by decide) rfl (fun ls hl => ?_)
      refine lv_iinc (v := i + (1 : Int32)) (lv' := [(8, .int (i + (1 : Int32))), (5, .long (((10 : Int64) * nu) + (((G_X5_half mb s p i) - (G_X5_half mb s p i) / (10 : Int32) * (10 : Int32)).toInt64))), (0, .ref (w.2.2 0)), (1, .int s), (3, .int p), (7, .int la)]) hx hb dX5_read_189 hl (k := 5) rfl rfl (by decide) rfl (fun ls hl => ?_)
      refine lv_goto (tgt := 161) hx hb dX5_read_192 (by decide) ?_
      exact ih (((10 : Int64) * nu) + (((G_X5_half mb s p i) - (G_X5_half mb s p i) / (10 : Int32) * (10 : Int32)).toInt64)) la (i + (1 : Int32)) hP k10 (Eq.trans hg (if_neg b1)) ls (lv_sub hl [2, 3, 4, 1, 5, 0] rfl)
set_option maxHeartbeats 4000000 in
set_option maxRecDepth 100000 in
theorem c_X5_read (l : Launch) (w : WG) (me : ME) (mb : AI) (mc : MC) (mt : MT) (mk : MK) (mr : MR) (mq : MQS) (mv : MV) (s : Int32) (n : Int32) (p : Int32) (hok : OK_X5_read mb mc s n p) : Met l yX5_read wsX5_read { frames := 2, cells := 0, slots := 0, locals := 45 } (va_Pc [.ref (w.2.2 0), .int s, .int n, .int p] (wPK w (wM w me mb mc mt mk mr mq mv))) (xR (some (.long (G_X5_read mb mc s n p)))) 0 0 xNo := by
  refine xOf (cc := cX5_read) (maxL := 9) (ret := (some .long)) (lv := [(0, .ref (w.2.2 0)), (1, .int s), (2, .int n), (3, .int p)]) (by decide) rfl (Nat.le_of_ble_eq_true rfl) rfl ?_
  intro pP eE S mM below meth C hx hb hr hml hts hown hlk hnm hw ls hl
  obtain ⟨hP, hK⟩ := hw
  refine lv_aload_n hx hb dX5_read_0 rfl (lv_at hl 0 rfl) ?_
  refine va_get (D := w.1) (ci := 6) (v := .ref (w.2.2 3)) (C := RX5) (T := TX5) (N := 33) hx hb hts iw_X5_read_X5 hown hK.1 hP 0 rfl rfl 3 (by decide) (hts _ fl_X5_read_17) (fun _ h9 => h9) rfl dX5_read_1 ?_
  refine lv_iload_n hx hb dX5_read_4 rfl (lv_at hl 2 rfl) ?_
  have o1 := hok.1
  have k2 := hok.2
  refine va_iald hx hb hK.1 hP 3 0 rfl rfl o1 dX5_read_5 ?_
  refine lv_istore (lv' := [(4, .int (mc.2.2.1 n.toNatClampNeg)), (0, .ref (w.2.2 0)), (1, .int s), (2, .int n), (3, .int p)]) hx hb dX5_read_6 hl (by decide) rfl (fun ls hl => ?_)
  refine lv_lconst (v := 0) hx hb dX5_read_8 (by decide) ?_
  refine lv_lstore (lv' := [(5, .long (0 : Int64)), (4, .int (mc.2.2.1 n.toNatClampNeg)), (0, .ref (w.2.2 0)), (1, .int s), (2, .int n), (3, .int p)]) hx hb dX5_read_9 hl (by decide) rfl (fun ls hl => ?_)
  refine lv_aload_n hx hb dX5_read_11 rfl (lv_at hl 2 rfl) ?_
  refine va_get (D := w.1) (ci := 6) (v := .ref (w.2.2 2)) (C := RX5) (T := TX5) (N := 33) hx hb hts iw_X5_read_X5 hown hK.1 hP 0 rfl rfl 2 (by decide) (hts _ fl_X5_read_13) (fun _ h9 => h9) rfl dX5_read_12 ?_
  refine lv_iload_n hx hb dX5_read_15 rfl (lv_at hl 4 rfl) ?_
  have o3 := k2.1
  have k4 := k2.2
  refine va_iald hx hb hK.1 hP 2 0 rfl rfl o3 dX5_read_16 ?_
  refine lv_iconst (v := 2) hx hb dX5_read_17 (by decide) ?_
  refine lv_icmp_ne (tgt := 65) hx hb dX5_read_18 (by decide) (fun b5 => ?_) (fun b5 => ?_)
  ·
    have k6 := Eq.mp (if_neg b5) k4
    refine lv_aload_n hx hb dX5_read_65 rfl (lv_at hl 2 rfl) ?_
    refine va_get (D := w.1) (ci := 6) (v := .ref (w.2.2 2)) (C := RX5) (T := TX5) (N := 33) hx hb hts iw_X5_read_X5 hown hK.1 hP 0 rfl rfl 2 (by decide) (hts _ fl_X5_read_13) (fun _ h9 => h9) rfl dX5_read_66 ?_
    refine lv_iload_n hx hb dX5_read_69 rfl (lv_at hl 4 rfl) ?_
    have o7 := k6.1
    have k8 := k6.2
    refine va_iald hx hb hK.1 hP 2 0 rfl rfl o7 dX5_read_70 ?_
    refine lv_if_ne (tgt := 142) hx hb dX5_read_71 (by decide) (fun b9 => ?_) (fun b9 => ?_)
    ·
      have k10 := Eq.mp (if_neg b9) k8
      refine lv_iconst (v := 2) hx hb dX5_read_142 (by decide) ?_
      refine lv_aload_n hx hb dX5_read_143 rfl (lv_at hl 2 rfl) ?_
      refine va_get (D := w.1) (ci := 6) (v := .ref (w.2.2 4)) (C := RX5) (T := TX5) (N := 33) hx hb hts iw_X5_read_X5 hown hK.1 hP 0 rfl rfl 4 (by decide) (hts _ fl_X5_read_20) (fun _ h9 => h9) rfl dX5_read_144 ?_
      refine lv_iload_n hx hb dX5_read_147 rfl (lv_at hl 4 rfl) ?_
      have o11 := k10.1
      have k12 := k10.2
      refine va_iald hx hb hK.1 hP 4 0 rfl rfl o11 dX5_read_148 ?_
      refine lv_imul hx hb dX5_read_149 ?_
      refine lv_iconst (v := 1) hx hb dX5_read_150 (by decide) ?_
      refine lv_isub hx hb dX5_read_151 ?_
      refine lv_istore (lv' := [(7, .int (((2 : Int32) * (mc.2.2.2.1 n.toNatClampNeg)) - (1 : Int32))), (5, .long (0 : Int64)), (4, .int (mc.2.2.1 n.toNatClampNeg)), (0, .ref (w.2.2 0)), (1, .int s), (2, .int n), (3, .int p)]) hx hb dX5_read_152 hl (by decide) rfl (fun ls hl => ?_)
      refine lv_iload hx hb dX5_read_154 (lv_at hl 0 rfl) ?_
      refine lv_iload hx hb dX5_read_156 (lv_at hl 2 rfl) ?_
      refine lv_isub hx hb dX5_read_158 ?_
      refine lv_istore (lv' := [(8, .int ((((2 : Int32) * (mc.2.2.2.1 n.toNatClampNeg)) - (1 : Int32)) - (mc.2.2.1 n.toNatClampNeg))), (7, .int (((2 : Int32) * (mc.2.2.2.1 n.toNatClampNeg)) - (1 : Int32))), (5, .long (0 : Int64)), (4, .int (mc.2.2.1 n.toNatClampNeg)), (0, .ref (w.2.2 0)), (1, .int s), (2, .int n), (3, .int p)]) hx hb dX5_read_159 hl (by decide) rfl (fun ls hl => ?_)
      exact L_X5_read_L161 l w me mb mc mt mk mr mq mv s n p  hx hb hr hml hts hown hlk hK _ 12 (0 : Int64) (((2 : Int32) * (mc.2.2.2.1 n.toNatClampNeg)) - (1 : Int32)) ((((2 : Int32) * (mc.2.2.2.1 n.toNatClampNeg)) - (1 : Int32)) - (mc.2.2.1 n.toNatClampNeg)) hP k12 (Eq.trans (Eq.trans rfl (if_neg b5)) (if_neg b9)) ls (lv_sub hl [4, 5, 7, 2, 1, 0] rfl)
    ·
      have k13 := Eq.mp (if_pos b9) k8
      refine lv_iconst (v := 0) hx hb dX5_read_74 (by decide) ?_
      refine lv_istore (lv' := [(7, .int (0 : Int32)), (5, .long (0 : Int64)), (4, .int (mc.2.2.1 n.toNatClampNeg)), (0, .ref (w.2.2 0)), (1, .int s), (2, .int n), (3, .int p)]) hx hb dX5_read_75 hl (by decide) rfl (fun ls hl => ?_)
      exact L_X5_read_L77 l w me mb mc mt mk mr mq mv s n p  hx hb hr hml hts hown hlk hK _ 12 (mc.2.2.1 n.toNatClampNeg) (0 : Int64) (0 : Int32) hP k13 (Eq.trans (Eq.trans rfl (if_neg b5)) (if_pos b9)) ls (lv_sub hl [3, 4, 6, 2, 1, 0] rfl)
  ·
    have k14 := Eq.mp (if_pos b5) k4
    refine lv_aload_n hx hb dX5_read_21 rfl (lv_at hl 2 rfl) ?_
    refine lv_iload_n hx hb dX5_read_22 rfl (lv_at hl 3 rfl) ?_
    refine lv_iload_n hx hb dX5_read_23 rfl (lv_at hl 5 rfl) ?_
    have o15 := k14.1
    have k16 := k14.2
    refine xR_i (va_runV (As := [.int s, .int p]) (rest := []) ⟨hx, hb, hml, hown, hts⟩ (c_X5_octet l w me mb mc mt mk mr mq mv s p o15) (cwV 2 hts gX5_read_X5_octet rfl rfl rfl dv_X5_octet ⟨Nat.le_of_ble_eq_true rfl, Nat.le_of_ble_eq_true rfl⟩) (wPreV hP hK (ci := 6) (q0 := 0) rfl rfl) rfl rfl hl.1 rfl (lv_room (Nat.le_of_ble_eq_true rfl)) dX5_read_24 ⟨Nat.zero_le _, Nat.zero_le _⟩) ?_
    refine lv_bipush (v := 24) hx hb dX5_read_27 (by decide) ?_
    refine lv_ishl hx hb dX5_read_29 ?_
    refine lv_aload_n hx hb dX5_read_30 rfl (lv_at hl 2 rfl) ?_
    refine lv_iload_n hx hb dX5_read_31 rfl (lv_at hl 3 rfl) ?_
    refine lv_iload_n hx hb dX5_read_32 rfl (lv_at hl 5 rfl) ?_
    refine lv_iconst (v := 1) hx hb dX5_read_33 (by decide) ?_
    refine lv_iadd hx hb dX5_read_34 ?_
    have o17 := k16.1
    have k18 := k16.2
    refine xR_i (va_runV (As := [.int s, .int (p + (1 : Int32))]) (rest := [.int ((G_X5_octet mb s p) <<< ((24 : Int32) &&& 31))]) ⟨hx, hb, hml, hown, hts⟩ (c_X5_octet l w me mb mc mt mk mr mq mv s (p + (1 : Int32)) o17) (cwV 2 hts gX5_read_X5_octet rfl rfl rfl dv_X5_octet ⟨Nat.le_of_ble_eq_true rfl, Nat.le_of_ble_eq_true rfl⟩) (wPreV hP hK (ci := 6) (q0 := 0) rfl rfl) rfl rfl hl.1 rfl (lv_room (Nat.le_of_ble_eq_true rfl)) dX5_read_35 ⟨Nat.zero_le _, Nat.zero_le _⟩) ?_
    refine lv_bipush (v := 16) hx hb dX5_read_38 (by decide) ?_
    refine lv_ishl hx hb dX5_read_40 ?_
    refine lv_ior hx hb dX5_read_41 ?_
    refine lv_aload_n hx hb dX5_read_42 rfl (lv_at hl 2 rfl) ?_
    refine lv_iload_n hx hb dX5_read_43 rfl (lv_at hl 3 rfl) ?_
    refine lv_iload_n hx hb dX5_read_44 rfl (lv_at hl 5 rfl) ?_
    refine lv_iconst (v := 2) hx hb dX5_read_45 (by decide) ?_
    refine lv_iadd hx hb dX5_read_46 ?_
    have o19 := k18.1
    have k20 := k18.2
    refine xR_i (va_runV (As := [.int s, .int (p + (2 : Int32))]) (rest := [.int (((G_X5_octet mb s p) <<< ((24 : Int32) &&& 31)) ||| ((G_X5_octet mb s (p + (1 : Int32))) <<< ((16 : Int32) &&& 31)))]) ⟨hx, hb, hml, hown, hts⟩ (c_X5_octet l w me mb mc mt mk mr mq mv s (p + (2 : Int32)) o19) (cwV 2 hts gX5_read_X5_octet rfl rfl rfl dv_X5_octet ⟨Nat.le_of_ble_eq_true rfl, Nat.le_of_ble_eq_true rfl⟩) (wPreV hP hK (ci := 6) (q0 := 0) rfl rfl) rfl rfl hl.1 rfl (lv_room (Nat.le_of_ble_eq_true rfl)) dX5_read_47 ⟨Nat.zero_le _, Nat.zero_le _⟩) ?_
    refine lv_bipush (v := 8) hx hb dX5_read_50 (by decide) ?_
    refine lv_ishl hx hb dX5_read_52 ?_
    refine lv_ior hx hb dX5_read_53 ?_
    refine lv_aload_n hx hb dX5_read_54 rfl (lv_at hl 2 rfl) ?_
    refine lv_iload_n hx hb dX5_read_55 rfl (lv_at hl 3 rfl) ?_
    refine lv_iload_n hx hb dX5_read_56 rfl (lv_at hl 5 rfl) ?_
    refine lv_iconst (v := 3) hx hb dX5_read_57 (by decide) ?_
    refine lv_iadd hx hb dX5_read_58 ?_
    have o21 := k20.1
    have k22 := k20.2
    refine xR_i (va_runV (As := [.int s, .int (p + (3 : Int32))]) (rest := [.int ((((G_X5_octet mb s p) <<< ((24 : Int32) &&& 31)) ||| ((G_X5_octet mb s (p + (1 : Int32))) <<< ((16 : Int32) &&& 31))) ||| ((G_X5_octet mb s (p + (2 : Int32))) <<< ((8 : Int32) &&& 31)))]) ⟨hx, hb, hml, hown, hts⟩ (c_X5_octet l w me mb mc mt mk mr mq mv s (p + (3 : Int32)) o21) (cwV 2 hts gX5_read_X5_octet rfl rfl rfl dv_X5_octet ⟨Nat.le_of_ble_eq_true rfl, Nat.le_of_ble_eq_true rfl⟩) (wPreV hP hK (ci := 6) (q0 := 0) rfl rfl) rfl rfl hl.1 rfl (lv_room (Nat.le_of_ble_eq_true rfl)) dX5_read_59 ⟨Nat.zero_le _, Nat.zero_le _⟩) ?_
    refine lv_ior hx hb dX5_read_62 ?_
    refine lv_i2l hx hb dX5_read_63 rfl ?_
    exact xR_lret hx hb hr hlk  (Eq.trans rfl (if_pos b5)) dX5_read_64
set_option maxRecDepth 20000 in
theorem dv_X5_lay : yX5_lay.cls = RX5 ∧ yX5_lay.cls ≠ "java/lang/invoke/MethodHandle" ∧ yX5_lay.cls ≠ "java/lang/invoke/VarHandle" ∧ (parseMethodDescriptor yX5_lay.desc).map (fun d => d.parameters.length) = some 3 := by decide +kernel
set_option maxRecDepth 20000 in
theorem mw_X5_store_k92 : Cond.constantLong RX5 92 (10) ∈ wsX5_store := by decide +kernel
set_option maxRecDepth 20000 in
theorem mw_X5_store_k116 : Cond.constantLong RX5 116 (255) ∈ wsX5_store := by decide +kernel
set_option maxRecDepth 20000 in
theorem iw_X5_store_X5 : ∀ w ∈ wsX50, w ∈ wsX5_store := by decide +kernel
set_option maxRecDepth 20000 in
theorem fl_X5_store_20 : Cond.fieldLink RX5 20 "ProcedureCodeModel" "sizes" "[I" ∈ wsX5_store := by decide +kernel
set_option maxRecDepth 20000 in
theorem mw_X5_store_k114 : Cond.constantLong RX5 114 (16) ∈ wsX5_store := by decide +kernel
set_option maxRecDepth 20000 in
theorem fl_X5_store_17 : Cond.fieldLink RX5 17 "ProcedureCodeModel" "digits" "[I" ∈ wsX5_store := by decide +kernel
set_option maxRecDepth 20000 in
theorem ds_X5_ten : yX5_ten.cls ≠ "java/lang/invoke/MethodHandle" ∧ yX5_ten.cls ≠ "java/lang/invoke/VarHandle" ∧ (parseMethodDescriptor yX5_ten.desc).map (fun d => d.parameters.length) = some 1 := by decide +kernel
set_option maxRecDepth 20000 in
theorem fl_X5_store_13 : Cond.fieldLink RX5 13 "ProcedureCodeModel" "usages" "[I" ∈ wsX5_store := by decide +kernel
set_option maxRecDepth 20000 in
theorem mw_X5_store_k112 : Cond.constantLong RX5 112 (12) ∈ wsX5_store := by decide +kernel
set_option maxRecDepth 20000 in
theorem mw_X5_store_k110 : Cond.constantLong RX5 110 (13) ∈ wsX5_store := by decide +kernel
def G_X5_store_L49 (mb : AI) (mc : MC) (s : Int32) (n : Int32) (p : Int32) (v : Int64) : Nat → Int64 → Int32 → AI → AI
  | 0, _, _, _ => mb
  | fu + 1, wv, i, mbv => if (4 : Int32) ≤ i then (mbv) else (G_X5_store_L49 mb mc s n p v fu wv (i + (1 : Int32)) (G_X5_lay mbv s (p + i) ((wv >>> (((24 : Int32) - ((8 : Int32) * i)).toInt64 &&& 63)).toInt32)))
def OK_X5_store_L49 (mb : AI) (mc : MC) (s : Int32) (n : Int32) (p : Int32) (v : Int64) : Nat → Int64 → Int32 → AI → Prop
  | 0, _, _, _ => False
  | fu + 1, wv, i, mbv => if (4 : Int32) ≤ i then (True) else ((OK_X5_lay mbv s (p + i) ((wv >>> (((24 : Int32) - ((8 : Int32) * i)).toInt64 &&& 63)).toInt32)) ∧ (OK_X5_store_L49 mb mc s n p v fu wv (i + (1 : Int32)) (G_X5_lay mbv s (p + i) ((wv >>> (((24 : Int32) - ((8 : Int32) * i)).toInt64 &&& 63)).toInt32))))
def G_X5_store_L100 (mb : AI) (mc : MC) (s : Int32) (n : Int32) (p : Int32) (v : Int64) : Nat → Int32 → Int64 → Int64 → Int32 → AI → AI
  | 0, _, _, _, _, _ => mb
  | fu + 1, dn, wv, lf, i, mbv => if i < 0 then (mbv) else (if i = (dn - (1 : Int32)) then (if 0 ≤ (lg_cmp wv (0 : Int64)) then (G_X5_store_L100 mb mc s n p v fu dn wv (lf / (10 : Int64)) (i + (-1 : Int32)) (G_X5_lay mbv s (p + i) (((48 : Int32) + ((lf - lf / (10 : Int64) * (10 : Int64)).toInt32)) + (0 : Int32)))) else (G_X5_store_L100 mb mc s n p v fu dn wv (lf / (10 : Int64)) (i + (-1 : Int32)) (G_X5_lay mbv s (p + i) (((48 : Int32) + ((lf - lf / (10 : Int64) * (10 : Int64)).toInt32)) + (64 : Int32))))) else (G_X5_store_L100 mb mc s n p v fu dn wv (lf / (10 : Int64)) (i + (-1 : Int32)) (G_X5_lay mbv s (p + i) (((48 : Int32) + ((lf - lf / (10 : Int64) * (10 : Int64)).toInt32)) + (0 : Int32)))))
def OK_X5_store_L100 (mb : AI) (mc : MC) (s : Int32) (n : Int32) (p : Int32) (v : Int64) : Nat → Int32 → Int64 → Int64 → Int32 → AI → Prop
  | 0, _, _, _, _, _ => False
  | fu + 1, dn, wv, lf, i, mbv => if i < 0 then (True) else (if i = (dn - (1 : Int32)) then (if 0 ≤ (lg_cmp wv (0 : Int64)) then ((OK_X5_lay mbv s (p + i) (((48 : Int32) + ((lf - lf / (10 : Int64) * (10 : Int64)).toInt32)) + (0 : Int32))) ∧ (OK_X5_store_L100 mb mc s n p v fu dn wv (lf / (10 : Int64)) (i + (-1 : Int32)) (G_X5_lay mbv s (p + i) (((48 : Int32) + ((lf - lf / (10 : Int64) * (10 : Int64)).toInt32)) + (0 : Int32))))) else ((OK_X5_lay mbv s (p + i) (((48 : Int32) + ((lf - lf / (10 : Int64) * (10 : Int64)).toInt32)) + (64 : Int32))) ∧ (OK_X5_store_L100 mb mc s n p v fu dn wv (lf / (10 : Int64)) (i + (-1 : Int32)) (G_X5_lay mbv s (p + i) (((48 : Int32) + ((lf - lf / (10 : Int64) * (10 : Int64)).toInt32)) + (64 : Int32)))))) else ((OK_X5_lay mbv s (p + i) (((48 : Int32) + ((lf - lf / (10 : Int64) * (10 : Int64)).toInt32)) + (0 : Int32))) ∧ (OK_X5_store_L100 mb mc s n p v fu dn wv (lf / (10 : Int64)) (i + (-1 : Int32)) (G_X5_lay mbv s (p + i) (((48 : Int32) + ((lf - lf / (10 : Int64) * (10 : Int64)).toInt32)) + (0 : Int32))))))
def G_X5_store_L243 (mb : AI) (mc : MC) (s : Int32) (n : Int32) (p : Int32) (v : Int64) : Nat → Int64 → Int32 → AI → AI
  | 0, _, _, _ => mb
  | fu + 1, al, i, mbv => if i < 0 then (mbv) else (G_X5_store_L243 mb mc s n p v fu (al >>> ((8 : Int32).toInt64 &&& 63)) (i + (-1 : Int32)) (G_X5_lay mbv s (p + i) ((al &&& (255 : Int64)).toInt32)))
def OK_X5_store_L243 (mb : AI) (mc : MC) (s : Int32) (n : Int32) (p : Int32) (v : Int64) : Nat → Int64 → Int32 → AI → Prop
  | 0, _, _, _ => False
  | fu + 1, al, i, mbv => if i < 0 then (True) else ((OK_X5_lay mbv s (p + i) ((al &&& (255 : Int64)).toInt32)) ∧ (OK_X5_store_L243 mb mc s n p v fu (al >>> ((8 : Int32).toInt64 &&& 63)) (i + (-1 : Int32)) (G_X5_lay mbv s (p + i) ((al &&& (255 : Int64)).toInt32))))
def G_X5_store_L190 (mb : AI) (mc : MC) (s : Int32) (n : Int32) (p : Int32) (v : Int64) : Nat → Int32 → Int64 → Int64 → Int64 → Int32 → AI
  | 0, _, _, _, _, _ => mb
  | fu + 1, dn, lf, al, up, i => if dn ≤ i then (G_X5_store_L243 mb mc s n p v 12 al ((mc.2.2.2.1 n.toNatClampNeg) - (1 : Int32)) mb) else (G_X5_store_L190 mb mc s n p v fu dn (lf / (10 : Int64)) (al + (up * (lf - lf / (10 : Int64) * (10 : Int64)))) (up * (16 : Int64)) (i + (1 : Int32)))
def OK_X5_store_L190 (mb : AI) (mc : MC) (s : Int32) (n : Int32) (p : Int32) (v : Int64) : Nat → Int32 → Int64 → Int64 → Int64 → Int32 → Prop
  | 0, _, _, _, _, _ => False
  | fu + 1, dn, lf, al, up, i => if dn ≤ i then ((vp_in n 40) ∧ (OK_X5_store_L243 mb mc s n p v 12 al ((mc.2.2.2.1 n.toNatClampNeg) - (1 : Int32)) mb)) else (OK_X5_store_L190 mb mc s n p v fu dn (lf / (10 : Int64)) (al + (up * (lf - lf / (10 : Int64) * (10 : Int64)))) (up * (16 : Int64)) (i + (1 : Int32)))
def G_X5_store (mb : AI) (mc : MC) (s : Int32) (n : Int32) (p : Int32) (v : Int64) : AI := if 0 ≤ (lg_cmp (v - v / (G_X5_ten (mc.2.2.1 n.toNatClampNeg)) * (G_X5_ten (mc.2.2.1 n.toNatClampNeg))) (0 : Int64)) then (if (mc.2.1 n.toNatClampNeg) = (2 : Int32) then (G_X5_store_L49 mb mc s n p v 6 (v - v / (G_X5_ten (mc.2.2.1 n.toNatClampNeg)) * (G_X5_ten (mc.2.2.1 n.toNatClampNeg))) (0 : Int32) mb) else (if (mc.2.1 n.toNatClampNeg) = 0 then (G_X5_store_L100 mb mc s n p v 12 (mc.2.2.1 n.toNatClampNeg) (v - v / (G_X5_ten (mc.2.2.1 n.toNatClampNeg)) * (G_X5_ten (mc.2.2.1 n.toNatClampNeg))) (v - v / (G_X5_ten (mc.2.2.1 n.toNatClampNeg)) * (G_X5_ten (mc.2.2.1 n.toNatClampNeg))) ((mc.2.2.1 n.toNatClampNeg) - (1 : Int32)) mb) else (if 0 ≤ (lg_cmp (v - v / (G_X5_ten (mc.2.2.1 n.toNatClampNeg)) * (G_X5_ten (mc.2.2.1 n.toNatClampNeg))) (0 : Int64)) then (G_X5_store_L190 mb mc s n p v 12 (mc.2.2.1 n.toNatClampNeg) (v - v / (G_X5_ten (mc.2.2.1 n.toNatClampNeg)) * (G_X5_ten (mc.2.2.1 n.toNatClampNeg))) (12 : Int64) (16 : Int64) (0 : Int32)) else (G_X5_store_L190 mb mc s n p v 12 (mc.2.2.1 n.toNatClampNeg) (v - v / (G_X5_ten (mc.2.2.1 n.toNatClampNeg)) * (G_X5_ten (mc.2.2.1 n.toNatClampNeg))) (13 : Int64) (16 : Int64) (0 : Int32))))) else (if (mc.2.1 n.toNatClampNeg) = (2 : Int32) then (G_X5_store_L49 mb mc s n p v 6 (v - v / (G_X5_ten (mc.2.2.1 n.toNatClampNeg)) * (G_X5_ten (mc.2.2.1 n.toNatClampNeg))) (0 : Int32) mb) else (if (mc.2.1 n.toNatClampNeg) = 0 then (G_X5_store_L100 mb mc s n p v 12 (mc.2.2.1 n.toNatClampNeg) (v - v / (G_X5_ten (mc.2.2.1 n.toNatClampNeg)) * (G_X5_ten (mc.2.2.1 n.toNatClampNeg))) ((0 : Int64) - (v - v / (G_X5_ten (mc.2.2.1 n.toNatClampNeg)) * (G_X5_ten (mc.2.2.1 n.toNatClampNeg)))) ((mc.2.2.1 n.toNatClampNeg) - (1 : Int32)) mb) else (if 0 ≤ (lg_cmp (v - v / (G_X5_ten (mc.2.2.1 n.toNatClampNeg)) * (G_X5_ten (mc.2.2.1 n.toNatClampNeg))) (0 : Int64)) then (G_X5_store_L190 mb mc s n p v 12 (mc.2.2.1 n.toNatClampNeg) ((0 : Int64) - (v - v / (G_X5_ten (mc.2.2.1 n.toNatClampNeg)) * (G_X5_ten (mc.2.2.1 n.toNatClampNeg)))) (12 : Int64) (16 : Int64) (0 : Int32)) else (G_X5_store_L190 mb mc s n p v 12 (mc.2.2.1 n.toNatClampNeg) ((0 : Int64) - (v - v / (G_X5_ten (mc.2.2.1 n.toNatClampNeg)) * (G_X5_ten (mc.2.2.1 n.toNatClampNeg)))) (13 : Int64) (16 : Int64) (0 : Int32)))))
def OK_X5_store (mb : AI) (mc : MC) (s : Int32) (n : Int32) (p : Int32) (v : Int64) : Prop := (vp_in n 40) ∧ ((OK_X5_ten (mc.2.2.1 n.toNatClampNeg)) ∧ ((¬ (G_X5_ten (mc.2.2.1 n.toNatClampNeg)) = 0) ∧ (if 0 ≤ (lg_cmp (v - v / (G_X5_ten (mc.2.2.1 n.toNatClampNeg)) * (G_X5_ten (mc.2.2.1 n.toNatClampNeg))) (0 : Int64)) then ((vp_in n 40) ∧ (if (mc.2.1 n.toNatClampNeg) = (2 : Int32) then (OK_X5_store_L49 mb mc s n p v 6 (v - v / (G_X5_ten (mc.2.2.1 n.toNatClampNeg)) * (G_X5_ten (mc.2.2.1 n.toNatClampNeg))) (0 : Int32) mb) else ((vp_in n 40) ∧ (if (mc.2.1 n.toNatClampNeg) = 0 then (OK_X5_store_L100 mb mc s n p v 12 (mc.2.2.1 n.toNatClampNeg) (v - v / (G_X5_ten (mc.2.2.1 n.toNatClampNeg)) * (G_X5_ten (mc.2.2.1 n.toNatClampNeg))) (v - v / (G_X5_ten (mc.2.2.1 n.toNatClampNeg)) * (G_X5_ten (mc.2.2.1 n.toNatClampNeg))) ((mc.2.2.1 n.toNatClampNeg) - (1 : Int32)) mb) else (if 0 ≤ (lg_cmp (v - v / (G_X5_ten (mc.2.2.1 n.toNatClampNeg)) * (G_X5_ten (mc.2.2.1 n.toNatClampNeg))) (0 : Int64)) then (OK_X5_store_L190 mb mc s n p v 12 (mc.2.2.1 n.toNatClampNeg) (v - v / (G_X5_ten (mc.2.2.1 n.toNatClampNeg)) * (G_X5_ten (mc.2.2.1 n.toNatClampNeg))) (12 : Int64) (16 : Int64) (0 : Int32)) else (OK_X5_store_L190 mb mc s n p v 12 (mc.2.2.1 n.toNatClampNeg) (v - v / (G_X5_ten (mc.2.2.1 n.toNatClampNeg)) * (G_X5_ten (mc.2.2.1 n.toNatClampNeg))) (13 : Int64) (16 : Int64) (0 : Int32))))))) else ((vp_in n 40) ∧ (if (mc.2.1 n.toNatClampNeg) = (2 : Int32) then (OK_X5_store_L49 mb mc s n p v 6 (v - v / (G_X5_ten (mc.2.2.1 n.toNatClampNeg)) * (G_X5_ten (mc.2.2.1 n.toNatClampNeg))) (0 : Int32) mb) else ((vp_in n 40) ∧ (if (mc.2.1 n.toNatClampNeg) = 0 then (OK_X5_store_L100 mb mc s n p v 12 (mc.2.2.1 n.toNatClampNeg) (v - v / (G_X5_ten (mc.2.2.1 n.toNatClampNeg)) * (G_X5_ten (mc.2.2.1 n.toNatClampNeg))) ((0 : Int64) - (v - v / (G_X5_ten (mc.2.2.1 n.toNatClampNeg)) * (G_X5_ten (mc.2.2.1 n.toNatClampNeg)))) ((mc.2.2.1 n.toNatClampNeg) - (1 : Int32)) mb) else (if 0 ≤ (lg_cmp (v - v / (G_X5_ten (mc.2.2.1 n.toNatClampNeg)) * (G_X5_ten (mc.2.2.1 n.toNatClampNeg))) (0 : Int64)) then (OK_X5_store_L190 mb mc s n p v 12 (mc.2.2.1 n.toNatClampNeg) ((0 : Int64) - (v - v / (G_X5_ten (mc.2.2.1 n.toNatClampNeg)) * (G_X5_ten (mc.2.2.1 n.toNatClampNeg)))) (12 : Int64) (16 : Int64) (0 : Int32)) else (OK_X5_store_L190 mb mc s n p v 12 (mc.2.2.1 n.toNatClampNeg) ((0 : Int64) - (v - v / (G_X5_ten (mc.2.2.1 n.toNatClampNeg)) * (G_X5_ten (mc.2.2.1 n.toNatClampNeg)))) (13 : Int64) (16 : Int64) (0 : Int32))))))))))
set_option maxHeartbeats 4000000 in
set_option maxRecDepth 100000 in
theorem L_X5_store_L49 (l : Launch) (w : WG) (hA : wAp w 25) (me : ME) (mb : AI) (mc : MC) (mt : MT) (mk : MK) (mr : MR) (mq : MQS) (mv : MV) (s : Int32) (n : Int32) (p : Int32) (v : Int64) {pP : Program} {eE : Env} {S : State} {mM : MethodId} {below : List Frame} {meth : Method} {C : Code} (hx : pP.tables.exec = Jvm.exec) (hb : C.code = cX5_store) (hr : meth.sig.returnType = none) (hml : C.maxLocals = 16) (hts : ∀ q9 ∈ wsX5_store, q9.before ([.ref (w.2.2 0), .int s, .int n, .int p, .long v] : List Value).toArray S = true) (hown : S.vm.findClass yX5_store.cls = some mM.cls) (hlk : meth.locks = false) (hK : wK w S) (g : AI) :
    ∀ (fu : Nat) (wv : Int64) (i : Int32) (mbv : AI) (H : Heap) (locs : List Loc), va_P w.1 vwCl (wM w me mbv mc mt mk mr mq mv) H → va_S (wA w 25) S.heap H locs → OK_X5_store_L49 mb mc s n p v fu wv i mbv → g = G_X5_store_L49 mb mc s n p v fu wv i mbv → ∀ ls : Array Slot, lv_has ls 16 [(0, .ref (w.2.2 0)), (1, .int s), (3, .int p), (7, .long wv), (11, .int i)] → W pP l eE { frames := 1, cells := 0, slots := 0, locals := 23 } S mM ([.ref (w.2.2 0), .int s, .int n, .int p, .long v] : List Value).toArray below meth C H locs 0 0 (MQ below (xM none (fun H => va_P w.1 vwCl (wM w me g mc mt mk mr mq mv) H) (wA w 25)) ([.ref (w.2.2 0), .int s, .int n, .int p, .long v] : List Value).toArray S 0 0 (wA w 25)) (F0 mM 49 ls []) := by
  intro fu
  induction fu with
  | zero =>
    intro wv i mbv H locs hP hS hok hg ls hl
    exact hok.elim
  | succ fu ih =>
    intro wv i mbv H locs hP hS hok hg ls hl
    refine lv_iload hx hb dX5_store_49 (lv_at hl 4 rfl) ?_
    refine lv_iconst (v := 4) hx hb dX5_store_51 (by decide) ?_
    refine lv_icmp_ge (tgt := 82) hx hb dX5_store_52 (by decide) (fun b1 => ?_) (fun b1 => ?_)
    ·
      have k2 := Eq.mp (if_pos b1) hok
      refine lv_goto (tgt := 277) hx hb dX5_store_82 (by decide) ?_
      have e9 : g = mbv := Eq.trans hg (if_pos b1)
      exact xM_vret hx hb hr hlk  hS  (by rw [e9]; exact hP) dX5_store_277
    ·
      have k3 := Eq.mp (if_neg b1) hok
      refine lv_aload_n hx hb dX5_store_55 rfl (lv_at hl 0 rfl) ?_
      refine lv_iload_n hx hb dX5_store_56 rfl (lv_at hl 1 rfl) ?_
      refine lv_iload_n hx hb dX5_store_57 rfl (lv_at hl 2 rfl) ?_
      refine lv_iload hx hb dX5_store_58 (lv_at hl 4 rfl) ?_
      refine lv_iadd hx hb dX5_store_60 ?_
      refine lv_lload hx hb dX5_store_61 (lv_at hl 3 rfl) ?_
      refine lv_bipush (v := 24) hx hb dX5_store_63 (by decide) ?_
      refine lv_bipush (v := 8) hx hb dX5_store_65 (by decide) ?_
      refine lv_iload hx hb dX5_store_67 (lv_at hl 4 rfl) ?_
      refine lv_imul hx hb dX5_store_69 ?_
      refine lv_isub hx hb dX5_store_70 ?_
      refine lv_lshr hx hb dX5_store_71 rfl ?_
      refine lv_l2i hx hb dX5_store_72 rfl ?_
      have o4 := k3.1
      have k5 := k3.2
      refine xM_v (va_runV (As := [.int s, .int (p + i), .int ((wv >>> (((24 : Int32) - ((8 : Int32) * i)).toInt64 &&& 63)).toInt32)]) (rest := []) ⟨hx, hb, hml, hown, hts⟩ (c_X5_lay l w hA me mbv mc mt mk mr mq mv s (p + i) ((wv >>> (((24 : Int32) - ((8 : Int32) * i)).toInt64 &&& 63)).toInt32) o4) (cwV 3 hts gX5_store_X5_lay rfl rfl rfl dv_X5_lay ⟨Nat.le_of_ble_eq_true rfl, Nat.le_of_ble_eq_true rfl⟩) (wPreV hP hK (ci := 6) (q0 := 0) rfl rfl) rfl rfl hl.1 rfl (lv_room (Nat.le_of_ble_eq_true rfl)) dX5_store_73 ⟨Nat.zero_le _, Nat.zero_le _⟩) hS (fun H locs hP hS => ?_)
      have hP : va_P w.1 vwCl (wM w me (G_X5_lay mbv s (p + i) ((wv >>> (((24 : Int32) - ((8 : Int32) * i)).toInt64 &&& 63)).toInt32)) mc mt mk mr mq mv) H := hP
      refine lv_iinc (v := i + (1 : Int32)) (lv' := [(11, .int (i + (1 : Int32))), (0, .ref (w.2.2 0)), (1, .int s), (3, .int p), (7, .long wv)]) hx hb dX5_store_76 hl (k := 4) rfl rfl (by decide) rfl (fun ls hl => ?_)
      refine lv_goto (tgt := 49) hx hb dX5_store_79 (by decide) ?_
      exact ih wv (i + (1 : Int32)) (G_X5_lay mbv s (p + i) ((wv >>> (((24 : Int32) - ((8 : Int32) * i)).toInt64 &&& 63)).toInt32)) _ _ hP hS k5 (Eq.trans hg (if_neg b1)) ls (lv_sub hl [1, 2, 3, 4, 0] rfl)
set_option maxHeartbeats 4000000 in
set_option maxRecDepth 100000 in
theorem L_X5_store_L100 (l : Launch) (w : WG) (hA : wAp w 25) (me : ME) (mb : AI) (mc : MC) (mt : MT) (mk : MK) (mr : MR) (mq : MQS) (mv : MV) (s : Int32) (n : Int32) (p : Int32) (v : Int64) {pP : Program} {eE : Env} {S : State} {mM : MethodId} {below : List Frame} {meth : Method} {C : Code} (hx : pP.tables.exec = Jvm.exec) (hb : C.code = cX5_store) (hr : meth.sig.returnType = none) (hml : C.maxLocals = 16) (hts : ∀ q9 ∈ wsX5_store, q9.before ([.ref (w.2.2 0), .int s, .int n, .int p, .long v] : List Value).toArray S = true) (hown : S.vm.findClass yX5_store.cls = some mM.cls) (hlk : meth.locks = false) (hK : wK w S) (g : AI) :
    ∀ (fu : Nat) (dn : Int32) (wv : Int64) (lf : Int64) (i : Int32) (mbv : AI) (H : Heap) (locs : List Loc), va_P w.1 vwCl (wM w me mbv mc mt mk mr mq mv) H → va_S (wA w 25) S.heap H locs → OK_X5_store_L100 mb mc s n p v fu dn wv lf i mbv → g = G_X5_store_L100 mb mc s n p v fu dn wv lf i mbv → ∀ ls : Array Slot, lv_has ls 16 [(0, .ref (w.2.2 0)), (1, .int s), (3, .int p), (6, .int dn), (7, .long wv), (9, .long lf), (11, .int i)] → W pP l eE { frames := 1, cells := 0, slots := 0, locals := 23 } S mM ([.ref (w.2.2 0), .int s, .int n, .int p, .long v] : List Value).toArray below meth C H locs 0 0 (MQ below (xM none (fun H => va_P w.1 vwCl (wM w me g mc mt mk mr mq mv) H) (wA w 25)) ([.ref (w.2.2 0), .int s, .int n, .int p, .long v] : List Value).toArray S 0 0 (wA w 25)) (F0 mM 100 ls []) := by
  intro fu
  induction fu with
  | zero =>
    intro dn wv lf i mbv H locs hP hS hok hg ls hl
    exact hok.elim
  | succ fu ih =>
    intro dn wv lf i mbv H locs hP hS hok hg ls hl
    refine lv_iload hx hb dX5_store_100 (lv_at hl 6 rfl) ?_
    refine lv_if_lt (tgt := 161) hx hb dX5_store_102 (by decide) (fun b1 => ?_) (fun b1 => ?_)
    ·
      have k2 := Eq.mp (if_pos b1) hok
      refine lv_goto (tgt := 277) hx hb dX5_store_161 (by decide) ?_
      have e9 : g = mbv := Eq.trans hg (if_pos b1)
      exact xM_vret hx hb hr hlk  hS  (by rw [e9]; exact hP) dX5_store_277
    ·
      have k3 := Eq.mp (if_neg b1) hok
      refine lv_aload_n hx hb dX5_store_105 rfl (lv_at hl 0 rfl) ?_
      refine lv_iload_n hx hb dX5_store_106 rfl (lv_at hl 1 rfl) ?_
      refine lv_iload_n hx hb dX5_store_107 rfl (lv_at hl 2 rfl) ?_
      refine lv_iload hx hb dX5_store_108 (lv_at hl 6 rfl) ?_
      refine lv_iadd hx hb dX5_store_110 ?_
      refine lv_bipush (v := 48) hx hb dX5_store_111 (by decide) ?_
      refine lv_lload hx hb dX5_store_113 (lv_at hl 5 rfl) ?_
      refine lv_ldc2 (v := 10) hx hb hown (hts _ mw_X5_store_k92) dX5_store_115 ?_
      refine lv_lrem hx hb dX5_store_118 (by decide) ?_
      refine lv_l2i hx hb dX5_store_119 rfl ?_
      refine lv_iadd hx hb dX5_store_120 ?_
      refine lv_iload hx hb dX5_store_121 (lv_at hl 6 rfl) ?_
      refine lv_iload hx hb dX5_store_123 (lv_at hl 3 rfl) ?_
      refine lv_iconst (v := 1) hx hb dX5_store_125 (by decide) ?_
      refine lv_isub hx hb dX5_store_126 ?_
      refine lv_icmp_ne (tgt := 142) hx hb dX5_store_127 (by decide) (fun b4 => ?_) (fun b4 => ?_)
      ·
        have k5 := Eq.mp (if_neg b4) k3
        refine lv_iconst (v := 0) hx hb dX5_store_142 (by decide) ?_
        refine lv_iadd hx hb dX5_store_143 ?_
        have o6 := k5.1
        have k7 := k5.2
        refine xM_v (va_runV (As := [.int s, .int (p + i), .int (((48 : Int32) + ((lf - lf / (10 : Int64) * (10 : Int64)).toInt32)) + (0 : Int32))]) (rest := []) ⟨hx, hb, hml, hown, hts⟩ (c_X5_lay l w hA me mbv mc mt mk mr mq mv s (p + i) (((48 : Int32) + ((lf - lf / (10 : Int64) * (10 : Int64)).toInt32)) + (0 : Int32)) o6) (cwV 3 hts gX5_store_X5_lay rfl rfl rfl dv_X5_lay ⟨Nat.le_of_ble_eq_true rfl, Nat.le_of_ble_eq_true rfl⟩) (wPreV hP hK (ci := 6) (q0 := 0) rfl rfl) rfl rfl hl.1 rfl (lv_room (Nat.le_of_ble_eq_true rfl)) dX5_store_144 ⟨Nat.zero_le _, Nat.zero_le _⟩) hS (fun H locs hP hS => ?_)
        have hP : va_P w.1 vwCl (wM w me (G_X5_lay mbv s (p + i) (((48 : Int32) + ((lf - lf / (10 : Int64) * (10 : Int64)).toInt32)) + (0 : Int32))) mc mt mk mr mq mv) H := hP
        refine lv_lload hx hb dX5_store_147 (lv_at hl 5 rfl) ?_
        refine lv_ldc2 (v := 10) hx hb hown (hts _ mw_X5_store_k92) dX5_store_149 ?_
        refine lv_ldiv hx hb dX5_store_152 (by decide) ?_
        refine lv_lstore (lv' := [(9, .long (lf / (10 : Int64))), (0, .ref (w.2.2 0)), (1, .int s), (3, .int p), (6, .int dn), (7, .long wv), (11, .int i)]) hx hb dX5_store_153 hl (by decide) rfl (fun ls hl => ?_)
        refine lv_iinc (v := i + (-1 : Int32)) (lv' := [(11, .int (i + (-1 : Int32))), (9, .long (lf / (10 : Int64))), (0, .ref (w.2.2 0)), (1, .int s), (3, .int p), (6, .int dn), (7, .long wv)]) hx hb dX5_store_155 hl (k := 6) rfl rfl (by decide) rfl (fun ls hl => ?_)
        refine lv_goto (tgt := 100) hx hb dX5_store_158 (by decide) ?_
        exact ih dn wv (lf / (10 : Int64)) (i + (-1 : Int32)) (G_X5_lay mbv s (p + i) (((48 : Int32) + ((lf - lf / (10 : Int64) * (10 : Int64)).toInt32)) + (0 : Int32))) _ _ hP hS k7 (Eq.trans (Eq.trans hg (if_neg b1)) (if_neg b4)) ls (lv_sub hl [2, 3, 4, 5, 6, 1, 0] rfl)
      ·
        have k8 := Eq.mp (if_pos b4) k3
        refine lv_lload hx hb dX5_store_130 (lv_at hl 4 rfl) ?_
        refine lv_lconst (v := 0) hx hb dX5_store_132 (by decide) ?_
        refine W.lcmp hx hb dX5_store_133 ?_
        refine lv_if_ge (tgt := 142) hx hb dX5_store_134 (by decide) (fun b9 => ?_) (fun b9 => ?_)
        ·
          have k10 := Eq.mp (if_pos b9) k8
          refine lv_iconst (v := 0) hx hb dX5_store_142 (by decide) ?_
          refine lv_iadd hx hb dX5_store_143 ?_
          have o11 := k10.1
          have k12 := k10.2
          refine xM_v (va_runV (As := [.int s, .int (p + i), .int (((48 : Int32) + ((lf - lf / (10 : Int64) * (10 : Int64)).toInt32)) + (0 : Int32))]) (rest := []) ⟨hx, hb, hml, hown, hts⟩ (c_X5_lay l w hA me mbv mc mt mk mr mq mv s (p + i) (((48 : Int32) + ((lf - lf / (10 : Int64) * (10 : Int64)).toInt32)) + (0 : Int32)) o11) (cwV 3 hts gX5_store_X5_lay rfl rfl rfl dv_X5_lay ⟨Nat.le_of_ble_eq_true rfl, Nat.le_of_ble_eq_true rfl⟩) (wPreV hP hK (ci := 6) (q0 := 0) rfl rfl) rfl rfl hl.1 rfl (lv_room (Nat.le_of_ble_eq_true rfl)) dX5_store_144 ⟨Nat.zero_le _, Nat.zero_le _⟩) hS (fun H locs hP hS => ?_)
          have hP : va_P w.1 vwCl (wM w me (G_X5_lay mbv s (p + i) (((48 : Int32) + ((lf - lf / (10 : Int64) * (10 : Int64)).toInt32)) + (0 : Int32))) mc mt mk mr mq mv) H := hP
          refine lv_lload hx hb dX5_store_147 (lv_at hl 5 rfl) ?_
          refine lv_ldc2 (v := 10) hx hb hown (hts _ mw_X5_store_k92) dX5_store_149 ?_
          refine lv_ldiv hx hb dX5_store_152 (by decide) ?_
          refine lv_lstore (lv' := [(9, .long (lf / (10 : Int64))), (0, .ref (w.2.2 0)), (1, .int s), (3, .int p), (6, .int dn), (7, .long wv), (11, .int i)]) hx hb dX5_store_153 hl (by decide) rfl (fun ls hl => ?_)
          refine lv_iinc (v := i + (-1 : Int32)) (lv' := [(11, .int (i + (-1 : Int32))), (9, .long (lf / (10 : Int64))), (0, .ref (w.2.2 0)), (1, .int s), (3, .int p), (6, .int dn), (7, .long wv)]) hx hb dX5_store_155 hl (k := 6) rfl rfl (by decide) rfl (fun ls hl => ?_)
          refine lv_goto (tgt := 100) hx hb dX5_store_158 (by decide) ?_
          exact ih dn wv (lf / (10 : Int64)) (i + (-1 : Int32)) (G_X5_lay mbv s (p + i) (((48 : Int32) + ((lf - lf / (10 : Int64) * (10 : Int64)).toInt32)) + (0 : Int32))) _ _ hP hS k12 (Eq.trans (Eq.trans (Eq.trans hg (if_neg b1)) (if_pos b4)) (if_pos b9)) ls (lv_sub hl [2, 3, 4, 5, 6, 1, 0] rfl)
        ·
          have k13 := Eq.mp (if_neg b9) k8
          refine lv_bipush (v := 64) hx hb dX5_store_137 (by decide) ?_
          refine lv_goto (tgt := 143) hx hb dX5_store_139 (by decide) ?_
          refine lv_iadd hx hb dX5_store_143 ?_
          have o14 := k13.1
          have k15 := k13.2
          refine xM_v (va_runV (As := [.int s, .int (p + i), .int (((48 : Int32) + ((lf - lf / (10 : Int64) * (10 : Int64)).toInt32)) + (64 : Int32))]) (rest := []) ⟨hx, hb, hml, hown, hts⟩ (c_X5_lay l w hA me mbv mc mt mk mr mq mv s (p + i) (((48 : Int32) + ((lf - lf / (10 : Int64) * (10 : Int64)).toInt32)) + (64 : Int32)) o14) (cwV 3 hts gX5_store_X5_lay rfl rfl rfl dv_X5_lay ⟨Nat.le_of_ble_eq_true rfl, Nat.le_of_ble_eq_true rfl⟩) (wPreV hP hK (ci := 6) (q0 := 0) rfl rfl) rfl rfl hl.1 rfl (lv_room (Nat.le_of_ble_eq_true rfl)) dX5_store_144 ⟨Nat.zero_le _, Nat.zero_le _⟩) hS (fun H locs hP hS => ?_)
          have hP : va_P w.1 vwCl (wM w me (G_X5_lay mbv s (p + i) (((48 : Int32) + ((lf - lf / (10 : Int64) * (10 : Int64)).toInt32)) + (64 : Int32))) mc mt mk mr mq mv) H := hP
          refine lv_lload hx hb dX5_store_147 (lv_at hl 5 rfl) ?_
          refine lv_ldc2 (v := 10) hx hb hown (hts _ mw_X5_store_k92) dX5_store_149 ?_
          refine lv_ldiv hx hb dX5_store_152 (by decide) ?_
          refine lv_lstore (lv' := [(9, .long (lf / (10 : Int64))), (0, .ref (w.2.2 0)), (1, .int s), (3, .int p), (6, .int dn), (7, .long wv), (11, .int i)]) hx hb dX5_store_153 hl (by decide) rfl (fun ls hl => ?_)
          refine lv_iinc (v := i + (-1 : Int32)) (lv' := [(11, .int (i + (-1 : Int32))), (9, .long (lf / (10 : Int64))), (0, .ref (w.2.2 0)), (1, .int s), (3, .int p), (6, .int dn), (7, .long wv)]) hx hb dX5_store_155 hl (k := 6) rfl rfl (by decide) rfl (fun ls hl => ?_)
          refine lv_goto (tgt := 100) hx hb dX5_store_158 (by decide) ?_
          exact ih dn wv (lf / (10 : Int64)) (i + (-1 : Int32)) (G_X5_lay mbv s (p + i) (((48 : Int32) + ((lf - lf / (10 : Int64) * (10 : Int64)).toInt32)) + (64 : Int32))) _ _ hP hS k15 (Eq.trans (Eq.trans (Eq.trans hg (if_neg b1)) (if_pos b4)) (if_neg b9)) ls (lv_sub hl [2, 3, 4, 5, 6, 1, 0] rfl)
set_option maxHeartbeats 4000000 in
set_option maxRecDepth 100000 in
theorem L_X5_store_L243 (l : Launch) (w : WG) (hA : wAp w 25) (me : ME) (mb : AI) (mc : MC) (mt : MT) (mk : MK) (mr : MR) (mq : MQS) (mv : MV) (s : Int32) (n : Int32) (p : Int32) (v : Int64) {pP : Program} {eE : Env} {S : State} {mM : MethodId} {below : List Frame} {meth : Method} {C : Code} (hx : pP.tables.exec = Jvm.exec) (hb : C.code = cX5_store) (hr : meth.sig.returnType = none) (hml : C.maxLocals = 16) (hts : ∀ q9 ∈ wsX5_store, q9.before ([.ref (w.2.2 0), .int s, .int n, .int p, .long v] : List Value).toArray S = true) (hown : S.vm.findClass yX5_store.cls = some mM.cls) (hlk : meth.locks = false) (hK : wK w S) (g : AI) :
    ∀ (fu : Nat) (al : Int64) (i : Int32) (mbv : AI) (H : Heap) (locs : List Loc), va_P w.1 vwCl (wM w me mbv mc mt mk mr mq mv) H → va_S (wA w 25) S.heap H locs → OK_X5_store_L243 mb mc s n p v fu al i mbv → g = G_X5_store_L243 mb mc s n p v fu al i mbv → ∀ ls : Array Slot, lv_has ls 16 [(0, .ref (w.2.2 0)), (1, .int s), (3, .int p), (11, .long al), (15, .int i)] → W pP l eE { frames := 1, cells := 0, slots := 0, locals := 23 } S mM ([.ref (w.2.2 0), .int s, .int n, .int p, .long v] : List Value).toArray below meth C H locs 0 0 (MQ below (xM none (fun H => va_P w.1 vwCl (wM w me g mc mt mk mr mq mv) H) (wA w 25)) ([.ref (w.2.2 0), .int s, .int n, .int p, .long v] : List Value).toArray S 0 0 (wA w 25)) (F0 mM 243 ls []) := by
  intro fu
  induction fu with
  | zero =>
    intro al i mbv H locs hP hS hok hg ls hl
    exact hok.elim
  | succ fu ih =>
    intro al i mbv H locs hP hS hok hg ls hl
    refine lv_iload hx hb dX5_store_243 (lv_at hl 4 rfl) ?_
    refine lv_if_lt (tgt := 277) hx hb dX5_store_245 (by decide) (fun b1 => ?_) (fun b1 => ?_)
    ·
      have k2 := Eq.mp (if_pos b1) hok
      have e9 : g = mbv := Eq.trans hg (if_pos b1)
      exact xM_vret hx hb hr hlk  hS  (by rw [e9]; exact hP) dX5_store_277
    ·
      have k3 := Eq.mp (if_neg b1) hok
      refine lv_aload_n hx hb dX5_store_248 rfl (lv_at hl 0 rfl) ?_
      refine lv_iload_n hx hb dX5_store_249 rfl (lv_at hl 1 rfl) ?_
      refine lv_iload_n hx hb dX5_store_250 rfl (lv_at hl 2 rfl) ?_
      refine lv_iload hx hb dX5_store_251 (lv_at hl 4 rfl) ?_
      refine lv_iadd hx hb dX5_store_253 ?_
      refine lv_lload hx hb dX5_store_254 (lv_at hl 3 rfl) ?_
      refine lv_ldc2 (v := 255) hx hb hown (hts _ mw_X5_store_k116) dX5_store_256 ?_
      refine lv_land hx hb dX5_store_259 ?_
      refine lv_l2i hx hb dX5_store_260 rfl ?_
      have o4 := k3.1
      have k5 := k3.2
      refine xM_v (va_runV (As := [.int s, .int (p + i), .int ((al &&& (255 : Int64)).toInt32)]) (rest := []) ⟨hx, hb, hml, hown, hts⟩ (c_X5_lay l w hA me mbv mc mt mk mr mq mv s (p + i) ((al &&& (255 : Int64)).toInt32) o4) (cwV 3 hts gX5_store_X5_lay rfl rfl rfl dv_X5_lay ⟨Nat.le_of_ble_eq_true rfl, Nat.le_of_ble_eq_true rfl⟩) (wPreV hP hK (ci := 6) (q0 := 0) rfl rfl) rfl rfl hl.1 rfl (lv_room (Nat.le_of_ble_eq_true rfl)) dX5_store_261 ⟨Nat.zero_le _, Nat.zero_le _⟩) hS (fun H locs hP hS => ?_)
      have hP : va_P w.1 vwCl (wM w me (G_X5_lay mbv s (p + i) ((al &&& (255 : Int64)).toInt32)) mc mt mk mr mq mv) H := hP
      refine lv_lload hx hb dX5_store_264 (lv_at hl 3 rfl) ?_
      refine lv_bipush (v := 8) hx hb dX5_store_266 (by decide) ?_
      refine lv_lshr hx hb dX5_store_268 rfl ?_
      refine lv_lstore (lv' := [(11, .long (al >>> ((8 : Int32).toInt64 &&& 63))), (0, .ref (w.2.2 0)), (1, .int s), (3, .int p), (15, .int i)]) hx hb dX5_store_269 hl (by decide) rfl (fun ls hl => ?_)
      refine lv_iinc (v := i + (-1 : Int32)) (lv' := [(15, .int (i + (-1 : Int32))), (11, .long (al >>> ((8 : Int32).toInt64 &&& 63))), (0, .ref (w.2.2 0)), (1, .int s), (3, .int p)]) hx hb dX5_store_271 hl (k := 4) rfl rfl (by decide) rfl (fun ls hl => ?_)
      refine lv_goto (tgt := 243) hx hb dX5_store_274 (by decide) ?_
      exact ih (al >>> ((8 : Int32).toInt64 &&& 63)) (i + (-1 : Int32)) (G_X5_lay mbv s (p + i) ((al &&& (255 : Int64)).toInt32)) _ _ hP hS k5 (Eq.trans hg (if_neg b1)) ls (lv_sub hl [2, 3, 4, 1, 0] rfl)
set_option maxHeartbeats 4000000 in
set_option maxRecDepth 100000 in
theorem L_X5_store_L190 (l : Launch) (w : WG) (hA : wAp w 25) (me : ME) (mb : AI) (mc : MC) (mt : MT) (mk : MK) (mr : MR) (mq : MQS) (mv : MV) (s : Int32) (n : Int32) (p : Int32) (v : Int64) {pP : Program} {eE : Env} {S : State} {mM : MethodId} {below : List Frame} {meth : Method} {C : Code} (hx : pP.tables.exec = Jvm.exec) (hb : C.code = cX5_store) (hr : meth.sig.returnType = none) (hml : C.maxLocals = 16) (hts : ∀ q9 ∈ wsX5_store, q9.before ([.ref (w.2.2 0), .int s, .int n, .int p, .long v] : List Value).toArray S = true) (hown : S.vm.findClass yX5_store.cls = some mM.cls) (hlk : meth.locks = false) (hK : wK w S) (g : AI) :
    ∀ (fu : Nat) (dn : Int32) (lf : Int64) (al : Int64) (up : Int64) (i : Int32) (H : Heap) (locs : List Loc), va_P w.1 vwCl (wM w me mb mc mt mk mr mq mv) H → va_S (wA w 25) S.heap H locs → OK_X5_store_L190 mb mc s n p v fu dn lf al up i → g = G_X5_store_L190 mb mc s n p v fu dn lf al up i → ∀ ls : Array Slot, lv_has ls 16 [(0, .ref (w.2.2 0)), (1, .int s), (2, .int n), (3, .int p), (6, .int dn), (9, .long lf), (11, .long al), (13, .long up), (15, .int i)] → W pP l eE { frames := 1, cells := 0, slots := 0, locals := 23 } S mM ([.ref (w.2.2 0), .int s, .int n, .int p, .long v] : List Value).toArray below meth C H locs 0 0 (MQ below (xM none (fun H => va_P w.1 vwCl (wM w me g mc mt mk mr mq mv) H) (wA w 25)) ([.ref (w.2.2 0), .int s, .int n, .int p, .long v] : List Value).toArray S 0 0 (wA w 25)) (F0 mM 190 ls []) := by
  intro fu
  induction fu with
  | zero =>
    intro dn lf al up i H locs hP hS hok hg ls hl
    exact hok.elim
  | succ fu ih =>
    intro dn lf al up i H locs hP hS hok hg ls hl
    refine lv_iload hx hb dX5_store_190 (lv_at hl 8 rfl) ?_
    refine lv_iload hx hb dX5_store_192 (lv_at hl 4 rfl) ?_
    refine lv_icmp_ge (tgt := 233) hx hb dX5_store_194 (by decide) (fun b1 => ?_) (fun b1 => ?_)
    ·
      have k2 := Eq.mp (if_pos b1) hok
      refine lv_aload_n hx hb dX5_store_233 rfl (lv_at hl 0 rfl) ?_
      refine va_get (D := w.1) (ci := 6) (v := .ref (w.2.2 4)) (C := RX5) (T := TX5) (N := 33) hx hb hts iw_X5_store_X5 hown hK.1 hP 0 rfl rfl 4 (by decide) (hts _ fl_X5_store_20) (fun _ h9 => h9) rfl dX5_store_234 ?_
      refine lv_iload_n hx hb dX5_store_237 rfl (lv_at hl 2 rfl) ?_
      have o3 := k2.1
      have k4 := k2.2
      refine va_iald hx hb hK.1 hP 4 0 rfl rfl o3 dX5_store_238 ?_
      refine lv_iconst (v := 1) hx hb dX5_store_239 (by decide) ?_
      refine lv_isub hx hb dX5_store_240 ?_
      refine lv_istore (lv' := [(15, .int ((mc.2.2.2.1 n.toNatClampNeg) - (1 : Int32))), (0, .ref (w.2.2 0)), (1, .int s), (2, .int n), (3, .int p), (6, .int dn), (9, .long lf), (11, .long al), (13, .long up)]) hx hb dX5_store_241 hl (by decide) rfl (fun ls hl => ?_)
      exact L_X5_store_L243 l w hA me mb mc mt mk mr mq mv s n p v  hx hb hr hml hts hown hlk hK _ 12 al ((mc.2.2.2.1 n.toNatClampNeg) - (1 : Int32)) mb _ _ hP hS k4 (Eq.trans hg (if_pos b1)) ls (lv_sub hl [1, 2, 4, 7, 0] rfl)
    ·
      have k5 := Eq.mp (if_neg b1) hok
      refine lv_lload hx hb dX5_store_197 (lv_at hl 6 rfl) ?_
      refine lv_lload hx hb dX5_store_199 (lv_at hl 7 rfl) ?_
      refine lv_lload hx hb dX5_store_201 (lv_at hl 5 rfl) ?_
      refine lv_ldc2 (v := 10) hx hb hown (hts _ mw_X5_store_k92) dX5_store_203 ?_
      refine lv_lrem hx hb dX5_store_206 (by decide) ?_
      refine lv_lmul hx hb dX5_store_207 ?_
      refine lv_ladd hx hb dX5_store_208 ?_
      refine lv_lstore (lv' := [(11, .long (al + (up * (lf - lf / (10 : Int64) * (10 : Int64))))), (0, .ref (w.2.2 0)), (1, .int s), (2, .int n), (3, .int p), (6, .int dn), (9, .long lf), (13, .long up), (15, .int i)]) hx hb dX5_store_209 hl (by decide) rfl (fun ls hl => ?_)
      refine lv_lload hx hb dX5_store_211 (lv_at hl 6 rfl) ?_
      refine lv_ldc2 (v := 10) hx hb hown (hts _ mw_X5_store_k92) dX5_store_213 ?_
      refine lv_ldiv hx hb dX5_store_216 (by decide) ?_
      refine lv_lstore (lv' := [(9, .long (lf / (10 : Int64))), (11, .long (al + (up * (lf - lf / (10 : Int64) * (10 : Int64))))), (0, .ref (w.2.2 0)), (1, .int s), (2, .int n), (3, .int p), (6, .int dn), (13, .long up), (15, .int i)]) hx hb dX5_store_217 hl (by decide) rfl (fun ls hl => ?_)
      refine lv_lload hx hb dX5_store_219 (lv_at hl 7 rfl) ?_
      refine lv_ldc2 (v := 16) hx hb hown (hts _ mw_X5_store_k114) dX5_store_221 ?_
      refine lv_lmul hx hb dX5_store_224 ?_
      refine lv_lstore (lv' := [(13, .long (up * (16 : Int64))), (9, .long (lf / (10 : Int64))), (11, .long (al + (up * (lf - lf / (10 : Int64) * (10 : Int64))))), (0, .ref (w.2.2 0)), (1, .int s), (2, .int n), (3, .int p), (6, .int dn), (15, .int i)]) hx hb dX5_store_225 hl (by decide) rfl (fun ls hl => ?_)
      refine lv_iinc (v := i + (1 : Int32)) (lv' := [(15, .int (i + (1 : Int32))), (13, .long (up * (16 : Int64))), (9, .long (lf / (10 : Int64))), (11, .long (al + (up * (lf - lf / (10 : Int64) * (10 : Int64))))), (0, .ref (w.2.2 0)), (1, .int s), (2, .int n), (3, .int p), (6, .int dn)]) hx hb dX5_store_227 hl (k := 8) rfl rfl (by decide) rfl (fun ls hl => ?_)
      refine lv_goto (tgt := 190) hx hb dX5_store_230 (by decide) ?_
      exact ih dn (lf / (10 : Int64)) (al + (up * (lf - lf / (10 : Int64) * (10 : Int64)))) (up * (16 : Int64)) (i + (1 : Int32)) _ _ hP hS k5 (Eq.trans hg (if_neg b1)) ls (lv_sub hl [4, 5, 6, 7, 8, 2, 3, 1, 0] rfl)
set_option maxHeartbeats 4000000 in
set_option maxRecDepth 100000 in
theorem c_X5_store (l : Launch) (w : WG) (hA : wAp w 25) (me : ME) (mb : AI) (mc : MC) (mt : MT) (mk : MK) (mr : MR) (mq : MQS) (mv : MV) (s : Int32) (n : Int32) (p : Int32) (v : Int64) (hok : OK_X5_store mb mc s n p v) : Met l yX5_store wsX5_store { frames := 1, cells := 0, slots := 0, locals := 23 } (va_Pc [.ref (w.2.2 0), .int s, .int n, .int p, .long v] (wPK w (wM w me mb mc mt mk mr mq mv))) (xM none (fun H => va_P w.1 vwCl (wM w me (G_X5_store mb mc s n p v) mc mt mk mr mq mv) H) (wA w 25)) 0 0 (wA w 25) := by
  refine xOf (cc := cX5_store) (maxL := 16) (ret := none) (lv := [(0, .ref (w.2.2 0)), (1, .int s), (2, .int n), (3, .int p), (4, .long v)]) (by decide) rfl (Nat.le_of_ble_eq_true rfl) rfl ?_
  intro pP eE S mM below meth C hx hb hr hml hts hown hlk hnm hw ls hl
  obtain ⟨hP, hK⟩ := hw
  have hS : va_S (wA w 25) S.heap S.heap [] := va_S.rf
  have hP : va_P w.1 vwCl (wM w me mb mc mt mk mr mq mv) S.heap := hP
  refine lv_aload_n hx hb dX5_store_0 rfl (lv_at hl 0 rfl) ?_
  refine va_get (D := w.1) (ci := 6) (v := .ref (w.2.2 3)) (C := RX5) (T := TX5) (N := 33) hx hb hts iw_X5_store_X5 hown hK.1 hP 0 rfl rfl 3 (by decide) (hts _ fl_X5_store_17) (fun _ h9 => h9) rfl dX5_store_1 ?_
  refine lv_iload_n hx hb dX5_store_4 rfl (lv_at hl 2 rfl) ?_
  have o1 := hok.1
  have k2 := hok.2
  refine va_iald hx hb hK.1 hP 3 0 rfl rfl o1 dX5_store_5 ?_
  refine lv_istore (lv' := [(6, .int (mc.2.2.1 n.toNatClampNeg)), (0, .ref (w.2.2 0)), (1, .int s), (2, .int n), (3, .int p), (4, .long v)]) hx hb dX5_store_6 hl (by decide) rfl (fun ls hl => ?_)
  refine lv_lload hx hb dX5_store_8 (lv_at hl 5 rfl) ?_
  refine lv_iload hx hb dX5_store_10 (lv_at hl 0 rfl) ?_
  have o3 := k2.1
  have k4 := k2.2
  refine xR_l (va_runS (As := [.int (mc.2.2.1 n.toNatClampNeg)]) (rest := [.long v]) ⟨hx, hb, hml, hown, hts⟩ (c_X5_ten l w me mb mc mt mk mr mq mv (mc.2.2.1 n.toNatClampNeg) o3) (va_cwS 1 hts gX5_store_X5_ten rfl rfl rfl ds_X5_ten ⟨Nat.le_of_ble_eq_true rfl, Nat.le_of_ble_eq_true rfl⟩) (wPre hP hK) rfl rfl hl.1 rfl (lv_room (Nat.le_of_ble_eq_true rfl)) dX5_store_12 ⟨Nat.zero_le _, Nat.zero_le _⟩) ?_
  have o5 := k4.1
  have k6 := k4.2
  refine lv_lrem hx hb dX5_store_15 o5 ?_
  refine lv_lstore (lv' := [(7, .long (v - v / (G_X5_ten (mc.2.2.1 n.toNatClampNeg)) * (G_X5_ten (mc.2.2.1 n.toNatClampNeg)))), (6, .int (mc.2.2.1 n.toNatClampNeg)), (0, .ref (w.2.2 0)), (1, .int s), (2, .int n), (3, .int p), (4, .long v)]) hx hb dX5_store_16 hl (by decide) rfl (fun ls hl => ?_)
  refine lv_lload hx hb dX5_store_18 (lv_at hl 0 rfl) ?_
  refine lv_lconst (v := 0) hx hb dX5_store_20 (by decide) ?_
  refine W.lcmp hx hb dX5_store_21 ?_
  refine lv_if_ge (tgt := 32) hx hb dX5_store_22 (by decide) (fun b7 => ?_) (fun b7 => ?_)
  ·
    have k8 := Eq.mp (if_pos b7) k6
    refine lv_lload hx hb dX5_store_32 (lv_at hl 0 rfl) ?_
    refine lv_lstore (lv' := [(9, .long (v - v / (G_X5_ten (mc.2.2.1 n.toNatClampNeg)) * (G_X5_ten (mc.2.2.1 n.toNatClampNeg)))), (7, .long (v - v / (G_X5_ten (mc.2.2.1 n.toNatClampNeg)) * (G_X5_ten (mc.2.2.1 n.toNatClampNeg)))), (6, .int (mc.2.2.1 n.toNatClampNeg)), (0, .ref (w.2.2 0)), (1, .int s), (2, .int n), (3, .int p), (4, .long v)]) hx hb dX5_store_34 hl (by decide) rfl (fun ls hl => ?_)
    refine lv_aload_n hx hb dX5_store_36 rfl (lv_at hl 3 rfl) ?_
    refine va_get (D := w.1) (ci := 6) (v := .ref (w.2.2 2)) (C := RX5) (T := TX5) (N := 33) hx hb hts iw_X5_store_X5 hown hK.1 hP 0 rfl rfl 2 (by decide) (hts _ fl_X5_store_13) (fun _ h9 => h9) rfl dX5_store_37 ?_
    refine lv_iload_n hx hb dX5_store_40 rfl (lv_at hl 5 rfl) ?_
    have o9 := k8.1
    have k10 := k8.2
    refine va_iald hx hb hK.1 hP 2 0 rfl rfl o9 dX5_store_41 ?_
    refine lv_iconst (v := 2) hx hb dX5_store_42 (by decide) ?_
    refine lv_icmp_ne (tgt := 85) hx hb dX5_store_43 (by decide) (fun b11 => ?_) (fun b11 => ?_)
    ·
      have k12 := Eq.mp (if_neg b11) k10
      refine lv_aload_n hx hb dX5_store_85 rfl (lv_at hl 3 rfl) ?_
      refine va_get (D := w.1) (ci := 6) (v := .ref (w.2.2 2)) (C := RX5) (T := TX5) (N := 33) hx hb hts iw_X5_store_X5 hown hK.1 hP 0 rfl rfl 2 (by decide) (hts _ fl_X5_store_13) (fun _ h9 => h9) rfl dX5_store_86 ?_
      refine lv_iload_n hx hb dX5_store_89 rfl (lv_at hl 5 rfl) ?_
      have o13 := k12.1
      have k14 := k12.2
      refine va_iald hx hb hK.1 hP 2 0 rfl rfl o13 dX5_store_90 ?_
      refine lv_if_ne (tgt := 164) hx hb dX5_store_91 (by decide) (fun b15 => ?_) (fun b15 => ?_)
      ·
        have k16 := Eq.mp (if_neg b15) k14
        refine lv_lload hx hb dX5_store_164 (lv_at hl 1 rfl) ?_
        refine lv_lconst (v := 0) hx hb dX5_store_166 (by decide) ?_
        refine W.lcmp hx hb dX5_store_167 ?_
        refine lv_if_ge (tgt := 177) hx hb dX5_store_168 (by decide) (fun b17 => ?_) (fun b17 => ?_)
        ·
          have k18 := Eq.mp (if_pos b17) k16
          refine lv_ldc2 (v := 12) hx hb hown (hts _ mw_X5_store_k112) dX5_store_177 ?_
          refine lv_lstore (lv' := [(11, .long (12 : Int64)), (9, .long (v - v / (G_X5_ten (mc.2.2.1 n.toNatClampNeg)) * (G_X5_ten (mc.2.2.1 n.toNatClampNeg)))), (7, .long (v - v / (G_X5_ten (mc.2.2.1 n.toNatClampNeg)) * (G_X5_ten (mc.2.2.1 n.toNatClampNeg)))), (6, .int (mc.2.2.1 n.toNatClampNeg)), (0, .ref (w.2.2 0)), (1, .int s), (2, .int n), (3, .int p), (4, .long v)]) hx hb dX5_store_180 hl (by decide) rfl (fun ls hl => ?_)
          refine lv_ldc2 (v := 16) hx hb hown (hts _ mw_X5_store_k114) dX5_store_182 ?_
          refine lv_lstore (lv' := [(13, .long (16 : Int64)), (11, .long (12 : Int64)), (9, .long (v - v / (G_X5_ten (mc.2.2.1 n.toNatClampNeg)) * (G_X5_ten (mc.2.2.1 n.toNatClampNeg)))), (7, .long (v - v / (G_X5_ten (mc.2.2.1 n.toNatClampNeg)) * (G_X5_ten (mc.2.2.1 n.toNatClampNeg)))), (6, .int (mc.2.2.1 n.toNatClampNeg)), (0, .ref (w.2.2 0)), (1, .int s), (2, .int n), (3, .int p), (4, .long v)]) hx hb dX5_store_185 hl (by decide) rfl (fun ls hl => ?_)
          refine lv_iconst (v := 0) hx hb dX5_store_187 (by decide) ?_
          refine lv_istore (lv' := [(15, .int (0 : Int32)), (13, .long (16 : Int64)), (11, .long (12 : Int64)), (9, .long (v - v / (G_X5_ten (mc.2.2.1 n.toNatClampNeg)) * (G_X5_ten (mc.2.2.1 n.toNatClampNeg)))), (7, .long (v - v / (G_X5_ten (mc.2.2.1 n.toNatClampNeg)) * (G_X5_ten (mc.2.2.1 n.toNatClampNeg)))), (6, .int (mc.2.2.1 n.toNatClampNeg)), (0, .ref (w.2.2 0)), (1, .int s), (2, .int n), (3, .int p), (4, .long v)]) hx hb dX5_store_188 hl (by decide) rfl (fun ls hl => ?_)
          exact L_X5_store_L190 l w hA me mb mc mt mk mr mq mv s n p v  hx hb hr hml hts hown hlk hK _ 12 (mc.2.2.1 n.toNatClampNeg) (v - v / (G_X5_ten (mc.2.2.1 n.toNatClampNeg)) * (G_X5_ten (mc.2.2.1 n.toNatClampNeg))) (12 : Int64) (16 : Int64) (0 : Int32) _ _ hP hS k18 (Eq.trans (Eq.trans (Eq.trans (Eq.trans rfl (if_pos b7)) (if_neg b11)) (if_neg b15)) (if_pos b17)) ls (lv_sub hl [6, 7, 8, 9, 5, 3, 2, 1, 0] rfl)
        ·
          have k19 := Eq.mp (if_neg b17) k16
          refine lv_ldc2 (v := 13) hx hb hown (hts _ mw_X5_store_k110) dX5_store_171 ?_
          refine lv_goto (tgt := 180) hx hb dX5_store_174 (by decide) ?_
          refine lv_lstore (lv' := [(11, .long (13 : Int64)), (9, .long (v - v / (G_X5_ten (mc.2.2.1 n.toNatClampNeg)) * (G_X5_ten (mc.2.2.1 n.toNatClampNeg)))), (7, .long (v - v / (G_X5_ten (mc.2.2.1 n.toNatClampNeg)) * (G_X5_ten (mc.2.2.1 n.toNatClampNeg)))), (6, .int (mc.2.2.1 n.toNatClampNeg)), (0, .ref (w.2.2 0)), (1, .int s), (2, .int n), (3, .int p), (4, .long v)]) hx hb dX5_store_180 hl (by decide) rfl (fun ls hl => ?_)
          refine lv_ldc2 (v := 16) hx hb hown (hts _ mw_X5_store_k114) dX5_store_182 ?_
          refine lv_lstore (lv' := [(13, .long (16 : Int64)), (11, .long (13 : Int64)), (9, .long (v - v / (G_X5_ten (mc.2.2.1 n.toNatClampNeg)) * (G_X5_ten (mc.2.2.1 n.toNatClampNeg)))), (7, .long (v - v / (G_X5_ten (mc.2.2.1 n.toNatClampNeg)) * (G_X5_ten (mc.2.2.1 n.toNatClampNeg)))), (6, .int (mc.2.2.1 n.toNatClampNeg)), (0, .ref (w.2.2 0)), (1, .int s), (2, .int n), (3, .int p), (4, .long v)]) hx hb dX5_store_185 hl (by decide) rfl (fun ls hl => ?_)
          refine lv_iconst (v := 0) hx hb dX5_store_187 (by decide) ?_
          refine lv_istore (lv' := [(15, .int (0 : Int32)), (13, .long (16 : Int64)), (11, .long (13 : Int64)), (9, .long (v - v / (G_X5_ten (mc.2.2.1 n.toNatClampNeg)) * (G_X5_ten (mc.2.2.1 n.toNatClampNeg)))), (7, .long (v - v / (G_X5_ten (mc.2.2.1 n.toNatClampNeg)) * (G_X5_ten (mc.2.2.1 n.toNatClampNeg)))), (6, .int (mc.2.2.1 n.toNatClampNeg)), (0, .ref (w.2.2 0)), (1, .int s), (2, .int n), (3, .int p), (4, .long v)]) hx hb dX5_store_188 hl (by decide) rfl (fun ls hl => ?_)
          exact L_X5_store_L190 l w hA me mb mc mt mk mr mq mv s n p v  hx hb hr hml hts hown hlk hK _ 12 (mc.2.2.1 n.toNatClampNeg) (v - v / (G_X5_ten (mc.2.2.1 n.toNatClampNeg)) * (G_X5_ten (mc.2.2.1 n.toNatClampNeg))) (13 : Int64) (16 : Int64) (0 : Int32) _ _ hP hS k19 (Eq.trans (Eq.trans (Eq.trans (Eq.trans rfl (if_pos b7)) (if_neg b11)) (if_neg b15)) (if_neg b17)) ls (lv_sub hl [6, 7, 8, 9, 5, 3, 2, 1, 0] rfl)
      ·
        have k20 := Eq.mp (if_pos b15) k14
        refine lv_iload hx hb dX5_store_94 (lv_at hl 2 rfl) ?_
        refine lv_iconst (v := 1) hx hb dX5_store_96 (by decide) ?_
        refine lv_isub hx hb dX5_store_97 ?_
        refine lv_istore (lv' := [(11, .int ((mc.2.2.1 n.toNatClampNeg) - (1 : Int32))), (9, .long (v - v / (G_X5_ten (mc.2.2.1 n.toNatClampNeg)) * (G_X5_ten (mc.2.2.1 n.toNatClampNeg)))), (7, .long (v - v / (G_X5_ten (mc.2.2.1 n.toNatClampNeg)) * (G_X5_ten (mc.2.2.1 n.toNatClampNeg)))), (6, .int (mc.2.2.1 n.toNatClampNeg)), (0, .ref (w.2.2 0)), (1, .int s), (2, .int n), (3, .int p), (4, .long v)]) hx hb dX5_store_98 hl (by decide) rfl (fun ls hl => ?_)
        exact L_X5_store_L100 l w hA me mb mc mt mk mr mq mv s n p v  hx hb hr hml hts hown hlk hK _ 12 (mc.2.2.1 n.toNatClampNeg) (v - v / (G_X5_ten (mc.2.2.1 n.toNatClampNeg)) * (G_X5_ten (mc.2.2.1 n.toNatClampNeg))) (v - v / (G_X5_ten (mc.2.2.1 n.toNatClampNeg)) * (G_X5_ten (mc.2.2.1 n.toNatClampNeg))) ((mc.2.2.1 n.toNatClampNeg) - (1 : Int32)) mb _ _ hP hS k20 (Eq.trans (Eq.trans (Eq.trans rfl (if_pos b7)) (if_neg b11)) (if_pos b15)) ls (lv_sub hl [4, 5, 7, 3, 2, 1, 0] rfl)
    ·
      have k21 := Eq.mp (if_pos b11) k10
      refine lv_iconst (v := 0) hx hb dX5_store_46 (by decide) ?_
      refine lv_istore (lv' := [(11, .int (0 : Int32)), (9, .long (v - v / (G_X5_ten (mc.2.2.1 n.toNatClampNeg)) * (G_X5_ten (mc.2.2.1 n.toNatClampNeg)))), (7, .long (v - v / (G_X5_ten (mc.2.2.1 n.toNatClampNeg)) * (G_X5_ten (mc.2.2.1 n.toNatClampNeg)))), (6, .int (mc.2.2.1 n.toNatClampNeg)), (0, .ref (w.2.2 0)), (1, .int s), (2, .int n), (3, .int p), (4, .long v)]) hx hb dX5_store_47 hl (by decide) rfl (fun ls hl => ?_)
      exact L_X5_store_L49 l w hA me mb mc mt mk mr mq mv s n p v  hx hb hr hml hts hown hlk hK _ 6 (v - v / (G_X5_ten (mc.2.2.1 n.toNatClampNeg)) * (G_X5_ten (mc.2.2.1 n.toNatClampNeg))) (0 : Int32) mb _ _ hP hS k21 (Eq.trans (Eq.trans rfl (if_pos b7)) (if_pos b11)) ls (lv_sub hl [4, 5, 7, 2, 0] rfl)
  ·
    have k22 := Eq.mp (if_neg b7) k6
    refine lv_lconst (v := 0) hx hb dX5_store_25 (by decide) ?_
    refine lv_lload hx hb dX5_store_26 (lv_at hl 0 rfl) ?_
    refine lv_lsub hx hb dX5_store_28 ?_
    refine lv_goto (tgt := 34) hx hb dX5_store_29 (by decide) ?_
    refine lv_lstore (lv' := [(9, .long ((0 : Int64) - (v - v / (G_X5_ten (mc.2.2.1 n.toNatClampNeg)) * (G_X5_ten (mc.2.2.1 n.toNatClampNeg))))), (7, .long (v - v / (G_X5_ten (mc.2.2.1 n.toNatClampNeg)) * (G_X5_ten (mc.2.2.1 n.toNatClampNeg)))), (6, .int (mc.2.2.1 n.toNatClampNeg)), (0, .ref (w.2.2 0)), (1, .int s), (2, .int n), (3, .int p), (4, .long v)]) hx hb dX5_store_34 hl (by decide) rfl (fun ls hl => ?_)
    refine lv_aload_n hx hb dX5_store_36 rfl (lv_at hl 3 rfl) ?_
    refine va_get (D := w.1) (ci := 6) (v := .ref (w.2.2 2)) (C := RX5) (T := TX5) (N := 33) hx hb hts iw_X5_store_X5 hown hK.1 hP 0 rfl rfl 2 (by decide) (hts _ fl_X5_store_13) (fun _ h9 => h9) rfl dX5_store_37 ?_
    refine lv_iload_n hx hb dX5_store_40 rfl (lv_at hl 5 rfl) ?_
    have o23 := k22.1
    have k24 := k22.2
    refine va_iald hx hb hK.1 hP 2 0 rfl rfl o23 dX5_store_41 ?_
    refine lv_iconst (v := 2) hx hb dX5_store_42 (by decide) ?_
    refine lv_icmp_ne (tgt := 85) hx hb dX5_store_43 (by decide) (fun b25 => ?_) (fun b25 => ?_)
    ·
      have k26 := Eq.mp (if_neg b25) k24
      refine lv_aload_n hx hb dX5_store_85 rfl (lv_at hl 3 rfl) ?_
      refine va_get (D := w.1) (ci := 6) (v := .ref (w.2.2 2)) (C := RX5) (T := TX5) (N := 33) hx hb hts iw_X5_store_X5 hown hK.1 hP 0 rfl rfl 2 (by decide) (hts _ fl_X5_store_13) (fun _ h9 => h9) rfl dX5_store_86 ?_
      refine lv_iload_n hx hb dX5_store_89 rfl (lv_at hl 5 rfl) ?_
      have o27 := k26.1
      have k28 := k26.2
      refine va_iald hx hb hK.1 hP 2 0 rfl rfl o27 dX5_store_90 ?_
      refine lv_if_ne (tgt := 164) hx hb dX5_store_91 (by decide) (fun b29 => ?_) (fun b29 => ?_)
      ·
        have k30 := Eq.mp (if_neg b29) k28
        refine lv_lload hx hb dX5_store_164 (lv_at hl 1 rfl) ?_
        refine lv_lconst (v := 0) hx hb dX5_store_166 (by decide) ?_
        refine W.lcmp hx hb dX5_store_167 ?_
        refine lv_if_ge (tgt := 177) hx hb dX5_store_168 (by decide) (fun b31 => ?_) (fun b31 => ?_)
        ·
          have k32 := Eq.mp (if_pos b31) k30
          refine lv_ldc2 (v := 12) hx hb hown (hts _ mw_X5_store_k112) dX5_store_177 ?_
          refine lv_lstore (lv' := [(11, .long (12 : Int64)), (9, .long ((0 : Int64) - (v - v / (G_X5_ten (mc.2.2.1 n.toNatClampNeg)) * (G_X5_ten (mc.2.2.1 n.toNatClampNeg))))), (7, .long (v - v / (G_X5_ten (mc.2.2.1 n.toNatClampNeg)) * (G_X5_ten (mc.2.2.1 n.toNatClampNeg)))), (6, .int (mc.2.2.1 n.toNatClampNeg)), (0, .ref (w.2.2 0)), (1, .int s), (2, .int n), (3, .int p), (4, .long v)]) hx hb dX5_store_180 hl (by decide) rfl (fun ls hl => ?_)
          refine lv_ldc2 (v := 16) hx hb hown (hts _ mw_X5_store_k114) dX5_store_182 ?_
          refine lv_lstore (lv' := [(13, .long (16 : Int64)), (11, .long (12 : Int64)), (9, .long ((0 : Int64) - (v - v / (G_X5_ten (mc.2.2.1 n.toNatClampNeg)) * (G_X5_ten (mc.2.2.1 n.toNatClampNeg))))), (7, .long (v - v / (G_X5_ten (mc.2.2.1 n.toNatClampNeg)) * (G_X5_ten (mc.2.2.1 n.toNatClampNeg)))), (6, .int (mc.2.2.1 n.toNatClampNeg)), (0, .ref (w.2.2 0)), (1, .int s), (2, .int n), (3, .int p), (4, .long v)]) hx hb dX5_store_185 hl (by decide) rfl (fun ls hl => ?_)
          refine lv_iconst (v := 0) hx hb dX5_store_187 (by decide) ?_
          refine lv_istore (lv' := [(15, .int (0 : Int32)), (13, .long (16 : Int64)), (11, .long (12 : Int64)), (9, .long ((0 : Int64) - (v - v / (G_X5_ten (mc.2.2.1 n.toNatClampNeg)) * (G_X5_ten (mc.2.2.1 n.toNatClampNeg))))), (7, .long (v - v / (G_X5_ten (mc.2.2.1 n.toNatClampNeg)) * (G_X5_ten (mc.2.2.1 n.toNatClampNeg)))), (6, .int (mc.2.2.1 n.toNatClampNeg)), (0, .ref (w.2.2 0)), (1, .int s), (2, .int n), (3, .int p), (4, .long v)]) hx hb dX5_store_188 hl (by decide) rfl (fun ls hl => ?_)
          exact L_X5_store_L190 l w hA me mb mc mt mk mr mq mv s n p v  hx hb hr hml hts hown hlk hK _ 12 (mc.2.2.1 n.toNatClampNeg) ((0 : Int64) - (v - v / (G_X5_ten (mc.2.2.1 n.toNatClampNeg)) * (G_X5_ten (mc.2.2.1 n.toNatClampNeg)))) (12 : Int64) (16 : Int64) (0 : Int32) _ _ hP hS k32 (Eq.trans (Eq.trans (Eq.trans (Eq.trans rfl (if_neg b7)) (if_neg b25)) (if_neg b29)) (if_pos b31)) ls (lv_sub hl [6, 7, 8, 9, 5, 3, 2, 1, 0] rfl)
        ·
          have k33 := Eq.mp (if_neg b31) k30
          refine lv_ldc2 (v := 13) hx hb hown (hts _ mw_X5_store_k110) dX5_store_171 ?_
          refine lv_goto (tgt := 180) hx hb dX5_store_174 (by decide) ?_
          refine lv_lstore (lv' := [(11, .long (13 : Int64)), (9, .long ((0 : Int64) - (v - v / (G_X5_ten (mc.2.2.1 n.toNatClampNeg)) * (G_X5_ten (mc.2.2.1 n.toNatClampNeg))))), (7, .long (v - v / (G_X5_ten (mc.2.2.1 n.toNatClampNeg)) * (G_X5_ten (mc.2.2.1 n.toNatClampNeg)))), (6, .int (mc.2.2.1 n.toNatClampNeg)), (0, .ref (w.2.2 0)), (1, .int s), (2, .int n), (3, .int p), (4, .long v)]) hx hb dX5_store_180 hl (by decide) rfl (fun ls hl => ?_)
          refine lv_ldc2 (v := 16) hx hb hown (hts _ mw_X5_store_k114) dX5_store_182 ?_
          refine lv_lstore (lv' := [(13, .long (16 : Int64)), (11, .long (13 : Int64)), (9, .long ((0 : Int64) - (v - v / (G_X5_ten (mc.2.2.1 n.toNatClampNeg)) * (G_X5_ten (mc.2.2.1 n.toNatClampNeg))))), (7, .long (v - v / (G_X5_ten (mc.2.2.1 n.toNatClampNeg)) * (G_X5_ten (mc.2.2.1 n.toNatClampNeg)))), (6, .int (mc.2.2.1 n.toNatClampNeg)), (0, .ref (w.2.2 0)), (1, .int s), (2, .int n), (3, .int p), (4, .long v)]) hx hb dX5_store_185 hl (by decide) rfl (fun ls hl => ?_)
          refine lv_iconst (v := 0) hx hb dX5_store_187 (by decide) ?_
          refine lv_istore (lv' := [(15, .int (0 : Int32)), (13, .long (16 : Int64)), (11, .long (13 : Int64)), (9, .long ((0 : Int64) - (v - v / (G_X5_ten (mc.2.2.1 n.toNatClampNeg)) * (G_X5_ten (mc.2.2.1 n.toNatClampNeg))))), (7, .long (v - v / (G_X5_ten (mc.2.2.1 n.toNatClampNeg)) * (G_X5_ten (mc.2.2.1 n.toNatClampNeg)))), (6, .int (mc.2.2.1 n.toNatClampNeg)), (0, .ref (w.2.2 0)), (1, .int s), (2, .int n), (3, .int p), (4, .long v)]) hx hb dX5_store_188 hl (by decide) rfl (fun ls hl => ?_)
          exact L_X5_store_L190 l w hA me mb mc mt mk mr mq mv s n p v  hx hb hr hml hts hown hlk hK _ 12 (mc.2.2.1 n.toNatClampNeg) ((0 : Int64) - (v - v / (G_X5_ten (mc.2.2.1 n.toNatClampNeg)) * (G_X5_ten (mc.2.2.1 n.toNatClampNeg)))) (13 : Int64) (16 : Int64) (0 : Int32) _ _ hP hS k33 (Eq.trans (Eq.trans (Eq.trans (Eq.trans rfl (if_neg b7)) (if_neg b25)) (if_neg b29)) (if_neg b31)) ls (lv_sub hl [6, 7, 8, 9, 5, 3, 2, 1, 0] rfl)
      ·
        have k34 := Eq.mp (if_pos b29) k28
        refine lv_iload hx hb dX5_store_94 (lv_at hl 2 rfl) ?_
        refine lv_iconst (v := 1) hx hb dX5_store_96 (by decide) ?_
        refine lv_isub hx hb dX5_store_97 ?_
        refine lv_istore (lv' := [(11, .int ((mc.2.2.1 n.toNatClampNeg) - (1 : Int32))), (9, .long ((0 : Int64) - (v - v / (G_X5_ten (mc.2.2.1 n.toNatClampNeg)) * (G_X5_ten (mc.2.2.1 n.toNatClampNeg))))), (7, .long (v - v / (G_X5_ten (mc.2.2.1 n.toNatClampNeg)) * (G_X5_ten (mc.2.2.1 n.toNatClampNeg)))), (6, .int (mc.2.2.1 n.toNatClampNeg)), (0, .ref (w.2.2 0)), (1, .int s), (2, .int n), (3, .int p), (4, .long v)]) hx hb dX5_store_98 hl (by decide) rfl (fun ls hl => ?_)
        exact L_X5_store_L100 l w hA me mb mc mt mk mr mq mv s n p v  hx hb hr hml hts hown hlk hK _ 12 (mc.2.2.1 n.toNatClampNeg) (v - v / (G_X5_ten (mc.2.2.1 n.toNatClampNeg)) * (G_X5_ten (mc.2.2.1 n.toNatClampNeg))) ((0 : Int64) - (v - v / (G_X5_ten (mc.2.2.1 n.toNatClampNeg)) * (G_X5_ten (mc.2.2.1 n.toNatClampNeg)))) ((mc.2.2.1 n.toNatClampNeg) - (1 : Int32)) mb _ _ hP hS k34 (Eq.trans (Eq.trans (Eq.trans rfl (if_neg b7)) (if_neg b25)) (if_pos b29)) ls (lv_sub hl [4, 5, 7, 3, 2, 1, 0] rfl)
    ·
      have k35 := Eq.mp (if_pos b25) k24
      refine lv_iconst (v := 0) hx hb dX5_store_46 (by decide) ?_
      refine lv_istore (lv' := [(11, .int (0 : Int32)), (9, .long ((0 : Int64) - (v - v / (G_X5_ten (mc.2.2.1 n.toNatClampNeg)) * (G_X5_ten (mc.2.2.1 n.toNatClampNeg))))), (7, .long (v - v / (G_X5_ten (mc.2.2.1 n.toNatClampNeg)) * (G_X5_ten (mc.2.2.1 n.toNatClampNeg)))), (6, .int (mc.2.2.1 n.toNatClampNeg)), (0, .ref (w.2.2 0)), (1, .int s), (2, .int n), (3, .int p), (4, .long v)]) hx hb dX5_store_47 hl (by decide) rfl (fun ls hl => ?_)
      exact L_X5_store_L49 l w hA me mb mc mt mk mr mq mv s n p v  hx hb hr hml hts hown hlk hK _ 6 (v - v / (G_X5_ten (mc.2.2.1 n.toNatClampNeg)) * (G_X5_ten (mc.2.2.1 n.toNatClampNeg))) (0 : Int32) mb _ _ hP hS k35 (Eq.trans (Eq.trans rfl (if_neg b7)) (if_pos b25)) ls (lv_sub hl [4, 5, 7, 2, 0] rfl)
