theorem GL_X4_cell : GoodIn lw_tbl (wsV RL 19 RX4 yX4_cell wsX4_cell) := fun w hw => ⟨wsL_law_in w (gL_law_X4_cell w hw).1, (gL_law_X4_cell w hw).2⟩
theorem GL_X4_node : GoodIn lw_tbl (wsV RL 24 RX4 yX4_node wsX4_node) := fun w hw => ⟨wsL_law_in w (gL_law_X4_node w hw).1, (gL_law_X4_node w hw).2⟩
theorem GL_X4_make : GoodIn lw_tbl (wsV RL 28 RX4 yX4_make wsX4_make) := fun w hw => ⟨wsL_law_in w (gL_law_X4_make w hw).1, (gL_law_X4_make w hw).2⟩
theorem GL_X4_code : GoodIn lw_tbl (wsV RL 33 RX4 yX4_code wsX4_code) := fun w hw => ⟨wsL_law_in w (gL_law_X4_code w hw).1, (gL_law_X4_code w hw).2⟩
theorem GL_X4_run : GoodIn lw_tbl (wsV RL 38 RX4 yX4_run wsX4_run) := fun w hw => ⟨wsL_law_in w (gL_law_X4_run w hw).1, (gL_law_X4_run w hw).2⟩
theorem GL_X4_put : GoodIn lw_tbl (wsV RL 53 RX4 yX4_put wsX4_put) := fun w hw => ⟨wsL_law_in w (gL_law_X4_put w hw).1, (gL_law_X4_put w hw).2⟩
theorem GL_X4_fast : GoodIn lw_tbl (wsV RL 58 RX4 yX4_fast wsX4_fast) := fun w hw => ⟨wsL_law_in w (gL_law_X4_fast w hw).1, (gL_law_X4_fast w hw).2⟩
theorem GL_X4_point : GoodIn lw_tbl (wsV RL 63 RX4 yX4_point wsX4_point) := fun w hw => ⟨wsL_law_in w (gL_law_X4_point w hw).1, (gL_law_X4_point w hw).2⟩
theorem GL_X4_raised : GoodIn lw_tbl (wsV RL 67 RX4 yX4_raised wsX4_raised) := fun w hw => ⟨wsL_law_in w (gL_law_X4_raised w hw).1, (gL_law_X4_raised w hw).2⟩
theorem GL_X4_same : GoodIn lw_tbl (wsV RL 72 RX4 yX4_same wsX4_same) := fun w hw => ⟨wsL_law_in w (gL_law_X4_same w hw).1, (gL_law_X4_same w hw).2⟩
theorem GL_X5_cell : GoodIn lw_tbl (wsV RL 23 RX5 yX5_cell wsX5_cell) := fun w hw => ⟨wsL_law_in w (gL_law_X5_cell w hw).1, (gL_law_X5_cell w hw).2⟩
theorem GL_X5_node : GoodIn lw_tbl (wsV RL 27 RX5 yX5_node wsX5_node) := fun w hw => ⟨wsL_law_in w (gL_law_X5_node w hw).1, (gL_law_X5_node w hw).2⟩
theorem GL_X5_make : GoodIn lw_tbl (wsV RL 32 RX5 yX5_make wsX5_make) := fun w hw => ⟨wsL_law_in w (gL_law_X5_make w hw).1, (gL_law_X5_make w hw).2⟩
theorem GL_X5_code : GoodIn lw_tbl (wsV RL 37 RX5 yX5_code wsX5_code) := fun w hw => ⟨wsL_law_in w (gL_law_X5_code w hw).1, (gL_law_X5_code w hw).2⟩
theorem GL_X5_run : GoodIn lw_tbl (wsV RL 42 RX5 yX5_run wsX5_run) := fun w hw => ⟨wsL_law_in w (gL_law_X5_run w hw).1, (gL_law_X5_run w hw).2⟩
theorem GL_X5_at : GoodIn lw_tbl (wsV RL 48 RX5 yX5_at wsX5_at) := fun w hw => ⟨wsL_law_in w (gL_law_X5_at w hw).1, (gL_law_X5_at w hw).2⟩
theorem GL_X5_thrown : GoodIn lw_tbl (wsV RL 49 RX5 yX5_thrown wsX5_thrown) := fun w hw => ⟨wsL_law_in w (gL_law_X5_thrown w hw).1, (gL_law_X5_thrown w hw).2⟩
theorem GL_X5_put : GoodIn lw_tbl (wsV RL 57 RX5 yX5_put wsX5_put) := fun w hw => ⟨wsL_law_in w (gL_law_X5_put w hw).1, (gL_law_X5_put w hw).2⟩
theorem GL_X5_fast : GoodIn lw_tbl (wsV RL 62 RX5 yX5_fast wsX5_fast) := fun w hw => ⟨wsL_law_in w (gL_law_X5_fast w hw).1, (gL_law_X5_fast w hw).2⟩
theorem GL_X5_point : GoodIn lw_tbl (wsV RL 66 RX5 yX5_point wsX5_point) := fun w hw => ⟨wsL_law_in w (gL_law_X5_point w hw).1, (gL_law_X5_point w hw).2⟩
theorem GL_X5_raised : GoodIn lw_tbl (wsV RL 71 RX5 yX5_raised wsX5_raised) := fun w hw => ⟨wsL_law_in w (gL_law_X5_raised w hw).1, (gL_law_X5_raised w hw).2⟩
theorem GL_X5_same : GoodIn lw_tbl (wsV RL 75 RX5 yX5_same wsX5_same) := fun w hw => ⟨wsL_law_in w (gL_law_X5_same w hw).1, (gL_law_X5_same w hw).2⟩
theorem GL_X4_init : GoodIn lw_tbl wsX4_init := fun w hw => ⟨wsL_law_in w (gL_law_X4_init w hw).1, (gL_law_X4_init w hw).2⟩
theorem GL_X5_init : GoodIn lw_tbl wsX5_init := fun w hw => ⟨wsL_law_in w (gL_law_X5_init w hw).1, (gL_law_X5_init w hw).2⟩
theorem GL_L_at : GoodIn lw_tbl (va_wsS RL 43 yL_at wsLA) := fun w hw => by
  have hw : w ∈ va_wsS RL 43 yL_at wsL_at ++ [Cond.classLink RL 13 nE] := by
    simp only [va_wsS, wsLA, ← List.append_assoc] at hw ⊢
    exact hw
  rcases List.mem_append.mp hw with h | h
  · exact ⟨wsL_law_in w (gL_law_L_at w h).1, (gL_law_L_at w h).2⟩
  · obtain rfl := List.mem_singleton.mp h
    exact ⟨by decide +kernel, Or.inl (by decide +kernel)⟩
/-- the law goes on behind a case -/
def Nx (p : Program) (l : Launch) (e : Env) (s : State) (m : MethodId) (below : List Frame) (meth : Method) (c : Code) (b : Nat) (D : va_G) (ty : Nat → ClassId) (u1 u2 : Nat → Nat) (qo : Nat) (x4 : Int32) (C S : Nat) : Prop :=
  ∀ (cS : CS) (tS : TS) (rS : RS) (sS : Nat → SS) (me : ME) (mb : AI) (mc : MC) (mt : MT) (mk : MK) (mr : MR) (mq : MQS) (mv : MV) (f : AL) (H : Heap) (locs : List Loc) (ls : Array Slot), LI s D ty u1 u2 qo cS tS rS sS me mb mc mt mk mr mq mv f H locs → Rel cS tS rS sS me mb mc mt mk → lv_has ls 7 [(0, .ref b), (1, .ref (u1 0)), (2, .ref (u2 0)), (3, .ref qo), (4, .int x4)] →
    W p l e room_1 s m #[Value.ref b] below meth c H locs (C + 4) (S + 24) (lw_Z below #[Value.ref b] s) (F0 m 548 ls [])
section LC
variable {p : Program} {l : Launch} {e : Env} {s : State} {m : MethodId} {below : List Frame} {meth : Method} {c : Code} {b L : Nat} {xs : Nat → Int32} {H : Heap} {locs : List Loc} {C S : Nat} {ls : Array Slot} {x4 : Int32}
variable {D : va_G} {ty : Nat → ClassId} {u1 u2 : Nat → Nat} {qo : Nat} {cS : CS} {tS : TS} {rS : RS} {sS : Nat → SS} {me : ME} {mb : AI} {mc : MC} {mt : MT} {mk : MK} {mr : MR} {mq : MQS} {mv : MV} {f : AL}
set_option maxHeartbeats 4000000 in
set_option maxRecDepth 100000 in
theorem k_cell (C0 : lw_At p s m meth c b L xs) (hK : wK (D, ty, u1) s) (hF : LF s D ty u1 u2 qo) (hI : LI s D ty u1 u2 qo cS tS rS sS me mb mc mt mk mr mq mv f H locs) (hR : Rel cS tS rS sS me mb mc mt mk) (hl : lv_has ls 7 [(0, .ref b), (1, .ref (u1 0)), (2, .ref (u2 0)), (3, .ref qo), (4, .int x4)]) (h1 : vp_in (x4 + 1) L) (h2 : vp_in (x4 + 2) L) (h3 : vp_in (x4 + 3) L) (hC : C + 4 ≤ room_1.cells ∧ S + 24 ≤ room_1.slots) (kk : Nx p l e s m below meth c b D ty u1 u2 qo x4 C S) : W p l e room_1 s m #[Value.ref b] below meth c H locs C S (lw_Z below #[Value.ref b] s) (F0 m 96 ls []) := by
  obtain ⟨hx, hb, hr, hml, hown, hts, hX, hbl, hlocks, hgv⟩ := C0
  have hbA : ¬ lwA s b := Nat.not_le.mpr hbl
  have hK2 : wK (D, ty, u2) s := hK
  have hC0 : C + 0 ≤ room_1.cells ∧ S + 0 ≤ room_1.slots := ⟨Nat.le_trans (Nat.add_le_add_left (Nat.zero_le 4) C) hC.1, Nat.le_trans (Nat.add_le_add_left (Nat.zero_le 24) S) hC.2⟩
  obtain ⟨ok, e1, hR2⟩ := RC_cell hR (xs (x4 + 1).toNatClampNeg) (xs (x4 + 2).toNatClampNeg) (xs (x4 + 3).toNatClampNeg)
  refine lv_aload_n hx hb dL_law_96 rfl (lv_at hl 1 rfl) ?_
  refine rdS hx hb hX hbl hbA hI.2.2.2 hl 0 4 rfl rfl (v := 1) (by decide) h1 dL_law_97 dL_law_98 dL_law_100 dL_law_101 dL_law_102 ?_
  refine rdS hx hb hX hbl hbA hI.2.2.2 hl 0 4 rfl rfl (v := 2) (by decide) h2 dL_law_103 dL_law_104 dL_law_106 dL_law_107 dL_law_108 ?_
  refine rdS hx hb hX hbl hbA hI.2.2.2 hl 0 4 rfl rfl (v := 3) (by decide) h3 dL_law_109 dL_law_110 dL_law_112 dL_law_113 dL_law_114 ?_
  refine xL_C (va_runV (As := [.int (xs (x4 + 1).toNatClampNeg), .int (xs (x4 + 2).toNatClampNeg), .int (xs (x4 + 3).toNatClampNeg)]) (rest := []) ⟨hx, hb, hml, hown, hts⟩ (c_X4_cell l (D, ty, u1) hF.1 cS tS rS sS (xs (x4 + 1).toNatClampNeg) (xs (x4 + 2).toNatClampNeg) (xs (x4 + 3).toNatClampNeg) hR.okC) (cwV 3 hts GL_X4_cell rfl rfl rfl (by decide +kernel) ⟨Nat.le_of_ble_eq_true rfl, Nat.le_of_ble_eq_true rfl⟩) (wPreV hI.1 hK (ci := 5) (q0 := 0) rfl rfl) rfl rfl hl.1 rfl (lv_room (Nat.le_of_ble_eq_true rfl)) dL_law_115 hC0) hF hI rfl (fun H locs hI => ?_)
  refine lv_aload_n hx hb dL_law_118 rfl (lv_at hl 2 rfl) ?_
  refine rdS hx hb hX hbl hbA hI.2.2.2 hl 0 4 rfl rfl (v := 1) (by decide) h1 dL_law_119 dL_law_120 dL_law_122 dL_law_123 dL_law_124 ?_
  refine rdS hx hb hX hbl hbA hI.2.2.2 hl 0 4 rfl rfl (v := 2) (by decide) h2 dL_law_125 dL_law_126 dL_law_128 dL_law_129 dL_law_130 ?_
  refine rdS hx hb hX hbl hbA hI.2.2.2 hl 0 4 rfl rfl (v := 3) (by decide) h3 dL_law_131 dL_law_132 dL_law_134 dL_law_135 dL_law_136 ?_
  refine xL_M (va_runV (As := [.int (xs (x4 + 1).toNatClampNeg), .int (xs (x4 + 2).toNatClampNeg), .int (xs (x4 + 3).toNatClampNeg)]) (rest := [_]) ⟨hx, hb, hml, hown, hts⟩ (c_X5_cell l (D, ty, u2) hF.2.1 me mb mc mt mk mr mq mv (xs (x4 + 1).toNatClampNeg) (xs (x4 + 2).toNatClampNeg) (xs (x4 + 3).toNatClampNeg) ok) (cwV 3 hts GL_X5_cell rfl rfl rfl (by decide +kernel) ⟨Nat.le_of_ble_eq_true rfl, Nat.le_of_ble_eq_true rfl⟩) (wPreV hI.2.1 hK2 (ci := 6) (q0 := 0) rfl rfl) rfl rfl hl.1 rfl (lv_room (Nat.le_of_ble_eq_true rfl)) dL_law_137 hC0) hF hI rfl (fun H locs hI => ?_)
  refine lv_icmp_eq (tgt := 548) hx hb dL_law_140 (by decide) (fun _ => ?_) (fun h => absurd e1 h)
  exact W.widen (Nat.le_add_right _ _) (Nat.le_add_right _ _) (kk _ _ _ _ _ _ _ _ _ _ _ _ _ _ _ _ hI hR2 hl)
set_option maxHeartbeats 4000000 in
set_option maxRecDepth 100000 in
theorem k_node (C0 : lw_At p s m meth c b L xs) (hK : wK (D, ty, u1) s) (hF : LF s D ty u1 u2 qo) (hI : LI s D ty u1 u2 qo cS tS rS sS me mb mc mt mk mr mq mv f H locs) (hR : Rel cS tS rS sS me mb mc mt mk) (hl : lv_has ls 7 [(0, .ref b), (1, .ref (u1 0)), (2, .ref (u2 0)), (3, .ref qo), (4, .int x4)]) (h1 : vp_in (x4 + 1) L) (h2 : vp_in (x4 + 2) L) (h3 : vp_in (x4 + 3) L) (hC : C + 4 ≤ room_1.cells ∧ S + 24 ≤ room_1.slots) (kk : Nx p l e s m below meth c b D ty u1 u2 qo x4 C S) : W p l e room_1 s m #[Value.ref b] below meth c H locs C S (lw_Z below #[Value.ref b] s) (F0 m 145 ls []) := by
  obtain ⟨hx, hb, hr, hml, hown, hts, hX, hbl, hlocks, hgv⟩ := C0
  have hbA : ¬ lwA s b := Nat.not_le.mpr hbl
  have hK2 : wK (D, ty, u2) s := hK
  have hC0 : C + 0 ≤ room_1.cells ∧ S + 0 ≤ room_1.slots := ⟨Nat.le_trans (Nat.add_le_add_left (Nat.zero_le 4) C) hC.1, Nat.le_trans (Nat.add_le_add_left (Nat.zero_le 24) S) hC.2⟩
  obtain ⟨ok, e1, hR2⟩ := RC_node hR (xs (x4 + 1).toNatClampNeg) (xs (x4 + 2).toNatClampNeg) (xs (x4 + 3).toNatClampNeg)
  refine lv_aload_n hx hb dL_law_145 rfl (lv_at hl 1 rfl) ?_
  refine rdS hx hb hX hbl hbA hI.2.2.2 hl 0 4 rfl rfl (v := 1) (by decide) h1 dL_law_146 dL_law_147 dL_law_149 dL_law_150 dL_law_151 ?_
  refine rdS hx hb hX hbl hbA hI.2.2.2 hl 0 4 rfl rfl (v := 2) (by decide) h2 dL_law_152 dL_law_153 dL_law_155 dL_law_156 dL_law_157 ?_
  refine rdS hx hb hX hbl hbA hI.2.2.2 hl 0 4 rfl rfl (v := 3) (by decide) h3 dL_law_158 dL_law_159 dL_law_161 dL_law_162 dL_law_163 ?_
  refine xL_C (va_runV (As := [.int (xs (x4 + 1).toNatClampNeg), .int (xs (x4 + 2).toNatClampNeg), .int (xs (x4 + 3).toNatClampNeg)]) (rest := []) ⟨hx, hb, hml, hown, hts⟩ (c_X4_node l (D, ty, u1) hF.1 cS tS rS sS (xs (x4 + 1).toNatClampNeg) (xs (x4 + 2).toNatClampNeg) (xs (x4 + 3).toNatClampNeg) hR.okC hR.okT) (cwV 3 hts GL_X4_node rfl rfl rfl (by decide +kernel) ⟨Nat.le_of_ble_eq_true rfl, Nat.le_of_ble_eq_true rfl⟩) (wPreV hI.1 hK (ci := 5) (q0 := 0) rfl rfl) rfl rfl hl.1 rfl (lv_room (Nat.le_of_ble_eq_true rfl)) dL_law_164 hC0) hF hI rfl (fun H locs hI => ?_)
  refine lv_aload_n hx hb dL_law_167 rfl (lv_at hl 2 rfl) ?_
  refine rdS hx hb hX hbl hbA hI.2.2.2 hl 0 4 rfl rfl (v := 1) (by decide) h1 dL_law_168 dL_law_169 dL_law_171 dL_law_172 dL_law_173 ?_
  refine rdS hx hb hX hbl hbA hI.2.2.2 hl 0 4 rfl rfl (v := 2) (by decide) h2 dL_law_174 dL_law_175 dL_law_177 dL_law_178 dL_law_179 ?_
  refine rdS hx hb hX hbl hbA hI.2.2.2 hl 0 4 rfl rfl (v := 3) (by decide) h3 dL_law_180 dL_law_181 dL_law_183 dL_law_184 dL_law_185 ?_
  refine xL_M (va_runV (As := [.int (xs (x4 + 1).toNatClampNeg), .int (xs (x4 + 2).toNatClampNeg), .int (xs (x4 + 3).toNatClampNeg)]) (rest := [_]) ⟨hx, hb, hml, hown, hts⟩ (c_X5_node l (D, ty, u2) hF.2.1 me mb mc mt mk mr mq mv (xs (x4 + 1).toNatClampNeg) (xs (x4 + 2).toNatClampNeg) (xs (x4 + 3).toNatClampNeg) ok) (cwV 3 hts GL_X5_node rfl rfl rfl (by decide +kernel) ⟨Nat.le_of_ble_eq_true rfl, Nat.le_of_ble_eq_true rfl⟩) (wPreV hI.2.1 hK2 (ci := 6) (q0 := 0) rfl rfl) rfl rfl hl.1 rfl (lv_room (Nat.le_of_ble_eq_true rfl)) dL_law_186 hC0) hF hI rfl (fun H locs hI => ?_)
  refine lv_icmp_eq (tgt := 548) hx hb dL_law_189 (by decide) (fun _ => ?_) (fun h => absurd e1 h)
  exact W.widen (Nat.le_add_right _ _) (Nat.le_add_right _ _) (kk _ _ _ _ _ _ _ _ _ _ _ _ _ _ _ _ hI hR2 hl)
set_option maxHeartbeats 4000000 in
set_option maxRecDepth 100000 in
theorem k_make (C0 : lw_At p s m meth c b L xs) (hK : wK (D, ty, u1) s) (hF : LF s D ty u1 u2 qo) (hI : LI s D ty u1 u2 qo cS tS rS sS me mb mc mt mk mr mq mv f H locs) (hR : Rel cS tS rS sS me mb mc mt mk) (hl : lv_has ls 7 [(0, .ref b), (1, .ref (u1 0)), (2, .ref (u2 0)), (3, .ref qo), (4, .int x4)]) (h1 : vp_in (x4 + 1) L) (h2 : vp_in (x4 + 2) L) (h3 : vp_in (x4 + 3) L) (hC : C + 4 ≤ room_1.cells ∧ S + 24 ≤ room_1.slots) (kk : Nx p l e s m below meth c b D ty u1 u2 qo x4 C S) : W p l e room_1 s m #[Value.ref b] below meth c H locs C S (lw_Z below #[Value.ref b] s) (F0 m 194 ls []) := by
  obtain ⟨hx, hb, hr, hml, hown, hts, hX, hbl, hlocks, hgv⟩ := C0
  have hbA : ¬ lwA s b := Nat.not_le.mpr hbl
  have hK2 : wK (D, ty, u2) s := hK
  have hC0 : C + 0 ≤ room_1.cells ∧ S + 0 ≤ room_1.slots := ⟨Nat.le_trans (Nat.add_le_add_left (Nat.zero_le 4) C) hC.1, Nat.le_trans (Nat.add_le_add_left (Nat.zero_le 24) S) hC.2⟩
  obtain ⟨fm, ok, e1, hR2⟩ := RC_make hR mr mq (xs (x4 + 1).toNatClampNeg)
  refine lv_aload_n hx hb dL_law_194 rfl (lv_at hl 1 rfl) ?_
  refine rdS hx hb hX hbl hbA hI.2.2.2 hl 0 4 rfl rfl (v := 1) (by decide) h1 dL_law_195 dL_law_196 dL_law_198 dL_law_199 dL_law_200 ?_
  refine xL_C (va_runV (As := [.int (xs (x4 + 1).toNatClampNeg)]) (rest := []) ⟨hx, hb, hml, hown, hts⟩ (c_X4_make l (D, ty, u1) hF.1 cS tS rS sS (xs (x4 + 1).toNatClampNeg) hR.okT) (cwV 1 hts GL_X4_make rfl rfl rfl (by decide +kernel) ⟨Nat.le_of_ble_eq_true rfl, Nat.le_of_ble_eq_true rfl⟩) (wPreV hI.1 hK (ci := 5) (q0 := 0) rfl rfl) rfl rfl hl.1 rfl (lv_room (Nat.le_of_ble_eq_true rfl)) dL_law_201 hC0) hF hI rfl (fun H locs hI => ?_)
  refine lv_aload_n hx hb dL_law_204 rfl (lv_at hl 2 rfl) ?_
  refine rdS hx hb hX hbl hbA hI.2.2.2 hl 0 4 rfl rfl (v := 1) (by decide) h1 dL_law_205 dL_law_206 dL_law_208 dL_law_209 dL_law_210 ?_
  refine xL_M (va_runV (As := [.int (xs (x4 + 1).toNatClampNeg)]) (rest := [_]) ⟨hx, hb, hml, hown, hts⟩ (c_X5_make l (D, ty, u2) hF.2.1 me mb mc mt mk mr mq mv (xs (x4 + 1).toNatClampNeg) fm ok) (cwV 1 hts GL_X5_make rfl rfl rfl (by decide +kernel) ⟨Nat.le_of_ble_eq_true rfl, Nat.le_of_ble_eq_true rfl⟩) (wPreV hI.2.1 hK2 (ci := 6) (q0 := 0) rfl rfl) rfl rfl hl.1 rfl (lv_room (Nat.le_of_ble_eq_true rfl)) dL_law_211 hC0) hF hI rfl (fun H locs hI => ?_)
  refine lv_icmp_eq (tgt := 548) hx hb dL_law_214 (by decide) (fun _ => ?_) (fun h => absurd e1 h)
  exact W.widen (Nat.le_add_right _ _) (Nat.le_add_right _ _) (kk _ _ _ _ _ _ _ _ _ _ _ _ _ _ _ _ hI hR2 hl)
set_option maxHeartbeats 4000000 in
set_option maxRecDepth 100000 in
theorem k_code (C0 : lw_At p s m meth c b L xs) (hK : wK (D, ty, u1) s) (hF : LF s D ty u1 u2 qo) (hI : LI s D ty u1 u2 qo cS tS rS sS me mb mc mt mk mr mq mv f H locs) (hR : Rel cS tS rS sS me mb mc mt mk) (hl : lv_has ls 7 [(0, .ref b), (1, .ref (u1 0)), (2, .ref (u2 0)), (3, .ref qo), (4, .int x4)]) (h1 : vp_in (x4 + 1) L) (h2 : vp_in (x4 + 2) L) (h3 : vp_in (x4 + 3) L) (hC : C + 4 ≤ room_1.cells ∧ S + 24 ≤ room_1.slots) (kk : Nx p l e s m below meth c b D ty u1 u2 qo x4 C S) : W p l e room_1 s m #[Value.ref b] below meth c H locs C S (lw_Z below #[Value.ref b] s) (F0 m 219 ls []) := by
  obtain ⟨hx, hb, hr, hml, hown, hts, hX, hbl, hlocks, hgv⟩ := C0
  have hbA : ¬ lwA s b := Nat.not_le.mpr hbl
  have hK2 : wK (D, ty, u2) s := hK
  have hC0 : C + 0 ≤ room_1.cells ∧ S + 0 ≤ room_1.slots := ⟨Nat.le_trans (Nat.add_le_add_left (Nat.zero_le 4) C) hC.1, Nat.le_trans (Nat.add_le_add_left (Nat.zero_le 24) S) hC.2⟩
  obtain ⟨ok, e1, hR2⟩ := RC_code hR (xs (x4 + 1).toNatClampNeg) (xs (x4 + 2).toNatClampNeg)
  refine lv_aload_n hx hb dL_law_219 rfl (lv_at hl 1 rfl) ?_
  refine rdS hx hb hX hbl hbA hI.2.2.2 hl 0 4 rfl rfl (v := 1) (by decide) h1 dL_law_220 dL_law_221 dL_law_223 dL_law_224 dL_law_225 ?_
  refine rdS hx hb hX hbl hbA hI.2.2.2 hl 0 4 rfl rfl (v := 2) (by decide) h2 dL_law_226 dL_law_227 dL_law_229 dL_law_230 dL_law_231 ?_
  refine xR_go (va_runV (As := [.int (xs (x4 + 1).toNatClampNeg), .int (xs (x4 + 2).toNatClampNeg)]) (rest := []) ⟨hx, hb, hml, hown, hts⟩ (c_X4_code l (D, ty, u1) cS tS rS sS (xs (x4 + 1).toNatClampNeg) (xs (x4 + 2).toNatClampNeg) hR.okR) (cwV 2 hts GL_X4_code rfl rfl rfl (by decide +kernel) ⟨Nat.le_of_ble_eq_true rfl, Nat.le_of_ble_eq_true rfl⟩) (wPreV hI.1 hK (ci := 5) (q0 := 0) rfl rfl) rfl rfl hl.1 rfl (lv_room (Nat.le_of_ble_eq_true rfl)) dL_law_232 hC0) rfl ?_
  refine lv_aload_n hx hb dL_law_235 rfl (lv_at hl 2 rfl) ?_
  refine rdS hx hb hX hbl hbA hI.2.2.2 hl 0 4 rfl rfl (v := 1) (by decide) h1 dL_law_236 dL_law_237 dL_law_239 dL_law_240 dL_law_241 ?_
  refine rdS hx hb hX hbl hbA hI.2.2.2 hl 0 4 rfl rfl (v := 2) (by decide) h2 dL_law_242 dL_law_243 dL_law_245 dL_law_246 dL_law_247 ?_
  refine xL_M (va_runV (As := [.int (xs (x4 + 1).toNatClampNeg), .int (xs (x4 + 2).toNatClampNeg)]) (rest := [_]) ⟨hx, hb, hml, hown, hts⟩ (c_X5_code l (D, ty, u2) hF.2.1 me mb mc mt mk mr mq mv (xs (x4 + 1).toNatClampNeg) (xs (x4 + 2).toNatClampNeg) ok) (cwV 2 hts GL_X5_code rfl rfl rfl (by decide +kernel) ⟨Nat.le_of_ble_eq_true rfl, Nat.le_of_ble_eq_true rfl⟩) (wPreV hI.2.1 hK2 (ci := 6) (q0 := 0) rfl rfl) rfl rfl hl.1 rfl (lv_room (Nat.le_of_ble_eq_true rfl)) dL_law_248 hC0) hF hI rfl (fun H locs hI => ?_)
  refine lv_icmp_eq (tgt := 548) hx hb dL_law_251 (by decide) (fun _ => ?_) (fun h => absurd e1 h)
  exact W.widen (Nat.le_add_right _ _) (Nat.le_add_right _ _) (kk _ _ _ _ _ _ _ _ _ _ _ _ _ _ _ _ hI hR2 hl)
set_option maxHeartbeats 4000000 in
set_option maxRecDepth 100000 in
theorem k_run (C0 : lw_At p s m meth c b L xs) (hK : wK (D, ty, u1) s) (hF : LF s D ty u1 u2 qo) (hI : LI s D ty u1 u2 qo cS tS rS sS me mb mc mt mk mr mq mv f H locs) (hR : Rel cS tS rS sS me mb mc mt mk) (hl : lv_has ls 7 [(0, .ref b), (1, .ref (u1 0)), (2, .ref (u2 0)), (3, .ref qo), (4, .int x4)]) (h1 : vp_in (x4 + 1) L) (h2 : vp_in (x4 + 2) L) (h3 : vp_in (x4 + 3) L) (hC : C + 4 ≤ room_1.cells ∧ S + 24 ≤ room_1.slots) (kk : Nx p l e s m below meth c b D ty u1 u2 qo x4 C S) : W p l e room_1 s m #[Value.ref b] below meth c H locs C S (lw_Z below #[Value.ref b] s) (F0 m 256 ls []) := by
  obtain ⟨hx, hb, hr, hml, hown, hts, hX, hbl, hlocks, hgv⟩ := C0
  have hbA : ¬ lwA s b := Nat.not_le.mpr hbl
  have hK2 : wK (D, ty, u2) s := hK
  have hC0 : C + 0 ≤ room_1.cells ∧ S + 0 ≤ room_1.slots := ⟨Nat.le_trans (Nat.add_le_add_left (Nat.zero_le 4) C) hC.1, Nat.le_trans (Nat.add_le_add_left (Nat.zero_le 24) S) hC.2⟩
  obtain ⟨fm, fs, ok, e1, hR2⟩ := RC_run hR mr mq mv (bz (xs (x4 + 1).toNatClampNeg)) (xs (x4 + 2).toNatClampNeg)
  refine lv_aload_n hx hb dL_law_256 rfl (lv_at hl 1 rfl) ?_
  refine rdS hx hb hX hbl hbA hI.2.2.2 hl 0 4 rfl rfl (v := 1) (by decide) h1 dL_law_257 dL_law_258 dL_law_260 dL_law_261 dL_law_262 ?_
  refine rdB hx hb dL_law_263 dL_law_266 dL_law_267 dL_law_270 ?_
  refine rdS hx hb hX hbl hbA hI.2.2.2 hl 0 4 rfl rfl (v := 2) (by decide) h2 dL_law_271 dL_law_272 dL_law_274 dL_law_275 dL_law_276 ?_
  refine xL_C (va_runV (As := [.int (bz (xs (x4 + 1).toNatClampNeg)), .int (xs (x4 + 2).toNatClampNeg)]) (rest := []) ⟨hx, hb, hml, hown, hts⟩ (c_X4_run l (D, ty, u1) hF.1 cS tS rS sS (bz (xs (x4 + 1).toNatClampNeg)) (xs (x4 + 2).toNatClampNeg) hR.okC hR.okT hR.okR) (cwV 2 hts GL_X4_run rfl rfl rfl (by decide +kernel) ⟨Nat.le_of_ble_eq_true rfl, Nat.le_of_ble_eq_true rfl⟩) (wPreV hI.1 hK (ci := 5) (q0 := 0) rfl rfl) rfl rfl hl.1 rfl (lv_room (Nat.le_of_ble_eq_true rfl)) dL_law_277 hC0) hF hI rfl (fun H locs hI => ?_)
  refine lv_aload_n hx hb dL_law_280 rfl (lv_at hl 2 rfl) ?_
  refine rdS hx hb hX hbl hbA hI.2.2.2 hl 0 4 rfl rfl (v := 1) (by decide) h1 dL_law_281 dL_law_282 dL_law_284 dL_law_285 dL_law_286 ?_
  refine rdB hx hb dL_law_287 dL_law_290 dL_law_291 dL_law_294 ?_
  refine rdS hx hb hX hbl hbA hI.2.2.2 hl 0 4 rfl rfl (v := 2) (by decide) h2 dL_law_295 dL_law_296 dL_law_298 dL_law_299 dL_law_300 ?_
  refine xL_M (va_runV (As := [.int (bz (xs (x4 + 1).toNatClampNeg)), .int (xs (x4 + 2).toNatClampNeg)]) (rest := [_]) ⟨hx, hb, hml, hown, hts⟩ (c_X5_run l (D, ty, u2) hF.2.1 me mb mc mt mk mr mq mv (bz (xs (x4 + 1).toNatClampNeg)) (xs (x4 + 2).toNatClampNeg) fm fs ok) (cwV 2 hts GL_X5_run rfl rfl rfl (by decide +kernel) ⟨Nat.le_of_ble_eq_true rfl, Nat.le_of_ble_eq_true rfl⟩) (wPreV hI.2.1 hK2 (ci := 6) (q0 := 0) rfl rfl) rfl rfl hl.1 rfl (lv_room (Nat.le_of_ble_eq_true rfl)) dL_law_301 hC0) hF hI rfl (fun H locs hI => ?_)
  refine lv_icmp_eq (tgt := 548) hx hb dL_law_304 (by decide) (fun _ => ?_) (fun h => absurd e1 h)
  exact W.widen (Nat.le_add_right _ _) (Nat.le_add_right _ _) (kk _ _ _ _ _ _ _ _ _ _ _ _ _ _ _ _ hI hR2 hl)
set_option maxHeartbeats 4000000 in
set_option maxRecDepth 100000 in
theorem k_put (C0 : lw_At p s m meth c b L xs) (hK : wK (D, ty, u1) s) (hF : LF s D ty u1 u2 qo) (hI : LI s D ty u1 u2 qo cS tS rS sS me mb mc mt mk mr mq mv f H locs) (hR : Rel cS tS rS sS me mb mc mt mk) (hl : lv_has ls 7 [(0, .ref b), (1, .ref (u1 0)), (2, .ref (u2 0)), (3, .ref qo), (4, .int x4)]) (h1 : vp_in (x4 + 1) L) (h2 : vp_in (x4 + 2) L) (h3 : vp_in (x4 + 3) L) (hC : C + 4 ≤ room_1.cells ∧ S + 24 ≤ room_1.slots) (kk : Nx p l e s m below meth c b D ty u1 u2 qo x4 C S) : W p l e room_1 s m #[Value.ref b] below meth c H locs C S (lw_Z below #[Value.ref b] s) (F0 m 393 ls []) := by
  obtain ⟨hx, hb, hr, hml, hown, hts, hX, hbl, hlocks, hgv⟩ := C0
  have hbA : ¬ lwA s b := Nat.not_le.mpr hbl
  have hK2 : wK (D, ty, u2) s := hK
  have hC0 : C + 0 ≤ room_1.cells ∧ S + 0 ≤ room_1.slots := ⟨Nat.le_trans (Nat.add_le_add_left (Nat.zero_le 4) C) hC.1, Nat.le_trans (Nat.add_le_add_left (Nat.zero_le 24) S) hC.2⟩
  obtain ⟨ok, e1, hR2⟩ := RC_put hR (xs (x4 + 1).toNatClampNeg) ((xs (x4 + 2).toNatClampNeg).toInt8.toInt32)
  refine lv_aload_n hx hb dL_law_393 rfl (lv_at hl 1 rfl) ?_
  refine rdS hx hb hX hbl hbA hI.2.2.2 hl 0 4 rfl rfl (v := 1) (by decide) h1 dL_law_394 dL_law_395 dL_law_397 dL_law_398 dL_law_399 ?_
  refine rdS hx hb hX hbl hbA hI.2.2.2 hl 0 4 rfl rfl (v := 2) (by decide) h2 dL_law_400 dL_law_401 dL_law_403 dL_law_404 dL_law_405 ?_
  refine lv_i2b hx hb dL_law_406 rfl ?_
  refine xL_C (va_runV (As := [.int (xs (x4 + 1).toNatClampNeg), .int ((xs (x4 + 2).toNatClampNeg).toInt8.toInt32)]) (rest := []) ⟨hx, hb, hml, hown, hts⟩ (c_X4_put l (D, ty, u1) hF.1 cS tS rS sS (xs (x4 + 1).toNatClampNeg) ((xs (x4 + 2).toNatClampNeg).toInt8.toInt32) ) (cwV 2 hts GL_X4_put rfl rfl rfl (by decide +kernel) ⟨Nat.le_of_ble_eq_true rfl, Nat.le_of_ble_eq_true rfl⟩) (wPreV hI.1 hK (ci := 5) (q0 := 0) rfl rfl) rfl rfl hl.1 rfl (lv_room (Nat.le_of_ble_eq_true rfl)) dL_law_407 hC0) hF hI rfl (fun H locs hI => ?_)
  refine lv_aload_n hx hb dL_law_410 rfl (lv_at hl 2 rfl) ?_
  refine rdS hx hb hX hbl hbA hI.2.2.2 hl 0 4 rfl rfl (v := 1) (by decide) h1 dL_law_411 dL_law_412 dL_law_414 dL_law_415 dL_law_416 ?_
  refine rdS hx hb hX hbl hbA hI.2.2.2 hl 0 4 rfl rfl (v := 2) (by decide) h2 dL_law_417 dL_law_418 dL_law_420 dL_law_421 dL_law_422 ?_
  refine lv_i2b hx hb dL_law_423 rfl ?_
  refine xL_M (va_runV (As := [.int (xs (x4 + 1).toNatClampNeg), .int ((xs (x4 + 2).toNatClampNeg).toInt8.toInt32)]) (rest := [_]) ⟨hx, hb, hml, hown, hts⟩ (c_X5_put l (D, ty, u2) hF.2.1 me mb mc mt mk mr mq mv (xs (x4 + 1).toNatClampNeg) ((xs (x4 + 2).toNatClampNeg).toInt8.toInt32) ok) (cwV 2 hts GL_X5_put rfl rfl rfl (by decide +kernel) ⟨Nat.le_of_ble_eq_true rfl, Nat.le_of_ble_eq_true rfl⟩) (wPreV hI.2.1 hK2 (ci := 6) (q0 := 0) rfl rfl) rfl rfl hl.1 rfl (lv_room (Nat.le_of_ble_eq_true rfl)) dL_law_424 hC0) hF hI rfl (fun H locs hI => ?_)
  refine lv_icmp_eq (tgt := 548) hx hb dL_law_427 (by decide) (fun _ => ?_) (fun h => absurd e1 h)
  exact W.widen (Nat.le_add_right _ _) (Nat.le_add_right _ _) (kk _ _ _ _ _ _ _ _ _ _ _ _ _ _ _ _ hI hR2 hl)
set_option maxHeartbeats 4000000 in
set_option maxRecDepth 100000 in
theorem k_fast (C0 : lw_At p s m meth c b L xs) (hK : wK (D, ty, u1) s) (hF : LF s D ty u1 u2 qo) (hI : LI s D ty u1 u2 qo cS tS rS sS me mb mc mt mk mr mq mv f H locs) (hR : Rel cS tS rS sS me mb mc mt mk) (hl : lv_has ls 7 [(0, .ref b), (1, .ref (u1 0)), (2, .ref (u2 0)), (3, .ref qo), (4, .int x4)]) (h1 : vp_in (x4 + 1) L) (h2 : vp_in (x4 + 2) L) (h3 : vp_in (x4 + 3) L) (hC : C + 4 ≤ room_1.cells ∧ S + 24 ≤ room_1.slots) (kk : Nx p l e s m below meth c b D ty u1 u2 qo x4 C S) : W p l e room_1 s m #[Value.ref b] below meth c H locs C S (lw_Z below #[Value.ref b] s) (F0 m 432 ls []) := by
  obtain ⟨hx, hb, hr, hml, hown, hts, hX, hbl, hlocks, hgv⟩ := C0
  have hbA : ¬ lwA s b := Nat.not_le.mpr hbl
  have hK2 : wK (D, ty, u2) s := hK
  have hC0 : C + 0 ≤ room_1.cells ∧ S + 0 ≤ room_1.slots := ⟨Nat.le_trans (Nat.add_le_add_left (Nat.zero_le 4) C) hC.1, Nat.le_trans (Nat.add_le_add_left (Nat.zero_le 24) S) hC.2⟩
  obtain ⟨ok, e1, hR2⟩ := RC_fast hR (xs (x4 + 1).toNatClampNeg)
  refine lv_aload_n hx hb dL_law_432 rfl (lv_at hl 1 rfl) ?_
  refine rdS hx hb hX hbl hbA hI.2.2.2 hl 0 4 rfl rfl (v := 1) (by decide) h1 dL_law_433 dL_law_434 dL_law_436 dL_law_437 dL_law_438 ?_
  refine xR_go (va_runV (As := [.int (xs (x4 + 1).toNatClampNeg)]) (rest := []) ⟨hx, hb, hml, hown, hts⟩ (c_X4_fast l (D, ty, u1) cS tS rS sS (xs (x4 + 1).toNatClampNeg) hR.okR) (cwV 1 hts GL_X4_fast rfl rfl rfl (by decide +kernel) ⟨Nat.le_of_ble_eq_true rfl, Nat.le_of_ble_eq_true rfl⟩) (wPreV hI.1 hK (ci := 5) (q0 := 0) rfl rfl) rfl rfl hl.1 rfl (lv_room (Nat.le_of_ble_eq_true rfl)) dL_law_439 hC0) rfl ?_
  refine lv_aload_n hx hb dL_law_442 rfl (lv_at hl 2 rfl) ?_
  refine rdS hx hb hX hbl hbA hI.2.2.2 hl 0 4 rfl rfl (v := 1) (by decide) h1 dL_law_443 dL_law_444 dL_law_446 dL_law_447 dL_law_448 ?_
  refine xL_M (va_runV (As := [.int (xs (x4 + 1).toNatClampNeg)]) (rest := [_]) ⟨hx, hb, hml, hown, hts⟩ (c_X5_fast l (D, ty, u2) hF.2.1 me mb mc mt mk mr mq mv (xs (x4 + 1).toNatClampNeg) ok) (cwV 1 hts GL_X5_fast rfl rfl rfl (by decide +kernel) ⟨Nat.le_of_ble_eq_true rfl, Nat.le_of_ble_eq_true rfl⟩) (wPreV hI.2.1 hK2 (ci := 6) (q0 := 0) rfl rfl) rfl rfl hl.1 rfl (lv_room (Nat.le_of_ble_eq_true rfl)) dL_law_449 hC0) hF hI rfl (fun H locs hI => ?_)
  refine lv_icmp_eq (tgt := 548) hx hb dL_law_452 (by decide) (fun _ => ?_) (fun h => absurd e1 h)
  exact W.widen (Nat.le_add_right _ _) (Nat.le_add_right _ _) (kk _ _ _ _ _ _ _ _ _ _ _ _ _ _ _ _ hI hR2 hl)
set_option maxHeartbeats 4000000 in
set_option maxRecDepth 100000 in
theorem k_point (C0 : lw_At p s m meth c b L xs) (hK : wK (D, ty, u1) s) (hF : LF s D ty u1 u2 qo) (hI : LI s D ty u1 u2 qo cS tS rS sS me mb mc mt mk mr mq mv f H locs) (hR : Rel cS tS rS sS me mb mc mt mk) (hl : lv_has ls 7 [(0, .ref b), (1, .ref (u1 0)), (2, .ref (u2 0)), (3, .ref qo), (4, .int x4)]) (h1 : vp_in (x4 + 1) L) (h2 : vp_in (x4 + 2) L) (h3 : vp_in (x4 + 3) L) (hC : C + 4 ≤ room_1.cells ∧ S + 24 ≤ room_1.slots) (kk : Nx p l e s m below meth c b D ty u1 u2 qo x4 C S) : W p l e room_1 s m #[Value.ref b] below meth c H locs C S (lw_Z below #[Value.ref b] s) (F0 m 457 ls []) := by
  obtain ⟨hx, hb, hr, hml, hown, hts, hX, hbl, hlocks, hgv⟩ := C0
  have hbA : ¬ lwA s b := Nat.not_le.mpr hbl
  have hK2 : wK (D, ty, u2) s := hK
  have hC0 : C + 0 ≤ room_1.cells ∧ S + 0 ≤ room_1.slots := ⟨Nat.le_trans (Nat.add_le_add_left (Nat.zero_le 4) C) hC.1, Nat.le_trans (Nat.add_le_add_left (Nat.zero_le 24) S) hC.2⟩
  obtain ⟨ok, e1, hR2⟩ := RC_point hR (xs (x4 + 1).toNatClampNeg)
  refine lv_aload_n hx hb dL_law_457 rfl (lv_at hl 1 rfl) ?_
  refine rdS hx hb hX hbl hbA hI.2.2.2 hl 0 4 rfl rfl (v := 1) (by decide) h1 dL_law_458 dL_law_459 dL_law_461 dL_law_462 dL_law_463 ?_
  refine xR_go (va_runV (As := [.int (xs (x4 + 1).toNatClampNeg)]) (rest := []) ⟨hx, hb, hml, hown, hts⟩ (c_X4_point l (D, ty, u1) cS tS rS sS (xs (x4 + 1).toNatClampNeg) ) (cwV 1 hts GL_X4_point rfl rfl rfl (by decide +kernel) ⟨Nat.le_of_ble_eq_true rfl, Nat.le_of_ble_eq_true rfl⟩) (wPreV hI.1 hK (ci := 5) (q0 := 0) rfl rfl) rfl rfl hl.1 rfl (lv_room (Nat.le_of_ble_eq_true rfl)) dL_law_464 hC0) rfl ?_
  refine lv_aload_n hx hb dL_law_467 rfl (lv_at hl 2 rfl) ?_
  refine rdS hx hb hX hbl hbA hI.2.2.2 hl 0 4 rfl rfl (v := 1) (by decide) h1 dL_law_468 dL_law_469 dL_law_471 dL_law_472 dL_law_473 ?_
  refine xL_M (va_runV (As := [.int (xs (x4 + 1).toNatClampNeg)]) (rest := [_]) ⟨hx, hb, hml, hown, hts⟩ (c_X5_point l (D, ty, u2) hF.2.1 me mb mc mt mk mr mq mv (xs (x4 + 1).toNatClampNeg) ok) (cwV 1 hts GL_X5_point rfl rfl rfl (by decide +kernel) ⟨Nat.le_of_ble_eq_true rfl, Nat.le_of_ble_eq_true rfl⟩) (wPreV hI.2.1 hK2 (ci := 6) (q0 := 0) rfl rfl) rfl rfl hl.1 rfl (lv_room (Nat.le_of_ble_eq_true rfl)) dL_law_474 hC0) hF hI rfl (fun H locs hI => ?_)
  refine lv_icmp_eq (tgt := 548) hx hb dL_law_477 (by decide) (fun _ => ?_) (fun h => absurd e1 h)
  exact W.widen (Nat.le_add_right _ _) (Nat.le_add_right _ _) (kk _ _ _ _ _ _ _ _ _ _ _ _ _ _ _ _ hI hR2 hl)
set_option maxHeartbeats 4000000 in
set_option maxRecDepth 100000 in
theorem k_raised (C0 : lw_At p s m meth c b L xs) (hK : wK (D, ty, u1) s) (hF : LF s D ty u1 u2 qo) (hI : LI s D ty u1 u2 qo cS tS rS sS me mb mc mt mk mr mq mv f H locs) (hR : Rel cS tS rS sS me mb mc mt mk) (hl : lv_has ls 7 [(0, .ref b), (1, .ref (u1 0)), (2, .ref (u2 0)), (3, .ref qo), (4, .int x4)]) (h1 : vp_in (x4 + 1) L) (h2 : vp_in (x4 + 2) L) (h3 : vp_in (x4 + 3) L) (hC : C + 4 ≤ room_1.cells ∧ S + 24 ≤ room_1.slots) (kk : Nx p l e s m below meth c b D ty u1 u2 qo x4 C S) : W p l e room_1 s m #[Value.ref b] below meth c H locs C S (lw_Z below #[Value.ref b] s) (F0 m 482 ls []) := by
  obtain ⟨hx, hb, hr, hml, hown, hts, hX, hbl, hlocks, hgv⟩ := C0
  have hbA : ¬ lwA s b := Nat.not_le.mpr hbl
  have hK2 : wK (D, ty, u2) s := hK
  have hC0 : C + 0 ≤ room_1.cells ∧ S + 0 ≤ room_1.slots := ⟨Nat.le_trans (Nat.add_le_add_left (Nat.zero_le 4) C) hC.1, Nat.le_trans (Nat.add_le_add_left (Nat.zero_le 24) S) hC.2⟩
  obtain ⟨e1, hR2⟩ := RC_raised hR (bz (xs (x4 + 1).toNatClampNeg))
  refine lv_aload_n hx hb dL_law_482 rfl (lv_at hl 1 rfl) ?_
  refine rdS hx hb hX hbl hbA hI.2.2.2 hl 0 4 rfl rfl (v := 1) (by decide) h1 dL_law_483 dL_law_484 dL_law_486 dL_law_487 dL_law_488 ?_
  refine rdB hx hb dL_law_489 dL_law_492 dL_law_493 dL_law_496 ?_
  refine xR_go (va_runV (As := [.int (bz (xs (x4 + 1).toNatClampNeg))]) (rest := []) ⟨hx, hb, hml, hown, hts⟩ (c_X4_raised l (D, ty, u1) cS tS rS sS (bz (xs (x4 + 1).toNatClampNeg)) ) (cwV 1 hts GL_X4_raised rfl rfl rfl (by decide +kernel) ⟨Nat.le_of_ble_eq_true rfl, Nat.le_of_ble_eq_true rfl⟩) (wPreV hI.1 hK (ci := 5) (q0 := 0) rfl rfl) rfl rfl hl.1 rfl (lv_room (Nat.le_of_ble_eq_true rfl)) dL_law_497 hC0) rfl ?_
  refine lv_aload_n hx hb dL_law_500 rfl (lv_at hl 2 rfl) ?_
  refine rdS hx hb hX hbl hbA hI.2.2.2 hl 0 4 rfl rfl (v := 1) (by decide) h1 dL_law_501 dL_law_502 dL_law_504 dL_law_505 dL_law_506 ?_
  refine rdB hx hb dL_law_507 dL_law_510 dL_law_511 dL_law_514 ?_
  refine xL_M (va_runV (As := [.int (bz (xs (x4 + 1).toNatClampNeg))]) (rest := [_]) ⟨hx, hb, hml, hown, hts⟩ (c_X5_raised l (D, ty, u2) hF.2.1 me mb mc mt mk mr mq mv (bz (xs (x4 + 1).toNatClampNeg)) ) (cwV 1 hts GL_X5_raised rfl rfl rfl (by decide +kernel) ⟨Nat.le_of_ble_eq_true rfl, Nat.le_of_ble_eq_true rfl⟩) (wPreV hI.2.1 hK2 (ci := 6) (q0 := 0) rfl rfl) rfl rfl hl.1 rfl (lv_room (Nat.le_of_ble_eq_true rfl)) dL_law_515 hC0) hF hI rfl (fun H locs hI => ?_)
  refine lv_icmp_eq (tgt := 548) hx hb dL_law_518 (by decide) (fun _ => ?_) (fun h => absurd e1 h)
  exact W.widen (Nat.le_add_right _ _) (Nat.le_add_right _ _) (kk _ _ _ _ _ _ _ _ _ _ _ _ _ _ _ _ hI hR2 hl)
set_option maxHeartbeats 4000000 in
set_option maxRecDepth 100000 in
theorem k_same (C0 : lw_At p s m meth c b L xs) (hK : wK (D, ty, u1) s) (hF : LF s D ty u1 u2 qo) (hI : LI s D ty u1 u2 qo cS tS rS sS me mb mc mt mk mr mq mv f H locs) (hR : Rel cS tS rS sS me mb mc mt mk) (hl : lv_has ls 7 [(0, .ref b), (1, .ref (u1 0)), (2, .ref (u2 0)), (3, .ref qo), (4, .int x4)]) (h1 : vp_in (x4 + 1) L) (h2 : vp_in (x4 + 2) L) (h3 : vp_in (x4 + 3) L) (hC : C + 4 ≤ room_1.cells ∧ S + 24 ≤ room_1.slots) (kk : Nx p l e s m below meth c b D ty u1 u2 qo x4 C S) : W p l e room_1 s m #[Value.ref b] below meth c H locs C S (lw_Z below #[Value.ref b] s) (F0 m 523 ls []) := by
  obtain ⟨hx, hb, hr, hml, hown, hts, hX, hbl, hlocks, hgv⟩ := C0
  have hbA : ¬ lwA s b := Nat.not_le.mpr hbl
  have hK2 : wK (D, ty, u2) s := hK
  have hC0 : C + 0 ≤ room_1.cells ∧ S + 0 ≤ room_1.slots := ⟨Nat.le_trans (Nat.add_le_add_left (Nat.zero_le 4) C) hC.1, Nat.le_trans (Nat.add_le_add_left (Nat.zero_le 24) S) hC.2⟩
  obtain ⟨fm, ok, e1, hR2⟩ := RC_same hR mr mq (xs (x4 + 1).toNatClampNeg)
  refine lv_aload_n hx hb dL_law_523 rfl (lv_at hl 1 rfl) ?_
  refine rdS hx hb hX hbl hbA hI.2.2.2 hl 0 4 rfl rfl (v := 1) (by decide) h1 dL_law_524 dL_law_525 dL_law_527 dL_law_528 dL_law_529 ?_
  refine xL_C (va_runV (As := [.int (xs (x4 + 1).toNatClampNeg)]) (rest := []) ⟨hx, hb, hml, hown, hts⟩ (c_X4_same l (D, ty, u1) hF.1 cS tS rS sS (xs (x4 + 1).toNatClampNeg) hR.okC hR.okT hR.okR hR.b0) (cwV 1 hts GL_X4_same rfl rfl rfl (by decide +kernel) ⟨Nat.le_of_ble_eq_true rfl, Nat.le_of_ble_eq_true rfl⟩) (wPreV hI.1 hK (ci := 5) (q0 := 0) rfl rfl) rfl rfl hl.1 rfl (lv_room (Nat.le_of_ble_eq_true rfl)) dL_law_530 hC0) hF hI rfl (fun H locs hI => ?_)
  refine lv_aload_n hx hb dL_law_533 rfl (lv_at hl 2 rfl) ?_
  refine rdS hx hb hX hbl hbA hI.2.2.2 hl 0 4 rfl rfl (v := 1) (by decide) h1 dL_law_534 dL_law_535 dL_law_537 dL_law_538 dL_law_539 ?_
  refine xL_M (va_runV (As := [.int (xs (x4 + 1).toNatClampNeg)]) (rest := [_]) ⟨hx, hb, hml, hown, hts⟩ (c_X5_same l (D, ty, u2) hF.2.1 me mb mc mt mk mr mq mv (xs (x4 + 1).toNatClampNeg) fm ok) (cwV 1 hts GL_X5_same rfl rfl rfl (by decide +kernel) ⟨Nat.le_of_ble_eq_true rfl, Nat.le_of_ble_eq_true rfl⟩) (wPreV hI.2.1 hK2 (ci := 6) (q0 := 0) rfl rfl) rfl rfl hl.1 rfl (lv_room (Nat.le_of_ble_eq_true rfl)) dL_law_540 hC0) hF hI rfl (fun H locs hI => ?_)
  refine lv_icmp_eq (tgt := 548) hx hb dL_law_543 (by decide) (fun _ => ?_) (fun h => absurd e1 h)
  exact W.widen (Nat.le_add_right _ _) (Nat.le_add_right _ _) (kk _ _ _ _ _ _ _ _ _ _ _ _ _ _ _ _ hI hR2 hl)
end LC
