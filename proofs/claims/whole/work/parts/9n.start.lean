/-! the law's start -/
theorem arr_known {s : State} {args : Array Value} {ty : FieldType} (h : (Cond.arrayClass ty).before args s = true) : ∃ cA : ClassId, ArrOfT s cA ty ∧ s.vm.findClass ("[" ++ ty.toString) = some cA := by
  obtain ⟨cA, kA, comp, h1, h2, h3⟩ := Cond.arrayClass_spec h
  exact ⟨cA, fun n z => ⟨fun k h => (by cases h), kA, h2, comp, h3⟩, h1⟩
theorem nws_in : nws.all (fun q => lw_tbl.contains q && q.onTables) = true := by decide +kernel
theorem wK_start {b : Nat} {s : State} (hts : ∀ w ∈ lw_tbl, w.before #[Value.ref b] s = true) : ∃ (D : va_G) (ty : Nat → ClassId), ∀ u : Nat → Nat, wK (D, ty, u) s := by
  obtain ⟨c0, i0, k0⟩ := u_known (C := RJx00060) (T := TJx00060) (N := 6) (n := 6) hts inL_wsJx000600 (hts (.instantiable RJx00060 6) (by decide +kernel))
  obtain ⟨c1, i1, k1⟩ := u_known (C := RX0) (T := TX0) (N := 4) (n := 4) hts inL_wsX00 (hts (.instantiable RX0 4) (by decide +kernel))
  obtain ⟨c2, i2, k2⟩ := u_known (C := RX1) (T := TX1) (N := 7) (n := 7) hts inL_wsX10 (hts (.instantiable RX1 7) (by decide +kernel))
  obtain ⟨c3, i3, k3⟩ := u_known (C := RX2) (T := TX2) (N := 4) (n := 4) hts inL_wsX20 (hts (.instantiable RX2 4) (by decide +kernel))
  obtain ⟨c4, i4, k4⟩ := u_known (C := RX3) (T := TX3) (N := 9) (n := 9) hts inL_wsX30 (hts (.instantiable RX3 9) (by decide +kernel))
  obtain ⟨c5, i5, k5⟩ := u_known (C := RX4) (T := TX4) (N := 7) (n := 7) hts inL_wsX40 (hts (.instantiable RX4 7) (by decide +kernel))
  obtain ⟨c6, i6, k6⟩ := u_known (C := RX5) (T := TX5) (N := 33) (n := 33) hts inL_wsX50 (hts (.instantiable RX5 33) (by decide +kernel))
  obtain ⟨a0, b0, d0⟩ := arr_known (hts (.arrayClass .int) (by decide +kernel))
  obtain ⟨a1, b1, d1⟩ := arr_known (hts (.arrayClass .byte) (by decide +kernel))
  obtain ⟨a2, b2, d2⟩ := arr_known (hts (.arrayClass .boolean) (by decide +kernel))
  obtain ⟨a3, b3, d3⟩ := arr_known (hts (.arrayClass .long) (by decide +kernel))
  refine ⟨(fun k => match k with | 0 => c0 | 1 => c1 | 2 => c2 | 3 => c3 | 4 => c4 | 5 => c5 | _ => c6, fun k => match k with | 0 => i0 | 1 => i1 | 2 => i2 | 3 => i3 | 4 => i4 | 5 => i5 | _ => i6), fun k => match k with | 0 => a0 | 1 => a1 | 2 => a2 | _ => a3, fun u => ⟨⟨?_, ?_⟩, ?_⟩⟩
  · intro k q hq
    match k, hq with
    | 0, hq => cases hq; exact k0
    | 1, hq => cases hq; exact k1
    | 2, hq => cases hq; exact k2
    | 3, hq => cases hq; exact k3
    | 4, hq => cases hq; exact k4
    | 5, hq => cases hq; exact k5
    | 6, hq => cases hq; exact k6
    | k + 7, hq => simp at hq
  · intro k q hq
    match k, hq with
    | 0, hq => cases hq; exact ⟨b0, d0⟩
    | 1, hq => cases hq; exact ⟨b1, d1⟩
    | 2, hq => cases hq; exact ⟨b2, d2⟩
    | 3, hq => cases hq; exact ⟨b3, d3⟩
    | k + 4, hq => simp at hq
  · intro q hq
    have h := List.all_eq_true.mp nws_in q hq
    rw [Bool.and_eq_true, List.contains_iff_mem] at h
    exact va_tabs h.2 rfl (hts q h.1)
theorem LF_of {s : State} {D : va_G} {ty : Nat → ClassId} {u1 u2 : Nat → Nat} {qo : Nat} {c : CS} {t : TS} {r : RS} {sS : Nat → SS} {me : ME} {mb : AI} {mc : MC} {mt : MT} {mk : MK} {mr : MR} {mq : MQS} {mv : MV} {e : va_E} (hD : va_D (lwA s) ((wC (D, ty, u1) c t r sS ++ wM (D, ty, u2) me mb mc mt mk mr mq mv) ++ [(qo, e)])) : LF s D ty u1 u2 qo := by
  have lC : (wC (D, ty, u1) c t r sS).length = 26 := rfl
  have lM : (wM (D, ty, u2) me mb mc mt mk mr mq mv).length = 25 := rfl
  have mC : (wC (D, ty, u1) c t r sS).map Prod.fst = (List.range 26).map u1 := rfl
  have mM : (wM (D, ty, u2) me mb mc mt mk mr mq mv).map Prod.fst = (List.range 25).map u2 := rfl
  have atC : ∀ i, i < 26 → ∃ q, ((wC (D, ty, u1) c t r sS ++ wM (D, ty, u2) me mb mc mt mk mr mq mv) ++ [(qo, e)])[i]? = some q ∧ q.1 = u1 i := by
    intro i hi
    have hq : i < (wC (D, ty, u1) c t r sS).length := by rw [lC]; exact hi
    refine ⟨(wC (D, ty, u1) c t r sS)[i], ?_, ?_⟩
    · rw [List.getElem?_append_left (by rw [List.length_append, lC]; omega), List.getElem?_append_left hq, List.getElem?_eq_getElem hq]
    · have h1 := congrArg (fun x => x[i]?) mC
      simp only [List.getElem?_map, List.getElem?_eq_getElem hq, List.getElem?_range hi, Option.map_some] at h1
      exact Option.some.inj h1
  have atM : ∀ i, i < 25 → ∃ q, ((wC (D, ty, u1) c t r sS ++ wM (D, ty, u2) me mb mc mt mk mr mq mv) ++ [(qo, e)])[26 + i]? = some q ∧ q.1 = u2 i := by
    intro i hi
    have hq : i < (wM (D, ty, u2) me mb mc mt mk mr mq mv).length := by rw [lM]; exact hi
    refine ⟨(wM (D, ty, u2) me mb mc mt mk mr mq mv)[i], ?_, ?_⟩
    · rw [List.getElem?_append_left (by rw [List.length_append, lC, lM]; omega), List.getElem?_append_right (by rw [lC]; omega), lC, show 26 + i - 26 = i by omega, List.getElem?_eq_getElem hq]
    · have h1 := congrArg (fun x => x[i]?) mM
      simp only [List.getElem?_map, List.getElem?_eq_getElem hq, List.getElem?_range hi, Option.map_some] at h1
      exact Option.some.inj h1
  have atO : ((wC (D, ty, u1) c t r sS ++ wM (D, ty, u2) me mb mc mt mk mr mq mv) ++ [(qo, e)])[51]? = some (qo, e) := by
    rw [List.getElem?_append_right (by rw [List.length_append, lC, lM]; omega), List.length_append, lC, lM]
    rfl
  refine ⟨fun i j hi hj h => ?_, fun i j hi hj h => ?_, fun i j hi hj h => ?_, fun i hi h => ?_, fun j hj h => ?_, fun i hi => ?_, fun j hj => ?_, hD.2 51 _ atO⟩
  · obtain ⟨x, x1, x2⟩ := atC i hi
    obtain ⟨y, y1, y2⟩ := atC j hj
    exact hD.1 i j x y x1 y1 (by rw [x2, y2]; exact h)
  · obtain ⟨x, x1, x2⟩ := atM i hi
    obtain ⟨y, y1, y2⟩ := atM j hj
    have := hD.1 _ _ x y x1 y1 (by rw [x2, y2]; exact h)
    omega
  · obtain ⟨x, x1, x2⟩ := atC i hi
    obtain ⟨y, y1, y2⟩ := atM j hj
    have := hD.1 _ _ x y x1 y1 (by rw [x2, y2]; exact h)
    omega
  · obtain ⟨x, x1, x2⟩ := atC i hi
    have := hD.1 _ _ x _ x1 atO (by rw [x2]; exact h)
    omega
  · obtain ⟨x, x1, x2⟩ := atM j hj
    have := hD.1 _ _ x _ x1 atO (by rw [x2]; exact h)
    omega
  · obtain ⟨x, x1, x2⟩ := atC i hi
    rw [← x2]
    exact hD.2 _ _ x1
  · obtain ⟨x, x1, x2⟩ := atM j hj
    rw [← x2]
    exact hD.2 _ _ x1
theorem P_app {D : va_G} {cl : List vw_C} {w1 w2 : va_W} {H : Heap} (h : va_P D cl (w1 ++ w2) H) : va_P D cl w1 H ∧ va_P D cl w2 H := by
  refine ⟨fun k q hq => h k q ?_, fun k q hq => h (w1.length + k) q ?_⟩
  · rw [List.getElem?_append_left (List.getElem?_eq_some_iff.mp hq).1]
    exact hq
  · rw [List.getElem?_append_right (by omega), show w1.length + k - w1.length = k by omega]
    exact hq
set_option maxHeartbeats 4000000 in
set_option maxRecDepth 100000 in
theorem whole_start {p : Program} {e : Env} {s : State} {m : MethodId} {below : List Frame} {meth : Method} {c : Code} (l : Launch) (hfl : l.flags = pinnedFlags ++ [noTraceFlag]) {b L : Nat} {xs : Nat → Int32} (hL : L ≤ 2048) (C0 : lw_At p s m meth c b L xs) : W p l e room_1 s m #[Value.ref b] below meth c s.heap [] 0 0 (lw_Z below #[Value.ref b] s) (entryFrame m ([Value.ref b] : List Value).toArray 7) := by
  obtain ⟨hx, hb, hr, hml, hown, hts, hX, hbl, hlocks, hgv⟩ := id C0
  have hA : ∀ q : Nat, s.heap.size ≤ q → lwA s q := fun _ h => h
  obtain ⟨D, ty, hK⟩ := wK_start hts
  have hS : va_S (lwA s) s.heap s.heap [] := va_S.rf
  have hP : va_P D vwCl [] s.heap := fun k q h => by simp at h
  have hD : va_D (lwA s) [] := ⟨fun i j p q h => by simp at h, fun k q h => by simp at h⟩
  have hl := lv_entry ([.ref b]) (n := 7) (Nat.le_of_ble_eq_true rfl)
  rw [lg_entry_eq]
  generalize (lg_sl ([.ref b]) ++ List.replicate (7 - (lg_sl ([.ref b])).length) Slot.unset).toArray = ls at hl ⊢
  have hl : lv_has ls 7 [(0, .ref b)] := hl
  have hown' : s.vm.findClass RL = some m.cls := hown
  refine va_new (ci := 5) (fs := [.null, .null, .null, .null, .null, .null, .null]) (C := RX4) (T := TX4) (N := 7) hx hb hts inL_wsX40 tyX4 tyX4_ok hown' (hts (.classLink RL 8 RX4) (by decide +kernel)) (hts (.instantiable RX4 7) (by decide +kernel)) (hts (.initialized RX4) (by decide +kernel)) (hK (fun _ => 0)).1 hP hD hS hA rfl (fun j hj => by rcases (show j = 0 ∨ j = 1 ∨ j = 2 ∨ j = 3 ∨ j = 4 ∨ j = 5 ∨ j = 6 by omega) with rfl | rfl | rfl | rfl | rfl | rfl | rfl <;> rfl) (Nat.le_of_ble_eq_true rfl) (Nat.le_of_ble_eq_true rfl) dL_law_0 (fun q0 H hP hD hS => ?_)
  have hP : va_P D vwCl [(q0, .inr (5, [.null, .null, .null, .null, .null, .null, .null]))] H := hP
  have hD : va_D (lwA s) [(q0, .inr (5, [.null, .null, .null, .null, .null, .null, .null]))] := hD
  refine W.widen (k := 1) (n := 7) (by omega) (by omega) ?_
  refine lv_dup hx hb dL_law_3 rfl ?_
  have hFc := va_free (wc := [(q0, .inr (5, [.null, .null, .null, .null, .null, .null, .null]))]) hD hS hA [0] rfl
  refine va_callv (va_runI (As := []) (rest := [.ref q0]) ⟨hx, hb, hml, hown', hts⟩ (c_X4_init l (D, ty, fun _ => 0) q0 H.size) (cwI 0 hts GL_X4_init rfl rfl rfl (hts (.initialized RX4) (by decide +kernel)) (hts (.methodLink RL 15 yX4_init) (by decide +kernel)) (hts (.instanceMethod yX4_init) (by decide +kernel)) rfl (by decide +kernel) ⟨Nat.le_of_ble_eq_true rfl, Nat.le_of_ble_eq_true rfl⟩) (xPreI hP (hK _)) rfl rfl hl.1 rfl (lv_room (Nat.le_of_ble_eq_true rfl)) dL_law_4 ⟨Nat.le_of_ble_eq_true rfl, Nat.le_of_ble_eq_true rfl⟩) hS (fun q _ h => hFc q h) hFc (fun u1 t H1 locs ht hvm hw hB hz1 hk1 hS => ?_)
  obtain ⟨hP1, hD1⟩ := hB
  rw [ht] at hP1
  have e0 : u1 0 = q0 := hw
  obtain ⟨hPj, hDj⟩ := va_join (wr := []) (w1 := wC (D, ty, u1) c0 t0 r0 s0) hP hD [0] [] rfl rfl (by decide) (by decide) hk1 hFc hP1 hD1
  have hPk : va_P D vwCl (wC (D, ty, u1) c0 t0 r0 s0) H1 := hPj
  have hDk : va_D (lwA s) (wC (D, ty, u1) c0 t0 r0 s0) := hDj
  clear hP1 hD1 hk1 hFc hPj hDj hP hD
  subst e0
  refine W.widen (k := 26) (n := 3227) (by omega) (by omega) ?_
  refine lv_astore_n (lv' := [(1, .ref (u1 0)), (0, .ref b)]) hx hb dL_law_7 rfl hl (by decide) rfl (fun ls hl => ?_)
  refine va_new (ci := 6) (fs := [.int 0, .null, .null, .null, .null, .null, .int 0, .null, .null, .null, .null, .null, .null, .int 0, .null, .null, .null, .null, .null, .null, .int 0, .int 0, .null, .null, .null, .null, .null, .int 0, .int 0, .null, .null, .int 0, .int 0]) (C := RX5) (T := TX5) (N := 33) hx hb hts inL_wsX50 tyX5 tyX5_ok hown' (hts (.classLink RL 16 RX5) (by decide +kernel)) (hts (.instantiable RX5 33) (by decide +kernel)) (hts (.initialized RX5) (by decide +kernel)) (hK (fun _ => 0)).1 hPk hDk hS hA rfl (by decide) (Nat.le_of_ble_eq_true rfl) (Nat.le_of_ble_eq_true rfl) dL_law_8 (fun q2 H hP hD hS => ?_)
  refine W.widen (k := 27) (n := 3260) (by omega) (by omega) ?_
  refine lv_dup hx hb dL_law_11 rfl ?_
  have hPc := (P_app hP).2
  have hFc := va_free (wc := [(q2, .inr (6, [.int 0, .null, .null, .null, .null, .null, .int 0, .null, .null, .null, .null, .null, .null, .int 0, .null, .null, .null, .null, .null, .null, .int 0, .int 0, .null, .null, .null, .null, .null, .int 0, .int 0, .null, .null, .int 0, .int 0]))]) hD hS hA [26] rfl
  refine va_callv (va_runI (As := []) (rest := [.ref q2]) ⟨hx, hb, hml, hown', hts⟩ (c_X5_init l (D, ty, fun _ => 0) q2 H.size) (cwI 0 hts GL_X5_init rfl rfl rfl (hts (.initialized RX5) (by decide +kernel)) (hts (.methodLink RL 18 yX5_init) (by decide +kernel)) (hts (.instanceMethod yX5_init) (by decide +kernel)) rfl (by decide +kernel) ⟨Nat.le_of_ble_eq_true rfl, Nat.le_of_ble_eq_true rfl⟩) (xPreI hPc (hK _)) rfl rfl hl.1 rfl (lv_room (Nat.le_of_ble_eq_true rfl)) dL_law_12 ⟨Nat.le_of_ble_eq_true rfl, Nat.le_of_ble_eq_true rfl⟩) hS (fun q _ h => hFc q h) hFc (fun u2 t H1 locs ht hvm hw hB hz1 hk1 hS => ?_)
  obtain ⟨hP1, hD1⟩ := hB
  rw [ht] at hP1
  obtain ⟨hPj, hDj⟩ := va_join (wr := wC (D, ty, u1) c0 t0 r0 s0) (w1 := fI_X5 (D, ty, fun _ => 0) q2 u2) hP hD [26] [0, 1, 2, 3, 4, 5, 6, 7, 8, 9, 10, 11, 12, 13, 14, 15, 16, 17, 18, 19, 20, 21, 22, 23, 24, 25] rfl rfl (by decide) (by decide) hk1 hFc hP1 hD1
  rw [fI_X5_is] at hPj hDj
  clear hP1 hD1 hk1 hFc hPc hw hP hD hPk hDk
  obtain ⟨u3, eu3⟩ : ∃ u3 : Nat → Nat, u3 = fun i => match i with | 0 => q2 | i + 1 => u2 i := ⟨_, rfl⟩
  have hPl : va_P D vwCl (wC (D, ty, u1) c0 t0 r0 s0 ++ wM (D, ty, u3) me0 (fun _ => 0) mc0 mt0 mk0 mr0 mq0 mv0) H1 := by rw [eu3]; exact hPj
  have hDl : va_D (lwA s) (wC (D, ty, u1) c0 t0 r0 s0 ++ wM (D, ty, u3) me0 (fun _ => 0) mc0 mt0 mk0 mr0 mq0 mv0) := by rw [eu3]; exact hDj
  have e2 : q2 = u3 0 := by rw [eu3]
  clear eu3 hPj hDj
  subst e2
  refine W.widen (k := 51) (n := 20660) (by omega) (by omega) ?_
  refine lv_astore_n (lv' := [(2, .ref (u3 0)), (1, .ref (u1 0)), (0, .ref b)]) hx hb dL_law_15 rfl hl (by decide) rfl (fun ls hl => ?_)
  refine lv_iconst (v := 1) hx hb dL_law_16 (by decide) ?_
  refine va_newa (atype := .long) (ty := .long) (N' := 1) (a0 := (1, .inr (.inl (fun _ => 0)))) hx hb (hts (.arrayClass .long) (by decide +kernel)) rfl (hK (fun _ => 0)).1 hPl hDl hS hA (fun cA => rfl) (by decide) rfl (by decide +kernel) (by decide +kernel) (by decide +kernel) dL_law_17 (fun qo cA H hK1 hP hD hS => ?_)
  have eA : cA = ty 3 := nA (hK (fun _ => 0)) 3 rfl (fun _ => rfl) hK1
  subst eA
  refine W.widen (k := 60) (n := 30000) (by omega) (by omega) ?_
  refine lv_astore_n (lv' := [(3, .ref qo), (2, .ref (u3 0)), (1, .ref (u1 0)), (0, .ref b)]) hx hb dL_law_19 rfl hl (by decide) rfl (fun ls hl => ?_)
  refine lv_iconst (v := 0) hx hb dL_law_20 (by decide) ?_
  refine lv_istore (lv' := [(4, .int 0), (3, .ref qo), (2, .ref (u3 0)), (1, .ref (u1 0)), (0, .ref b)]) hx hb dL_law_21 hl (by decide) rfl (fun ls hl => ?_)
  obtain ⟨hPa, hPo⟩ := P_app hP
  obtain ⟨hPc, hPm⟩ := P_app hPa
  exact law_loop hfl hL C0 (hK u1) (LF_of hD) (L + 1) 0 0 (Nat.zero_le _) (by omega) rfl _ _ _ _ _ _ _ _ _ _ _ _ _ H locs ls ⟨hPc, hPm, hPo, hS⟩ Rel_0 (lv_sub hl [4, 3, 2, 1, 0] rfl)
