theorem hat_in : (Bundle.ownAtoms0 RX4 94 nE nms).all (fun a => lw_tbl.contains a || (flatC (Jvm.Cond.and given_1 narrow_1)).contains a) = true := by decide +kernel
theorem hat_of {b : Nat} {s : State} (hts : ∀ w ∈ lw_tbl, w.before #[Value.ref b] s = true) (hg : (Jvm.Cond.and given_1 narrow_1).before #[Value.ref b] s = true) : ∀ a ∈ Bundle.ownAtoms0 RX4 94 nE nms, a.before #[Value.ref b] s = true := by
  intro a ha
  have h := List.all_eq_true.mp hat_in a ha
  rw [Bool.or_eq_true, List.contains_iff_mem, List.contains_iff_mem] at h
  rcases h with h | h
  · exact hts a h
  · exact flat_of_before _ hg a h
theorem lg_cmp_self (x : Int64) : lg_cmp x x = 0 := by
  unfold lg_cmp
  simp
section LC
variable {p : Program} {l : Launch} {e : Env} {s : State} {m : MethodId} {below : List Frame} {meth : Method} {c : Code} {b L : Nat} {xs : Nat → Int32} {H : Heap} {locs : List Loc} {C S : Nat} {ls : Array Slot} {x4 : Int32}
variable {D : va_G} {ty : Nat → ClassId} {u1 u2 : Nat → Nat} {qo : Nat} {cS : CS} {tS : TS} {rS : RS} {sS : Nat → SS} {me : ME} {mb : AI} {mc : MC} {mt : MT} {mk : MK} {mr : MR} {mq : MQS} {mv : MV} {f : AL}
set_option maxHeartbeats 4000000 in
set_option maxRecDepth 100000 in
theorem k_at (hfl : l.flags = pinnedFlags ++ [noTraceFlag]) (C0 : lw_At p s m meth c b L xs) (hK : wK (D, ty, u1) s) (hF : LF s D ty u1 u2 qo) (hI : LI s D ty u1 u2 qo cS tS rS sS me mb mc mt mk mr mq mv f H locs) (hR : Rel cS tS rS sS me mb mc mt mk) (hl : lv_has ls 7 [(0, .ref b), (1, .ref (u1 0)), (2, .ref (u2 0)), (3, .ref qo), (4, .int x4)])
    (h1 : vp_in (x4 + 1) L) (h2 : vp_in (x4 + 2) L) (hC : C + 4 ≤ room_1.cells ∧ S + 24 ≤ room_1.slots) (kk : Nx p l e s m below meth c b D ty u1 u2 qo x4 C S) : W p l e room_1 s m #[Value.ref b] below meth c H locs C S (lw_Z below #[Value.ref b] s) (F0 m 309 ls []) := by
  obtain ⟨hx, hb, hr, hml, hown, hts, hX, hbl, hlocks, hgv⟩ := C0
  have hbA : ¬ lwA s b := Nat.not_le.mpr hbl
  have hK2 : wK (D, ty, u2) s := hK
  have hC0 : C + 0 ≤ room_1.cells ∧ S + 0 ≤ room_1.slots := ⟨Nat.le_trans (Nat.add_le_add_left (Nat.zero_le 4) C) hC.1, Nat.le_trans (Nat.add_le_add_left (Nat.zero_le 24) S) hC.2⟩
  have hC1 : C + 1 ≤ room_1.cells ∧ S + 6 ≤ room_1.slots := ⟨Nat.le_trans (Nat.add_le_add_left (by decide) C) hC.1, Nat.le_trans (Nat.add_le_add_left (by decide) S) hC.2⟩
  have hC2 : (C + 1) + 0 ≤ room_1.cells ∧ (S + 6) + 0 ≤ room_1.slots := hC1
  obtain ⟨ok, a0, a1⟩ := RC_at hR (bz (xs (x4 + 1).toNatClampNeg)) (xs (x4 + 2).toNatClampNeg)
  refine lv_aload_n hx hb dL_law_309 rfl (lv_at hl 1 rfl) ?_
  refine rdS hx hb hX hbl hbA hI.2.2.2 hl 0 4 rfl rfl (v := 1) (by decide) h1 dL_law_310 dL_law_311 dL_law_313 dL_law_314 dL_law_315 ?_
  refine rdB hx hb dL_law_316 dL_law_319 dL_law_320 dL_law_323 ?_
  refine rdS hx hb hX hbl hbA hI.2.2.2 hl 0 4 rfl rfl (v := 2) (by decide) h2 dL_law_324 dL_law_325 dL_law_327 dL_law_328 dL_law_329 ?_
  refine lv_aload_n hx hb dL_law_330 rfl (lv_at hl 3 rfl) ?_
  by_cases hh : G_X2_holds (xs (x4 + 2).toNatClampNeg) = 0
  · have ea := a0 hh
    refine xL_N (va_runSW (hh := [(0, 10, 13, 13)]) (n := 4) (As := [.ref (u1 0), .int (bz (xs (x4 + 1).toNatClampNeg)), .int (xs (x4 + 2).toNatClampNeg), .ref qo]) (rest := []) ⟨hx, hb, hml, hown, hts⟩ (c_L_at_thr l hfl (D, ty, u1) cS tS rS sS (bz (xs (x4 + 1).toNatClampNeg)) (xs (x4 + 2).toNatClampNeg) hh s #[Value.ref b] (hat_of hts hgv) qo) GL_L_at rfl rfl rfl (by decide +kernel) ⟨Nat.le_of_ble_eq_true rfl, Nat.le_of_ble_eq_true rfl⟩
      ⟨fun a U g mk q => ⟨q.1, ⟨q.2.1.1, q.2.1.2.same rfl⟩, q.2.2⟩, fun U hU hW => ⟨rfl, ⟨by rw [hU]; exact hI.1, hK.moved hW⟩, hW, fun q z hz => by rw [hU, hI.2.2.2.2.1 q (Array.getElem?_eq_some_iff.mp hz).1 (Nat.not_le.mpr (Array.getElem?_eq_some_iff.mp hz).1)]; exact hz⟩⟩ rfl rfl hl.1 rfl (lv_room (Nat.le_of_ble_eq_true rfl)) dL_law_331 hC1) hI rfl (fun H locs hI => ?_)
    refine lv_istore (lv' := [(5, .int 1), (0, .ref b), (1, .ref (u1 0)), (2, .ref (u2 0)), (3, .ref qo), (4, .int x4)]) hx hb dL_law_334 hl (by decide) rfl (fun ls hl => ?_)
    refine lv_aload_n hx hb dL_law_336 rfl (lv_at hl 3 rfl) ?_
    refine rdS hx hb hX hbl hbA hI.2.2.2 hl 1 5 rfl rfl (v := 1) (by decide) h1 dL_law_337 dL_law_338 dL_law_340 dL_law_341 dL_law_342 ?_
    refine rdB hx hb dL_law_343 dL_law_346 dL_law_347 dL_law_350 ?_
    refine rdS hx hb hX hbl hbA hI.2.2.2 hl 1 5 rfl rfl (v := 2) (by decide) h2 dL_law_351 dL_law_352 dL_law_354 dL_law_355 dL_law_356 ?_
    refine xL_M (va_runV (As := [.int (bz (xs (x4 + 1).toNatClampNeg)), .int (xs (x4 + 2).toNatClampNeg)]) (rest := []) ⟨hx, hb, hml, hown, hts⟩ (c_X5_at l (D, ty, u2) hF.2.1 me mb mc mt mk mr mq mv (bz (xs (x4 + 1).toNatClampNeg)) (xs (x4 + 2).toNatClampNeg) hR.bm ok) (cwV 2 hts GL_X5_at rfl rfl rfl (by decide +kernel) ⟨Nat.le_of_ble_eq_true rfl, Nat.le_of_ble_eq_true rfl⟩) (wPreV hI.2.1 hK2 (ci := 6) (q0 := 0) rfl rfl) rfl rfl hl.1 rfl (lv_room (Nat.le_of_ble_eq_true rfl)) dL_law_357 hC2) hF hI rfl (fun H locs hI => ?_)
    rw [ea] at hI ⊢
    refine lv_istore (lv' := [(6, .int 0), (5, .int 1), (0, .ref b), (1, .ref (u1 0)), (2, .ref (u2 0)), (3, .ref qo), (4, .int x4)]) hx hb dL_law_360 hl (by decide) rfl (fun ls hl => ?_)
    refine lv_aload_n hx hb dL_law_362 rfl (lv_at hl 4 rfl) ?_
    refine xR_go (va_runV (As := []) (rest := []) ⟨hx, hb, hml, hown, hts⟩ (c_X5_thrown l (D, ty, u2) (1, me.2.1, me.2.2) mb mc mt mk mr mq mv) (cwV 0 hts GL_X5_thrown rfl rfl rfl (by decide +kernel) ⟨Nat.le_of_ble_eq_true rfl, Nat.le_of_ble_eq_true rfl⟩) (wPreV hI.2.1 hK2 (ci := 6) (q0 := 0) rfl rfl) rfl rfl hl.1 rfl (lv_room (Nat.le_of_ble_eq_true rfl)) dL_law_363 hC2) rfl ?_
    refine lv_iload hx hb dL_law_366 (lv_at hl 1 rfl) ?_
    refine lv_icmp_eq (tgt := 373) hx hb dL_law_368 (by decide) (fun _ => ?_) (fun h => absurd rfl h)
    refine lv_iload hx hb dL_law_373 (lv_at hl 1 rfl) ?_
    refine lv_if_ne (tgt := 390) hx hb dL_law_375 (by decide) (fun _ => ?_) (fun h => absurd h (by decide))
    refine lv_goto (tgt := 548) hx hb dL_law_390 (by decide) ?_
    exact W.widen (by omega) (by omega) (kk _ _ _ _ _ _ _ _ _ _ _ _ _ _ _ _ hI (hR.meZ 1) (lv_sub hl [2, 3, 4, 5, 6] rfl))
  · have ea := a1 hh
    refine xL_O (va_runSW (hh := [(0, 10, 13, 13)]) (n := 4) (As := [.ref (u1 0), .int (bz (xs (x4 + 1).toNatClampNeg)), .int (xs (x4 + 2).toNatClampNeg), .ref qo]) (rest := []) ⟨hx, hb, hml, hown, hts⟩ (c_L_at_ok l (D, ty, u1) cS tS rS sS (bz (xs (x4 + 1).toNatClampNeg)) (xs (x4 + 2).toNatClampNeg) hh hR.b0 hR.b1 qo f) GL_L_at rfl rfl rfl (by decide +kernel) ⟨Nat.le_of_ble_eq_true rfl, Nat.le_of_ble_eq_true rfl⟩
      ⟨fun a U g mk q => ⟨q.1, ⟨q.2.1.1, q.2.1.2.same rfl⟩, q.2.2⟩, fun U hU hW => ⟨rfl, ⟨by rw [hU]; exact hI.1, hK.moved hW⟩, by rw [hU]; exact hI.2.2.1⟩⟩ rfl rfl hl.1 rfl (lv_room (Nat.le_of_ble_eq_true rfl)) dL_law_331 hC0) hF hI rfl (fun H locs hI => ?_)
    refine lv_istore (lv' := [(5, .int 0), (0, .ref b), (1, .ref (u1 0)), (2, .ref (u2 0)), (3, .ref qo), (4, .int x4)]) hx hb dL_law_334 hl (by decide) rfl (fun ls hl => ?_)
    refine lv_aload_n hx hb dL_law_336 rfl (lv_at hl 3 rfl) ?_
    refine rdS hx hb hX hbl hbA hI.2.2.2 hl 1 5 rfl rfl (v := 1) (by decide) h1 dL_law_337 dL_law_338 dL_law_340 dL_law_341 dL_law_342 ?_
    refine rdB hx hb dL_law_343 dL_law_346 dL_law_347 dL_law_350 ?_
    refine rdS hx hb hX hbl hbA hI.2.2.2 hl 1 5 rfl rfl (v := 2) (by decide) h2 dL_law_351 dL_law_352 dL_law_354 dL_law_355 dL_law_356 ?_
    refine xL_M (va_runV (As := [.int (bz (xs (x4 + 1).toNatClampNeg)), .int (xs (x4 + 2).toNatClampNeg)]) (rest := []) ⟨hx, hb, hml, hown, hts⟩ (c_X5_at l (D, ty, u2) hF.2.1 me mb mc mt mk mr mq mv (bz (xs (x4 + 1).toNatClampNeg)) (xs (x4 + 2).toNatClampNeg) hR.bm ok) (cwV 2 hts GL_X5_at rfl rfl rfl (by decide +kernel) ⟨Nat.le_of_ble_eq_true rfl, Nat.le_of_ble_eq_true rfl⟩) (wPreV hI.2.1 hK2 (ci := 6) (q0 := 0) rfl rfl) rfl rfl hl.1 rfl (lv_room (Nat.le_of_ble_eq_true rfl)) dL_law_357 hC0) hF hI rfl (fun H locs hI => ?_)
    rw [ea] at hI ⊢
    refine lv_istore (lv' := [(6, .int (if bz (xs (x4 + 1).toNatClampNeg) = 0 then (sS 0).1 (xs (x4 + 2).toNatClampNeg).toNatClampNeg else (sS 1).1 (xs (x4 + 2).toNatClampNeg).toNatClampNeg)), (5, .int 0), (0, .ref b), (1, .ref (u1 0)), (2, .ref (u2 0)), (3, .ref qo), (4, .int x4)]) hx hb dL_law_360 hl (by decide) rfl (fun ls hl => ?_)
    refine lv_aload_n hx hb dL_law_362 rfl (lv_at hl 4 rfl) ?_
    refine xR_go (va_runV (As := []) (rest := []) ⟨hx, hb, hml, hown, hts⟩ (c_X5_thrown l (D, ty, u2) (0, me.2.1, me.2.2) mb mc mt mk mr mq mv) (cwV 0 hts GL_X5_thrown rfl rfl rfl (by decide +kernel) ⟨Nat.le_of_ble_eq_true rfl, Nat.le_of_ble_eq_true rfl⟩) (wPreV hI.2.1 hK2 (ci := 6) (q0 := 0) rfl rfl) rfl rfl hl.1 rfl (lv_room (Nat.le_of_ble_eq_true rfl)) dL_law_363 hC0) rfl ?_
    refine lv_iload hx hb dL_law_366 (lv_at hl 1 rfl) ?_
    refine lv_icmp_eq (tgt := 373) hx hb dL_law_368 (by decide) (fun _ => ?_) (fun h => absurd rfl h)
    refine lv_iload hx hb dL_law_373 (lv_at hl 1 rfl) ?_
    refine lv_if_ne (tgt := 390) hx hb dL_law_375 (by decide) (fun h => absurd rfl h) (fun _ => ?_)
    refine lv_aload_n hx hb dL_law_378 rfl (lv_at hl 5 rfl) ?_
    refine lv_iconst (v := 0) hx hb dL_law_379 (by decide) ?_
    refine va_lald hx hb hK.1 hI.2.2.1 0 3 rfl rfl (vp_in_nI (n := 0) (by decide) (by decide)) dL_law_380 ?_
    refine lv_iload hx hb dL_law_381 (lv_at hl 0 rfl) ?_
    refine lv_i2l hx hb dL_law_383 rfl ?_
    refine W.lcmp hx hb dL_law_384 ?_
    refine lv_if_eq (tgt := 390) hx hb dL_law_385 (by decide) (fun _ => ?_) (fun h => absurd (lg_cmp_self _) h)
    refine lv_goto (tgt := 548) hx hb dL_law_390 (by decide) ?_
    exact W.widen (by omega) (by omega) (kk _ _ _ _ _ _ _ _ _ _ _ _ _ _ _ _ hI (hR.meZ 0) (lv_sub hl [2, 3, 4, 5, 6] rfl))
end LC
