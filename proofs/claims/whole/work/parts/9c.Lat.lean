theorem as_refl {vm : Vm} (c : ClassId) : vm.assignable c c = true := by
  show vm.assignableAux (255 + 1) c c = true
  rw [Vm.assignableAux, Bool.or_eq_true, beq_iff_eq]
  exact Or.inl rfl
theorem x_find {e : Env} {s : State} {f : JFrame} {a : Addr} {meth : Method} {code : Code} (hm : s.vm.method? f.method = some meth) (hc : meth.code = some code) (x : ExceptionTableEntry) (hsplit : code.exceptionTable.toList = [x]) (hx : covers x f.pc = true) (h0 : x.catchType ≠ 0) {c : ClassId} {cell : Cell}
    (hl : s.vm.ClassLinks e.platform f.method.cls x.catchType c) (hcell : s.heap[a]? = some cell) (hobj : ∀ k, cell.vm ≠ .statics k) (hk : ∃ k, s.vm.classes[cell.cls]? = some k) (hcl : ∃ k, s.vm.classes[c]? = some k) (hfit : s.vm.assignable cell.cls c = true)
    (Q : Handler → Pre) (E : CtlPost) (d : Bool) (acts : List Action) : wp (findHandler f a) Q E e d acts s ↔ Q (.found x.handlerPc) d acts (s.setVm (s.vm.noted f.method.cls x.catchType (.cls c))) := by
  rw [Jvm.W.findHandler_eq hm hc, hsplit]
  simp only [covers] at hx
  obtain ⟨ha, ht⟩ := (resolveClass_links e.toSetting hl).op (op := VmOp.resolveClass f.method.cls x.catchType) rfl
  have hal : s.vm.Alike (s.vm.noted f.method.cls x.catchType (.cls c)) := (Vm.Alike.refl s.vm).noted _ _ _
  obtain ⟨k1, hk1⟩ := hk
  obtain ⟨k2, hk2⟩ := hcl
  obtain ⟨k1', hk1', -⟩ := hal.2.2 _ _ hk1
  obtain ⟨k2', hk2', -⟩ := hal.2.2 _ _ hk2
  have hfit' : (s.vm.noted f.method.cls x.catchType (.cls c)).assignable cell.cls c = true := by rw [hal.assignable]; exact hfit
  simp [findHandler.go, hx, h0, ha, ht, hcell, hobj, hk1', hk2', hfit', VmOp.dirties, VmOp.acts]
theorem x_caught {tb : Tables} {e : Env} {s target : State} {g : JFrame} {c : Code} {below : List Frame} {a : Addr} (h : At s g.method c below) {pc : Nat} {vm' : Vm}
    (hfind : ∀ (Q : Handler → Pre) (E : CtlPost) (d : Bool) (acts : List Action), wp (findHandler g a) Q E e d acts ((s.setTop g).pushFrame (.throwing a)) ↔ Q (.found pc) d acts (((s.setTop g).pushFrame (.throwing a)).setVm vm')) (hrest : Steps tb e below ((s.setVm vm').setTop { g with pc := pc, stack := [.ref a] }) target) :
    Steps tb e below ((s.setTop g).pushFrame (.throwing a)) target := by
  obtain ⟨hgo, hw⟩ := h.throwing a
  refine Steps.head hgo hw ?_
  have hst : ∀ r, (stepThrowing e ((s.setTop g).pushFrame (.throwing a)) a (.java g :: r)).1 = (((s.setTop g).pushFrame (.throwing a)).setVm vm').setFrames (.java { g with pc := pc, stack := [.ref a] } :: r) := by
    intro r
    simp only [stepThrowing, searchFrame, vmDo]
    generalize hr : Sem.go _ e false [] ((s.setTop g).pushFrame (.throwing a)) = res
    obtain ⟨as, rfl, ha⟩ := Sem.eq_ok_of hr (a := Handler.found pc) (s' := ((s.setTop g).pushFrame (.throwing a)).setVm vm') (acts' := []) (by simp [hfind _ _ _ _])
    rfl
  rw [stepThread_throwing (frames_entered h.top _), hst]
  obtain ⟨g₀, hg⟩ := Option.isSome_iff_exists.mp h.top
  obtain ⟨r, hr⟩ := State.topJava?_eq_some.mp hg
  have hr' : (s.setVm vm').frames = .java g₀ :: r := hr
  rw [State.setTop_of_frames _ hr'] at hrest
  have ee : ∀ (u : State) (F G : List Frame), ((u.setFrames F).setVm vm').setFrames G = (u.setVm vm').setFrames G := fun u F G => by
    show ((u.setVm vm').setFrames F).setFrames G = _
    rw [State.setFrames_setFrames]
  rw [hr, List.tail_cons, State.pushFrame, ee, State.setTop_of_frames _ hr, ee]
  exact hrest
section XC
variable {p : Program} {l : Launch} {e : Env} {R : Room} {s : State} {m : MethodId} {args : Array Value} {below : List Frame} {meth : Method} {c : Code} {T : State} {locs : List Loc} {cells slots : Nat}
theorem x_catch (X : Stand p l e R s m args below meth c T locs cells slots) (a : Addr) {g : JFrame} (hg : g.method = m) {own name : String} (hown : s.vm.findClass own = some m.cls) (x : ExceptionTableEntry) (hsplit : c.exceptionTable.toList = [x]) (hx : covers x g.pc = true) (h0 : x.catchType ≠ 0)
    (hlink : (Cond.classLink own x.catchType name).before args s = true) {cell : Cell} (hcell : T.heap[a]? = some cell) (hobj : cell.vm = .none) (hcls : s.vm.findClass name = some cell.cls) :
    ∃ vm', Stand p l e R s m args below meth c (T.setVm vm') locs cells slots ∧ ∀ target, Steps p.tables e below ((T.setVm vm').setTop { g with pc := x.handlerPc, stack := [.ref a] }) target → Steps p.tables e below ((T.setTop g).pushFrame (.throwing a)) target := by
  have hpl : e.platform.magicAccessors = ({} : Platform).magicAccessors := by rw [X.admits.platform]
  obtain ⟨c', hc', hcl⟩ := Cond.classLink_spec hown hlink e.platform hpl
  cases hcls.symm.trans hc'
  obtain ⟨dk, _, _, kt, hd, _, _, _, _, hkt, _, hopen⟩ := hcl.here
  have hcl₀ := X.warmed.classLinks hcl
  have hW' : s.WarmedH (T.vm.noted m.cls x.catchType (.cls cell.cls)) := X.warmed.noted hd hopen (State.rightAt_cls hcl)
  obtain ⟨kt', hkt', -⟩ := X.warmed.alike.2.2 _ _ hkt
  refine ⟨_, X.noted hW', fun target hrest => ?_⟩
  subst hg
  exact x_caught X.here (x_find (s := (T.setTop g).pushFrame (.throwing a)) (meth := meth) (code := c) X.method' X.code x hsplit hx h0 (c := cell.cls) (cell := cell) hcl₀ hcell (fun k q => by rw [hobj] at q; cases q) ⟨kt', hkt'⟩ ⟨kt', hkt'⟩ (as_refl _)) hrest
theorem sbn_keep {s s' : State} {k n : Nat} (h : s.sameButNew s' [] k n) : s.heap.size ≤ s'.heap.size ∧ ∀ (q : Nat) (c : Cell), s.heap[q]? = some c → s'.heap[q]? = some c := by
  obtain ⟨-, h2, -, -, -, h6⟩ := h
  refine ⟨h2, fun q c hc => ?_⟩
  obtain ⟨c', e1, e2, e3, e4⟩ := h6 q c hc
  have : c'.slots = c.slots := Array.ext_getElem? (fun i => e4 i (by simp))
  rw [this] at e2
  rw [e1, e2]
end XC
theorem ggL_at_X4_at : GoodIn wsL_at wsX4_at := goodIn_r _ [5, 6, 7, 8, 9, 10, 11, 12, 13, 14, 15, 16, 17, 18, 19, 20, 21, 22, 23, 24, 25, 26, 27, 28, 29, 30, 31, 32, 33, 34, 35, 36, 37] (by decide +kernel) (by decide +kernel)
theorem gL_at_X4_at : GoodIn wsL_at (wsV RL 7 RX4 yX4_at wsX4_at) := goodIn_app (goodIn_of _ (by decide +kernel)) ggL_at_X4_at
theorem dL_at_0 : decode cL_at 0 = .ok (.aload_n 3, 1) := by decide +kernel
theorem dL_at_1 : decode cL_at 1 = .ok (.iconst 0, 1) := by decide +kernel
theorem dL_at_2 : decode cL_at 2 = .ok (.aload_n 0, 1) := by decide +kernel
theorem dL_at_3 : decode cL_at 3 = .ok (.iload_n 1, 1) := by decide +kernel
theorem dL_at_4 : decode cL_at 4 = .ok (.iload_n 2, 1) := by decide +kernel
theorem dL_at_5 : decode cL_at 5 = .ok (.invokevirtual 7, 3) := by decide +kernel
theorem dL_at_8 : decode cL_at 8 = .ok (.i2l, 1) := by decide +kernel
theorem dL_at_9 : decode cL_at 9 = .ok (.lastore, 1) := by decide +kernel
theorem dL_at_10 : decode cL_at 10 = .ok (.goto 7, 3) := by decide +kernel
theorem dL_at_13 : decode cL_at 13 = .ok (.astore 4, 2) := by decide +kernel
theorem dL_at_15 : decode cL_at 15 = .ok (.iconst 1, 1) := by decide +kernel
theorem dL_at_16 : decode cL_at 16 = .ok (.ireturn, 1) := by decide +kernel
theorem dL_at_17 : decode cL_at 17 = .ok (.iconst 0, 1) := by decide +kernel
theorem dL_at_18 : decode cL_at 18 = .ok (.ireturn, 1) := by decide +kernel
def wsLA : List Cond := wsL_at ++ [.classLink RL 13 nE]
theorem gLA_X4_at : GoodIn wsLA (wsV RL 7 RX4 yX4_at wsX4_at) := fun w hw => ⟨List.mem_append_left _ (gL_at_X4_at w hw).1, (gL_at_X4_at w hw).2⟩
theorem gLA_X4 : GoodIn wsLA wsX4_at := fun w hw => ⟨List.mem_append_left _ (ggL_at_X4_at w hw).1, (ggL_at_X4_at w hw).2⟩
theorem P_one {D : va_G} {cl : List vw_C} {a : Nat} {e : va_E} {H : Heap} (h : va_at D cl (a, e) H) : va_P D cl [(a, e)] H := fun k q hk => by
  have h1 := (List.getElem?_eq_some_iff.mp hk).1
  simp only [List.length_cons, List.length_nil] at h1
  have : k = 0 := by omega
  subst this
  cases hk
  exact h
theorem D_one (a : Nat) (e : va_E) : va_D (fun q => q = a) [(a, e)] := by
  refine ⟨fun i j p q hi hj _ => ?_, fun k q hk => ?_⟩
  · have h1 := (List.getElem?_eq_some_iff.mp hi).1
    have h2 := (List.getElem?_eq_some_iff.mp hj).1
    simp only [List.length_cons, List.length_nil] at h1 h2
    omega
  · have h1 := (List.getElem?_eq_some_iff.mp hk).1
    simp only [List.length_cons, List.length_nil] at h1
    have : k = 0 := by omega
    subst this
    cases hk
    rfl
set_option maxHeartbeats 4000000 in
set_option maxRecDepth 100000 in
theorem c_L_at_ok (l : Launch) (w : WG) (c : CS) (t : TS) (r : RS) (s : Nat → SS) (cd p : Int32) (hh : ¬ G_X2_holds p = 0) (hb0 : okB (s 0).1) (hb1 : okB (s 1).1) (qo : Nat) (f : AL) : Met l yL_at wsLA { frames := 10, cells := 0, slots := 0, locals := 250 } (va_Pc [.ref (w.2.2 0), .int cd, .int p, .ref qo] (fun U => wPK w (wC w c t r s) U ∧ va_P w.1 vwCl [(qo, .inl (w.2.1 3, 1, .inr (.inl f)))] U.heap)) (xM (some (.int 0)) (fun H => va_P w.1 vwCl [(qo, .inl (w.2.1 3, 1, .inr (.inl (vp_updL f 0 (if cd = 0 then (s 0).1 p.toNatClampNeg else (s 1).1 p.toNatClampNeg).toInt64))))] H) (fun q => q = qo)) 0 0 (fun q => q = qo) := by
  refine va_MetW (cc := cL_at) (maxL := 5) (ret := some .int) (hh := [(0, 10, 13, 13)]) (by decide) rfl ?_
  intro pP eE S mM args below meth C s₁ B hml hv
  obtain ⟨rfl, ⟨hP, hK⟩, hPo⟩ := hv
  have hx := B.exec
  have hb := B.bytes
  have hr := B.returns
  have hlk := B.notSynchronized
  have hts := atoms_spec (ws := wsLA) B.pre
  have hown : S.vm.findClass RL = some mM.cls := findClass_of_methodNamed B.named
  have hl := lv_entry ([.ref (w.2.2 0), .int cd, .int p, .ref qo]) (n := 5) (Nat.le_of_ble_eq_true rfl)
  rw [lg_entry_eq]
  generalize (lg_sl ([.ref (w.2.2 0), .int cd, .int p, .ref qo]) ++ List.replicate (5 - (lg_sl ([.ref (w.2.2 0), .int cd, .int p, .ref qo])).length) Slot.unset).toArray = ls at hl ⊢
  have hl : lv_has ls 5 [(0, .ref (w.2.2 0)), (1, .int cd), (2, .int p), (3, .ref qo)] := hl
  have hP : va_P w.1 vwCl (wC w c t r s) S.heap := hP
  have hPo : va_P w.1 vwCl [(qo, .inl (w.2.1 3, 1, .inr (.inl f)))] S.heap := hPo
  have hS : va_S (fun q => q = qo) S.heap S.heap [] := va_S.rf
  refine lv_aload_n hx hb dL_at_0 rfl (lv_at hl 3 rfl) ?_
  refine lv_iconst (v := 0) hx hb dL_at_1 (by decide) ?_
  refine lv_aload_n hx hb dL_at_2 rfl (lv_at hl 0 rfl) ?_
  refine lv_iload_n hx hb dL_at_3 rfl (lv_at hl 1 rfl) ?_
  refine lv_iload_n hx hb dL_at_4 rfl (lv_at hl 2 rfl) ?_
  refine xR_i (va_runV (As := [.int cd, .int p]) (rest := [.int 0, .ref qo]) ⟨hx, hb, hml, hown, hts⟩ (c_X4_at l w c t r s cd p hh hb0 hb1) (cwV 2 hts gLA_X4_at rfl rfl rfl (by decide +kernel) ⟨Nat.le_of_ble_eq_true rfl, Nat.le_of_ble_eq_true rfl⟩) (wPreV hP hK (ci := 5) (q0 := 0) rfl rfl) rfl rfl hl.1 rfl (lv_room (Nat.le_of_ble_eq_true rfl)) dL_at_5 ⟨Nat.zero_le _, Nat.zero_le _⟩) ?_
  refine lv_i2l hx hb dL_at_8 rfl ?_
  refine va_last hx hb hK.1 hPo (D_one _ _) hS 0 3 rfl rfl (vp_in_nI (n := 0) (by decide) (by decide)) dL_at_9 (fun H locs hPo _ hS => ?_)
  refine lv_goto (tgt := 17) hx hb dL_at_10 (by decide) ?_
  refine lv_iconst (v := 0) hx hb dL_at_17 (by decide) ?_
  exact xM_iret hx hb hr hlk hS rfl hPo dL_at_18
set_option maxHeartbeats 4000000 in
set_option maxRecDepth 100000 in
theorem c_L_at_thr (l : Launch) (hfl : l.flags = pinnedFlags ++ [noTraceFlag]) (w : WG) (c : CS) (t : TS) (r : RS) (s : Nat → SS) (cd p : Int32) (hh : G_X2_holds p = 0) (s0 : State) (A0 : Array Value) (hat : ∀ a ∈ Bundle.ownAtoms0 RX4 94 nE nms, a.before A0 s0 = true) (qo : Nat) : Met l yL_at wsLA { frames := 10, cells := 1, slots := 6, locals := 250 } (va_Pc [.ref (w.2.2 0), .int cd, .int p, .ref qo] (fun U => wPK w (wC w c t r s) U ∧ bS s0 U)) (xM (some (.int 1)) (fun _ => True) xNo) 1 6 xNo := by
  refine va_MetW (cc := cL_at) (maxL := 5) (ret := some .int) (hh := [(0, 10, 13, 13)]) (by decide) rfl ?_
  intro pP eE S mM args below meth C s₁ B hml hv
  obtain ⟨rfl, ⟨hP, hK⟩, hbs⟩ := hv
  have hx := B.exec
  have hb := B.bytes
  have hr := B.returns
  have hlk := B.notSynchronized
  have hts := atoms_spec (ws := wsLA) B.pre
  have hown : S.vm.findClass RL = some mM.cls := findClass_of_methodNamed B.named
  have hnm := B.named
  have hl := lv_entry ([.ref (w.2.2 0), .int cd, .int p, .ref qo]) (n := 5) (Nat.le_of_ble_eq_true rfl)
  rw [lg_entry_eq]
  generalize (lg_sl ([.ref (w.2.2 0), .int cd, .int p, .ref qo]) ++ List.replicate (5 - (lg_sl ([.ref (w.2.2 0), .int cd, .int p, .ref qo])).length) Slot.unset).toArray = ls at hl ⊢
  have hl : lv_has ls 5 [(0, .ref (w.2.2 0)), (1, .int cd), (2, .int p), (3, .ref qo)] := hl
  have hP : va_P w.1 vwCl (wC w c t r s) S.heap := hP
  refine lv_aload_n hx hb dL_at_0 rfl (lv_at hl 3 rfl) ?_
  refine lv_iconst (v := 0) hx hb dL_at_1 (by decide) ?_
  refine lv_aload_n hx hb dL_at_2 rfl (lv_at hl 0 rfl) ?_
  refine lv_iload_n hx hb dL_at_3 rfl (lv_at hl 1 rfl) ?_
  refine lv_iload_n hx hb dL_at_4 rfl (lv_at hl 2 rfl) ?_
  intro T hT X
  have wd : ∀ q ∈ wsV RL 7 RX4 yX4_at wsX4_at, q.before ([.ref (w.2.2 0), .int cd, .int p, .ref qo] : List Value).toArray S = true := fun q hq => hts q (gLA_X4_at q hq).1
  have hcode : (Cond.code yX4_at cX4_at 3 (some .byte)).before ([.ref (w.2.2 0), .int cd, .int p, .ref qo] : List Value).toArray S = true := wd _ (List.mem_append_right _ List.mem_cons_self)
  have hini4 : (Cond.initialized RX4).before ([.ref (w.2.2 0), .int cd, .int p, .ref qo] : List Value).toArray S = true := wd _ (by simp [wsV])
  have hy : yX4_at.cls ≠ "java/lang/invoke/MethodHandle" ∧ yX4_at.cls ≠ "java/lang/invoke/VarHandle" := by decide +kernel
  obtain ⟨mk, methM, hnamed, hmethM, hstM, habM⟩ := Cond.instanceMethod_spec (wd (.instanceMethod yX4_at) (by simp [wsV]))
  obtain ⟨methM', cM, hmethM', hcM, -, hlM, -, -, -, hsigM⟩ := Cond.code_spec hnamed hcode
  cases hmethM.symm.trans hmethM'
  obtain ⟨cellB, hcB, hoB, hclB⟩ := va_recv hK.1 hP (ci := 5) (q0 := 0) rfl rfl
  obtain ⟨c2, r2, m2, q1, q2, q3, q4, kP, hkP, hkPi⟩ := Cond.selects_spec (wd (.selects RX4 yX4_at yX4_at) (by simp [wsV]))
  cases hclB.symm.trans q1
  cases (State.methodFound?_of_named hnamed hy).symm.trans q2
  cases hnamed.symm.trans q3
  have hselP : selectMethod eE.platform S.vm cellB.cls mk = .method mk := by rw [Launch.admits_selectMethod X.admits]; exact q4
  obtain ⟨vm₁, X₁, hstep₁⟩ := X.invokevirtual hx hown (wd (.methodLink RL 7 yX4_at) (by simp [wsV])) hnamed hmethM hstM hkP hkPi hy (a := w.2.2 0) (cell := cellB) (by rw [hT]; exact hcB) (fun z h => by rw [h] at hoB; cases hoB) hselP hmethM habM hkP hkPi (g := F0 mM 5 ls [.int p, .int cd, .ref (w.2.2 0), .int 0, .ref qo]) rfl (argsL := [.int cd, .int p]) (rest := [.int 0, .ref qo]) (by
    have : (parseMethodDescriptor yX4_at.desc).map (fun d => d.parameters.length) = some 2 := by decide +kernel
    rw [hsigM] at this
    exact (Option.some.inj this).symm) rfl (by rw [hb]; exact dL_at_5)
  have hn1 : (T.setVm vm₁).methodNamed? yX4_at = some mk := X₁.named hnamed
  have hAt : At (T.setVm vm₁) (F0 mM 5 ls [.int 0, .ref qo]).method C below := X₁.here
  have w1 : ∀ q ∈ wsX4_at, q.before ([.ref (w.2.2 0), .int cd, .int p] : List Value).toArray (T.setVm vm₁) = true := fun q hq => pay_in hts gLA_X4 q hq _ _ X₁.warmed
  obtain ⟨methY, cY, hmY, hcY, -, hlY, -, -, -, -⟩ := Cond.code_spec hn1 (w1 _ List.mem_cons_self)
  obtain ⟨kY, hkY, -⟩ := className_of_methodNamed hn1
  have hinitY : kY.init = .initialized := Cond.initialized_spec (findClass_of_methodNamed hn1) hkY (word_at (a' := #[]) X₁.warmed (Or.inl rfl) hini4)
  have happ : (headSpec wsX4_at { frames := 8, cells := 1, slots := 6, locals := 150 }).appliesLoose yX4_at eE.platform ((T.setVm vm₁).calling (F0 mM 5 ls [.int 0, .ref qo]) mk ([.ref (w.2.2 0), .int cd, .int p] : List Value).toArray) = true :=
    Spec.appliesLoose_calling (g := F0 mM 5 ls [.int 0, .ref qo]) hAt (by rw [hb]; exact dL_at_5) hn1 hkY hinitY
      (X₁.room_calling (g := F0 mM 5 ls [.int 0, .ref qo]) (R' := { frames := 8, cells := 1, slots := 6, locals := 150 }) (by rw [hml]; exact hl.1) hmY hcY (Nat.le_of_ble_eq_true rfl) (by rw [hlY]; exact Nat.le_of_ble_eq_true rfl) (Nat.le_of_ble_eq_true rfl) (Nat.le_of_ble_eq_true rfl)) (atoms_intro w1)
  obtain ⟨mid, hmid⟩ := hAt.above
  have hfr : ((T.setVm vm₁).setTop (F0 mM 5 ls [.int 0, .ref qo])).frames = (.java (F0 mM 5 ls [.int 0, .ref qo]) :: mid) ++ below := by rw [State.frames_setTop' _ hAt.top, hmid]; rfl
  obtain ⟨o, s₂, hsteps, -, hend, hq⟩ := Steps.callFree (t_X4_at l hfl w c t r s cd p hh s0 A0 hat) pP X₁.admits X₁.cas X₁.clock (acts := []) hfr happ ⟨rfl, ⟨by show va_P w.1 vwCl (wC w c t r s) T.heap; rw [hT]; exact hP, hK.moved X₁.warmed⟩, State.WarmedH.trans hbs.1 X₁.warmed, fun q z hz => by show T.heap[q]? = some z; rw [hT]; exact hbs.2 q z hz⟩ trivial
  have hq' : thrE ([.ref (w.2.2 0), .int cd, .int p] : List Value).toArray ((T.setVm vm₁).calling (F0 mM 5 ls [.int 0, .ref qo]) mk ([.ref (w.2.2 0), .int cd, .int p] : List Value).toArray) o s₂ := hq
  rw [State.frames_setTop' _ hAt.top] at hend
  have htl : (T.setVm vm₁).frames.tail = below := X₁.tail
  rw [htl] at hend
  obtain ⟨x, ce, rfl, hW2, hsame, hce, hcv, hcc⟩ := hq'
  obtain ⟨T', X', hWT, hBT, ht⟩ := X₁.outOfThrown rfl hend hW2 hsame
  have hce' : T'.heap[x]? = some ce := by
    have e1 : s₂.heap = T'.heap := by rw [ht]; exact Stand.throwing_heap T' _ x
    rw [← e1]
    exact hce
  obtain ⟨m9, methL, cL, hnL, hmL, hcL, -, -, hexc, -⟩ := Cond.codeWith_spec (hts _ List.mem_cons_self)
  cases hnm.symm.trans hnL
  cases X'.method.symm.trans hmL
  cases X'.code.symm.trans hcL
  obtain ⟨en, hen, he1, he2, he3, he4⟩ : ∃ en, C.exceptionTable.toList = [en] ∧ en.startPc = 0 ∧ en.endPc = 10 ∧ en.handlerPc = 13 ∧ en.catchType = 13 := by
    generalize C.exceptionTable.toList = L at hexc
    match L, hexc with
    | [en], h =>
      simp only [List.map_cons, List.map_nil, List.cons.injEq, Prod.mk.injEq, and_true] at h
      exact ⟨en, rfl, h⟩
    | [], h => simp at h
    | _ :: _ :: _, h => simp at h
  have hcc' : S.vm.findClass nE = some ce.cls := by
    have e1 : vm₁.findClass nE = S.vm.findClass nE := X₁.warmed.alike.findClass nE _
    rw [← e1]
    exact hcc
  obtain ⟨vm2, X2, hcatch⟩ := x_catch X' x (g := F0 mM 5 ls [.int 0, .ref qo]) rfl hown (name := nE) en hen (by simp [covers, he1, he2]) (by rw [he4]; decide) (by rw [he4]; exact hts _ (List.mem_append_right _ List.mem_cons_self)) hce' hcv hcc'
  obtain ⟨k1, k2⟩ := sbn_keep hBT
  have hF : ∀ t' : State, t'.heap = T'.heap → va_F xNo S t' := fun t' ht' => by
    have hTS : T.heap = S.heap := hT
    refine ⟨?_, fun q hq _ => ?_⟩
    · rw [ht', ← hTS]
      exact k1
    · rw [ht']
      obtain ⟨z, hz⟩ : ∃ z, S.heap[q]? = some z := ⟨S.heap[q], Array.getElem?_eq_getElem hq⟩
      rw [hz]
      exact k2 q z (by show T.heap[q]? = some z; rw [hTS]; exact hz)
  have K : W pP l eE { frames := 10, cells := 1, slots := 6, locals := 250 } S mM ([.ref (w.2.2 0), .int cd, .int p, .ref qo] : List Value).toArray below meth C T'.heap [] 1 6 (MQ below (xM (some (.int 1)) (fun _ => True) xNo) ([.ref (w.2.2 0), .int cd, .int p, .ref qo] : List Value).toArray S 1 6 xNo) (F0 mM 13 ls [.ref x]) := by
    refine lv_astore (lv' := [(4, .ref x), (0, .ref (w.2.2 0)), (1, .int cd), (2, .int p), (3, .ref qo)]) hx hb dL_at_13 hl (by decide) rfl (fun ls hl => ?_)
    refine lv_iconst (v := 1) hx hb dL_at_15 (by decide) ?_
    exact W.iret hx hb hr (fun t' ht' _ => ⟨rfl, trivial, hF t' ht'⟩) (fun q h => by cases h) dL_at_16 hlk
  obtain ⟨tt, a1, b1⟩ := K (T'.setVm vm2) rfl X2
  refine ⟨tt, hstep₁ _ (fun acts => ?_), b1⟩
  rw [doInvoke_state]
  refine Steps.trans hsteps ?_
  rw [ht]
  refine hcatch tt ?_
  rw [he3]
  exact a1
