/-! the exception: made in the class, caught in the law -/
abbrev nE : String := "java/lang/ArrayIndexOutOfBoundsException"
abbrev nms : List String := ["java/lang/IndexOutOfBoundsException", "java/lang/RuntimeException", "java/lang/Exception"]
theorem trOff {l : Launch} {e : Env} (hf : l.flags = pinnedFlags ++ [noTraceFlag]) (ha : l.admits e) : e.platform.stackTraces = false := by
  obtain ⟨-, -, -, -, hp, -⟩ := ha
  rw [hp]
  show l.stackTraces = false
  unfold Launch.stackTraces
  rw [hf]
  decide
/-- since s0 no old cell has changed, and its tables are those of s0, warmer -/
def bS (s0 U : State) : Prop := s0.WarmedH U.vm ∧ ∀ (q : Nat) (c : Cell), s0.heap[q]? = some c → U.heap[q]? = some c
def okAt (a : Cond) : Bool := (a.onTables && a.keeps) || (a.onTables && a.keepsFace) || match a with
  | .isRef (.static _ _ _) => true
  | .laysStatic _ _ _ => true
  | _ => false
theorem okAt_own : ∀ a ∈ Bundle.ownAtoms0 RX4 94 nE nms, okAt a = true := by decide +kernel
theorem ls_keep {C n d : String} {A A' : Array Value} {S1 S2 : State} (hv : S2.vm = S1.vm) (hh : ∀ (q : Nat) (c : Cell), S1.heap[q]? = some c → S2.heap[q]? = some c) (h : (Cond.laysStatic C n d).before A S1 = true) : (Cond.laysStatic C n d).before A' S2 = true := by
  have e1 : S2.fieldFound? C n d = S1.fieldFound? C n d := by
    unfold State.fieldFound?
    rw [hv]
  simp only [Cond.before, Cond.holds, Cond.value] at h ⊢
  rw [hv, e1]
  cases h1 : S1.vm.findClass C with
  | none => simp [h1] at h
  | some c =>
    cases h2 : S1.fieldFound? C n d with
    | none => simp [h1, h2] at h
    | some r =>
      obtain ⟨c', k, i, f⟩ := r
      simp only [h1, h2] at h ⊢
      cases h3 : k.statics with
      | none => simp [h3] at h
      | some a =>
        simp only [h3, Option.bind_some] at h ⊢
        cases h4 : S1.heap[a]? with
        | none => simp [h4] at h
        | some cell =>
          rw [hh a cell h4]
          rw [h4] at h
          exact h
theorem ir_keep {C n d : String} {A A' : Array Value} {S1 S2 : State} (hv : S2.vm = S1.vm) (hh : ∀ (q : Nat) (c : Cell), S1.heap[q]? = some c → S2.heap[q]? = some c) (h : (Cond.isRef (.static C n d)).before A S1 = true) : (Cond.isRef (.static C n d)).before A' S2 = true := by
  have e1 : S2.fieldFound? C n d = S1.fieldFound? C n d := by
    unfold State.fieldFound?
    rw [hv]
  simp only [Cond.before, Cond.holds, Cond.value, Term.eval, State.fieldNamed?] at h ⊢
  rw [e1]
  cases h2 : S1.fieldFound? C n d with
  | none => simp [h2] at h
  | some r =>
    obtain ⟨c', k, i, f⟩ := r
    simp only [h2] at h ⊢
    by_cases hst : f.isStatic = true
    · simp only [hst, beq_self_eq_true, if_true, Option.bind_eq_bind, Option.pure_def, Option.bind_some] at h ⊢
      cases h3 : k.statics with
      | none => simp [h3] at h
      | some a =>
        simp only [h3, Option.bind_some] at h ⊢
        cases h4 : S1.heap[a]? with
        | none => simp [h4] at h
        | some cell =>
          rw [hh a cell h4]
          rw [h4] at h
          exact h
    · simp [hst] at h
theorem at_keep {s0 U : State} (hb : bS s0 U) {a : Cond} (ho : okAt a = true) {A A' : Array Value} (h : a.before A s0 = true) : a.before A' U = true := by
  unfold okAt at ho
  rw [Bool.or_eq_true, Bool.or_eq_true] at ho
  rcases ho with (ho | ho) | ho
  · exact word_at hb.1 (Or.inl ho) h
  · rw [Bool.and_eq_true] at ho
    have h1 : a.before A (s0.setVm U.vm) = true := Cond.before_shiftedFace (State.Shifted.of_warmed hb.1) a ho.2 h
    have h2 := Cond.onTables_vm (A := A) (A' := A') (U := s0) (U' := U) U.vm a ho.1
    rw [h2, State.setVm_self] at h1
    exact h1
  · match a, ho, h with
    | .isRef (.static C n d), _, h =>
      have h1 : (Cond.isRef (.static C n d)).before A (s0.setVm U.vm) = true := Cond.holds_shifted (State.Shifted.of_warmed hb.1) (.isRef (.static C n d)) [] rfl h
      exact ir_keep (S1 := s0.setVm U.vm) rfl hb.2 h1
    | .laysStatic C n d, _, h =>
      have h1 : (Cond.laysStatic C n d).before A (s0.setVm U.vm) = true := Cond.holds_shifted (State.Shifted.of_warmed hb.1) (.laysStatic C n d) [] rfl h
      exact ls_keep (S1 := s0.setVm U.vm) rfl hb.2 h1
/-- what a throwing end leaves -/
def thrE (_ : Array Value) (st : State) (o : Outcome) (t : State) : Prop := ∃ (x : Addr) (ce : Cell), o = .threw x ∧ st.WarmedH t.vm ∧ st.sameButNew ({ t with vm := st.vm } : State) [] 1 6 ∧ t.heap[x]? = some ce ∧ ce.vm = .none ∧ st.vm.findClass nE = some ce.cls
theorem xOfT {l : Launch} {y : MethodName} {ws ws' : List Cond} {rm : Room} {Wd : State → Prop} {Qc : Array Value → State → Outcome → State → Prop} {cc : ByteArray} {maxL : Nat} {ret : Option FieldType} {As : List Value} {lv : List (Nat × Value)}
    (hy : plainName y.cls = true) (hw : ws = Cond.code y cc maxL ret :: ws') (hlen : (lg_sl As).length ≤ maxL) (hlv : lv_args 0 As = lv)
    (body : ∀ (p : Program) (e : Env) (s : State) (m : MethodId) (below : List Frame) (meth : Method) (c : Code), p.tables.exec = Jvm.exec → c.code = cc → meth.sig.returnType = ret → c.maxLocals = maxL → (∀ w ∈ ws, w.before As.toArray s = true) → s.vm.findClass y.cls = some m.cls → meth.locks = false → s.methodNamed? y = some m → Wd s → ∀ ls : Array Slot, lv_has ls maxL lv →
      W p l e rm s m As.toArray below meth c s.heap [] 0 0 (fun t => ∃ o, t.status = .running ∧ Ended t below o ∧ Qc As.toArray s o t) (F0 m 0 ls [])) : MetFree l y (headSpec ws rm) (va_Pc As Wd) (fun _ _ _ _ _ => True) Qc := by
  refine MetFree.of_bodyS (code := cc) (maxLocals := maxL) (ret := ret) hy ?_ ?_
  · intro args s m h hn
    obtain ⟨meth, c, h1, h2, h3, h4, h5, h6, -, -⟩ := Cond.code_spec hn (atoms_spec (ws := ws) h _ (by rw [hw]; exact List.mem_cons_self))
    exact ⟨meth, c, h1, h2, h3, h4, h5, h6⟩
  · intro p e s m args below meth c s₁ B hml hP _
    obtain ⟨rfl, hP⟩ := hP
    have hh0 : s₁.heap = s.heap := by rw [B.state]; rfl
    have hl := lv_entry As (n := maxL) hlen
    subst hlv
    have K := body p e s m below meth c B.exec B.bytes B.returns hml (atoms_spec (ws := ws) B.pre) (findClass_of_methodNamed B.named) B.notSynchronized B.named hP _ hl
    rw [← lg_entry_eq] at K
    obtain ⟨t, a1, o, b1, b2, b3⟩ := K s₁ hh0 (Stand.of_body B)
    exact ⟨t, o, a1, b1, b2, b3⟩
set_option maxHeartbeats 4000000 in
set_option maxRecDepth 100000 in
theorem t_X4_at (l : Launch) (hfl : l.flags = pinnedFlags ++ [noTraceFlag]) (w : WG) (c : CS) (t : TS) (r : RS) (s : Nat → SS) (cd p : Int32) (hh : G_X2_holds p = 0) (s0 : State) (A0 : Array Value) (hat : ∀ a ∈ Bundle.ownAtoms0 RX4 94 nE nms, a.before A0 s0 = true) : MetFree l yX4_at (headSpec wsX4_at { frames := 8, cells := 1, slots := 6, locals := 150 }) (va_Pc [.ref (w.2.2 0), .int cd, .int p] (fun U => wPK w (wC w c t r s) U ∧ bS s0 U)) (fun _ _ _ _ _ => True) thrE := by
  refine xOfT (cc := cX4_at) (maxL := 3) (ret := some .byte) (lv := [(0, .ref (w.2.2 0)), (1, .int cd), (2, .int p)]) (by decide) rfl (Nat.le_of_ble_eq_true rfl) rfl ?_
  intro pP eE S mM below meth C hx hb hr hml hts hown hlk hnm hw ls hl
  obtain ⟨⟨hP, hK⟩, hbs⟩ := hw
  have hP : va_P w.1 vwCl (wC w c t r s) S.heap := hP
  refine lv_iload_n hx hb dX4_at_0 rfl (lv_at hl 2 rfl) ?_
  refine xR_i (va_runS (As := [.int p]) (rest := []) ⟨hx, hb, hml, hown, hts⟩ (c_X2_holds l w c t r s p) (va_cwS 1 hts gX4_at_X2_holds rfl rfl rfl ds_X2_holds ⟨Nat.le_of_ble_eq_true rfl, Nat.le_of_ble_eq_true rfl⟩) (wPre hP hK) rfl rfl hl.1 rfl (lv_room (Nat.le_of_ble_eq_true rfl)) dX4_at_1 ⟨Nat.zero_le _, Nat.zero_le _⟩) ?_
  refine lv_if_ne (tgt := 15) hx hb dX4_at_4 (by decide) (fun b1 => absurd hh b1) (fun b1 => ?_)
  refine W.newc (C := RJx00060) (n := 6) hx hb hown (hts (.classLink RX4 92 RJx00060) (by decide +kernel)) (hts (.instantiable RJx00060 6) (by decide +kernel)) (hts (.initialized RJx00060) (by decide +kernel)) rfl dX4_at_7 (by decide) (by decide) (fun cX kX hfX hkX hord hsz => ?_)
  refine W.eq (g2 := F0 mM 10 ls [.ref S.heap.size]) rfl ?_
  refine lv_dup hx hb dX4_at_10 rfl ?_
  intro T hT X
  obtain ⟨meth', C', h1, h2, -, -, -, -, hemp, -⟩ := Cond.code_spec hnm (hts _ (List.mem_cons_self))
  cases X.method.symm.trans h1
  cases X.code.symm.trans h2
  have hout : ∀ x ∈ C.exceptionTable.toList, covers x (11 + 3) = false := by
    intro x hx
    have h0 : C.exceptionTable.size = 0 := by simpa [Array.isEmpty] using hemp
    have h1 : C.exceptionTable.toList = [] := List.eq_nil_of_length_eq_zero (by simpa using h0)
    rw [h1] at hx
    cases hx
  obtain ⟨U, st, run, ended, hW, hsame, ce, hce, hoc⟩ := X.ctorThrow0 hx (trOff hfl X.admits) (own := RX4) (cls := nE) (names := nms) (ic := 94) hown (by decide) (by decide) (fun a ha => at_keep hbs (okAt_own a ha) (hat a ha)) (fun x hx => by cases hx) (a := S.heap.size) hfX hkX (by rw [hT]; exact Array.getElem?_push_size) (Nat.le_refl _) (g := F0 mM 11 ls [.ref S.heap.size, .ref S.heap.size]) rfl (by rw [hml]; exact hl.1) rfl rfl (rest := []) rfl (by rw [hb]; exact dX4_at_11) (by rw [hb]; exact dX4_at_14) hout (by decide) (Nat.le_of_ble_eq_true rfl) hlk
  exact ⟨U, st, .threw S.heap.size, run, ended, S.heap.size, ce, rfl, hW, hsame, hce, hoc.vm, hoc.cls⟩
