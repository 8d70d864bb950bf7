/-! the law: its end, its start, the worlds of the class and of the model beside each other -/
def R_law : String := "ProcedureCodeLaw"
def lw_P (b : Addr) (xs : List Int32) (args : Array Value) (s : State) : Prop := args = #[.ref b] ∧ s.IntsAt b xs ∧ xs.length ≤ 2048 ∧ (Jvm.Cond.and given_1 narrow_1).before args s = true
def lw_Q (_ : Array Value) (s : State) (o : Outcome) (t : State) : Prop := o = .returned (some (.int 1)) ∧ Framed s o t [] 601024 7293034
def lw_Z (below : List Frame) (a : Array Value) (s : State) : State → Prop := fun t => ∃ o, t.status = .running ∧ Ended t below o ∧ lw_Q a s o t
theorem lw_ret {p : Program} {l : Launch} {e : Env} {s : State} {m : MethodId} {below : List Frame} {meth : Method} {c : Code} {b : Nat} (hx : p.tables.exec = Jvm.exec) (hb : c.code = code) (hr : meth.sig.returnType = ret) (hlocks : meth.locks = false) {pc : Nat} {H : Heap} {ls : Array Slot} (hdg : decode code pc = .ok (.ireturn, 1)) : W p l e room_1 s m #[Value.ref b] below meth c H [] 601024 7293034 (lw_Z below #[Value.ref b] s) (F0 m pc ls [.int 1]) := by
  intro T hT X
  obtain ⟨fs, hret, hrun, hended, hW, hframe⟩ := X.leave (v := some (.int 1)) (hlocks := hlocks) (fun h => by rw [hr] at h; cases h)
  have hmeth' : T.vm.method? m = some meth := X.method'
  refine ⟨T.setFrames fs, ?_, .returned (some (.int 1)), hrun, hended, rfl, ⟨_, rfl⟩, hW, hframe⟩
  jvm_step X.here [X.here.top, hx, hb, hdg, hmeth', hr, ret, narrow_b1]
  (try refine ⟨rfl, ?_⟩); (try refine ⟨rfl, ?_⟩)
  first | (intro acts; rw [hret _ acts rfl rfl rfl]) | rw [hret _ _ rfl rfl rfl]
  exact Steps.refl _
def lw_At (p : Program) (s : State) (m : MethodId) (meth : Method) (c : Code) (b L : Nat) (xs : Nat → Int32) : Prop :=
  p.tables.exec = Jvm.exec ∧ c.code = code ∧ meth.sig.returnType = ret ∧ c.maxLocals = 7 ∧ s.vm.findClass R_law = some m.cls ∧ (∀ w ∈ lw_tbl, w.before #[Value.ref b] s = true) ∧ va_X b L xs s s.heap ∧ b < s.heap.size ∧ meth.locks = false ∧ (Jvm.Cond.and given_1 narrow_1).before #[Value.ref b] s = true
/-- the law's own area: what it has made -/
abbrev lwA (s : State) : Nat → Prop := fun q => s.heap.size ≤ q
/-- the two worlds and the cell of out, side by side -/
def LI (s : State) (D : va_G) (ty : Nat → ClassId) (u1 u2 : Nat → Nat) (qo : Nat) (c : CS) (t : TS) (r : RS) (sS : Nat → SS) (me : ME) (mb : AI) (mc : MC) (mt : MT) (mk : MK) (mr : MR) (mq : MQS) (mv : MV) (f : AL) (H : Heap) (locs : List Loc) : Prop :=
  va_P D vwCl (wC (D, ty, u1) c t r sS) H ∧ va_P D vwCl (wM (D, ty, u2) me mb mc mt mk mr mq mv) H ∧ va_P D vwCl [(qo, .inl (ty 3, 1, .inr (.inl f)))] H ∧ va_S (lwA s) s.heap H locs
/-- the addresses are apart, and the law's own -/
def LF (s : State) (D : va_G) (ty : Nat → ClassId) (u1 u2 : Nat → Nat) (qo : Nat) : Prop :=
  wAp (D, ty, u1) 26 ∧ wAp (D, ty, u2) 25 ∧ (∀ i j : Nat, i < 26 → j < 25 → u1 i ≠ u2 j) ∧ (∀ i : Nat, i < 26 → u1 i ≠ qo) ∧ (∀ j : Nat, j < 25 → u2 j ≠ qo) ∧ (∀ i : Nat, i < 26 → s.heap.size ≤ u1 i) ∧ (∀ j : Nat, j < 25 → s.heap.size ≤ u2 j) ∧ s.heap.size ≤ qo
section XL
variable {p : Program} {l : Launch} {e : Env} {R : Room} {s : State} {m : MethodId} {args : Array Value} {below : List Frame} {meth : Method} {c : Code} {H : Heap} {locs : List Loc} {cells slots : Nat} {Q : State → Prop}
variable {pc : Nat} {ls : Array Slot} {rest st0 : List Value} {a : Array Value} {A : Nat → Prop} {H0 : Heap} {cc : ByteArray}
theorem xL_go {A1 : Nat → Prop} {mcc mss : Nat} {o : Option Value} {Wd : Heap → Prop} {st1 : List Value} (hr : va_Run p l e R s m args below meth c H locs cells slots mcc mss (F0 m pc ls st0) rest (xM o Wd A1 a) A1) (hS : va_S A H0 H locs) (hA : ∀ q, A1 q → A q) (he : o.toList ++ rest = st1)
    (kk : ∀ (H1 : Heap) (locs1 : List Loc), Wd H1 → va_S A H0 H1 locs1 → (∀ q : Nat, q < H.size → ¬ A1 q → H1[q]? = H[q]?) → W p l e R s m args below meth c H1 locs1 (cells + mcc) (slots + mss) Q (F0 m (pc + 3) ls st1)) : W p l e R s m args below meth c H locs cells slots Q (F0 m pc ls st0) := by
  subst he
  intro T hT X
  obtain ⟨v, st₀, t, T', L, h0, X', hL, e1, e2, ⟨hv, hw, hz, hk⟩, st⟩ := hr T hT X
  cases hv
  subst h0
  obtain ⟨t2, a1, b1⟩ := kk T'.heap (locs ++ L) (by rw [e1]; exact hw)
    ⟨Nat.le_trans hS.1 (by rw [e1]; exact hz), fun q h1 h2 => by rw [e1, hk q (Nat.lt_of_lt_of_le h1 hS.1) (fun h => h2 (hA q h))]; exact hS.2.1 q h1 h2, fun q hq => by
      rcases List.mem_append.mp hq with h | h
      · exact hS.2.2 q h
      · exact hA _ (hL q h)⟩ (fun q h1 h2 => by rw [e1]; exact hk q h1 h2) T' rfl X'
  exact ⟨t2, st t2 a1, b1⟩
/-- words kept where nothing was touched -/
theorem P_frame {D : va_G} {cl : List vw_C} {ws : va_W} {H H1 : Heap} {A1 B : Nat → Prop} (hP : va_P D cl ws H) (hB : ∀ (k : Nat) (q : Nat × va_E), ws[k]? = some q → B q.1) (hd : ∀ q, B q → ¬ A1 q) (hk : ∀ q : Nat, q < H.size → ¬ A1 q → H1[q]? = H[q]?) : va_P D cl ws H1 :=
  hP.kept fun k q hq => hk q.1 (hP k q hq).lt (hd _ (hB k q hq))
variable {D : va_G} {ty : Nat → ClassId} {u1 u2 : Nat → Nat} {qo : Nat} {cS : CS} {tS : TS} {rS : RS} {sS : Nat → SS} {me : ME} {mb : AI} {mc : MC} {mt : MT} {mk : MK} {mr : MR} {mq : MQS} {mv : MV} {f : AL}
variable {cS' : CS} {tS' : TS} {rS' : RS} {sS' : Nat → SS} {me' : ME} {mb' : AI} {mc' : MC} {mt' : MT} {mk' : MK} {mr' : MR} {mq' : MQS} {mv' : MV} {f' : AL}
theorem wC_in (k : Nat) (q : Nat × va_E) (hF : LF s D ty u1 u2 qo) (h : (wC (D, ty, u1) cS tS rS sS)[k]? = some q) : wA (D, ty, u1) 26 q.1 := (wC_D hF.1).2 k q h
theorem wM_in (k : Nat) (q : Nat × va_E) (hF : LF s D ty u1 u2 qo) (h : (wM (D, ty, u2) me mb mc mt mk mr mq mv)[k]? = some q) : wA (D, ty, u2) 25 q.1 := (wM_D hF.2.1).2 k q h
theorem wO_in (k : Nat) (q : Nat × va_E) (h : ([(qo, .inl (ty 3, 1, .inr (.inl f)))] : va_W)[k]? = some q) : q.1 = qo := (D_one qo (.inl (ty 3, 1, .inr (.inl f)))).2 k q h
/-- a call that writes the class's world -/
theorem xL_C {o : Option Value} {st1 : List Value} (hr : va_Run p l e R s m args below meth c H locs cells slots 0 0 (F0 m pc ls st0) rest (xM o (fun H => va_P D vwCl (wC (D, ty, u1) cS' tS' rS' sS') H) (wA (D, ty, u1) 26) a) (wA (D, ty, u1) 26)) (hF : LF s D ty u1 u2 qo) (hI : LI s D ty u1 u2 qo cS tS rS sS me mb mc mt mk mr mq mv f H locs) (he : o.toList ++ rest = st1)
    (kk : ∀ (H1 : Heap) (locs1 : List Loc), LI s D ty u1 u2 qo cS' tS' rS' sS' me mb mc mt mk mr mq mv f H1 locs1 → W p l e R s m args below meth c H1 locs1 cells slots Q (F0 m (pc + 3) ls st1)) : W p l e R s m args below meth c H locs cells slots Q (F0 m pc ls st0) := by
  obtain ⟨hPc, hPm, hPo, hS⟩ := hI
  refine xL_go hr hS (fun q h => by obtain ⟨i, hi, rfl⟩ := h; exact hF.2.2.2.2.2.1 i hi) he (fun H1 locs1 hw hS1 hk => kk H1 locs1 ⟨hw, ?_, ?_, hS1⟩)
  · refine P_frame hPm (fun k q h => wM_in k q hF h) ?_ hk
    rintro q ⟨j, hj, rfl⟩ ⟨i, hi, h⟩
    exact hF.2.2.1 i j hi hj h.symm
  · refine P_frame (B := fun q => q = qo) hPo (fun k q h => wO_in k q h) ?_ hk
    rintro q rfl ⟨i, hi, h⟩
    exact hF.2.2.2.1 i hi h.symm
/-- a call that writes the model's world -/
theorem xL_M {o : Option Value} {st1 : List Value} (hr : va_Run p l e R s m args below meth c H locs cells slots 0 0 (F0 m pc ls st0) rest (xM o (fun H => va_P D vwCl (wM (D, ty, u2) me' mb' mc' mt' mk' mr' mq' mv') H) (wA (D, ty, u2) 25) a) (wA (D, ty, u2) 25)) (hF : LF s D ty u1 u2 qo) (hI : LI s D ty u1 u2 qo cS tS rS sS me mb mc mt mk mr mq mv f H locs) (he : o.toList ++ rest = st1)
    (kk : ∀ (H1 : Heap) (locs1 : List Loc), LI s D ty u1 u2 qo cS tS rS sS me' mb' mc' mt' mk' mr' mq' mv' f H1 locs1 → W p l e R s m args below meth c H1 locs1 cells slots Q (F0 m (pc + 3) ls st1)) : W p l e R s m args below meth c H locs cells slots Q (F0 m pc ls st0) := by
  obtain ⟨hPc, hPm, hPo, hS⟩ := hI
  refine xL_go hr hS (fun q h => by obtain ⟨i, hi, rfl⟩ := h; exact hF.2.2.2.2.2.2.1 i hi) he (fun H1 locs1 hw hS1 hk => kk H1 locs1 ⟨?_, hw, ?_, hS1⟩)
  · refine P_frame hPc (fun k q h => wC_in k q hF h) ?_ hk
    rintro q ⟨j, hj, rfl⟩ ⟨i, hi, h⟩
    exact hF.2.2.1 j i hj hi h
  · refine P_frame (B := fun q => q = qo) hPo (fun k q h => wO_in k q h) ?_ hk
    rintro q rfl ⟨i, hi, h⟩
    exact hF.2.2.2.2.1 i hi h.symm
/-- a call that writes out alone -/
theorem xL_O {o : Option Value} {st1 : List Value} (hr : va_Run p l e R s m args below meth c H locs cells slots 0 0 (F0 m pc ls st0) rest (xM o (fun H => va_P D vwCl [(qo, .inl (ty 3, 1, .inr (.inl f')))] H) (fun q => q = qo) a) (fun q => q = qo)) (hF : LF s D ty u1 u2 qo) (hI : LI s D ty u1 u2 qo cS tS rS sS me mb mc mt mk mr mq mv f H locs) (he : o.toList ++ rest = st1)
    (kk : ∀ (H1 : Heap) (locs1 : List Loc), LI s D ty u1 u2 qo cS tS rS sS me mb mc mt mk mr mq mv f' H1 locs1 → W p l e R s m args below meth c H1 locs1 cells slots Q (F0 m (pc + 3) ls st1)) : W p l e R s m args below meth c H locs cells slots Q (F0 m pc ls st0) := by
  obtain ⟨hPc, hPm, hPo, hS⟩ := hI
  refine xL_go hr hS (fun q h => by subst h; exact hF.2.2.2.2.2.2.2) he (fun H1 locs1 hw hS1 hk => kk H1 locs1 ⟨?_, ?_, hw, hS1⟩)
  · refine P_frame hPc (fun k q h => wC_in k q hF h) ?_ hk
    rintro q ⟨i, hi, rfl⟩ h
    exact hF.2.2.2.1 i hi h
  · refine P_frame hPm (fun k q h => wM_in k q hF h) ?_ hk
    rintro q ⟨i, hi, rfl⟩ h
    exact hF.2.2.2.2.1 i hi h
/-- a call that writes nothing that was there, but makes cells -/
theorem xL_N {o : Option Value} {st1 : List Value} {k1 k2 : Nat} (hr : va_Run p l e R s m args below meth c H locs cells slots k1 k2 (F0 m pc ls st0) rest (xM o (fun _ => True) xNo a) xNo) (hI : LI s D ty u1 u2 qo cS tS rS sS me mb mc mt mk mr mq mv f H locs) (he : o.toList ++ rest = st1)
    (kk : ∀ (H1 : Heap) (locs1 : List Loc), LI s D ty u1 u2 qo cS tS rS sS me mb mc mt mk mr mq mv f H1 locs1 → W p l e R s m args below meth c H1 locs1 (cells + k1) (slots + k2) Q (F0 m (pc + 3) ls st1)) : W p l e R s m args below meth c H locs cells slots Q (F0 m pc ls st0) := by
  obtain ⟨hPc, hPm, hPo, hS⟩ := hI
  refine xL_go hr hS (fun q h => h.elim) he (fun H1 locs1 hw hS1 hk => kk H1 locs1 ⟨?_, ?_, ?_, hS1⟩)
  · exact P_frame (B := fun _ => True) hPc (fun _ _ _ => trivial) (fun _ _ h => h) hk
  · exact P_frame (B := fun _ => True) hPm (fun _ _ _ => trivial) (fun _ _ h => h) hk
  · exact P_frame (B := fun _ => True) hPo (fun _ _ _ => trivial) (fun _ _ h => h) hk
/-- a static call of a method with handlers -/
theorem callSW {T : State} {bytes : ByteArray} {maxL : Nat} {ret : Option FieldType} {hh : List (Nat × Nat × Nat × Nat)} {y : MethodName} (X : Stand p l e R s m args below meth c T locs cells slots) (hexec : p.tables.exec = Jvm.exec) {own : String} {index : Nat}
    (hown : s.vm.findClass own = some m.cls) (hlink : (Cond.methodLink own index y).before args s = true) (hstat : (Cond.static y).before args s = true) (hinit : (Cond.initialized y.cls).before args s = true)
    (hcode : (Cond.codeWith y bytes maxL ret hh).before args s = true) (hy : y.cls ≠ "java/lang/invoke/MethodHandle" ∧ y.cls ≠ "java/lang/invoke/VarHandle")
    {W : Nat} {Pre : Pt → Array Value → Prop} {Post : Pt → Array Value → Option Value → Pt → Prop} (hK : Back l R p e below s args y 3 W Pre Post)
    {g : JFrame} (hg : g.method = m) (hsize : g.locals.size = c.maxLocals) {argsL rest : List Value} (hlen : ∀ sig, parseMethodDescriptor y.desc = some sig → argsL.length = sig.parameters.length)
    (hstack : g.stack = argsL.reverse ++ rest) (hW : 2 * g.monitorRoom + (rest.map fun v => v.category).sum ≤ W) (hdg : decode c.code g.pc = .ok (.invokestatic index, 3))
    (hpre : ∀ vm₁, s.WarmedH vm₁ → Pre ⟨T.setVm vm₁, locs, cells, slots⟩ argsL.toArray) :
    ∃ (v : Option Value) (vm₁ : Vm) (B : Pt), s.WarmedH vm₁ ∧ Stand p l e R s m args below meth c B.U B.locs B.cells B.slots ∧ Post ⟨T.setVm vm₁, locs, cells, slots⟩ argsL.toArray v B ∧
      ∀ target, Steps p.tables e below (B.U.setTop { g with pc := g.pc + 3, stack := v.toList ++ rest }) target → Steps p.tables e below (T.setTop g) target := by
  obtain ⟨mk, methM, cM, hnamed, hmethM, -, -, -, -, -, -, hsigM⟩ := Cond.codeWith_spec hcode
  have hstatic : methM.isStatic = true := Cond.static_spec hnamed hmethM hstat
  obtain ⟨kP, hkP, -⟩ := className_of_methodNamed hnamed
  have hinitP : kP.init = .initialized := Cond.initialized_spec (findClass_of_methodNamed hnamed) hkP hinit
  obtain ⟨vm₁, X₁, hstep₁⟩ := X.invokestatic hexec hown hlink hnamed hmethM hstatic hkP hinitP hy (g := g) hg (argsL := argsL) (rest := rest) (hlen _ hsigM) hstack hdg
  obtain ⟨v, B, X', hpost, hsteps⟩ := hK m meth c ⟨T.setVm vm₁, locs, cells, slots⟩ { g with stack := rest } (.invokestatic index) mk argsL.toArray X₁ hg hsize hdg hW (X₁.named hnamed) (hpre vm₁ X₁.warmed)
  exact ⟨v, vm₁, B, X₁.warmed, X', hpost, fun target h => hstep₁ _ fun acts => by rw [doInvoke_state]; exact hsteps.trans h⟩
theorem va_runSW {Ts ws ws' : List Cond} {own : String} {index mcc mss nL maxL n : Nat} {y : MethodName} {bytes : ByteArray} {ret : Option FieldType} {hh : List (Nat × Nat × Nat × Nat)} {rm : Room} {Pc : Array Value → State → Prop} {Qc : Array Value → State → Outcome → State → Prop} {free : Addr → Prop} {As : List Value} {g : JFrame}
    (S : CallFix p m c cc nL s args Ts own) (hM : Met l y ws rm Pc Qc mcc mss free) (hT : GoodIn Ts (va_wsS own index y ws)) (hw : ws = Cond.codeWith y bytes maxL ret hh :: ws') (hrc : rm.cells = mcc) (hrs : rm.slots = mss)
    (hd : y.cls ≠ "java/lang/invoke/MethodHandle" ∧ y.cls ≠ "java/lang/invoke/VarHandle" ∧ (parseMethodDescriptor y.desc).map (fun d => d.parameters.length) = some n) (hR : rm.frames + 1 ≤ R.frames ∧ 8 + (maxL + 11) + rm.locals ≤ R.locals) (hp : PreS s H Pc As)
    (hg : g.method = m) (hn : As.length = n) (hsize : g.locals.size = nL) (hstack : g.stack = As.reverse ++ rest) (hW : 2 * g.monitorRoom + (rest.map fun v => v.category).sum ≤ 8) (hdg : decode cc g.pc = .ok (.invokestatic index, 3)) (hf : cells + mcc ≤ R.cells ∧ slots + mss ≤ R.slots) :
    va_Run p l e R s m args below meth c H locs cells slots mcc mss g rest (Qc As.toArray) (free) := by
  obtain ⟨hx, hb, hml, ho, ht⟩ := S
  have ok : ∀ w ∈ va_wsS own index y ws, w.before args s = true := fun w h => ht w (hT w h).1
  have hG : GoodIn Ts ws := fun w h => hT w (by unfold va_wsS; exact List.mem_append_right _ h)
  have hc : Cond.codeWith y bytes maxL ret hh ∈ ws := by rw [hw]; exact List.mem_cons_self
  have hini : (Cond.initialized y.cls).before args s = true := ok _ (by simp [va_wsS])
  have hK : Back l R p e below s args y 3 8 (PreOf R mcc mss Pc) (PostOf Qc mcc mss free) := va_backW (bytes := bytes) (maxL := maxL) (ret := ret) (hh := hh) hM hp.1 hrc hrs hR.1 hR.2 (pay_in ht hG) hc (fun a' U hW => word_at hW (Or.inl (by first | rfl | simp [Cond.onTables, Cond.keeps, Cond.steady])) hini)
  intro T hT X
  obtain ⟨v, vm₁, ⟨U', l2, c2, s2⟩, hW₁, X', ⟨g', mk, t, L, e1, e2, hq, h1, hL, h2, h3⟩, st⟩ := callSW X hx (bytes := bytes) (maxL := maxL) (ret := ret) (hh := hh) ho (ok (.methodLink own index y) (by simp [va_wsS])) (ok (.static y) (by simp [va_wsS])) hini (ht _ (hG _ hc).1) ⟨hd.1, hd.2.1⟩ hK hg (hsize.trans hml.symm) (argsL := As) (rest := rest) (fun sig h => hn.trans (by have h2 := hd.2.2; rw [h] at h2; exact (Option.some.inj h2).symm)) hstack hW (by rw [hb]; exact hdg)
    (fun vm₁ hW₁ => ⟨hf.1, hf.2, hp.2 (T.setVm vm₁) hT hW₁⟩)
  dsimp only [Pt.U, Pt.locs, Pt.cells, Pt.slots] at X' e1 e2 h1 h2 h3 st
  subst h1; subst h2; subst h3
  exact ⟨v, (T.setVm vm₁).calling g' mk As.toArray, t, U', L, hT, X', hL, e1, e2, hq, st⟩
/-- an int of the script -/
theorem rdS {R : Room} {b L : Nat} {xs : Nat → Int32} {lv : List (Nat × Value)} {x4 v : Int32} {k : Int} {nL : Nat} (hx : p.tables.exec = Jvm.exec) (hb : c.code = cc) (hX : va_X b L xs s H0) (hbl : b < H0.size) (hbA : ¬ A b) (hS : va_S A H0 H locs) (hl : lv_has ls nL lv) (k0 k4 : Nat) (h0 : lv[k0]? = some (0, .ref b)) (h4 : lv[k4]? = some (4, .int x4)) (hv : Int32.ofInt k = v) (hin : vp_in (x4 + v) L)
    (d0 : decode cc pc = .ok (.aload_n 0, 1)) (d1 : decode cc (pc + 1) = .ok (.iload 4, 2)) (d3 : decode cc (pc + 3) = .ok (.iconst k, 1)) (d4 : decode cc (pc + 4) = .ok (.iadd, 1)) (d5 : decode cc (pc + 5) = .ok (.iaload, 1))
    (kk : W p l e R s m args below meth c H locs cells slots Q (F0 m (pc + 6) ls (.int (xs (x4 + v).toNatClampNeg) :: rest))) : W p l e R s m args below meth c H locs cells slots Q (F0 m pc ls rest) := by
  refine lv_aload_n hx hb d0 rfl (lv_at hl k0 h0) ?_
  refine lv_iload hx hb d1 (lv_at hl k4 h4) ?_
  refine lv_iconst hx hb d3 hv ?_
  refine lv_iadd hx hb d4 ?_
  exact va_sld hx hb hX hbl hbA hS hin d5 kk
/-- a flag of an int -/
def bz (v : Int32) : Int32 := if v = 0 then 0 else 1
theorem rdB {v : Int32} (hx : p.tables.exec = Jvm.exec) (hb : c.code = cc) (d0 : decode cc pc = .ok (.ifCond .eq 7, 3)) (d3 : decode cc (pc + 3) = .ok (.iconst 1, 1)) (d4 : decode cc (pc + 4) = .ok (.goto 4, 3)) (d7 : decode cc (pc + 7) = .ok (.iconst 0, 1))
    (kk : W p l e R s m args below meth c H locs cells slots Q (F0 m (pc + 8) ls (.int (bz v) :: rest))) : W p l e R s m args below meth c H locs cells slots Q (F0 m pc ls (.int v :: rest)) := by
  refine lv_if_eq (tgt := pc + 7) hx hb d0 (by omega) (fun h => ?_) (fun h => ?_)
  · refine lv_iconst (v := 0) hx hb d7 (by decide) ?_
    rw [show bz v = 0 from if_pos h] at kk
    exact kk
  · refine lv_iconst (v := 1) hx hb d3 (by decide) ?_
    refine lv_goto (tgt := pc + 8) hx hb d4 (by omega) ?_
    rw [show bz v = 1 from if_neg h] at kk
    exact kk
end XL
