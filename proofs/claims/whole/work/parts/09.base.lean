abbrev vwCl : List vw_C := [(RJx00060, TJx00060, 6), (RX0, TX0, 4), (RX1, TX1, 7), (RX2, TX2, 4), (RX3, TX3, 9), (RX4, TX4, 7), (RX5, TX5, 33)]
/-! calls and ends, short: a reader leaves the heap as it is; a writer leaves a world and touches A alone -/
section XB
variable {p : Program} {l : Launch} {e : Env} {R : Room} {s : State} {m : MethodId} {args : Array Value} {below : List Frame} {meth : Method} {c : Code} {H : Heap} {locs : List Loc} {cells slots : Nat} {Q : State → Prop}
variable {pc : Nat} {ls : Array Slot} {rest st0 : List Value} {a : Array Value} {A : Nat → Prop} {H0 : Heap} {cc : ByteArray}
def xR (o : Option Value) : Array Value → State → Outcome → State → Prop := fun _ st oc t => oc = .returned o ∧ t.heap = st.heap
def xM (o : Option Value) (Wd : Heap → Prop) (A : Nat → Prop) : Array Value → State → Outcome → State → Prop := fun _ st oc t => oc = .returned o ∧ Wd t.heap ∧ va_F A st t
abbrev xNo : Addr → Prop := fun _ => False
theorem xR_go {o : Option Value} {st1 : List Value} (hr : va_Run p l e R s m args below meth c H locs cells slots 0 0 (F0 m pc ls st0) rest (xR o a) xNo) (he : o.toList ++ rest = st1) (kk : W p l e R s m args below meth c H locs cells slots Q (F0 m (pc + 3) ls st1)) : W p l e R s m args below meth c H locs cells slots Q (F0 m pc ls st0) := by
  subst he
  intro T hT X
  obtain ⟨v, st₀, t, T', L, h0, X', hL, e1, e2, ⟨hv, hh⟩, st⟩ := hr T hT X
  cases hv
  obtain ⟨t2, a1, b1⟩ := kk T' (by rw [e1, hh, h0]) (Stand.forget X' (fun q h => (hL q h).elim))
  exact ⟨t2, st t2 a1, b1⟩
theorem xR_i {r : Int32} (hr : va_Run p l e R s m args below meth c H locs cells slots 0 0 (F0 m pc ls st0) rest (xR (some (.int r)) a) xNo) (kk : W p l e R s m args below meth c H locs cells slots Q (F0 m (pc + 3) ls (.int r :: rest))) : W p l e R s m args below meth c H locs cells slots Q (F0 m pc ls st0) := xR_go hr rfl kk
theorem xR_l {r : Int64} (hr : va_Run p l e R s m args below meth c H locs cells slots 0 0 (F0 m pc ls st0) rest (xR (some (.long r)) a) xNo) (kk : W p l e R s m args below meth c H locs cells slots Q (F0 m (pc + 3) ls (.long r :: rest))) : W p l e R s m args below meth c H locs cells slots Q (F0 m pc ls st0) := xR_go hr rfl kk
theorem xM_go {o : Option Value} {Wd : Heap → Prop} {st1 : List Value} (hr : va_Run p l e R s m args below meth c H locs cells slots 0 0 (F0 m pc ls st0) rest (xM o Wd A a) A) (hS : va_S A H0 H locs) (he : o.toList ++ rest = st1) (kk : ∀ (H1 : Heap) (locs1 : List Loc), Wd H1 → va_S A H0 H1 locs1 → W p l e R s m args below meth c H1 locs1 cells slots Q (F0 m (pc + 3) ls st1)) : W p l e R s m args below meth c H locs cells slots Q (F0 m pc ls st0) := by
  subst he
  intro T hT X
  obtain ⟨v, st₀, t, T', L, h0, X', hL, e1, e2, ⟨hv, hw, hz, hk⟩, st⟩ := hr T hT X
  cases hv
  subst h0
  obtain ⟨t2, a1, b1⟩ := kk T'.heap (locs ++ L) (by rw [e1]; exact hw)
    ⟨Nat.le_trans hS.1 (by rw [e1]; exact hz), fun q h1 h2 => by rw [e1, hk q (Nat.lt_of_lt_of_le h1 hS.1) h2]; exact hS.2.1 q h1 h2, fun q hq => by
      rcases List.mem_append.mp hq with h | h
      · exact hS.2.2 q h
      · exact hL q h⟩ T' rfl X'
  exact ⟨t2, st t2 a1, b1⟩
theorem xM_i {r : Int32} {Wd : Heap → Prop} (hr : va_Run p l e R s m args below meth c H locs cells slots 0 0 (F0 m pc ls st0) rest (xM (some (.int r)) Wd A a) A) (hS : va_S A H0 H locs) (kk : ∀ (H1 : Heap) (locs1 : List Loc), Wd H1 → va_S A H0 H1 locs1 → W p l e R s m args below meth c H1 locs1 cells slots Q (F0 m (pc + 3) ls (.int r :: rest))) : W p l e R s m args below meth c H locs cells slots Q (F0 m pc ls st0) := xM_go hr hS rfl kk
theorem xM_l {r : Int64} {Wd : Heap → Prop} (hr : va_Run p l e R s m args below meth c H locs cells slots 0 0 (F0 m pc ls st0) rest (xM (some (.long r)) Wd A a) A) (hS : va_S A H0 H locs) (kk : ∀ (H1 : Heap) (locs1 : List Loc), Wd H1 → va_S A H0 H1 locs1 → W p l e R s m args below meth c H1 locs1 cells slots Q (F0 m (pc + 3) ls (.long r :: rest))) : W p l e R s m args below meth c H locs cells slots Q (F0 m pc ls st0) := xM_go hr hS rfl kk
theorem xM_v {Wd : Heap → Prop} (hr : va_Run p l e R s m args below meth c H locs cells slots 0 0 (F0 m pc ls st0) rest (xM none Wd A a) A) (hS : va_S A H0 H locs) (kk : ∀ (H1 : Heap) (locs1 : List Loc), Wd H1 → va_S A H0 H1 locs1 → W p l e R s m args below meth c H1 locs1 cells slots Q (F0 m (pc + 3) ls rest)) : W p l e R s m args below meth c H locs cells slots Q (F0 m pc ls st0) := xM_go hr hS rfl kk
-- a reader's end
theorem xR_iret {r v : Int32} (hx : p.tables.exec = Jvm.exec) (hb : c.code = cc) (hr : meth.sig.returnType = some .int) (hlk : meth.locks = false) (ev : r = v) (hdg : decode cc pc = .ok (.ireturn, 1)) : W p l e R s m args below meth c s.heap [] 0 0 (MQ below (xR (some (.int r))) args s 0 0 xNo) (F0 m pc ls [.int v]) := by
  subst ev
  exact W.iret hx hb hr (fun t ht _ => ⟨rfl, ht⟩) (fun q h => by cases h) hdg hlk
theorem xR_zret {r v : Int32} {ty : FieldType} (hx : p.tables.exec = Jvm.exec) (hb : c.code = cc) (hr : meth.sig.returnType = some ty) (hlk : meth.locks = false) (hn : narrow ty (.int v) = .int v) (ev : r = v) (hdg : decode cc pc = .ok (.ireturn, 1)) : W p l e R s m args below meth c s.heap [] 0 0 (MQ below (xR (some (.int r))) args s 0 0 xNo) (F0 m pc ls [.int v]) := by
  subst ev
  exact W.zret hx hb hr hn (fun t ht _ => ⟨rfl, ht⟩) (fun q h => by cases h) hdg hlk
theorem xR_lret {r v : Int64} (hx : p.tables.exec = Jvm.exec) (hb : c.code = cc) (hr : meth.sig.returnType = some .long) (hlk : meth.locks = false) (ev : r = v) (hdg : decode cc pc = .ok (.lreturn, 1)) : W p l e R s m args below meth c s.heap [] 0 0 (MQ below (xR (some (.long r))) args s 0 0 xNo) (F0 m pc ls [.long v]) := by
  subst ev
  exact W.lret hx hb hr (fun t ht _ => ⟨rfl, ht⟩) (fun q h => by cases h) hdg hlk
-- a writer's end
theorem xM_iret {r v : Int32} {Wd : Heap → Prop} (hx : p.tables.exec = Jvm.exec) (hb : c.code = cc) (hr : meth.sig.returnType = some .int) (hlk : meth.locks = false) (hS : va_S A s.heap H locs) (ev : r = v) (hw : Wd H) (hdg : decode cc pc = .ok (.ireturn, 1)) : W p l e R s m args below meth c H locs 0 0 (MQ below (xM (some (.int r)) Wd A) args s 0 0 A) (F0 m pc ls [.int v]) := by
  subst ev
  exact W.iret hx hb hr (fun t ht _ => ⟨rfl, by rw [ht]; exact hw, hS.F ht⟩) hS.2.2 hdg hlk
theorem xM_zret {r v : Int32} {ty : FieldType} {Wd : Heap → Prop} (hx : p.tables.exec = Jvm.exec) (hb : c.code = cc) (hr : meth.sig.returnType = some ty) (hlk : meth.locks = false) (hn : narrow ty (.int v) = .int v) (hS : va_S A s.heap H locs) (ev : r = v) (hw : Wd H) (hdg : decode cc pc = .ok (.ireturn, 1)) : W p l e R s m args below meth c H locs 0 0 (MQ below (xM (some (.int r)) Wd A) args s 0 0 A) (F0 m pc ls [.int v]) := by
  subst ev
  exact W.zret hx hb hr hn (fun t ht _ => ⟨rfl, by rw [ht]; exact hw, hS.F ht⟩) hS.2.2 hdg hlk
theorem xM_lret {r v : Int64} {Wd : Heap → Prop} (hx : p.tables.exec = Jvm.exec) (hb : c.code = cc) (hr : meth.sig.returnType = some .long) (hlk : meth.locks = false) (hS : va_S A s.heap H locs) (ev : r = v) (hw : Wd H) (hdg : decode cc pc = .ok (.lreturn, 1)) : W p l e R s m args below meth c H locs 0 0 (MQ below (xM (some (.long r)) Wd A) args s 0 0 A) (F0 m pc ls [.long v]) := by
  subst ev
  exact W.lret hx hb hr (fun t ht _ => ⟨rfl, by rw [ht]; exact hw, hS.F ht⟩) hS.2.2 hdg hlk
theorem xM_vret {Wd : Heap → Prop} (hx : p.tables.exec = Jvm.exec) (hb : c.code = cc) (hr : meth.sig.returnType = none) (hlk : meth.locks = false) (hS : va_S A s.heap H locs) (hw : Wd H) (hdg : decode cc pc = .ok (.return_, 1)) : W p l e R s m args below meth c H locs 0 0 (MQ below (xM none Wd A) args s 0 0 A) (F0 m pc ls []) := W.vret hx hb hr (fun t ht _ => ⟨rfl, by rw [ht]; exact hw, hS.F ht⟩) hS.2.2 hdg hlk
/-- a contract out of a walk -/
theorem xOf {y : MethodName} {ws ws' : List Cond} {rm : Room} {Wd : State → Prop} {Qc : Array Value → State → Outcome → State → Prop} {mc ms : Nat} {free : Addr → Prop} {cc : ByteArray} {maxL : Nat} {ret : Option FieldType} {As : List Value} {lv : List (Nat × Value)}
    (hy : plainName y.cls = true) (hw : ws = Cond.code y cc maxL ret :: ws') (hlen : (lg_sl As).length ≤ maxL) (hlv : lv_args 0 As = lv)
    (body : ∀ (p : Program) (e : Env) (s : State) (m : MethodId) (below : List Frame) (meth : Method) (c : Code), p.tables.exec = Jvm.exec → c.code = cc → meth.sig.returnType = ret → c.maxLocals = maxL → (∀ w ∈ ws, w.before As.toArray s = true) → s.vm.findClass y.cls = some m.cls → meth.locks = false → meth.name = y.name → Wd s → ∀ ls : Array Slot, lv_has ls maxL lv →
      W p l e rm s m As.toArray below meth c s.heap [] 0 0 (MQ below Qc As.toArray s mc ms free) (F0 m 0 ls [])) : Met l y ws rm (va_Pc As Wd) Qc mc ms free := by
  refine Met.ofW (cc := cc) (maxL := maxL) (ret := ret) hy hw ?_
  intro p e s m args below meth c s₁ B hml hv
  obtain ⟨rfl, hv⟩ := hv
  have hl := lv_entry As (n := maxL) hlen
  rw [lg_entry_eq]
  subst hlv
  exact body p e s m below meth c B.exec B.bytes B.returns hml (atoms_spec (ws := ws) B.pre) (findClass_of_methodNamed B.named) B.notSynchronized (name_of_methodNamed B.named B.method).1 hv _ hl
end XB
section XSW
variable {p : Program} {l : Launch} {e : Env} {R : Room} {s : State} {m : MethodId} {args : Array Value} {below : List Frame} {meth : Method} {c : Code} {H : Heap} {locs : List Loc} {cells slots : Nat} {Q : State → Prop}
variable {cc : ByteArray} {pc : Nat} {ls : Array Slot} {rest : List Value}
theorem xNil {x : Int} : ∀ z ∈ ([] : List Int), ¬ x = z := fun _ h => absurd h List.not_mem_nil
theorem xCons {x z : Int} {zs : List Int} (h : ¬ x = z) (hs : ∀ y ∈ zs, ¬ x = y) : ∀ y ∈ z :: zs, ¬ x = y := fun y hy => by
  rcases List.mem_cons.mp hy with rfl | h2
  · exact h
  · exact hs y h2
theorem xTabK (hexec : p.tables.exec = Jvm.exec) (hb : c.code = cc) {dflt lo hi z : Int} {offs : Array Int} {len : Nat} {x : Int32} {tgt : Nat} (hdg : decode cc pc = .ok (.tableswitch dflt lo hi offs, len)) (hz : x.toInt = z) (ho : (decide (lo ≤ z) && decide (z ≤ hi) && (offs[(z - lo).toNat]?).any fun o => decide ((pc : Int) + o = (tgt : Int))) = true)
    (k : W p l e R s m args below meth c H locs cells slots Q (F0 m tgt ls rest)) : W p l e R s m args below meth c H locs cells slots Q (F0 m pc ls (.int x :: rest)) := by
  subst hz
  simp only [Bool.and_eq_true, decide_eq_true_eq] at ho
  obtain ⟨⟨h1, h2⟩, h3⟩ := ho
  cases hq : offs[(x.toInt - lo).toNat]? with
  | none => rw [hq] at h3; simp at h3
  | some o =>
    rw [hq] at h3
    exact lv_tableIn hexec hb hdg (by omega) (by omega) hq (by simpa using h3) k
theorem xTabD (hexec : p.tables.exec = Jvm.exec) (hb : c.code = cc) {dflt lo hi : Int} {offs : Array Int} {len : Nat} {x : Int32} {tgt : Nat} {exc : List Int} (hdg : decode cc pc = .ok (.tableswitch dflt lo hi offs, len)) (hn : ∀ z ∈ exc, ¬ x.toInt = z) (ht : (pc : Int) + dflt = (tgt : Int)) (ho : (decide (hi < lo + offs.size) && (List.range offs.size).all fun j => decide (offs[j]? = some dflt) || exc.contains (lo + j)) = true)
    (k : W p l e R s m args below meth c H locs cells slots Q (F0 m tgt ls rest)) : W p l e R s m args below meth c H locs cells slots Q (F0 m pc ls (.int x :: rest)) := by
  simp only [Bool.and_eq_true, decide_eq_true_eq, List.all_eq_true, List.mem_range, Bool.or_eq_true, List.contains_iff_mem] at ho
  obtain ⟨hs, ho⟩ := ho
  by_cases h1 : x.toInt < lo ∨ hi < x.toInt
  · exact lv_tableOut hexec hb hdg h1 ht k
  · have h2 : (x.toInt - lo).toNat < offs.size := by omega
    rcases ho _ h2 with h3 | h3
    · exact lv_tableIn hexec hb hdg (by omega) (by omega) h3 ht k
    · exact absurd (by omega) (hn _ h3)
theorem xOff {d x : Int} : ∀ ps : List (Int × Int), (∀ q ∈ ps, ¬ x = q.1) → Op.lookupswitch.offset ps d x = d
  | [], _ => rfl
  | (a, o) :: r, h => by
    rw [Op.lookupswitch.offset_cons, if_neg]
    · exact xOff r fun q hq => h q (List.mem_cons_of_mem _ hq)
    · exact fun q => h (a, o) List.mem_cons_self q.symm
theorem xLookK (hexec : p.tables.exec = Jvm.exec) (hb : c.code = cc) {dflt z : Int} {ps : Array (Int × Int)} {len : Nat} {x : Int32} {tgt : Nat} (hdg : decode cc pc = .ok (.lookupswitch dflt ps, len)) (hz : x.toInt = z) (ho : (((ps.toList.zip (ps.toList.drop 1)).all fun (a, next) => a.1 < next.1) && decide ((pc : Int) + Op.lookupswitch.offset ps.toList dflt z = (tgt : Int))) = true)
    (k : W p l e R s m args below meth c H locs cells slots Q (F0 m tgt ls rest)) : W p l e R s m args below meth c H locs cells slots Q (F0 m pc ls (.int x :: rest)) := by
  subst hz
  rw [Bool.and_eq_true] at ho
  exact lv_lookup hexec hb hdg ho.1 rfl (by simpa using ho.2) k
theorem xLookD (hexec : p.tables.exec = Jvm.exec) (hb : c.code = cc) {dflt : Int} {ps : Array (Int × Int)} {len : Nat} {x : Int32} {tgt : Nat} {exc : List Int} (hdg : decode cc pc = .ok (.lookupswitch dflt ps, len)) (hn : ∀ z ∈ exc, ¬ x.toInt = z) (ht : (pc : Int) + dflt = (tgt : Int)) (ho : (((ps.toList.zip (ps.toList.drop 1)).all fun (a, next) => a.1 < next.1) && ps.toList.all fun q => exc.contains q.1) = true)
    (k : W p l e R s m args below meth c H locs cells slots Q (F0 m tgt ls rest)) : W p l e R s m args below meth c H locs cells slots Q (F0 m pc ls (.int x :: rest)) := by
  rw [Bool.and_eq_true] at ho
  refine lv_lookup hexec hb hdg ho.1 (off := dflt) (xOff _ fun q hq => ?_) ht k
  have h2 := List.all_eq_true.mp ho.2 q hq
  exact hn _ (List.contains_iff_mem.mp h2)
end XSW
/-! the class's world: 26 cells at fixed addresses; its state in words -/
abbrev AI : Type := Nat → Int32
abbrev AL : Type := Nat → Int64
/-- cells: count, usages, digits, places -/
abbrev CS : Type := Int32 × AI × AI × AI
/-- tree: count, kinds, firsts, seconds, digits, rowCounts, folded, numbers -/
abbrev TS : Type := Int32 × AI × AI × AI × AI × AI × AI × AL
/-- rows: count, ops, numbers, shortWays, stack, top -/
abbrev RS : Type := Int32 × AI × AL × AI × AL × Int32
/-- a storage: bytes, raise, counts -/
abbrev SS : Type := AI × Int32 × Int32
/-- classes and slots; array classes (0 int, 1 byte, 2 boolean, 3 long); addresses -/
abbrev WG : Type := va_G × (Nat → ClassId) × (Nat → Nat)
def wC (w : WG) (c : CS) (t : TS) (r : RS) (s : Nat → SS) : va_W :=
  [(w.2.2 0, .inr (5, [.ref (w.2.2 1), .ref (w.2.2 5), .ref (w.2.2 13), .ref (w.2.2 18), .ref (w.2.2 20), .ref (w.2.2 22), .ref (w.2.2 24)])),
   (w.2.2 1, .inr (1, [.ref (w.2.2 2), .ref (w.2.2 3), .ref (w.2.2 4), .int c.1])),
   (w.2.2 2, .inl (w.2.1 0, 40, .inl c.2.1)), (w.2.2 3, .inl (w.2.1 0, 40, .inl c.2.2.1)), (w.2.2 4, .inl (w.2.1 0, 40, .inl c.2.2.2)),
   (w.2.2 5, .inr (4, [.ref (w.2.2 1), .ref (w.2.2 6), .ref (w.2.2 7), .ref (w.2.2 8), .ref (w.2.2 9), .ref (w.2.2 10), .ref (w.2.2 11), .ref (w.2.2 12), .int t.1])),
   (w.2.2 6, .inl (w.2.1 0, 201, .inl t.2.1)), (w.2.2 7, .inl (w.2.1 0, 201, .inl t.2.2.1)), (w.2.2 8, .inl (w.2.1 0, 201, .inl t.2.2.2.1)), (w.2.2 9, .inl (w.2.1 0, 201, .inl t.2.2.2.2.1)), (w.2.2 10, .inl (w.2.1 0, 201, .inl t.2.2.2.2.2.1)), (w.2.2 11, .inl (w.2.1 2, 201, .inl t.2.2.2.2.2.2.1)), (w.2.2 12, .inl (w.2.1 3, 201, .inr (.inl t.2.2.2.2.2.2.2))),
   (w.2.2 13, .inr (2, [.ref (w.2.2 5), .ref (w.2.2 14), .ref (w.2.2 15), .ref (w.2.2 16), .int r.1, .ref (w.2.2 17), .int r.2.2.2.2.2])),
   (w.2.2 14, .inl (w.2.1 0, 400, .inl r.2.1)), (w.2.2 15, .inl (w.2.1 3, 400, .inr (.inl r.2.2.1))), (w.2.2 16, .inl (w.2.1 2, 400, .inl r.2.2.2.1)), (w.2.2 17, .inl (w.2.1 3, 201, .inr (.inl r.2.2.2.2.1))),
   (w.2.2 18, .inr (3, [.ref (w.2.2 1), .ref (w.2.2 19), .int (s 0).2.1, .int (s 0).2.2])), (w.2.2 19, .inl (w.2.1 1, 64, .inl (s 0).1)),
   (w.2.2 20, .inr (3, [.ref (w.2.2 1), .ref (w.2.2 21), .int (s 1).2.1, .int (s 1).2.2])), (w.2.2 21, .inl (w.2.1 1, 64, .inl (s 1).1)),
   (w.2.2 22, .inr (3, [.ref (w.2.2 1), .ref (w.2.2 23), .int (s 2).2.1, .int (s 2).2.2])), (w.2.2 23, .inl (w.2.1 1, 64, .inl (s 2).1)),
   (w.2.2 24, .inr (3, [.ref (w.2.2 1), .ref (w.2.2 25), .int (s 3).2.1, .int (s 3).2.2])), (w.2.2 25, .inl (w.2.1 1, 64, .inl (s 3).1))]
abbrev wTy (w : WG) : List (ClassId × FieldType) := [(w.2.1 0, .int), (w.2.1 1, .byte), (w.2.1 2, .boolean), (w.2.1 3, .long)]
/-- the addresses of n cells are apart -/
def wAp (w : WG) (n : Nat) : Prop := ∀ i j : Nat, i < n → j < n → w.2.2 i = w.2.2 j → i = j
def wA (w : WG) (n : Nat) : Nat → Prop := fun q => ∃ i : Nat, i < n ∧ q = w.2.2 i
theorem wD_of {w : WG} {n : Nat} {ws : va_W} (h : wAp w n) (hl : ws.map Prod.fst = (List.range n).map w.2.2) : va_D (wA w n) ws := by
  have hlen : ws.length = n := by simpa using congrArg List.length hl
  have key : ∀ (k : Nat) (q : Nat × va_E), ws[k]? = some q → k < n ∧ q.1 = w.2.2 k := by
    intro k q hq
    have hk : k < n := by rw [← hlen]; exact (List.getElem?_eq_some_iff.mp hq).1
    have h1 : (ws.map Prod.fst)[k]? = some q.1 := by rw [List.getElem?_map, hq]; rfl
    rw [hl, List.getElem?_map, List.getElem?_range hk] at h1
    exact ⟨hk, (Option.some.inj h1).symm⟩
  refine ⟨fun i j p q hi hj hpq => ?_, fun k q hk => ⟨k, key k q hk⟩⟩
  obtain ⟨h1, h2⟩ := key i p hi
  obtain ⟨h3, h4⟩ := key j q hj
  exact h i j h1 h3 (by rw [← h2, ← h4, hpq])
theorem wC_D {w : WG} {c : CS} {t : TS} {r : RS} {s : Nat → SS} (h : wAp w 26) : va_D (wA w 26) (wC w c t r s) := wD_of h rfl
theorem wC_o {w : WG} {c : CS} {t : TS} {r : RS} {s : Nat → SS} {k : Nat} (h : k < 4) : (wC w c t r s)[18 + 2 * k]? = some (w.2.2 (18 + 2 * k), .inr (3, [.ref (w.2.2 1), .ref (w.2.2 (19 + 2 * k)), .int (s k).2.1, .int (s k).2.2])) := by
  rcases (show k = 0 ∨ k = 1 ∨ k = 2 ∨ k = 3 by omega) with rfl | rfl | rfl | rfl <;> rfl
theorem wC_b {w : WG} {c : CS} {t : TS} {r : RS} {s : Nat → SS} {k : Nat} (h : k < 4) : (wC w c t r s)[19 + 2 * k]? = some (w.2.2 (19 + 2 * k), .inl (w.2.1 1, 64, .inl (s k).1)) := by
  rcases (show k = 0 ∨ k = 1 ∨ k = 2 ∨ k = 3 by omega) with rfl | rfl | rfl | rfl <;> rfl
theorem wC_so {w : WG} {c : CS} {t : TS} {r : RS} {s : Nat → SS} {k : Nat} (h : k < 4) {x y : Int32} : (wC w c t r s).set (18 + 2 * k) (w.2.2 (18 + 2 * k), .inr (3, [.ref (w.2.2 1), .ref (w.2.2 (19 + 2 * k)), .int x, .int y])) = wC w c t r (va_up s k ((s k).1, x, y)) := by
  rcases (show k = 0 ∨ k = 1 ∨ k = 2 ∨ k = 3 by omega) with rfl | rfl | rfl | rfl <;> simp [wC, va_up]
theorem wC_sb {w : WG} {c : CS} {t : TS} {r : RS} {s : Nat → SS} {k : Nat} (h : k < 4) {f : AI} : (wC w c t r s).set (19 + 2 * k) (w.2.2 (19 + 2 * k), .inl (w.2.1 1, 64, .inl f)) = wC w c t r (va_up s k (f, (s k).2)) := by
  rcases (show k = 0 ∨ k = 1 ∨ k = 2 ∨ k = 3 by omega) with rfl | rfl | rfl | rfl <;> simp [wC, va_up]
theorem va_up_id {α : Type} (f : Nat → α) (k : Nat) : va_up f k (f k) = f := by
  funext j
  by_cases h : j = k
  · subst h; exact va_up_self _ _ _
  · exact va_up_ne _ _ h
theorem wC_ox {w : WG} {c : CS} {t : TS} {r : RS} {s : Nat → SS} {k : Nat} {x : SS} (h : k < 4) : (wC w c t r (va_up s k x))[18 + 2 * k]? = some (w.2.2 (18 + 2 * k), .inr (3, [.ref (w.2.2 1), .ref (w.2.2 (19 + 2 * k)), .int x.2.1, .int x.2.2])) := by
  rw [wC_o h, va_up_self]
theorem wC_bx {w : WG} {c : CS} {t : TS} {r : RS} {s : Nat → SS} {k : Nat} {x : SS} (h : k < 4) : (wC w c t r (va_up s k x))[19 + 2 * k]? = some (w.2.2 (19 + 2 * k), .inl (w.2.1 1, 64, .inl x.1)) := by
  rw [wC_b h, va_up_self]
theorem wC_pox {w : WG} {c : CS} {t : TS} {r : RS} {s : Nat → SS} {k : Nat} {x : SS} (h : k < 4) {a b : Int32} {D : va_G} {cl : List vw_C} {H : Heap} (hP : va_P D cl ((wC w c t r (va_up s k x)).set (18 + 2 * k) (w.2.2 (18 + 2 * k), .inr (3, [.ref (w.2.2 1), .ref (w.2.2 (19 + 2 * k)), .int a, .int b]))) H) : va_P D cl (wC w c t r (va_up s k (x.1, a, b))) H := by
  rw [wC_so h, va_up_self, bx_uu] at hP
  exact hP
theorem wC_pbx {w : WG} {c : CS} {t : TS} {r : RS} {s : Nat → SS} {k : Nat} {x : SS} (h : k < 4) {f : AI} {D : va_G} {cl : List vw_C} {H : Heap} (hP : va_P D cl ((wC w c t r (va_up s k x)).set (19 + 2 * k) (w.2.2 (19 + 2 * k), .inl (w.2.1 1, 64, .inl f))) H) : va_P D cl (wC w c t r (va_up s k (f, x.2))) H := by
  rw [wC_sb h, va_up_self, bx_uu] at hP
  exact hP
theorem wC_pb {w : WG} {c : CS} {t : TS} {r : RS} {s : Nat → SS} {k : Nat} (h : k < 4) {f : AI} {D : va_G} {cl : List vw_C} {H : Heap} (hP : va_P D cl ((wC w c t r s).set (19 + 2 * k) (w.2.2 (19 + 2 * k), .inl (w.2.1 1, 64, .inl f))) H) : va_P D cl (wC w c t r (va_up s k (f, (s k).2))) H := by
  rw [wC_sb h] at hP
  exact hP
/-- private members of nest mates that are used -/
def nws : List Cond := [.methodLinkNest RX4 9 yX0_init "ProcedureCode", .fieldLinkNest RX4 109 "ProcedureCode$Storage" "raise" "I" "ProcedureCode", .fieldLinkNest RX1 90 "ProcedureCode$Storage" "raise" "I" "ProcedureCode", .fieldLinkNest RX3 125 "ProcedureCode$Storage" "raise" "I" "ProcedureCode", .methodLinkNest RX3 84 yX4_isReckoned "ProcedureCode", .methodLinkNest RX3 94 yX4_reckon "ProcedureCode", .methodLinkNest RX2 53 yX4_reckon "ProcedureCode"]
def wK (w : WG) (U : State) : Prop := va_K w.1 vwCl (wTy w) U ∧ ∀ q ∈ nws, va_Nw q U
theorem wK.moved {w : WG} {s U : State} (h : wK w s) (hW : s.WarmedH U.vm) : wK w U := by
  refine ⟨va_K.moved hW.alike h.1, fun q hq => ?_⟩
  have hq' := hq
  simp only [nws, List.mem_cons, List.mem_nil_iff, or_false] at hq
  rcases hq with rfl | rfl | rfl | rfl | rfl | rfl | rfl <;> first | exact va_Nw.warmF hW (h.2 _ hq') | exact va_Nw.warmM hW (h.2 _ hq')
theorem wK.same {w : WG} {s U : State} (h : wK w s) (hv : s.vm = U.vm) : wK w U := by
  refine ⟨va_K.moved (by rw [hv]; exact Vm.Alike.refl _) h.1, fun q hq => ?_⟩
  have hq' := hq
  simp only [nws, List.mem_cons, List.mem_nil_iff, or_false] at hq
  rcases hq with rfl | rfl | rfl | rfl | rfl | rfl | rfl <;> exact va_Nw.same rfl hv (h.2 _ hq')
/-- the world of a method, and what the tables say -/
def wPK (w : WG) (ws : va_W) (U : State) : Prop := va_P w.1 vwCl ws U.heap ∧ wK w U
theorem wPre {w : WG} {ws : va_W} {s : State} {H : Heap} {As : List Value} (hP : va_P w.1 vwCl ws H) (hK : wK w s) : PreS s H (va_Pc As (wPK w ws)) As :=
  ⟨fun a U g mk q => ⟨q.1, q.2.1, q.2.2.same rfl⟩, fun U hU hW => ⟨rfl, by rw [hU]; exact hP, hK.moved hW⟩⟩
theorem wPreV {w : WG} {ws : va_W} {s : State} {H : Heap} {b ci q0 : Nat} {C : String} {T : u_T} {N : Nat} {fs As : List Value} (hP : va_P w.1 vwCl ws H) (hK : wK w s) (hc : vwCl[ci]? = some (C, T, N)) (he : ws[q0]? = some (b, .inr (ci, fs))) : PreV s H C b (va_Pc (.ref b :: As) (wPK w ws)) As :=
  ⟨fun a U g mk q => ⟨q.1, q.2.1, q.2.2.same rfl⟩, va_recv hK.1 hP hc he, fun U hU hW => ⟨rfl, by rw [hU]; exact hP, hK.moved hW⟩⟩
/-! numbers: sums that don't go round -/
theorem i0 : (0 : Int32).toInt = 0 := by decide
theorem i32_add {x y : Int32} (h1 : -2147483648 ≤ x.toInt + y.toInt) (h2 : x.toInt + y.toInt < 2147483648) : (x + y).toInt = x.toInt + y.toInt := by
  rw [Int32.toInt_add]
  exact Int.bmod_eq_of_le (by omega) (by omega)
theorem i32_sub {x y : Int32} (h1 : -2147483648 ≤ x.toInt - y.toInt) (h2 : x.toInt - y.toInt < 2147483648) : (x - y).toInt = x.toInt - y.toInt := by
  rw [Int32.toInt_sub]
  exact Int.bmod_eq_of_le (by omega) (by omega)
theorem i32_lt {x y : Int32} : x < y ↔ x.toInt < y.toInt := Int32.lt_iff_toInt_lt
theorem i32_le {x y : Int32} : x ≤ y ↔ x.toInt ≤ y.toInt := Int32.le_iff_toInt_le
theorem narZ {v : Int32} (h : v = 0 ∨ v = 1) : narrow .boolean (.int v) = .int v := by rcases h with rfl | rfl <;> rfl
def okB (f : AI) : Prop := ∀ j, narrow .byte (.int (f j)) = .int (f j)
theorem okB_fits {f : AI} (h : okB f) (j : Nat) : fits .byte (.int (f j)) = true := by
  have e := h j
  have e2 : (f j).toInt8.toInt32 = f j := by
    have e3 : vp_nar .byte (f j) = f j := by unfold vp_nar; rw [e]
    rw [← vp_nar_byte]; exact e3
  rw [← e2]
  exact pk_fb _
theorem rec_zero {dp : Int32} (hd : 201 ≤ dp.toInt + (0 : Nat)) (b : ¬ (200 : Int32) < dp) : False := by
  rw [i32_lt, show (200 : Int32).toInt = 200 by decide] at b
  omega
theorem rec_hd {dp : Int32} {d : Nat} (hd : 201 ≤ dp.toInt + (d + 1 : Nat)) (b : ¬ (200 : Int32) < dp) : 201 ≤ (dp + (1 : Int32)).toInt + d := by
  rw [i32_lt, show (200 : Int32).toInt = 200 by decide] at b
  have hm : -2147483648 ≤ dp.toInt := Int32.le_toInt dp
  rw [i32_add (by rw [show (1 : Int32).toInt = 1 by decide]; omega) (by rw [show (1 : Int32).toInt = 1 by decide]; omega), show (1 : Int32).toInt = 1 by decide]
  omega
theorem rec_room (f0 l0 lm mL : Nat) (h : 8 + (mL + 11) = lm) {d : Nat} : ({ frames := f0 + d, cells := 0, slots := 0, locals := l0 + lm * d } : Room).frames + 1 ≤ ({ frames := f0 + (d + 1), cells := 0, slots := 0, locals := l0 + lm * (d + 1) } : Room).frames ∧ 8 + (mL + 11) + ({ frames := f0 + d, cells := 0, slots := 0, locals := l0 + lm * d } : Room).locals ≤ ({ frames := f0 + (d + 1), cells := 0, slots := 0, locals := l0 + lm * (d + 1) } : Room).locals := by
  constructor
  · show f0 + d + 1 ≤ f0 + (d + 1)
    omega
  · show 8 + (mL + 11) + (l0 + lm * d) ≤ l0 + lm * (d + 1)
    rw [Nat.mul_succ]
    omega
theorem rec_roomc (f0 l0 lm : Nat) {d mL : Nat} {q : Room} (h1 : q.frames + 1 ≤ f0) (h2 : 8 + (mL + 11) + q.locals ≤ l0) : q.frames + 1 ≤ ({ frames := f0 + (d + 1), cells := 0, slots := 0, locals := l0 + lm * (d + 1) } : Room).frames ∧ 8 + (mL + 11) + q.locals ≤ ({ frames := f0 + (d + 1), cells := 0, slots := 0, locals := l0 + lm * (d + 1) } : Room).locals := by
  constructor
  · show q.frames + 1 ≤ f0 + (d + 1)
    omega
  · show 8 + (mL + 11) + q.locals ≤ l0 + lm * (d + 1)
    omega
