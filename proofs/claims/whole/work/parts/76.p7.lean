/-! the class's stepping is such a machine -/
def stI (f : AL) : Stk → Prop
  | [] => True
  | e :: st => f st.length = e.2 ∧ stI f st
theorem stI_upd {f : AL} {n : Nat} {v : Int64} : ∀ {st : Stk}, st.length ≤ n → stI f st → stI (vp_updL f n v) st
  | [], _, _ => trivial
  | e :: st, hl, h => by
    simp only [List.length_cons] at hl
    refine ⟨?_, stI_upd (by omega) h.2⟩
    rw [pk_uLn (by omega)]
    exact h.1
def rvI (code : List Row) (st : Stk) (rv : RS) : Prop := rv.1 = nI code.length ∧ code.length ≤ 400 ∧ (∀ (i : Nat) (r : Row), code[i]? = some r → rv.2.1 i = r.1 ∧ rv.2.2.1 i = r.2.1) ∧ rv.2.2.2.2.2 = nI st.length ∧ stI rv.2.2.2.2.1 st
theorem rvI_push {code : List Row} {st : Stk} {rv : RS} (h : rvI code st rv) (hl : st.length ≤ 200) (b : Bool) (v : Int64) : rvI code ((b, v) :: st) (G_X1_push rv v) := by
  obtain ⟨h1, h2, h3, h4, h5⟩ := h
  unfold G_X1_push
  rw [h4, if_neg (by rw [i32_lt, nI_toInt (by omega), i0]; omega), if_neg (by rw [i32_le, nI_toInt (by omega), show (201 : Int32).toInt = 201 by decide]; omega), nI_clamp (by omega)]
  refine ⟨h1, h2, h3, ?_, ?_, ?_⟩
  · show nI st.length + 1 = nI (st.length + 1)
    exact nI_1 _
  · exact pk_uLs
  · exact stI_upd (Nat.le_refl _) h5
theorem rvI_pop {code : List Row} {st : Stk} {rv : RS} {b : Bool} {v : Int64} (h : rvI code ((b, v) :: st) rv) (hl : st.length ≤ 200) : (G_X1_pop rv).1 = v ∧ rvI code st (G_X1_pop rv).2 := by
  obtain ⟨h1, h2, h3, h4, h5, h6⟩ := h
  have h4' : rv.2.2.2.2.2 = nI (st.length + 1) := h4
  have e : nI (st.length + 1) - (1 : Int32) = nI st.length := nI_pred _
  unfold G_X1_pop
  rw [h4', if_neg (by rw [i32_lt, nI_toInt (by omega), show (1 : Int32).toInt = 1 by decide]; omega), if_pos (by rw [i32_le, nI_toInt (by omega), show (201 : Int32).toInt = 201 by decide]; omega), e, nI_clamp (by omega)]
  exact ⟨h5, h1, h2, h3, rfl, h6⟩
theorem rvI_has {code : List Row} {st : Stk} {rv : RS} (h : rvI code st rv) {pc : Nat} {r : Row} (hr : code[pc]? = some r) : ¬ G_X1_has rv (nI pc) = 0 ∧ pc < 400 := by
  obtain ⟨h1, h2, -⟩ := h
  have hl : pc < code.length := (List.getElem?_eq_some_iff.mp hr).1
  rw [G_X1_has_iff, h1, nI_toInt (by omega), nI_toInt (by omega)]
  omega
theorem rvI_op {code : List Row} {st : Stk} {rv : RS} (h : rvI code st rv) {pc : Nat} {op : Int32} {v : Int64} {nn : Int32} (hr : code[pc]? = some (op, v, nn)) : G_X1_opOf rv (nI pc) = op ∧ G_X1_numberOf rv (nI pc) = v := by
  obtain ⟨a, b⟩ := rvI_has h hr
  obtain ⟨q1, q2⟩ := h.2.2.1 pc _ hr
  unfold G_X1_opOf G_X1_numberOf
  rw [if_neg a, if_neg a, nI_clamp (by omega)]
  exact ⟨q1, q2⟩
/-- steps done, the row, the rows' state, the storage -/
abbrev ZC : Type := Nat × Int32 × RS × SS
def LC (c : CS) (r0 : RS) (x0 : SS) (fu : Nat) (z : ZC) : RS × SS := G_X1_stepAll_L13 c r0 x0 fu z.2.1 (nI z.1) z.2.2.1 z.2.2.2
def CfC (code : List Row) (pc : Nat) (st : Stk) (x : SS) (m : Nat) (z : ZC) : Prop := z.1 = m ∧ z.2.1 = nI pc ∧ rvI code st z.2.2.1 ∧ z.2.2.2 = x
def GoC (c : CS) (r0 : RS) (x0 : SS) (z z' : ZC) : Prop := z.1 ≤ z'.1 ∧ ∀ fu, LC c r0 x0 (fu + (z'.1 - z.1)) z = LC c r0 x0 fu z'
def EnC (c : CS) (r0 : RS) (x0 : SS) (z : ZC) (x : SS) : Prop := ∃ (m : Nat) (rv : RS), z.1 ≤ m ∧ m ≤ 1000000 ∧ ∀ fu, LC c r0 x0 (fu + 1 + (m - z.1)) z = (rv, x)
theorem LC_step {c : CS} {r0 : RS} {x0 : SS} {code : List Row} {st : Stk} {x : SS} {m pc : Nat} {rv : RS} {r : Row} (h : rvI code st rv) (hr : code[pc]? = some r) (hx : x.2.1 = 0) (hm : m < 1000000) (fu : Nat) : LC c r0 x0 (fu + 1) (m, nI pc, rv, x) = LC c r0 x0 fu (m + 1, (G_X1_step c rv x (nI pc)).1, (G_X1_step c rv x (nI pc)).2.1, (G_X1_step c rv x (nI pc)).2.2) := by
  unfold LC
  show G_X1_stepAll_L13 c r0 x0 (fu + 1) (nI pc) (nI m) rv x = _
  rw [G_X1_stepAll_L13, if_neg (by rw [i32_le, nI_toInt (by omega), show (1000000 : Int32).toInt = 1000000 by decide]; omega), if_neg (rvI_has h hr).1, if_pos hx, nI_1]
theorem LC_end {c : CS} {r0 : RS} {x0 : SS} {x : SS} {m : Nat} {rw_ : Int32} {rv : RS} (hx : ¬ x.2.1 = 0) (fu : Nat) : LC c r0 x0 (fu + 1) (m, rw_, rv, x) = (rv, x) := by
  unfold LC
  show G_X1_stepAll_L13 c r0 x0 (fu + 1) rw_ (nI m) rv x = _
  rw [G_X1_stepAll_L13]
  by_cases h1 : (1000000 : Int32) ≤ nI m
  · rw [if_pos h1]
  · rw [if_neg h1]
    by_cases h2 : G_X1_has rv rw_ = 0
    · rw [if_pos h2]
    · rw [if_neg h2, if_neg hx]
/-- one row done -/
theorem C_one {c : CS} {r0 : RS} {x0 : SS} {code : List Row} {st st' : Stk} {x x' : SS} {m pc pc' : Nat} {z : ZC} {r : Row} (hc : CfC code pc st x m z) (hr : code[pc]? = some r) (hx : x.2.1 = 0) (hm : m < 999999)
    (hs : ∀ rv, rvI code st rv → (G_X1_step c rv x (nI pc)).1 = nI pc' ∧ rvI code st' (G_X1_step c rv x (nI pc)).2.1 ∧ (G_X1_step c rv x (nI pc)).2.2 = x') : St1 (CfC code) (GoC c r0 x0) (EnC c r0 x0) z m pc' st' x' := by
  obtain ⟨m0, row, rv, xv⟩ := z
  obtain ⟨e1, e2, h, e3⟩ := hc
  dsimp only at e1 e2 h e3
  subst e1; subst e2; subst e3
  obtain ⟨s1, s2, s3⟩ := hs rv h
  have E : ∀ fu, LC c r0 x0 (fu + 1) (m0, nI pc, rv, xv) = LC c r0 x0 fu (m0 + 1, nI pc', (G_X1_step c rv xv (nI pc)).2.1, x') := fun fu => by
    rw [LC_step h hr hx (by omega), s1, s3]
  refine ⟨fun _ => ⟨(m0 + 1, nI pc', (G_X1_step c rv xv (nI pc)).2.1, x'), ⟨by show m0 ≤ m0 + 1; omega, fun fu => ?_⟩, rfl, rfl, s2, rfl⟩, fun h0 => ⟨m0 + 1, (G_X1_step c rv xv (nI pc)).2.1, by show m0 ≤ m0 + 1; omega, by omega, fun fu => ?_⟩⟩
  · show LC c r0 x0 (fu + (m0 + 1 - m0)) _ = _
    rw [Nat.add_sub_cancel_left]
    exact E fu
  · show LC c r0 x0 (fu + 1 + (m0 + 1 - m0)) _ = _
    rw [Nat.add_sub_cancel_left, E (fu + 1)]
    exact LC_end h0 fu
theorem nI_l32 (a : Nat) : ((nI a).toInt64).toInt32 = nI a := by
  apply Int32.toInt_inj.mp
  rw [Int64.toInt_toInt32, Int32.toInt_toInt64]
  exact Int.bmod_eq_of_le (by have := Int32.le_toInt (nI a); omega) (by have := Int32.toInt_lt (nI a); omega)
theorem machC (N : Nat) (c : CS) (r0 : RS) (x0 : SS) (code : List Row) : Mach N c code (CfC code) (GoC c r0 x0) (EnC c r0 x0) := by
  refine ⟨fun a => ⟨Nat.le_refl _, fun fu => by rw [Nat.sub_self]; rfl⟩, fun a b e h1 h2 => ⟨Nat.le_trans h1.1 h2.1, fun fu => ?_⟩, fun a b x h1 h2 => ?_, fun pc x m z hx ho hm => ⟨?_, ?_, ?_, ?_, ?_, ?_, ?_, ?_, ?_, ?_⟩⟩
  · have q1 := h1.1
    have q2 := h2.1
    rw [show fu + (e.1 - a.1) = (fu + (e.1 - b.1)) + (b.1 - a.1) by omega, h1.2, h2.2]
  · obtain ⟨m, rv, q1, q2, q3⟩ := h2
    have q4 := h1.1
    refine ⟨m, rv, by omega, q2, fun fu => ?_⟩
    rw [show fu + 1 + (m - a.1) = (fu + 1 + (m - b.1)) + (b.1 - a.1) by omega, h1.2, q3]
  · intro st v nn hr hl hc
    refine C_one hc hr hx hm fun rv h => ?_
    obtain ⟨o1, o2⟩ := rvI_op h hr
    unfold G_X1_step
    rw [o1, if_pos rfl, o2]
    exact ⟨nI_1 _, rvI_push h (by omega) _ _, rfl⟩
  · intro st a nn hr ha hl hc
    refine C_one hc hr hx hm fun rv h => ?_
    obtain ⟨o1, o2⟩ := rvI_op h hr
    unfold G_X1_step
    rw [o1, if_neg (by decide), if_pos rfl, o2, nI_l32]
    exact ⟨nI_1 _, rvI_push h (by omega) _ _, rfl⟩
  · intro st a i nn hr ha hl hc
    refine C_one hc hr hx hm fun rv h => ?_
    obtain ⟨o1, o2⟩ := rvI_op h hr
    obtain ⟨p1, p2⟩ := rvI_pop h (by omega)
    unfold G_X1_step
    rw [o1, if_neg (by decide), if_neg (by decide), if_pos rfl, o2, nI_l32, p1]
    exact ⟨nI_1 _, rvI_push p2 (by omega) _ _, rfl⟩
  · intro st a u nn hr ha hl hc
    refine C_one hc hr hx hm fun rv h => ?_
    obtain ⟨o1, o2⟩ := rvI_op h hr
    obtain ⟨p1, p2⟩ := rvI_pop h (by omega)
    unfold G_X1_step
    rw [o1, if_neg (by decide), if_neg (by decide), if_neg (by decide), if_pos rfl, o2, nI_l32, p1]
    exact ⟨nI_1 _, p2, rfl⟩
  · intro st a i u nn hr ha hl hc
    refine C_one hc hr hx hm fun rv h => ?_
    obtain ⟨o1, o2⟩ := rvI_op h hr
    obtain ⟨p1, p2⟩ := rvI_pop h (by simp only [List.length_cons]; omega)
    obtain ⟨p3, p4⟩ := rvI_pop p2 (by omega)
    unfold G_X1_step
    rw [o1, if_neg (by decide), if_neg (by decide), if_neg (by decide), if_neg (by decide), if_pos rfl, o2, nI_l32, p1, p3]
    exact ⟨nI_1 _, p4, rfl⟩
  · intro st tg u nn hr ht hl hc
    refine C_one hc hr hx hm fun rv h => ?_
    obtain ⟨o1, o2⟩ := rvI_op h hr
    obtain ⟨p1, p2⟩ := rvI_pop h (by omega)
    unfold G_X1_step
    rw [o1, if_neg (by decide), if_neg (by decide), if_neg (by decide), if_neg (by decide), if_neg (by decide), if_pos rfl, o2, lN_i, p1]
    by_cases hu : lg_cmp u 0 = 0
    · rw [if_pos hu, if_pos hu]
      exact ⟨rfl, p2, rfl⟩
    · rw [if_neg hu, if_neg hu]
      exact ⟨nI_1 _, p2, rfl⟩
  · intro st tg u nn hr ht hl hc
    have key : ∀ rv, rvI code ((true, u) :: st) rv → G_X1_step c rv x (nI pc) = G_X1_nextTime rv x (nI pc + 1) (nI tg) := fun rv h => by
      obtain ⟨o1, o2⟩ := rvI_op h hr
      unfold G_X1_step
      rw [o1, if_neg (by decide), if_neg (by decide), if_neg (by decide), if_neg (by decide), if_neg (by decide), if_neg (by decide), if_pos rfl, o2, lN_i]
    refine ⟨fun hu => C_one hc hr hx hm fun rv h => ?_, fun hu => C_one hc hr hx hm fun rv h => ?_⟩
    · obtain ⟨p1, p2⟩ := rvI_pop h (by omega)
      rw [key rv h]
      unfold G_X1_nextTime
      rw [p1, if_neg (by rw [lg_cmp_gt, Int64.lt_iff_toInt_lt, show (0 : Int64).toInt = 0 by decide]; omega)]
      exact ⟨rfl, p2, rfl⟩
    · obtain ⟨p1, p2⟩ := rvI_pop h (by omega)
      rw [key rv h]
      unfold G_X1_nextTime
      rw [p1, if_pos (by rw [lg_cmp_gt, Int64.lt_iff_toInt_lt, show (0 : Int64).toInt = 0 by decide]; omega)]
      exact ⟨nI_1 _, rvI_push p2 (by omega) _ _, rfl⟩
  · intro st tg u nn hr ht hl hc
    have key : ∀ rv, rvI code ((false, u) :: st) rv → G_X1_step c rv x (nI pc) = G_X1_nextTime rv x (nI tg) (nI pc + 1) := fun rv h => by
      obtain ⟨o1, o2⟩ := rvI_op h hr
      unfold G_X1_step
      rw [o1, if_neg (by decide), if_neg (by decide), if_neg (by decide), if_neg (by decide), if_neg (by decide), if_neg (by decide), if_neg (by decide), if_pos rfl, o2, lN_i]
    refine ⟨fun hu => C_one hc hr hx hm fun rv h => ?_, fun hu => C_one hc hr hx hm fun rv h => ?_⟩
    · obtain ⟨p1, p2⟩ := rvI_pop h (by omega)
      rw [key rv h]
      unfold G_X1_nextTime
      rw [p1, if_neg (by rw [lg_cmp_gt, Int64.lt_iff_toInt_lt, show (0 : Int64).toInt = 0 by decide]; omega)]
      exact ⟨nI_1 _, p2, rfl⟩
    · obtain ⟨p1, p2⟩ := rvI_pop h (by omega)
      rw [key rv h]
      unfold G_X1_nextTime
      rw [p1, if_pos (by rw [lg_cmp_gt, Int64.lt_iff_toInt_lt, show (0 : Int64).toInt = 0 by decide]; omega)]
      exact ⟨rfl, rvI_push p2 (by omega) _ _, rfl⟩
  · intro st u v nn hr hl hc
    refine C_one hc hr hx hm fun rv h => ?_
    obtain ⟨o1, o2⟩ := rvI_op h hr
    obtain ⟨p1, p2⟩ := rvI_pop h (by omega)
    unfold G_X1_step
    rw [o1, if_neg (by decide), if_neg (by decide), if_neg (by decide), if_neg (by decide), if_neg (by decide), if_neg (by decide), if_neg (by decide), if_neg (by decide), if_pos rfl]
    exact ⟨nI_1 _, p2, rfl⟩
  · intro st op y w v nn hr hk1 hk2 hl hc
    refine C_one hc hr hx hm fun rv h => ?_
    obtain ⟨o1, o2⟩ := rvI_op h hr
    obtain ⟨p1, p2⟩ := rvI_pop h (by simp only [List.length_cons]; omega)
    obtain ⟨p3, p4⟩ := rvI_pop p2 (by omega)
    unfold G_X1_step
    rw [o1]
    rw [if_neg (kne hk1 hk2 (by decide)), if_neg (kne hk1 hk2 (by decide)), if_neg (kne hk1 hk2 (by decide)), if_neg (kne hk1 hk2 (by decide)), if_neg (kne hk1 hk2 (by decide)), if_neg (kne hk1 hk2 (by decide)), if_neg (kne hk1 hk2 (by decide)), if_neg (kne hk1 hk2 (by decide)), if_neg (kne hk1 hk2 (by decide)), p1, p3]
    exact ⟨nI_1 _, rvI_push p4 (by omega) _ _, rfl⟩
/-- the class: the rows of a node, stepped, leave what its walk leaves -/
theorem stepAll_walk {N M : Nat} {c : CS} {t : TS} (hT : tOK N M c t) {k : Nat} (h1 : 1 ≤ k) (h2 : k ≤ M) {r : RS} (hr : rvI (cd t 200 k 0) [] (r.1, r.2.1, r.2.2.1, r.2.2.2.1, r.2.2.2.2.1, 0)) (hl : ln t 200 k ≤ 400) (x : SS) : (G_X1_stepAll c r x).2 = G_X3_walkAll c t x (nI k) := by
  have hb : (G_X2_begin x).2.1 = 0 := rfl
  have ho : xOK (G_X2_begin x) := ⟨by show 0 ≤ (0 : Int32).toInt; decide, by show (0 : Int32).toInt ≤ 1000; decide⟩
  have hc0 : cn (G_X2_begin x) = 0 := rfl
  have S := sim (machC N c r x (cd t 200 k 0)) hT 200 k 0 [] (G_X2_begin x) 0 (0, nI 0, (r.1, r.2.1, r.2.2.1, r.2.2.2.1, r.2.2.2.2.1, 0), G_X2_begin x) h1 h2 (by have := hT.2.2.2.1; omega) (by omega) (fun i q hq => by rw [Nat.zero_add]; exact hq) (by omega) (by simp only [List.length_nil]; omega) hb ho (by rw [hc0]; omega) ⟨rfl, rfl, hr, rfl⟩
  have e : (ev c t 200 (G_X2_begin x) k).2 = G_X3_walkAll c t x (nI k) := rfl
  rw [e] at S
  have eL : G_X1_stepAll c r x = LC c r x 1000001 (0, nI 0, (r.1, r.2.1, r.2.2.1, r.2.2.2.1, r.2.2.2.2.1, 0), G_X2_begin x) := rfl
  rw [eL]
  by_cases hz : (G_X3_walkAll c t x (nI k)).2.1 = 0
  · obtain ⟨z, m, g, hc, o, -, hp⟩ := S.1 hz
    obtain ⟨q1, q2, q3, q4⟩ := hc
    have hcn := cn_le o
    rw [hc0] at hp
    have hg := g.2 (1000001 - z.1)
    rw [show 1000001 - z.1 + (z.1 - 0) = 1000001 by omega] at hg
    rw [hg]
    obtain ⟨m0, row, rv, xv⟩ := z
    dsimp only at q1 q2 q3 q4
    subst q1
    rw [← q4]
    obtain ⟨f, hf⟩ : ∃ f, 1000001 - m0 = f + 1 := ⟨1000000 - m0, by omega⟩
    show (LC c r x (1000001 - m0) (m0, row, rv, xv)).2 = xv
    rw [hf]
    unfold LC
    show (G_X1_stepAll_L13 c r x (f + 1) row (nI m0) rv xv).2 = xv
    rw [G_X1_stepAll_L13, if_neg (by rw [i32_le, nI_toInt (by omega), show (1000000 : Int32).toInt = 1000000 by decide]; omega), if_pos]
    have hh : ¬ ¬ G_X1_has rv row = 0 := by
      rw [G_X1_has_iff, q2, q3.1, nI_toInt (by omega), nI_toInt (by rw [cd_len]; omega), cd_len]
      omega
    exact Decidable.not_not.mp hh
  · obtain ⟨m, rv, q1, q2, q3⟩ := S.2 hz
    have := q3 (1000000 - m)
    rw [show 1000000 - m + 1 + (m - 0) = 1000001 by omega] at this
    rw [this]
