/-! a machine that steps rows comes to what the walk comes to -/
abbrev Stk : Type := List (Bool × Int64)
/-- one step: to a state with storage x, or the end when x is raised -/
def St1 {Z : Type} (Cfg : Nat → Stk → SS → Nat → Z → Prop) (Go : Z → Z → Prop) (En : Z → SS → Prop) (z : Z) (m pc : Nat) (st : Stk) (x : SS) : Prop :=
  (x.2.1 = 0 → ∃ z', Go z z' ∧ Cfg pc st x (m + 1) z') ∧ (¬ x.2.1 = 0 → En z x)
/-- many steps -/
def Tt {Z : Type} (Cfg : Nat → Stk → SS → Nat → Z → Prop) (Go : Z → Z → Prop) (En : Z → SS → Prop) (z : Z) (m : Nat) (x : SS) (L pc : Nat) (st : Stk) (x' : SS) : Prop :=
  (x'.2.1 = 0 → ∃ z' m', Go z z' ∧ Cfg pc st x' m' z' ∧ xOK x' ∧ cn x ≤ cn x' ∧ m' + 401 * (1001 - cn x') ≤ m + 401 * (1001 - cn x) + L) ∧ (¬ x'.2.1 = 0 → En z x')
def Mach {Z : Type} (N : Nat) (c : CS) (code : List Row) (Cfg : Nat → Stk → SS → Nat → Z → Prop) (Go : Z → Z → Prop) (En : Z → SS → Prop) : Prop :=
  (∀ a, Go a a) ∧ (∀ a b e, Go a b → Go b e → Go a e) ∧ (∀ a b x, Go a b → En b x → En a x) ∧
  (∀ (pc : Nat) (x : SS) (m : Nat) (z : Z), x.2.1 = 0 → xOK x → m < 999999 →
    (∀ st v nn, code[pc]? = some (0, v, nn) → st.length < 200 → Cfg pc st x m z → St1 Cfg Go En z m (pc + 1) ((true, v) :: st) x) ∧
    (∀ st a nn, code[pc]? = some (1, (nI a).toInt64, nn) → a < N → st.length < 200 → Cfg pc st x m z → St1 Cfg Go En z m (pc + 1) ((true, (G_X2_load c x (nI a) 0).1) :: st) (G_X2_load c x (nI a) 0).2) ∧
    (∀ st a i nn, code[pc]? = some (2, (nI a).toInt64, nn) → a < N → st.length < 200 → Cfg pc ((true, i) :: st) x m z → St1 Cfg Go En z m (pc + 1) ((true, (G_X2_load c x (nI a) i).1) :: st) (G_X2_load c x (nI a) i).2) ∧
    (∀ st a u nn, code[pc]? = some (9, (nI a).toInt64, nn) → a < N → st.length < 200 → Cfg pc ((true, u) :: st) x m z → St1 Cfg Go En z m (pc + 1) st (G_X2_save c x (nI a) 0 u)) ∧
    (∀ st a i u nn, code[pc]? = some (10, (nI a).toInt64, nn) → a < N → st.length < 199 → Cfg pc ((true, u) :: (true, i) :: st) x m z → St1 Cfg Go En z m (pc + 1) st (G_X2_save c x (nI a) i u)) ∧
    (∀ st tg u nn, code[pc]? = some (12, lN tg, nn) → tg ≤ 400 → st.length < 200 → Cfg pc ((true, u) :: st) x m z → St1 Cfg Go En z m (if lg_cmp u 0 = 0 then tg else pc + 1) st x) ∧
    (∀ st tg u nn, code[pc]? = some (13, lN tg, nn) → tg ≤ 400 → st.length < 200 → Cfg pc ((true, u) :: st) x m z → (u.toInt ≤ 0 → St1 Cfg Go En z m tg st x) ∧ (¬ u.toInt ≤ 0 → St1 Cfg Go En z m (pc + 1) ((false, u - 1) :: st) (G_X2_countOne x))) ∧
    (∀ st tg u nn, code[pc]? = some (14, lN tg, nn) → tg ≤ 400 → st.length < 200 → Cfg pc ((false, u) :: st) x m z → (u.toInt ≤ 0 → St1 Cfg Go En z m (pc + 1) st x) ∧ (¬ u.toInt ≤ 0 → St1 Cfg Go En z m tg ((false, u - 1) :: st) (G_X2_countOne x))) ∧
    (∀ st u v nn, code[pc]? = some (15, v, nn) → st.length < 200 → Cfg pc ((true, u) :: st) x m z → St1 Cfg Go En z m (pc + 1) st x) ∧
    (∀ st op y w v nn, code[pc]? = some (op, v, nn) → 3 ≤ op.toInt → op.toInt ≤ 8 → st.length < 199 → Cfg pc ((true, w) :: (true, y) :: st) x m z → St1 Cfg Go En z m (pc + 1) ((true, (G_X2_result x op y w).1) :: st) (G_X2_result x op y w).2))
section SIM
variable {Z : Type} {N : Nat} {c : CS} {code : List Row} {Cfg : Nat → Stk → SS → Nat → Z → Prop} {Go : Z → Z → Prop} {En : Z → SS → Prop}
theorem Tt.one {z : Z} {m pc : Nat} {x x' : SS} {st : Stk} (h : St1 Cfg Go En z m pc st x') (hx : x'.2.1 = 0 → xOK x' ∧ cn x ≤ cn x') : Tt Cfg Go En z m x 1 pc st x' := by
  refine ⟨fun h0 => ?_, h.2⟩
  obtain ⟨z', g, hc⟩ := h.1 h0
  obtain ⟨a, b⟩ := hx h0
  refine ⟨z', m + 1, g, hc, a, b, ?_⟩
  omega
theorem Tt.seq {z : Z} {m L1 L2 L pc1 pc2 : Nat} {x x1 x2 : SS} {st1 st2 : Stk} (hM : Mach N c code Cfg Go En) (h1 : Tt Cfg Go En z m x L1 pc1 st1 x1)
    (h2 : x1.2.1 = 0 → ∀ (z1 : Z) (m1 : Nat), Cfg pc1 st1 x1 m1 z1 → xOK x1 → m1 + 401 * (1001 - cn x1) ≤ m + 401 * (1001 - cn x) + L1 → Tt Cfg Go En z1 m1 x1 L2 pc2 st2 x2)
    (h3 : ¬ x1.2.1 = 0 → x2 = x1) (hL : L1 + L2 = L) : Tt Cfg Go En z m x L pc2 st2 x2 := by
  subst hL
  by_cases h : x1.2.1 = 0
  · obtain ⟨z1, m1, g1, c1, o1, n1, p1⟩ := h1.1 h
    have q := h2 h z1 m1 c1 o1 p1
    refine ⟨fun h0 => ?_, fun h0 => hM.2.2.1 _ _ _ g1 (q.2 h0)⟩
    obtain ⟨z2, m2, g2, c2, o2, n2, p2⟩ := q.1 h0
    exact ⟨z2, m2, hM.2.1 _ _ _ g1 g2, c2, o2, by omega, by omega⟩
  · have e := h3 h
    subst e
    exact ⟨fun h0 => absurd h0 h, h1.2⟩
theorem Tt.refl {z : Z} {m pc : Nat} {x : SS} {st : Stk} (hM : Mach N c code Cfg Go En) (hx : x.2.1 = 0) (ho : xOK x) (hc : Cfg pc st x m z) : Tt Cfg Go En z m x 0 pc st x :=
  ⟨fun _ => ⟨z, m, hM.1 z, hc, ho, Nat.le_refl _, by omega⟩, fun h => absurd hx h⟩
theorem cn_le {x : SS} (h : xOK x) : cn x ≤ 1000 := by
  have := h.1
  have := h.2
  unfold cn
  omega
end SIM
abbrev psh (t : TS) (k : Nat) (v : Int64) (st : Stk) : Stk := if isV t k then (true, v) :: st else st
