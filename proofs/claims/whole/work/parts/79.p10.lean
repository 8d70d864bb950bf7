/-! making in the reference: tasks on a stack lay the same rows -/
def tRel (M : Nat) (t : TS) (mt : MT) : Prop := ∀ k, 1 ≤ k → k ≤ M → mt.2.1 k = kd t k ∧ mt.2.2.1 k = fa t k ∧ mt.2.2.2.1 k = sb t k ∧ mt.2.2.2.2.2.1 k = fo t k ∧ (fo t k = 1 → mt.2.2.2.2.2.2 k = nu t k)
abbrev Tk : Type := Int32 × Int32 × Int64 × Int32
def tkI (mq : MQS) : List Tk → Prop
  | [] => True
  | e :: tl => (mq.2.1 tl.length = e.1 ∧ mq.2.2.1 tl.length = e.2.1 ∧ mq.2.2.2.2.1 tl.length = e.2.2.1 ∧ mq.2.2.2.1 tl.length = e.2.2.2) ∧ tkI mq tl
def opI (f : AI) : List Nat → Prop
  | [] => True
  | e :: ol => f ol.length = nI e ∧ opI f ol
def mqI (tl : List Tk) (ol : List Nat) (mq : MQS) : Prop := mq.1 = nI tl.length ∧ tkI mq tl ∧ mq.2.2.2.2.2.1 = nI ol.length ∧ opI mq.2.2.2.2.2.2 ol
theorem tkI_keep {mq mq' : MQS} : ∀ {tl : List Tk}, (∀ i, i < tl.length → mq'.2.1 i = mq.2.1 i ∧ mq'.2.2.1 i = mq.2.2.1 i ∧ mq'.2.2.2.2.1 i = mq.2.2.2.2.1 i ∧ mq'.2.2.2.1 i = mq.2.2.2.1 i) → tkI mq tl → tkI mq' tl
  | [], _, _ => trivial
  | e :: tl, h, hk => by
    obtain ⟨⟨a1, a2, a3, a4⟩, hk⟩ := hk
    obtain ⟨b1, b2, b3, b4⟩ := h tl.length (by simp only [List.length_cons]; omega)
    exact ⟨⟨b1.trans a1, b2.trans a2, b3.trans a3, b4.trans a4⟩, tkI_keep (fun i hi => h i (by simp only [List.length_cons]; omega)) hk⟩
theorem opI_upd {f : AI} {n : Nat} {v : Int32} : ∀ {ol : List Nat}, ol.length ≤ n → opI f ol → opI (upd f n v) ol
  | [], _, _ => trivial
  | e :: ol, hl, h => by
    simp only [List.length_cons] at hl
    refine ⟨?_, opI_upd (by omega) h.2⟩
    rw [pk_un (by omega)]
    exact h.1
theorem mqI_push {tl : List Tk} {ol : List Nat} {mq : MQS} (h : mqI tl ol mq) (hl : tl.length < 3000) (wh op : Int32) (v : Int64) (its : Int32) : OK_X5_task mq wh op v its ∧ mqI ((wh, op, v, its) :: tl) ol (G_X5_task mq wh op v its) := by
  obtain ⟨h1, h2, h3, h4⟩ := h
  have hv : vp_in mq.1 3000 := by rw [h1]; exact vp_in_nI hl (by omega)
  refine ⟨⟨hv, hv, hv, hv, trivial⟩, ?_⟩
  unfold G_X5_task
  rw [h1, nI_clamp (by omega)]
  refine ⟨nI_1 _, ⟨⟨pk_us, pk_us, pk_uLs, pk_us⟩, ?_⟩, h3, h4⟩
  exact tkI_keep (fun i hi => ⟨pk_un (by omega), pk_un (by omega), pk_uLn (by omega), pk_un (by omega)⟩) h2
abbrev mqP (mq : MQS) : MQS := (mq.1 - (1 : Int32), mq.2.1, mq.2.2.1, mq.2.2.2.1, mq.2.2.2.2.1, mq.2.2.2.2.2.1, mq.2.2.2.2.2.2)
theorem mqI_pop {wh op : Int32} {v : Int64} {its : Int32} {tl : List Tk} {ol : List Nat} {mq : MQS} (h : mqI ((wh, op, v, its) :: tl) ol mq) (hl : tl.length < 3000) : ¬ mq.1 ≤ 0 ∧ vp_in (mq.1 - (1 : Int32)) 3000 ∧ (mq.1 - (1 : Int32)).toNatClampNeg = tl.length ∧ (mq.2.1 tl.length = wh ∧ mq.2.2.1 tl.length = op ∧ mq.2.2.2.2.1 tl.length = v ∧ mq.2.2.2.1 tl.length = its) ∧ mqI tl ol (mqP mq) := by
  obtain ⟨h1, ⟨h2, h2'⟩, h3, h4⟩ := h
  have h1' : mq.1 = nI (tl.length + 1) := h1
  have e1 : mq.1 - (1 : Int32) = nI tl.length := by rw [h1']; exact nI_pred _
  refine ⟨by rw [h1', i32_le, nI_toInt (by omega), i0]; omega, by rw [e1]; exact vp_in_nI hl (by omega), by rw [e1]; exact nI_clamp (by omega), h2, ?_⟩
  exact ⟨e1, tkI_keep (mq := mq) (fun i _ => ⟨rfl, rfl, rfl, rfl⟩) h2', h3, h4⟩
/-- the digits that a row keeps -/
def itO (mt : MT) (nn : Int32) : Int32 := if nn = 0 then 0 else mt.2.2.2.2.1 nn.toNatClampNeg
/-- rows laid -/
def MEx (mt : MT) (r : MR) (b : Nat) (l : List Row) (r' : MR) : Prop := r'.1 = nI (b + l.length) ∧ (∀ i, i < b → r'.2.1 i = r.2.1 i ∧ r'.2.2.2 i = r.2.2.2 i ∧ r'.2.2.1 i = r.2.2.1 i) ∧ (∀ (i : Nat) (q : Row), l[i]? = some q → r'.2.1 (b + i) = q.1 ∧ r'.2.2.2 (b + i) = q.2.1 ∧ r'.2.2.1 (b + i) = itO mt q.2.2)
theorem MEx.nil {mt : MT} {r : MR} {b : Nat} (h : r.1 = nI b) : MEx mt r b [] r := ⟨h, fun _ _ => ⟨rfl, rfl, rfl⟩, fun i q hq => by simp at hq⟩
theorem MEx.app {mt : MT} {r r1 r2 : MR} {b : Nat} {l1 l2 : List Row} (h1 : MEx mt r b l1 r1) (h2 : MEx mt r1 (b + l1.length) l2 r2) : MEx mt r b (l1 ++ l2) r2 := by
  obtain ⟨a1, a2, a3⟩ := h1
  obtain ⟨b1, b2, b3⟩ := h2
  refine ⟨by rw [b1, List.length_append, Nat.add_assoc], fun i hi => ?_, fun i q hq => ?_⟩
  · obtain ⟨q1, q2, q3⟩ := b2 i (by omega)
    obtain ⟨p1, p2, p3⟩ := a2 i hi
    exact ⟨q1.trans p1, q2.trans p2, q3.trans p3⟩
  · by_cases hl : i < l1.length
    · rw [List.getElem?_append_left hl] at hq
      obtain ⟨q1, q2, q3⟩ := b2 (b + i) (by omega)
      obtain ⟨p1, p2, p3⟩ := a3 i q hq
      exact ⟨q1.trans p1, q2.trans p2, q3.trans p3⟩
    · rw [List.getElem?_append_right (by omega)] at hq
      have := b3 _ q hq
      rw [show b + l1.length + (i - l1.length) = b + i by omega] at this
      exact this
theorem MEx.row {mt : MT} {r : MR} {b : Nat} (h : r.1 = nI b) (hb : b < 400) (op : Int32) (v : Int64) (nn its : Int32) (hs : its = itO mt nn) : MEx mt r b [(op, v, nn)] (G_X5_row r op v its) := by
  subst hs
  unfold G_X5_row
  rw [h, if_neg (by rw [i32_le, nI_toInt (by omega), show (400 : Int32).toInt = 400 by decide]; omega), nI_clamp (by omega)]
  refine ⟨nI_1 b, fun i hi => ⟨pk_un (by omega), pk_uLn (by omega), pk_un (by omega)⟩, fun i q hq => ?_⟩
  have hi : i < 1 := (List.getElem?_eq_some_iff.mp hq).1
  have : i = 0 := by omega
  subst this
  cases hq
  exact ⟨pk_us, pk_uLs, pk_us⟩
theorem row_ok {r : MR} {b : Nat} (h : r.1 = nI b) (hb : b ≤ 400) (op : Int32) (v : Int64) (its : Int32) : OK_X5_row r op v its ∧ (G_X5_row r op v its).1 = nI (b + 1) := by
  unfold OK_X5_row G_X5_row
  have hv : vp_in r.1 401 := by rw [h]; exact vp_in_nI (by omega) (by omega)
  by_cases q : (400 : Int32) ≤ r.1
  · rw [if_pos q, if_pos q]
    exact ⟨trivial, by rw [h]; exact nI_1 b⟩
  · rw [if_neg q, if_neg q]
    exact ⟨⟨hv, hv, hv, trivial⟩, by rw [h]; exact nI_1 b⟩
theorem MEx.aim {mt : MT} {r r1 : MR} {b : Nat} {l1 l2 : List Row} {op : Int32} {tg n : Nat} (h : MEx mt r b (l1 ++ (op, 0, 0) :: l2) r1) (hn : b + l1.length = n) : MEx mt r b (l1 ++ (op, lN tg, 0) :: l2) (r1.1, r1.2.1, r1.2.2.1, vp_updL r1.2.2.2 n (lN tg)) := by
  subst hn
  obtain ⟨a1, a2, a3⟩ := h
  simp only [List.length_append, List.length_cons] at a1
  refine ⟨by simp only [List.length_append, List.length_cons]; exact a1, fun i hi => ?_, fun i q hq => ?_⟩
  · obtain ⟨p1, p2, p3⟩ := a2 i hi
    exact ⟨p1, (pk_uLn (by omega)).trans p2, p3⟩
  · by_cases hl : i < l1.length
    · rw [List.getElem?_append_left hl] at hq
      obtain ⟨p1, p2, p3⟩ := a3 i q (by rw [List.getElem?_append_left hl]; exact hq)
      exact ⟨p1, (pk_uLn (by omega)).trans p2, p3⟩
    · by_cases he : i = l1.length
      · subst he
        rw [List.getElem?_append_right (Nat.le_refl _), Nat.sub_self] at hq
        cases hq
        obtain ⟨p1, p2, p3⟩ := a3 l1.length (op, 0, 0) (by rw [List.getElem?_append_right (Nat.le_refl _), Nat.sub_self]; rfl)
        exact ⟨p1, pk_uLs, p3⟩
      · obtain ⟨e, hi⟩ : ∃ e, i - l1.length = e + 1 := ⟨i - l1.length - 1, by omega⟩
        rw [List.getElem?_append_right (by omega), hi] at hq
        obtain ⟨p1, p2, p3⟩ := a3 i q (by rw [List.getElem?_append_right (by omega), hi]; exact hq)
        exact ⟨p1, (pk_uLn (by omega)).trans p2, p3⟩
/-! the loop of made -/
abbrev ZM : Type := MR × MQS
section MADE
variable (mt : MT) (mr0 : MR) (mq0 : MQS) (n0 : Int32) (fm : Nat)
def LM (fu : Nat) (z : ZM) : Int32 × MR × MQS := G_X5_made_L24 mt mr0 mq0 n0 fm fu z.1 z.2
def OM (fu : Nat) (z : ZM) : Prop := OK_X5_made_L24 mt mr0 mq0 n0 fm fu z.1 z.2
def GoM (z z' : ZM) : Prop := ∃ k, ∀ fu, (OM mt mr0 mq0 n0 fm fu z' → OM mt mr0 mq0 n0 fm (fu + k) z) ∧ LM mt mr0 mq0 n0 fm (fu + k) z = LM mt mr0 mq0 n0 fm fu z'
def EnM (z : ZM) : Prop := ∃ (k : Nat) (r : MR) (q : MQS), ∀ fu, OM mt mr0 mq0 n0 fm (fu + k) z ∧ LM mt mr0 mq0 n0 fm (fu + k) z = (0, r, q)
end MADE
section MADE2
variable {mt : MT} {mr0 : MR} {mq0 : MQS} {n0 : Int32} {fm : Nat}
theorem GoM.refl (z : ZM) : GoM mt mr0 mq0 n0 fm z z := ⟨0, fun _ => ⟨id, rfl⟩⟩
theorem GoM.trans {a b c : ZM} (h1 : GoM mt mr0 mq0 n0 fm a b) (h2 : GoM mt mr0 mq0 n0 fm b c) : GoM mt mr0 mq0 n0 fm a c := by
  obtain ⟨k1, q1⟩ := h1
  obtain ⟨k2, q2⟩ := h2
  refine ⟨k2 + k1, fun fu => ?_⟩
  rw [← Nat.add_assoc]
  exact ⟨fun h => (q1 (fu + k2)).1 ((q2 fu).1 h), (q1 (fu + k2)).2.trans (q2 fu).2⟩
theorem GoM.end {a b : ZM} (h1 : GoM mt mr0 mq0 n0 fm a b) (h2 : EnM mt mr0 mq0 n0 fm b) : EnM mt mr0 mq0 n0 fm a := by
  obtain ⟨k1, q1⟩ := h1
  obtain ⟨k2, r, q, q2⟩ := h2
  refine ⟨k2 + k1, r, q, fun fu => ?_⟩
  rw [← Nat.add_assoc]
  exact ⟨(q1 (fu + k2)).1 (q2 fu).1, (q1 (fu + k2)).2.trans (q2 fu).2⟩
theorem EnM.over {z : ZM} {b : Nat} (h : z.1.1 = nI b) (hb : 400 < b) (hb2 : b < 2 ^ 31) : EnM mt mr0 mq0 n0 fm z := by
  refine ⟨1, z.1, z.2, fun fu => ?_⟩
  have hq : (400 : Int32) < z.1.1 := by rw [h, i32_lt, nI_toInt hb2, show (400 : Int32).toInt = 400 by decide]; omega
  unfold OM LM
  rw [OK_X5_made_L24, G_X5_made_L24, if_pos hq]
  by_cases h0 : z.2.1 ≤ 0
  · rw [if_pos h0, if_pos h0, if_pos hq]
    exact ⟨trivial, rfl⟩
  · rw [if_neg h0, if_neg h0, if_pos hq, if_pos hq, if_pos hq]
    exact ⟨trivial, rfl⟩
theorem not400 {r : MR} {b : Nat} (h : r.1 = nI b) (hb : b ≤ 400) : ¬ (400 : Int32) < r.1 := by
  rw [h, i32_lt, nI_toInt (by omega), show (400 : Int32).toInt = 400 by decide]
  omega
theorem goM_node {z : ZM} {b : Nat} {o : Int32} {v : Int64} {i : Int32} {tl : List Tk} {ol : List Nat} (h : mqI ((0, o, v, i) :: tl) ol z.2) (hl : tl.length < 3000) (hr : z.1.1 = nI b) (hb : b ≤ 400) (hok : OK_X5_laid mt z.1 (mqP z.2) v.toInt32) : GoM mt mr0 mq0 n0 fm z (G_X5_laid mt z.1 (mqP z.2) v.toInt32) := by
  obtain ⟨p1, p2, p3, ⟨p4, p5, p6, p7⟩, p8⟩ := mqI_pop h hl
  refine ⟨1, fun fu => ?_⟩
  unfold OM LM
  rw [OK_X5_made_L24, G_X5_made_L24, if_neg p1, if_neg p1, if_neg (not400 hr hb), if_neg (not400 hr hb), p3, if_pos p4, if_pos p4, p6]
  exact ⟨fun h => ⟨p2, p2, hok, h⟩, rfl⟩
theorem goM_stm {z : ZM} {b k : Nat} {o : Int32} {i : Int32} {tl : List Tk} {ol : List Nat} (h : mqI ((1, o, (nI k).toInt64, i) :: tl) ol z.2) (hl : tl.length + 2 < 3000) (hr : z.1.1 = nI b) (hb : b ≤ 400) (hk : k ≤ 200) : ∃ mq, GoM mt mr0 mq0 n0 fm z (z.1, mq) ∧ mqI ((0, 0, (nI k).toInt64, 0) :: (if (9 : Int32) ≤ mt.2.1 k then tl else (2, 15, 0, 0) :: tl)) ol mq := by
  obtain ⟨p1, p2, p3, ⟨p4, p5, p6, p7⟩, p8⟩ := mqI_pop h (by omega)
  have e : ((nI k).toInt64).toInt32 = nI k := nI_l32 k
  have hv : vp_in (nI k) 201 := vp_in_nI (by omega) (by omega)
  by_cases h9 : (9 : Int32) ≤ mt.2.1 k
  · obtain ⟨o1, o2⟩ := mqI_push p8 (by omega) 0 0 (nI k).toInt64 0
    refine ⟨_, ⟨1, fun fu => ?_⟩, by rw [if_pos h9]; exact o2⟩
    unfold OM LM
    rw [OK_X5_made_L24, G_X5_made_L24, if_neg p1, if_neg p1, if_neg (not400 hr hb), if_neg (not400 hr hb), p3, if_neg (show ¬ z.2.2.1 tl.length = 0 by rw [p4]; decide), if_neg (show ¬ z.2.2.1 tl.length = 0 by rw [p4]; decide), if_pos p4, if_pos p4, p6, e, nI_clamp (by omega), if_pos h9, if_pos h9]
    exact ⟨fun h => ⟨p2, p2, hv, o1, h⟩, rfl⟩
  · obtain ⟨o1, o2⟩ := mqI_push p8 (by omega) 2 15 0 0
    obtain ⟨o3, o4⟩ := mqI_push o2 (by simp only [List.length_cons]; omega) 0 0 (nI k).toInt64 0
    refine ⟨_, ⟨1, fun fu => ?_⟩, by rw [if_neg h9]; exact o4⟩
    unfold OM LM
    rw [OK_X5_made_L24, G_X5_made_L24, if_neg p1, if_neg p1, if_neg (not400 hr hb), if_neg (not400 hr hb), p3, if_neg (show ¬ z.2.2.1 tl.length = 0 by rw [p4]; decide), if_neg (show ¬ z.2.2.1 tl.length = 0 by rw [p4]; decide), if_pos p4, if_pos p4, p6, e, nI_clamp (by omega), if_neg h9, if_neg h9]
    exact ⟨fun h => ⟨p2, p2, hv, o1, o3, h⟩, rfl⟩
theorem goM_row {z : ZM} {b : Nat} {op : Int32} {v : Int64} {i : Int32} {tl : List Tk} {ol : List Nat} (h : mqI ((2, op, v, i) :: tl) ol z.2) (hl : tl.length < 3000) (hr : z.1.1 = nI b) (hb : b ≤ 400) : GoM mt mr0 mq0 n0 fm z (G_X5_row z.1 op v i, mqP z.2) ∧ mqI tl ol (mqP z.2) := by
  obtain ⟨p1, p2, p3, ⟨p4, p5, p6, p7⟩, p8⟩ := mqI_pop h hl
  refine ⟨⟨1, fun fu => ?_⟩, p8⟩
  have ro := (row_ok hr hb op v i).1
  unfold OM LM
  rw [OK_X5_made_L24, G_X5_made_L24, if_neg p1, if_neg p1, if_neg (not400 hr hb), if_neg (not400 hr hb), p3, if_neg (show ¬ z.2.2.1 tl.length = 0 by rw [p4]; decide), if_neg (show ¬ z.2.2.1 tl.length = 0 by rw [p4]; decide), if_neg (show ¬ z.2.2.1 tl.length = 1 by rw [p4]; decide), if_neg (show ¬ z.2.2.1 tl.length = 1 by rw [p4]; decide), if_pos p4, if_pos p4, p5, p6, p7]
  exact ⟨fun h => ⟨p2, p2, p2, p2, p2, ro, h⟩, rfl⟩
theorem goM_jump {z : ZM} {b : Nat} {op : Int32} {v : Int64} {i : Int32} {tl : List Tk} {ol : List Nat} (h : mqI ((3, op, v, i) :: tl) ol z.2) (hl : tl.length < 3000) (ho : ol.length < 500) (hr : z.1.1 = nI b) (hb : b ≤ 400) : ∃ mq, GoM mt mr0 mq0 n0 fm z (G_X5_row z.1 op 0 0, mq) ∧ mqI tl (b :: ol) mq := by
  obtain ⟨p1, p2, p3, ⟨p4, p5, p6, p7⟩, p8⟩ := mqI_pop h hl
  have ro := (row_ok hr hb op 0 0).1
  have hv : vp_in z.2.2.2.2.2.2.1 500 := by rw [h.2.2.1]; exact vp_in_nI ho (by omega)
  refine ⟨(z.2.1 - (1 : Int32), z.2.2.1, z.2.2.2.1, z.2.2.2.2.1, z.2.2.2.2.2.1, z.2.2.2.2.2.2.1 + (1 : Int32), upd z.2.2.2.2.2.2.2 z.2.2.2.2.2.2.1.toNatClampNeg z.1.1), ⟨1, fun fu => ?_⟩, ?_⟩
  · unfold OM LM
    rw [OK_X5_made_L24, G_X5_made_L24, if_neg p1, if_neg p1, if_neg (not400 hr hb), if_neg (not400 hr hb), p3, if_neg (show ¬ z.2.2.1 tl.length = 0 by rw [p4]; decide), if_neg (show ¬ z.2.2.1 tl.length = 0 by rw [p4]; decide), if_neg (show ¬ z.2.2.1 tl.length = 1 by rw [p4]; decide), if_neg (show ¬ z.2.2.1 tl.length = 1 by rw [p4]; decide), if_neg (show ¬ z.2.2.1 tl.length = 2 by rw [p4]; decide), if_neg (show ¬ z.2.2.1 tl.length = 2 by rw [p4]; decide), if_pos p4, if_pos p4, p5]
    exact ⟨fun h => ⟨p2, p2, hv, p2, ro, h⟩, rfl⟩
  · obtain ⟨q1, q2, q3, q4⟩ := p8
    refine ⟨q1, tkI_keep (mq := mqP z.2) (fun i _ => ⟨rfl, rfl, rfl, rfl⟩) q2, ?_, ?_, ?_⟩
    · show z.2.2.2.2.2.2.1 + 1 = nI (ol.length + 1)
      rw [h.2.2.1]
      exact nI_1 _
    · show upd z.2.2.2.2.2.2.2 z.2.2.2.2.2.2.1.toNatClampNeg z.1.1 ol.length = nI b
      rw [h.2.2.1, nI_clamp (by omega), pk_us, hr]
    · show opI (upd z.2.2.2.2.2.2.2 z.2.2.2.2.2.2.1.toNatClampNeg z.1.1) ol
      rw [h.2.2.1, nI_clamp (by omega)]
      exact opI_upd (Nat.le_refl _) q4
theorem nI_l1 {a : Nat} (h : a < 2 ^ 31) : (nI a).toInt64 + (1 : Int64) = lN (a + 1) := by
  rw [nI_l h]
  exact lN_1 a
/-- the end of an if -/
theorem goM_end {z : ZM} {b f : Nat} {op : Int32} {v : Int64} {i : Int32} {tl : List Tk} {ol : List Nat} (h : mqI ((4, op, v, i) :: tl) (f :: ol) z.2) (hl : tl.length < 3000) (ho : ol.length < 500) (hr : z.1.1 = nI b) (hb : b ≤ 400) (hf : f < 400) : ∃ mq, GoM mt mr0 mq0 n0 fm z ((z.1.1, z.1.2.1, z.1.2.2.1, vp_updL z.1.2.2.2 f (lN b)), mq) ∧ mqI tl ol mq := by
  obtain ⟨p1, p2, p3, ⟨p4, p5, p6, p7⟩, p8⟩ := mqI_pop h hl
  have e1 : z.2.2.2.2.2.2.1 - (1 : Int32) = nI ol.length := by
    rw [h.2.2.1]
    exact nI_pred _
  have hv : vp_in (z.2.2.2.2.2.2.1 - (1 : Int32)) 500 := by rw [e1]; exact vp_in_nI ho (by omega)
  have e2 : z.2.2.2.2.2.2.2 (z.2.2.2.2.2.2.1 - (1 : Int32)).toNatClampNeg = nI f := by rw [e1, nI_clamp (by omega)]; exact h.2.2.2.1
  have hv2 : vp_in (nI f) 401 := vp_in_nI (by omega) (by omega)
  have h4 : ¬ (400 : Int32) ≤ nI f := by rw [i32_le, nI_toInt (by omega), show (400 : Int32).toInt = 400 by decide]; omega
  refine ⟨(z.2.1 - (1 : Int32), z.2.2.1, z.2.2.2.1, z.2.2.2.2.1, z.2.2.2.2.2.1, z.2.2.2.2.2.2.1 - (1 : Int32), z.2.2.2.2.2.2.2), ⟨1, fun fu => ?_⟩, ?_⟩
  · unfold OM LM
    rw [OK_X5_made_L24, G_X5_made_L24, if_neg p1, if_neg p1, if_neg (not400 hr hb), if_neg (not400 hr hb), p3, if_neg (show ¬ z.2.2.1 tl.length = 0 by rw [p4]; decide), if_neg (show ¬ z.2.2.1 tl.length = 0 by rw [p4]; decide), if_neg (show ¬ z.2.2.1 tl.length = 1 by rw [p4]; decide), if_neg (show ¬ z.2.2.1 tl.length = 1 by rw [p4]; decide), if_neg (show ¬ z.2.2.1 tl.length = 2 by rw [p4]; decide), if_neg (show ¬ z.2.2.1 tl.length = 2 by rw [p4]; decide), if_neg (show ¬ z.2.2.1 tl.length = 3 by rw [p4]; decide), if_neg (show ¬ z.2.2.1 tl.length = 3 by rw [p4]; decide), if_neg (show ¬ z.2.2.1 tl.length = 5 by rw [p4]; decide), if_neg (show ¬ z.2.2.1 tl.length = 5 by rw [p4]; decide), e2, if_neg h4, if_neg h4, nI_clamp (by omega), hr, nI_l (by omega)]
    exact ⟨fun h => ⟨p2, p2, hv, hv2, h⟩, rfl⟩
  · obtain ⟨q1, q2, q3, q4⟩ := p8
    exact ⟨q1, tkI_keep (mq := mqP z.2) (fun i _ => ⟨rfl, rfl, rfl, rfl⟩) q2, e1, h.2.2.2.2⟩
/-- the end of a loop, with a row of its own -/
theorem goM_loop {z : ZM} {b f : Nat} {op : Int32} {v : Int64} {i : Int32} {tl : List Tk} {ol : List Nat} (h : mqI ((5, op, v, i) :: tl) (f :: ol) z.2) (hl : tl.length < 3000) (ho : ol.length < 500) (hr : z.1.1 = nI b) (hb : b ≤ 400) (hf : f < 400) : ∃ mq, GoM mt mr0 mq0 n0 fm z (((G_X5_row z.1 14 (lN (f + 1)) 0).1, (G_X5_row z.1 14 (lN (f + 1)) 0).2.1, (G_X5_row z.1 14 (lN (f + 1)) 0).2.2.1, vp_updL (G_X5_row z.1 14 (lN (f + 1)) 0).2.2.2 f (lN (b + 1))), mq) ∧ mqI tl ol mq := by
  obtain ⟨p1, p2, p3, ⟨p4, p5, p6, p7⟩, p8⟩ := mqI_pop h hl
  have e1 : z.2.2.2.2.2.2.1 - (1 : Int32) = nI ol.length := by
    rw [h.2.2.1]
    exact nI_pred _
  have hv : vp_in (z.2.2.2.2.2.2.1 - (1 : Int32)) 500 := by rw [e1]; exact vp_in_nI ho (by omega)
  have e2 : z.2.2.2.2.2.2.2 (z.2.2.2.2.2.2.1 - (1 : Int32)).toNatClampNeg = nI f := by rw [e1, nI_clamp (by omega)]; exact h.2.2.2.1
  have hv2 : vp_in (nI f) 401 := vp_in_nI (by omega) (by omega)
  have h4 : ¬ (400 : Int32) ≤ nI f := by rw [i32_le, nI_toInt (by omega), show (400 : Int32).toInt = 400 by decide]; omega
  obtain ⟨ro, re⟩ := row_ok hr hb 14 (lN (f + 1)) 0
  refine ⟨(z.2.1 - (1 : Int32), z.2.2.1, z.2.2.2.1, z.2.2.2.2.1, z.2.2.2.2.2.1, z.2.2.2.2.2.2.1 - (1 : Int32), z.2.2.2.2.2.2.2), ⟨1, fun fu => ?_⟩, ?_⟩
  · unfold OM LM
    rw [OK_X5_made_L24, G_X5_made_L24, if_neg p1, if_neg p1, if_neg (not400 hr hb), if_neg (not400 hr hb), p3, if_neg (show ¬ z.2.2.1 tl.length = 0 by rw [p4]; decide), if_neg (show ¬ z.2.2.1 tl.length = 0 by rw [p4]; decide), if_neg (show ¬ z.2.2.1 tl.length = 1 by rw [p4]; decide), if_neg (show ¬ z.2.2.1 tl.length = 1 by rw [p4]; decide), if_neg (show ¬ z.2.2.1 tl.length = 2 by rw [p4]; decide), if_neg (show ¬ z.2.2.1 tl.length = 2 by rw [p4]; decide), if_neg (show ¬ z.2.2.1 tl.length = 3 by rw [p4]; decide), if_neg (show ¬ z.2.2.1 tl.length = 3 by rw [p4]; decide), if_pos p4, if_pos p4, e2, if_neg h4, if_neg h4, nI_clamp (by omega), nI_l1 (by omega), re, nI_l (by omega)]
    exact ⟨fun h => ⟨p2, p2, hv, ro, hv2, h⟩, rfl⟩
  · obtain ⟨q1, q2, q3, q4⟩ := p8
    exact ⟨q1, tkI_keep (mq := mqP z.2) (fun i _ => ⟨rfl, rfl, rfl, rfl⟩) q2, e1, h.2.2.2.2⟩
end MADE2
