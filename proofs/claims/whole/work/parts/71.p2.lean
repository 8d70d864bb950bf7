/-! storages' steps -/
def cn (x : SS) : Nat := x.2.2.toInt.toNat
def xOK (x : SS) : Prop := 0 ≤ x.2.2.toInt ∧ x.2.2.toInt ≤ 1000
theorem ld_ok {c : CS} {x : SS} {n : Int32} {z : Int64} (hx : x.2.1 = 0) (h : (G_X2_load c x n z).2.2.1 = 0) : (G_X2_load c x n z).2 = x := by
  unfold G_X2_load at h ⊢
  rw [if_pos hx] at h ⊢
  split at h
  · exact absurd h (by show ¬ (1 : Int32) = 0; decide)
  · rename_i q
    rw [if_neg q]
theorem rs_ok {x : SS} {a : Int32} {y z : Int64} (hx : x.2.1 = 0) (h : (G_X2_result x a y z).2.2.1 = 0) : (G_X2_result x a y z).2 = x := by
  unfold G_X2_result at h ⊢
  rw [if_pos hx] at h ⊢
  split at h
  · rename_i q
    rw [if_pos q]
    split at h
    · exact absurd h (by show ¬ (2 : Int32) = 0; decide)
    · rename_i q2
      rw [if_neg q2]
  · rename_i q
    rw [if_neg q]
theorem co_ok {x : SS} (hx : x.2.1 = 0) (ho : xOK x) (h : (G_X2_countOne x).2.1 = 0) : xOK (G_X2_countOne x) ∧ cn (G_X2_countOne x) = cn x + 1 := by
  have e1 : (1000 : Int32).toInt = 1000 := by decide
  obtain ⟨h1, h2⟩ := ho
  unfold G_X2_countOne at h ⊢
  rw [if_pos hx] at h ⊢
  split at h
  · rename_i q
    rw [if_pos q]
    rw [i32_le, i32_inc (by omega), e1] at q
    unfold xOK cn
    show (0 ≤ (x.2.2 + (1 : Int32)).toInt ∧ (x.2.2 + (1 : Int32)).toInt ≤ 1000) ∧ (x.2.2 + (1 : Int32)).toInt.toNat = _
    rw [i32_inc (by omega)]
    omega
  · exact absurd h (by show ¬ (3 : Int32) = 0; decide)
theorem wZ_2 {x : SS} {p n : Int32} {v : Int64} : ∀ (fu : Nat) (rs : Int64) (sg i : Int32) (xv : SS), xv.2 = x.2 → (G_X0_writeZoned_L45 x p n v fu rs sg i xv).2 = x.2 := by
  intro fu
  induction fu with
  | zero => intro rs sg i xv h; rfl
  | succ fu ih =>
    intro rs sg i xv h
    unfold G_X0_writeZoned_L45
    split
    · exact h
    · exact ih _ _ _ _ h
theorem wP_2 {x : SS} {p n : Int32} {v : Int64} : ∀ (fu : Nat) (rs : Int64) (rt i : Int32) (xv : SS), xv.2 = x.2 → (G_X0_writePacked_L55 x p n v fu rs rt i xv).2 = x.2 := by
  intro fu
  induction fu with
  | zero => intro rs rt i xv h; rfl
  | succ fu ih =>
    intro rs rt i xv h
    unfold G_X0_writePacked_L55
    split
    · exact h
    · exact ih _ _ _ _ h
theorem wB_2 {x : SS} {p : Int32} {v : Int32} : ∀ (fu : Nat) (rs : Int32) (i : Int32) (xv : SS), xv.2 = x.2 → (G_X0_writeBinary_L19 x p v fu rs i xv).2 = x.2 := by
  intro fu
  induction fu with
  | zero => intro rs i xv h; rfl
  | succ fu ih =>
    intro rs i xv h
    unfold G_X0_writeBinary_L19
    split
    · exact h
    · exact ih _ _ _ h
theorem wr_2 (c : CS) (x : SS) (n p : Int32) (v : Int64) : (G_X0_write c x n p v).2 = x.2 := by
  unfold G_X0_write
  split
  · rfl
  · split
    · unfold G_X0_writeBinary
      split
      · rfl
      · exact wB_2 _ _ _ _ rfl
    · split
      · unfold G_X0_writePacked
        split
        · rfl
        · split <;> exact wP_2 _ _ _ _ _ rfl
      · unfold G_X0_writeZoned
        split
        · rfl
        · split <;> exact wZ_2 _ _ _ _ _ rfl
theorem sv_ok {c : CS} {x : SS} {n : Int32} {z v : Int64} (hx : x.2.1 = 0) (ho : xOK x) (h : (G_X2_save c x n z v).2.1 = 0) : xOK (G_X2_save c x n z v) ∧ cn (G_X2_save c x n z v) = cn x + 1 := by
  unfold G_X2_save at h ⊢
  rw [if_pos hx] at h ⊢
  split at h
  · exact absurd h (by show ¬ (1 : Int32) = 0; decide)
  · rename_i q
    rw [if_neg q]
    split at h
    · rename_i q2
      rw [if_pos q2]
      have e := wr_2 c (G_X2_countOne x) n (G_X0_placeBehind c n z) v
      obtain ⟨a, b⟩ := co_ok hx ho q2
      unfold xOK cn at *
      rw [e]
      exact ⟨a, b⟩
    · rename_i q2
      exact absurd h q2
/-! rows of code -/
abbrev Row : Type := Int32 × Int64 × Int32
def dr (t : TS) (k : Nat) : List Row := if isV t k then [(15, 0, 0)] else []
def dl (t : TS) (k : Nat) : Nat := if isV t k then 1 else 0
abbrev ix (v : Int32) : Nat := v.toNatClampNeg
/-- how many rows a node has -/
def ln (t : TS) : Nat → Nat → Nat
  | 0, _ => 0
  | d + 1, k => if fo t k = 0 then
      if kd t k = 1 then 1
      else if kd t k = 2 ∨ kd t k = 9 then ln t d (ix (sb t k)) + 1
      else if kd t k = 10 then ln t d (ix (fa t (ix (sb t k)))) + ln t d (ix (sb t (ix (sb t k)))) + 1
      else if kd t k = 11 then (ln t d (ix (fa t k)) + dl t (ix (fa t k))) + (ln t d (ix (sb t k)) + dl t (ix (sb t k)))
      else if kd t k = 12 then ln t d (ix (fa t k)) + 1 + (ln t d (ix (sb t k)) + dl t (ix (sb t k)))
      else if kd t k = 13 then ln t d (ix (fa t k)) + 1 + (ln t d (ix (sb t k)) + dl t (ix (sb t k))) + 1
      else ln t d (ix (fa t k)) + ln t d (ix (sb t k)) + 1
    else 1
/-- a node's rows, from place b on -/
def cd (t : TS) : Nat → Nat → Nat → List Row
  | 0, _, _ => []
  | d + 1, k, b => if fo t k = 0 then
      if kd t k = 1 then [(1, (fa t k).toInt64, 0)]
      else if kd t k = 2 ∨ kd t k = 9 then cd t d (ix (sb t k)) b ++ [(kd t k, (fa t k).toInt64, 0)]
      else if kd t k = 10 then cd t d (ix (fa t (ix (sb t k)))) b ++ (cd t d (ix (sb t (ix (sb t k)))) (b + ln t d (ix (fa t (ix (sb t k))))) ++ [(10, (fa t k).toInt64, 0)])
      else if kd t k = 11 then cd t d (ix (fa t k)) b ++ (dr t (ix (fa t k)) ++ (cd t d (ix (sb t k)) (b + (ln t d (ix (fa t k)) + dl t (ix (fa t k)))) ++ dr t (ix (sb t k))))
      else if kd t k = 12 then cd t d (ix (fa t k)) b ++ ((12, lN (b + (ln t d (ix (fa t k)) + 1 + (ln t d (ix (sb t k)) + dl t (ix (sb t k))))), 0) :: (cd t d (ix (sb t k)) (b + (ln t d (ix (fa t k)) + 1)) ++ dr t (ix (sb t k))))
      else if kd t k = 13 then cd t d (ix (fa t k)) b ++ ((13, lN (b + (ln t d (ix (fa t k)) + 1 + (ln t d (ix (sb t k)) + dl t (ix (sb t k))) + 1)), 0) :: (cd t d (ix (sb t k)) (b + (ln t d (ix (fa t k)) + 1)) ++ (dr t (ix (sb t k)) ++ [(14, lN (b + (ln t d (ix (fa t k)) + 1)), 0)])))
      else cd t d (ix (fa t k)) b ++ (cd t d (ix (sb t k)) (b + ln t d (ix (fa t k))) ++ [(kd t k, 0, nI k)])
    else [(0, nu t k, 0)]
theorem dr_len (t : TS) (k : Nat) : (dr t k).length = dl t k := by
  unfold dr dl
  split <;> rfl
theorem cd_len (t : TS) : ∀ (d k b : Nat), (cd t d k b).length = ln t d k := by
  intro d
  induction d with
  | zero => intro k b; rfl
  | succ d ih =>
    intro k b
    unfold cd ln
    by_cases h0 : fo t k = 0
    · rw [if_pos h0, if_pos h0]
      by_cases h1 : kd t k = 1
      · rw [if_pos h1, if_pos h1]; rfl
      · rw [if_neg h1, if_neg h1]
        by_cases h2 : kd t k = 2 ∨ kd t k = 9
        · rw [if_pos h2, if_pos h2, List.length_append, ih]; rfl
        · rw [if_neg h2, if_neg h2]
          by_cases h10 : kd t k = 10
          · rw [if_pos h10, if_pos h10, List.length_append, List.length_append, ih, ih]; simp only [List.length_cons, List.length_nil]; omega
          · rw [if_neg h10, if_neg h10]
            by_cases h11 : kd t k = 11
            · rw [if_pos h11, if_pos h11]; simp only [List.length_append, ih, dr_len]; omega
            · rw [if_neg h11, if_neg h11]
              by_cases h12 : kd t k = 12
              · rw [if_pos h12, if_pos h12]; simp only [List.length_append, List.length_cons, ih, dr_len]; omega
              · rw [if_neg h12, if_neg h12]
                by_cases h13 : kd t k = 13
                · rw [if_pos h13, if_pos h13]; simp only [List.length_append, List.length_cons, List.length_nil, ih, dr_len]; omega
                · rw [if_neg h13, if_neg h13]; simp only [List.length_append, List.length_cons, List.length_nil, ih]; omega
    · rw [if_neg h0, if_neg h0]; rfl
/-- the rows l stand in code from b on -/
def Seg (code : List Row) (b : Nat) (l : List Row) : Prop := ∀ (i : Nat) (r : Row), l[i]? = some r → code[b + i]? = some r
theorem Seg.left {code : List Row} {b : Nat} {l1 l2 : List Row} (h : Seg code b (l1 ++ l2)) : Seg code b l1 := fun i r hi => h i r (by
  have hl : i < l1.length := (List.getElem?_eq_some_iff.mp hi).1
  rw [List.getElem?_append_left hl]; exact hi)
theorem Seg.right {code : List Row} {b : Nat} {l1 l2 : List Row} (h : Seg code b (l1 ++ l2)) {n : Nat} (hn : l1.length = n) : Seg code (b + n) l2 := fun i r hi => by
  subst hn
  have := h (l1.length + i) r (by rw [List.getElem?_append_right (by omega), Nat.add_sub_cancel_left]; exact hi)
  rw [Nat.add_assoc]
  exact this
theorem Seg.head {code : List Row} {b : Nat} {r : Row} {l : List Row} (h : Seg code b (r :: l)) : code[b]? = some r := h 0 r rfl
theorem Seg.tail {code : List Row} {b : Nat} {r : Row} {l : List Row} (h : Seg code b (r :: l)) : Seg code (b + 1) l := fun i q hi => by
  have := h (i + 1) q hi
  rw [Nat.add_assoc, Nat.add_comm 1 i]
  exact this
