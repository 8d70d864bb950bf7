/-! the tree's nodes, its code as a list of rows, and a machine that steps it -/
abbrev kd (t : TS) (k : Nat) : Int32 := t.2.1 k
abbrev fa (t : TS) (k : Nat) : Int32 := t.2.2.1 k
abbrev sb (t : TS) (k : Nat) : Int32 := t.2.2.2.1 k
abbrev fo (t : TS) (k : Nat) : Int32 := t.2.2.2.2.2.2.1 k
abbrev nu (t : TS) (k : Nat) : Int64 := t.2.2.2.2.2.2.2 k
/-- node k is a value -/
abbrev isV (t : TS) (k : Nat) : Prop := (kd t k).toInt < 9
/-- a node's sides are as its kind needs, and stand ahead of it -/
def nOK (N : Nat) (t : TS) (k : Nat) : Prop :=
  (fo t k = 1 ∧ isV t k) ∨ (fo t k = 0 ∧
    ((kd t k = 1 ∧ ∃ a, a < N ∧ fa t k = nI a) ∨
     ((kd t k = 2 ∨ kd t k = 9) ∧ ∃ a j, a < N ∧ fa t k = nI a ∧ sb t k = nI j ∧ 1 ≤ j ∧ j < k ∧ isV t j) ∨
     (kd t k = 10 ∧ ∃ a j p q, a < N ∧ fa t k = nI a ∧ sb t k = nI j ∧ 1 ≤ j ∧ j < k ∧ fa t j = nI p ∧ sb t j = nI q ∧ 1 ≤ p ∧ p < k ∧ 1 ≤ q ∧ q < k ∧ isV t p ∧ isV t q) ∨
     (kd t k = 11 ∧ ∃ i j, fa t k = nI i ∧ sb t k = nI j ∧ 1 ≤ i ∧ i < k ∧ 1 ≤ j ∧ j < k) ∨
     ((kd t k = 12 ∨ kd t k = 13) ∧ ∃ i j, fa t k = nI i ∧ sb t k = nI j ∧ 1 ≤ i ∧ i < k ∧ 1 ≤ j ∧ j < k ∧ isV t i) ∨
     ((3 ≤ (kd t k).toInt ∧ (kd t k).toInt ≤ 8) ∧ ∃ i j, fa t k = nI i ∧ sb t k = nI j ∧ 1 ≤ i ∧ i < k ∧ 1 ≤ j ∧ j < k ∧ isV t i ∧ isV t j)))
/-- the whole tree: N cells, M nodes -/
def tOK (N M : Nat) (c : CS) (t : TS) : Prop := c.1 = nI N ∧ N ≤ 40 ∧ t.1 = nI M ∧ M ≤ 200 ∧ ∀ k, 1 ≤ k → k ≤ M → nOK N t k
theorem tOK_has {N M : Nat} {c : CS} {t : TS} (h : tOK N M c t) {k : Nat} (h1 : 1 ≤ k) (h2 : k ≤ M) : ¬ G_X3_has t (nI k) = 0 := by
  obtain ⟨-, -, e, hM, -⟩ := h
  rw [G_X3_has_iff, e, nI_toInt (by omega), nI_toInt (by omega)]
  omega
theorem nI_cl {k : Nat} (h : k < 2 ^ 31) : (nI k).toNatClampNeg = k := nI_clamp h
theorem tOK_kind {N M : Nat} {c : CS} {t : TS} (h : tOK N M c t) {k : Nat} (h1 : 1 ≤ k) (h2 : k ≤ M) : G_X3_kindOf t (nI k) = kd t k := by
  unfold G_X3_kindOf
  rw [if_neg (tOK_has h h1 h2), nI_cl (by have := h.2.2.2.1; omega)]
theorem tOK_first {N M : Nat} {c : CS} {t : TS} (h : tOK N M c t) {k : Nat} (h1 : 1 ≤ k) (h2 : k ≤ M) : G_X3_firstOf t (nI k) = fa t k := by
  unfold G_X3_firstOf
  rw [if_neg (tOK_has h h1 h2), nI_cl (by have := h.2.2.2.1; omega)]
theorem tOK_second {N M : Nat} {c : CS} {t : TS} (h : tOK N M c t) {k : Nat} (h1 : 1 ≤ k) (h2 : k ≤ M) : G_X3_secondOf t (nI k) = sb t k := by
  unfold G_X3_secondOf
  rw [if_neg (tOK_has h h1 h2), nI_cl (by have := h.2.2.2.1; omega)]
theorem tOK_folded {N M : Nat} {c : CS} {t : TS} (h : tOK N M c t) {k : Nat} (h1 : 1 ≤ k) (h2 : k ≤ M) : G_X3_isFolded t (nI k) = if fo t k = 0 then 0 else 1 := by
  unfold G_X3_isFolded
  rw [if_neg (tOK_has h h1 h2), nI_cl (by have := h.2.2.2.1; omega)]
theorem tOK_number {N M : Nat} {c : CS} {t : TS} (h : tOK N M c t) {k : Nat} (h1 : 1 ≤ k) (h2 : k ≤ M) : G_X3_foldedOf t (nI k) = nu t k := by
  unfold G_X3_foldedOf
  rw [if_neg (tOK_has h h1 h2), nI_cl (by have := h.2.2.2.1; omega)]
theorem tOK_value {N M : Nat} {c : CS} {t : TS} (h : tOK N M c t) {k : Nat} (h1 : 1 ≤ k) (h2 : k ≤ M) : G_X3_isValue t (nI k) = if isV t k then 1 else 0 := by
  unfold G_X3_isValue
  rw [if_neg (tOK_has h h1 h2), nI_cl (by have := h.2.2.2.1; omega)]
  by_cases hv : (t.2.1 k).toInt < 9
  · rw [if_pos (show isV t k from hv), if_neg (by rw [i32_le, show (9 : Int32).toInt = 9 by decide]; omega)]
  · rw [if_neg (show ¬ isV t k from hv), if_pos (by rw [i32_le, show (9 : Int32).toInt = 9 by decide]; omega)]
/-- the walk of node k with d levels left -/
def ev (c : CS) (t : TS) (d : Nat) (x : SS) (k : Nat) : Int64 × SS := G_X3_walk c t d x (nI k) (nI (201 - d))
theorem dp_ok {d : Nat} (h : d + 1 ≤ 200) : ¬ (200 : Int32) < nI (201 - (d + 1)) ∧ nI (201 - (d + 1)) + (1 : Int32) = nI (201 - d) := by
  refine ⟨?_, ?_⟩
  · rw [i32_lt, nI_toInt (by omega), show (200 : Int32).toInt = 200 by decide]
    omega
  · rw [nI_1]
    congr 1
    omega
theorem ev_raised {c : CS} {t : TS} {d : Nat} {x : SS} {k : Nat} (h : ¬ x.2.1 = 0) : ev c t d x k = (0, x) := by
  unfold ev
  cases d with
  | zero => rfl
  | succ d =>
    unfold G_X3_walk
    by_cases h1 : (200 : Int32) < nI (201 - (d + 1))
    · rw [if_pos h1]
    · rw [if_neg h1]
      by_cases h2 : G_X3_has t (nI k) = 0
      · rw [if_pos h2]
      · rw [if_neg h2, if_neg h]
section EV
variable {N M : Nat} {c : CS} {t : TS} {d : Nat} {x : SS} {k : Nat}
theorem ev_folded (h : tOK N M c t) (h1 : 1 ≤ k) (h2 : k ≤ M) (hd : d + 1 ≤ 200) (hx : x.2.1 = 0) (hf : fo t k = 1) : ev c t (d + 1) x k = (nu t k, x) := by
  unfold ev G_X3_walk
  rw [if_neg (dp_ok hd).1, if_neg (tOK_has h h1 h2), if_pos hx, tOK_folded h h1 h2, if_neg (by rw [hf]; decide), tOK_number h h1 h2]
theorem ev_open (h : tOK N M c t) (h1 : 1 ≤ k) (h2 : k ≤ M) (hd : d + 1 ≤ 200) (hx : x.2.1 = 0) (hf : fo t k = 0) : ev c t (d + 1) x k =
    if kd t k = 1 then G_X2_load c x (fa t k) 0
    else if kd t k = 2 then G_X2_load c (G_X3_walk c t d x (sb t k) (nI (201 - d))).2 (fa t k) (G_X3_walk c t d x (sb t k) (nI (201 - d))).1
    else if kd t k = 9 then (0, G_X2_save c (G_X3_walk c t d x (sb t k) (nI (201 - d))).2 (fa t k) 0 (G_X3_walk c t d x (sb t k) (nI (201 - d))).1)
    else if kd t k = 10 then (0, G_X2_save c (G_X3_walk c t d (G_X3_walk c t d x (G_X3_firstOf t (sb t k)) (nI (201 - d))).2 (G_X3_secondOf t (sb t k)) (nI (201 - d))).2 (fa t k) (G_X3_walk c t d x (G_X3_firstOf t (sb t k)) (nI (201 - d))).1 (G_X3_walk c t d (G_X3_walk c t d x (G_X3_firstOf t (sb t k)) (nI (201 - d))).2 (G_X3_secondOf t (sb t k)) (nI (201 - d))).1)
    else if kd t k = 11 then (0, (G_X3_walk c t d (G_X3_walk c t d x (fa t k) (nI (201 - d))).2 (sb t k) (nI (201 - d))).2)
    else if kd t k = 12 then (if lg_cmp (G_X3_walk c t d x (fa t k) (nI (201 - d))).1 0 = 0 then (0, (G_X3_walk c t d x (fa t k) (nI (201 - d))).2) else (0, (G_X3_walk c t d (G_X3_walk c t d x (fa t k) (nI (201 - d))).2 (sb t k) (nI (201 - d))).2))
    else if kd t k = 13 then G_X3_walk_L285 (fun y => G_X3_walk c t d y (sb t k) (nI (201 - d))) 1003 (if (1001 : Int64) < (G_X3_walk c t d x (fa t k) (nI (201 - d))).1 then 1001 else (G_X3_walk c t d x (fa t k) (nI (201 - d))).1) 0 (G_X3_walk c t d x (fa t k) (nI (201 - d))).2
    else G_X2_result (G_X3_walk c t d (G_X3_walk c t d x (fa t k) (nI (201 - d))).2 (sb t k) (nI (201 - d))).2 (kd t k) (G_X3_walk c t d x (fa t k) (nI (201 - d))).1 (G_X3_walk c t d (G_X3_walk c t d x (fa t k) (nI (201 - d))).2 (sb t k) (nI (201 - d))).1 := by
  unfold ev
  rw [G_X3_walk]
  rw [if_neg (dp_ok hd).1, if_neg (tOK_has h h1 h2), if_pos hx, tOK_folded h h1 h2, if_pos hf, if_pos rfl, tOK_kind h h1 h2, tOK_first h h1 h2, tOK_second h h1 h2, (dp_ok hd).2]
end EV
