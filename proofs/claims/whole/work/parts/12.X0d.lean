theorem okX0_lowestDigitsL {v : Int64} {n : Int32} : ∀ (fu : Nat) (j : Nat) (kp rs un : Int64), j ≤ 9 → 9 - j < fu → OK_X0_lowestDigits_L11 v n fu kp rs un (nI j) := by
  intro fu
  induction fu with
  | zero => intro j kp rs un h1 h2; omega
  | succ fu ih =>
    intro j kp rs un h1 h2
    unfold OK_X0_lowestDigits_L11
    split
    · trivial
    · split
      · trivial
      · rename_i h
        have hj : j < 9 := by
          rcases Nat.lt_or_ge j 9 with q | q
          · exact q
          · have : j = 9 := by omega
            subst this
            exact absurd (by decide) h
        rw [nI_1]
        exact ih (j + 1) _ _ _ (by omega) (by omega)
theorem okX0_lowestDigits {v : Int64} {n : Int32} : OK_X0_lowestDigits v n := okX0_lowestDigitsL 20 0 0 v 1 (by omega) (by omega)
theorem okX0_writeZonedL {x : SS} {p n : Int32} {v : Int64} (h1 : 0 ≤ p.toInt) : ∀ (fu : Nat) (rs : Int64) (sg i : Int32) (xv : SS), p.toInt - 1 ≤ i.toInt → i.toInt < 64 → i.toInt + 1 < fu + p.toInt → OK_X0_writeZoned_L45 x p n v fu rs sg i xv := by
  intro fu
  induction fu with
  | zero => intro rs sg i xv a b d; omega
  | succ fu ih =>
    intro rs sg i xv a b d
    unfold OK_X0_writeZoned_L45
    split
    · trivial
    · rename_i h
      rw [i32_lt] at h
      refine ⟨vp_in_iff.mpr ⟨by omega, by omega⟩, ih _ _ _ _ ?_ ?_ ?_⟩ <;> rw [i32_dec (by omega)] <;> omega
theorem okX0_writePackedL {x : SS} {p n : Int32} {v : Int64} (h1 : 0 ≤ p.toInt) : ∀ (fu : Nat) (rs : Int64) (rt i : Int32) (xv : SS), p.toInt - 1 ≤ i.toInt → i.toInt < 64 → i.toInt + 1 < fu + p.toInt → OK_X0_writePacked_L55 x p n v fu rs rt i xv := by
  intro fu
  induction fu with
  | zero => intro rs rt i xv a b d; omega
  | succ fu ih =>
    intro rs rt i xv a b d
    unfold OK_X0_writePacked_L55
    split
    · trivial
    · rename_i h
      rw [i32_lt] at h
      refine ⟨vp_in_iff.mpr ⟨by omega, by omega⟩, ih _ _ _ _ ?_ ?_ ?_⟩ <;> rw [i32_dec (by omega)] <;> omega
theorem okX0_writeBinaryL {x : SS} {p : Int32} {v : Int32} (h1 : 0 ≤ p.toInt) : ∀ (fu : Nat) (rs : Int32) (i : Int32) (xv : SS), p.toInt - 1 ≤ i.toInt → i.toInt < 64 → i.toInt + 1 < fu + p.toInt → OK_X0_writeBinary_L19 x p v fu rs i xv := by
  intro fu
  induction fu with
  | zero => intro rs i xv a b d; omega
  | succ fu ih =>
    intro rs i xv a b d
    unfold OK_X0_writeBinary_L19
    split
    · trivial
    · rename_i h
      rw [i32_lt] at h
      refine ⟨vp_in_iff.mpr ⟨by omega, by omega⟩, ih _ _ _ ?_ ?_ ?_⟩ <;> rw [i32_dec (by omega)] <;> omega
theorem inside_last {p n : Int32} (b : ¬ G_X0_isInside p n = 0) : 0 ≤ p.toInt ∧ p.toInt ≤ ((p + n) - (1 : Int32)).toInt ∧ ((p + n) - (1 : Int32)).toInt < 64 ∧ ((p + n) - (1 : Int32)).toInt = p.toInt + n.toInt - 1 ∧ 1 ≤ n.toInt ∧ p.toInt + n.toInt ≤ 64 := by
  obtain ⟨h1, h2, h3, h4⟩ := (G_X0_isInside_iff p n).mp b
  have e1 : (1 : Int32).toInt = 1 := by decide
  have ea : (p + n).toInt = p.toInt + n.toInt := i32_add (by omega) (by omega)
  have es : ((p + n) - (1 : Int32)).toInt = p.toInt + n.toInt - 1 := by rw [i32_sub (by omega) (by omega), ea, e1]
  omega
theorem okX0_writeZoned {x : SS} {p n : Int32} {v : Int64} : OK_X0_writeZoned x p n v := by
  unfold OK_X0_writeZoned
  split
  · trivial
  · rename_i b
    obtain ⟨h1, h2, h3, h4, h5, h6⟩ := inside_last b
    split <;> exact okX0_writeZonedL h1 _ _ _ _ _ (by omega) (by omega) (by omega)
theorem okX0_writePacked {x : SS} {p n : Int32} {v : Int64} : OK_X0_writePacked x p n v := by
  unfold OK_X0_writePacked
  split
  · trivial
  · rename_i b
    obtain ⟨h1, h2, h3, h4, h5, h6⟩ := inside_last b
    split <;> exact okX0_writePackedL h1 _ _ _ _ _ (by omega) (by omega) (by omega)
theorem okX0_writeBinary {x : SS} {p : Int32} {v : Int32} : OK_X0_writeBinary x p v := by
  unfold OK_X0_writeBinary
  split
  · trivial
  · rename_i b
    have e4 : (4 : Int32).toInt = 4 := by decide
    obtain ⟨h1, h2, h3, h4, h5, h6⟩ := inside_last b
    exact okX0_writeBinaryL h1 _ _ _ _ (by omega) (by omega) (by omega)
theorem okX0_read {c : CS} {x : SS} {n p : Int32} (hc : okC c) : OK_X0_read c x n p := by
  unfold OK_X0_read
  split
  · trivial
  · rename_i b
    have h := okC_in hc b
    refine ⟨h, ?_⟩
    split
    · exact ⟨okX0_readBinary, trivial⟩
    · refine ⟨h, ?_⟩
      split
      · exact ⟨h, okX0_readPacked, trivial⟩
      · exact ⟨h, okX0_readZoned, trivial⟩
theorem okX0_write {c : CS} {x : SS} {n p : Int32} {v : Int64} (hc : okC c) : OK_X0_write c x n p v := by
  unfold OK_X0_write
  split
  · trivial
  · rename_i b
    have h := okC_in hc b
    refine ⟨h, okX0_lowestDigits, h, ?_⟩
    split
    · exact ⟨okX0_writeBinary, trivial⟩
    · refine ⟨h, ?_⟩
      split
      · exact ⟨h, okX0_writePacked, trivial⟩
      · exact ⟨h, okX0_writeZoned, trivial⟩
theorem k_X0_surelyWithin (l : Launch) (w : WG) (c : CS) (t : TS) (r : RS) (s : Nat → SS) (n : Int32) (hc : okC c) : Met l yX0_surelyWithin wsX0_surelyWithin { frames := 1, cells := 0, slots := 0, locals := 21 } (va_Pc [.ref (w.2.2 1), .int n] (wPK w (wC w c t r s))) (xR (some (.int (G_X0_surelyWithin c n)))) 0 0 xNo := c_X0_surelyWithin l w c t r s n  (okX0_surelyWithin hc)
theorem k_X0_placeBehind (l : Launch) (w : WG) (c : CS) (t : TS) (r : RS) (s : Nat → SS) (n : Int32) (z : Int64) (hc : okC c) : Met l yX0_placeBehind wsX0_placeBehind { frames := 1, cells := 0, slots := 0, locals := 21 } (va_Pc [.ref (w.2.2 1), .int n, .long z] (wPK w (wC w c t r s))) (xR (some (.int (G_X0_placeBehind c n z)))) 0 0 xNo := c_X0_placeBehind l w c t r s n z  (okX0_placeBehind hc)
theorem k_X0_read (l : Launch) (w : WG) (c : CS) (t : TS) (r : RS) (s : Nat → SS) (k : Nat) (hk : k < 4) (x : SS) (n : Int32) (p : Int32) (hc : okC c) : Met l yX0_read wsX0_read { frames := 2, cells := 0, slots := 0, locals := 52 } (va_Pc [.ref (w.2.2 1), .ref (w.2.2 (19 + 2 * k)), .int n, .int p] (wPK w (wC w c t r (va_up s k x)))) (xR (some (.long (G_X0_read c x n p)))) 0 0 xNo := c_X0_read l w c t r s k hk x n p  (okX0_read hc)
theorem k_X0_write (l : Launch) (w : WG) (hA : wAp w 26) (c : CS) (t : TS) (r : RS) (s : Nat → SS) (k : Nat) (hk : k < 4) (x : SS) (n : Int32) (p : Int32) (v : Int64) (hc : okC c) : Met l yX0_write wsX0_write { frames := 2, cells := 0, slots := 0, locals := 52 } (va_Pc [.ref (w.2.2 1), .ref (w.2.2 (19 + 2 * k)), .int n, .int p, .long v] (wPK w (wC w c t r (va_up s k x)))) (xM none (fun H => va_P w.1 vwCl (wC w c t r (va_up s k (G_X0_write c x n p v))) H) (wA w 26)) 0 0 (wA w 26) := c_X0_write l w hA c t r s k hk x n p v  (okX0_write hc)
