/-! class and reference alike -/
def Rel (c : CS) (t : TS) (r : RS) (s : Nat → SS) (me : ME) (mb : AI) (mc : MC) (mt : MT) (mk : MK) : Prop := ∃ N M, cR N c mc ∧ tR N M c t mt ∧ kR r mk ∧ sR s mb me
section REL
variable {c : CS} {t : TS} {r : RS} {s : Nat → SS} {me : ME} {mb : AI} {mc : MC} {mt : MT} {mk : MK}
theorem Rel.okC (h : Rel c t r s me mb mc mt mk) : okC c := by
  obtain ⟨N, M, h1, -⟩ := h
  have := h1.2.2.1
  show 0 ≤ c.1.toInt ∧ c.1.toInt ≤ 40
  rw [h1.1, nI_toInt (by omega)]
  omega
theorem Rel.okT (h : Rel c t r s me mb mc mt mk) : okT t := by
  obtain ⟨N, M, -, h2, -⟩ := h
  have := h2.1.2.2.2.1
  show 0 ≤ t.1.toInt ∧ t.1.toInt ≤ 200
  rw [h2.1.2.2.1, nI_toInt (by omega)]
  omega
theorem Rel.okR (h : Rel c t r s me mb mc mt mk) : okR r := by
  obtain ⟨N, M, -, -, ⟨n, hn, h1, -⟩, -⟩ := h
  show 0 ≤ r.1.toInt ∧ r.1.toInt ≤ 400
  rw [h1, nI_toInt (by omega)]
  omega
theorem Rel.b0 (h : Rel c t r s me mb mc mt mk) : okB (s 0).1 := by
  obtain ⟨N, M, -, -, -, h⟩ := h
  exact h.2.2.1
theorem Rel.b1 (h : Rel c t r s me mb mc mt mk) : okB (s 1).1 := by
  obtain ⟨N, M, -, -, -, h⟩ := h
  exact h.2.2.2.1
theorem Rel.bm (h : Rel c t r s me mb mc mt mk) : okB mb := by
  obtain ⟨N, M, -, -, -, h⟩ := h
  exact h.2.2.2.2.1
theorem nOK_mono {N N' : Nat} {t : TS} {k : Nat} (hN : N ≤ N') (h : nOK N t k) : nOK N' t k := by
  rcases h with h | ⟨hf, hk | hk | hk | hk | hk | hk⟩
  · exact Or.inl h
  · obtain ⟨hk, a, haN, ha⟩ := hk
    exact Or.inr ⟨hf, Or.inl ⟨hk, a, by omega, ha⟩⟩
  · obtain ⟨hk, a, j, haN, h⟩ := hk
    exact Or.inr ⟨hf, Or.inr (Or.inl ⟨hk, a, j, by omega, h⟩)⟩
  · obtain ⟨hk, a, j, p, q, haN, h⟩ := hk
    exact Or.inr ⟨hf, Or.inr (Or.inr (Or.inl ⟨hk, a, j, p, q, by omega, h⟩))⟩
  · exact Or.inr ⟨hf, Or.inr (Or.inr (Or.inr (Or.inl hk)))⟩
  · exact Or.inr ⟨hf, Or.inr (Or.inr (Or.inr (Or.inr (Or.inl hk))))⟩
  · exact Or.inr ⟨hf, Or.inr (Or.inr (Or.inr (Or.inr (Or.inr hk))))⟩
theorem RC_cell (h : Rel c t r s me mb mc mt mk) (u d p : Int32) : OK_X5_cell me mc u d p ∧ (G_X4_cell c u d p).1 = (G_X5_cell me mc u d p).1 ∧ Rel (G_X4_cell c u d p).2 t r s (G_X5_cell me mc u d p).2.1 mb (G_X5_cell me mc u d p).2.2 mt mk := by
  obtain ⟨N, M, h1, ⟨hT, hm, hR, h0, hd, hr⟩, h3, h4⟩ := h
  obtain ⟨o, e1, e2, N', hN, h1'⟩ := cell_is me h1 u d p
  refine ⟨o, e1, N', M, h1', ⟨⟨h1'.1, h1'.2.2.1, hT.2.2.1, hT.2.2.2.1, fun k a b => nOK_mono hN (hT.2.2.2.2 k a b)⟩, hm, hR, h0, hd, hr⟩, h3, ?_⟩
  rw [e2]
  exact h4
theorem RC_node (h : Rel c t r s me mb mc mt mk) (k a b : Int32) : OK_X5_node me mc mt k a b ∧ (G_X4_node c t k a b).1 = (G_X5_node me mc mt k a b).1 ∧ Rel c (G_X4_node c t k a b).2 r s (G_X5_node me mc mt k a b).2.1 mb mc (G_X5_node me mc mt k a b).2.2 mk := by
  obtain ⟨N, M, h1, h2, h3, h4⟩ := h
  obtain ⟨o, e1, e2, M', h2'⟩ := node_is me h2 h1 k a b
  refine ⟨o, e1, N, M', h1, h2', h3, ?_⟩
  rw [e2]
  exact h4
theorem RC_make (h : Rel c t r s me mb mc mt mk) (mr : MR) (mq : MQS) (n : Int32) : ∃ fm, OK_X5_make me mt mk mr mq n fm ∧ (G_X4_make t r n).1 = (G_X5_make me mt mk mr mq n fm).1 ∧ Rel c t (G_X4_make t r n).2 s (G_X5_make me mt mk mr mq n fm).2.1 mb mc mt (G_X5_make me mt mk mr mq n fm).2.2.1 := by
  obtain ⟨N, M, h1, h2, h3, h4⟩ := h
  obtain ⟨fm, o, e1, e2, h3'⟩ := make_is h2 h3 me mr mq n
  refine ⟨fm, o, e1, N, M, h1, h2, h3', ?_⟩
  rw [e2]
  exact h4
theorem RC_code (h : Rel c t r s me mb mc mt mk) (i wh : Int32) : OK_X5_code me mk i wh ∧ G_X4_code r i wh = (G_X5_code me mk i wh).1 ∧ Rel c t r s (G_X5_code me mk i wh).2 mb mc mt mk := by
  obtain ⟨N, M, h1, h2, h3, h4⟩ := h
  obtain ⟨o, e1, e2⟩ := code_is h3 me i wh
  refine ⟨o, e1, N, M, h1, h2, h3, ?_⟩
  rw [e2]
  exact h4
theorem RC_fast (h : Rel c t r s me mb mc mt mk) (i : Int32) : OK_X5_fast me mk i ∧ G_X4_fast r i = (G_X5_fast me mk i).1 ∧ Rel c t r s (G_X5_fast me mk i).2 mb mc mt mk := by
  obtain ⟨N, M, h1, h2, h3, h4⟩ := h
  obtain ⟨o, e1, e2⟩ := fast_is h3 me i
  refine ⟨o, e1, N, M, h1, h2, h3, ?_⟩
  rw [e2]
  exact h4
theorem RC_point (h : Rel c t r s me mb mc mt mk) (i : Int32) : OK_X5_point me mk i ∧ G_X4_point r i = (G_X5_point me mk i).1 ∧ Rel c t r s (G_X5_point me mk i).2 mb mc mt mk := by
  obtain ⟨N, M, h1, h2, h3, h4⟩ := h
  obtain ⟨o, e1, e2⟩ := point_is h3 me i
  refine ⟨o, e1, N, M, h1, h2, h3, ?_⟩
  rw [e2]
  exact h4
theorem RC_raised (h : Rel c t r s me mb mc mt mk) (f : Int32) : G_X4_raised s f = (G_X5_raised me f).1 ∧ Rel c t r s (G_X5_raised me f).2 mb mc mt mk := by
  obtain ⟨N, M, h1, h2, h3, h4⟩ := h
  obtain ⟨e1, e2⟩ := raised_is h4 f
  refine ⟨e1, N, M, h1, h2, h3, ?_⟩
  rw [e2]
  exact h4
theorem RC_put (h : Rel c t r s me mb mc mt mk) (p v : Int32) : OK_X5_put me mb p v ∧ (G_X4_put s p v).1 = (G_X5_put me mb p v).1 ∧ Rel c t r (G_X4_put s p v).2 (G_X5_put me mb p v).2.1 (G_X5_put me mb p v).2.2 mc mt mk := by
  obtain ⟨N, M, h1, h2, h3, h4⟩ := h
  obtain ⟨o, e1, h4'⟩ := put_is h4 p v
  exact ⟨o, e1, N, M, h1, h2, h3, h4'⟩
theorem RC_run (h : Rel c t r s me mb mc mt mk) (mr : MR) (mq : MQS) (mv : MV) (f n : Int32) : ∃ fm fs, OK_X5_run me mb mc mt mk mr mq mv f n fm fs ∧ (G_X4_run c t r s f n).1 = (G_X5_run me mb mc mt mk mr mq mv f n fm fs).1 ∧ Rel c t (G_X4_run c t r s f n).2.1 (G_X4_run c t r s f n).2.2 (G_X5_run me mb mc mt mk mr mq mv f n fm fs).2.1 (G_X5_run me mb mc mt mk mr mq mv f n fm fs).2.2.1 mc mt (G_X5_run me mb mc mt mk mr mq mv f n fm fs).2.2.2.1 := by
  obtain ⟨N, M, h1, h2, h3, h4⟩ := h
  obtain ⟨fm, fs, o, e1, h3', h4'⟩ := run_is h2 h1 h3 h4 mr mq mv f n
  exact ⟨fm, fs, o, e1, N, M, h1, h2, h3', h4'⟩
theorem RC_same (h : Rel c t r s me mb mc mt mk) (mr : MR) (mq : MQS) (n : Int32) : ∃ fm, OK_X5_same me mt mk mr mq n fm ∧ (G_X4_same c t r s n).1 = (G_X5_same me mt mk mr mq n fm).1 ∧ Rel c t (G_X4_same c t r s n).2.1 (G_X4_same c t r s n).2.2 (G_X5_same me mt mk mr mq n fm).2.1 mb mc mt (G_X5_same me mt mk mr mq n fm).2.2.1 := by
  obtain ⟨N, M, h1, h2, h3, h4⟩ := h
  obtain ⟨fm, o, e1, e2, h3', q0, q1⟩ := same_is h2 h1 h3 h4 mr mq n
  refine ⟨fm, o, e1, N, M, h1, h2, h3', ?_⟩
  rw [e2]
  unfold sR
  rw [q0, q1]
  exact h4
theorem RC_at (h : Rel c t r s me mb mc mt mk) (f p : Int32) : OK_X5_at me mb f p ∧ (G_X2_holds p = 0 → G_X5_at me mb f p = (0, (1, me.2.1, me.2.2))) ∧ (¬ G_X2_holds p = 0 → G_X5_at me mb f p = ((if f = 0 then (s 0).1 p.toNatClampNeg else (s 1).1 p.toNatClampNeg), (0, me.2.1, me.2.2))) := by
  obtain ⟨N, M, h1, h2, h3, h4⟩ := h
  exact at_is h4 f p
theorem Rel.meZ (h : Rel c t r s me mb mc mt mk) (z : Int32) : Rel c t r s (z, me.2.1, me.2.2) mb mc mt mk := by
  obtain ⟨N, M, h1, h2, h3, h4⟩ := h
  exact ⟨N, M, h1, h2, h3, h4⟩
end REL
theorem okB_0 : okB (fun _ => 0) := fun _ => rfl
theorem Rel_0 : Rel (0, fun _ => 0, fun _ => 0, fun _ => 0) (0, fun _ => 0, fun _ => 0, fun _ => 0, fun _ => 0, fun _ => 0, fun _ => 0, fun _ => 0) (0, fun _ => 0, fun _ => 0, fun _ => 0, fun _ => 0, 0) (fun _ => (fun _ => 0, 0, 0)) (0, 0, 0) (fun _ => 0) (0, fun _ => 0, fun _ => 0, fun _ => 0, fun _ => 0) (0, fun _ => 0, fun _ => 0, fun _ => 0, fun _ => 0, fun _ => 0, fun _ => 0) (0, fun _ => 0, fun _ => 0, fun _ => 0) :=
  ⟨0, 0, ⟨rfl, rfl, by omega, fun a ha => absurd ha (by omega)⟩, ⟨⟨rfl, by omega, rfl, by omega, fun k h1 h2 => absurd h2 (by omega)⟩, rfl, fun k h1 h2 => absurd h2 (by omega), fun k _ => rfl, fun k h1 h2 => absurd h2 (by omega), fun k h1 h2 => absurd h2 (by omega)⟩, kR_0 rfl rfl, ⟨fun _ _ => rfl, fun _ _ => rfl, okB_0, okB_0, okB_0, rfl, rfl⟩⟩
