/-! one step of the reference -/
abbrev ZS : Type := Nat × Nat × Int32 × Nat × AI × MV
section STP
variable (mb : AI) (mc : MC) (mr : MR) (mv : MV) (σ : Nat) (fs : Nat)
def LZ (fu : Nat) (z : ZS) : Int32 × AI × MV := G_X5_step_L10 mb mc mr mv (nI σ) fs fu (nI z.1) (nI z.2.1) z.2.2.1 (nI z.2.2.2.1) z.2.2.2.2.1 z.2.2.2.2.2
def OZ (fu : Nat) (z : ZS) : Prop := OK_X5_step_L10 mb mc mr mv (nI σ) fs fu (nI z.1) (nI z.2.1) z.2.2.1 (nI z.2.2.2.1) z.2.2.2.2.1 z.2.2.2.2.2
def Go1 (z z' : ZS) : Prop := ∀ fu, (OZ mb mc mr mv σ fs fu z' → OZ mb mc mr mv σ fs (fu + 1) z) ∧ LZ mb mc mr mv σ fs (fu + 1) z = LZ mb mc mr mv σ fs fu z'
def En1 (z : ZS) (r : Int32 × AI × MV) : Prop := ∀ fu, OZ mb mc mr mv σ fs (fu + 1) z ∧ LZ mb mc mr mv σ fs (fu + 1) z = r
end STP
section STP2
variable {mb : AI} {mc : MC} {mr : MR} {mv : MV} {σ : Nat} {fs : Nat} {n lo pc L : Nat} {co : Int32} {b : AI} {q : MV}
theorem nI_m1 (k : Nat) : nI (k + 1) + (-1 : Int32) = nI k := (idx_1 _).trans (nI_pred k)
theorem nI_m2 (k : Nat) : nI (k + 2) - (2 : Int32) = nI k := by
  have := nI_sub (a := k + 2) (b := 2) (by omega)
  exact this
theorem g_0 (hL : mr.1 = nI L) (h4 : L ≤ 400) (hpc : pc < L) (hop : mr.2.1 pc = 0) {v : Int64} (hv : mr.2.2.2 pc = v) (hn : n < 500) : Go1 mb mc mr mv σ fs (n, lo, co, pc, b, q) (n + 1, lo, co, pc + 1, b, (vp_updL q.1 n v, q.2)) := by
  intro fu
  unfold OZ LZ
  have hend : ¬ mr.1 ≤ nI pc := by rw [hL]; exact nI_ge hpc (by omega)
  have hp : vp_in (nI pc) 401 := vp_in_nI (by omega) (by omega)
  rw [OK_X5_step_L10, G_X5_step_L10]
  dsimp only
  rw [if_neg hend, if_neg hend, nI_clamp (by omega), hop]
  simp only [if_pos (show (0 : Int32) = 0 from rfl), if_neg (show ¬ (0 : Int32) = 1 by decide), if_neg (show ¬ (0 : Int32) = 2 by decide), if_neg (show ¬ (0 : Int32) = 9 by decide), if_neg (show ¬ (0 : Int32) = 10 by decide), if_neg (show ¬ (0 : Int32) = 12 by decide), if_neg (show ¬ (0 : Int32) = 13 by decide), if_neg (show ¬ (0 : Int32) = 14 by decide), if_neg (show ¬ (0 : Int32) = 15 by decide), if_neg (show ¬ (0 : Int32) = 6 by decide), if_true]
  rw [nI_1, nI_1, nI_clamp (by omega), hv]
  exact ⟨fun h => ⟨hp, hp, vp_in_nI hn (by omega), h⟩, rfl⟩
theorem g_1 (hL : mr.1 = nI L) (h4 : L ≤ 400) (hpc : pc < L) (hop : mr.2.1 pc = 1) {a : Nat} (hv : mr.2.2.2 pc = (nI a).toInt64) (ha : a < 40) (hn : n < 500) (ho : OK_X5_read b mc (nI σ) (nI a) (mc.2.2.2.2 a)) : Go1 mb mc mr mv σ fs (n, lo, co, pc, b, q) (n + 1, lo, co, pc + 1, b, (vp_updL q.1 n (G_X5_read b mc (nI σ) (nI a) (mc.2.2.2.2 a)), q.2)) := by
  intro fu
  unfold OZ LZ
  have hend : ¬ mr.1 ≤ nI pc := by rw [hL]; exact nI_ge hpc (by omega)
  have hp : vp_in (nI pc) 401 := vp_in_nI (by omega) (by omega)
  rw [OK_X5_step_L10, G_X5_step_L10]
  dsimp only
  rw [if_neg hend, if_neg hend, nI_clamp (by omega), hop]
  simp only [if_neg (show ¬ (1 : Int32) = 0 by decide), if_pos (show (1 : Int32) = 1 from rfl), if_neg (show ¬ (1 : Int32) = 2 by decide), if_neg (show ¬ (1 : Int32) = 9 by decide), if_neg (show ¬ (1 : Int32) = 10 by decide), if_neg (show ¬ (1 : Int32) = 12 by decide), if_neg (show ¬ (1 : Int32) = 13 by decide), if_neg (show ¬ (1 : Int32) = 14 by decide), if_neg (show ¬ (1 : Int32) = 15 by decide), if_neg (show ¬ (1 : Int32) = 6 by decide), if_true]
  rw [hv, nI_l32, nI_1, nI_1, nI_clamp (by omega), nI_clamp (by omega)]
  exact ⟨fun h => ⟨hp, hp, vp_in_nI ha (by omega), ho, vp_in_nI hn (by omega), h⟩, rfl⟩
theorem g_2a (hL : mr.1 = nI L) (h4 : L ≤ 400) (hpc : pc < L) (hop : mr.2.1 pc = 2) {a : Nat} (hv : mr.2.2.2 pc = (nI a).toInt64) (hn : n < 500) (hq : OK_X5_placeOf mc (nI a) (q.1 n)) (he : G_X5_placeOf mc (nI a) (q.1 n) = -1) : En1 mb mc mr mv σ fs (n + 1, lo, co, pc, b, q) (1, b, q) := by
  intro fu
  unfold OZ LZ
  have hend : ¬ mr.1 ≤ nI pc := by rw [hL]; exact nI_ge hpc (by omega)
  have hp : vp_in (nI pc) 401 := vp_in_nI (by omega) (by omega)
  rw [OK_X5_step_L10, G_X5_step_L10]
  dsimp only
  rw [if_neg hend, if_neg hend, nI_clamp (by omega), hop]
  simp only [if_neg (show ¬ (2 : Int32) = 0 by decide), if_neg (show ¬ (2 : Int32) = 1 by decide), if_pos (show (2 : Int32) = 2 from rfl), if_neg (show ¬ (2 : Int32) = 9 by decide), if_neg (show ¬ (2 : Int32) = 10 by decide), if_neg (show ¬ (2 : Int32) = 12 by decide), if_neg (show ¬ (2 : Int32) = 13 by decide), if_neg (show ¬ (2 : Int32) = 14 by decide), if_neg (show ¬ (2 : Int32) = 15 by decide), if_neg (show ¬ (2 : Int32) = 6 by decide), if_true]
  rw [hv, nI_l32, nI_pred, nI_clamp (by omega), if_pos he, if_pos he]
  exact ⟨⟨hp, hp, vp_in_nI hn (by omega), hq, trivial⟩, rfl⟩
theorem g_2b (hL : mr.1 = nI L) (h4 : L ≤ 400) (hpc : pc < L) (hop : mr.2.1 pc = 2) {a : Nat} (hv : mr.2.2.2 pc = (nI a).toInt64) (hn : n < 500) (hq : OK_X5_placeOf mc (nI a) (q.1 n)) (he : ¬ G_X5_placeOf mc (nI a) (q.1 n) = -1) (ho : OK_X5_read b mc (nI σ) (nI a) (G_X5_placeOf mc (nI a) (q.1 n))) : Go1 mb mc mr mv σ fs (n + 1, lo, co, pc, b, q) (n + 1, lo, co, pc + 1, b, (vp_updL q.1 n (G_X5_read b mc (nI σ) (nI a) (G_X5_placeOf mc (nI a) (q.1 n))), q.2)) := by
  intro fu
  unfold OZ LZ
  have hend : ¬ mr.1 ≤ nI pc := by rw [hL]; exact nI_ge hpc (by omega)
  have hp : vp_in (nI pc) 401 := vp_in_nI (by omega) (by omega)
  rw [OK_X5_step_L10, G_X5_step_L10]
  dsimp only
  rw [if_neg hend, if_neg hend, nI_clamp (by omega), hop]
  simp only [if_neg (show ¬ (2 : Int32) = 0 by decide), if_neg (show ¬ (2 : Int32) = 1 by decide), if_pos (show (2 : Int32) = 2 from rfl), if_neg (show ¬ (2 : Int32) = 9 by decide), if_neg (show ¬ (2 : Int32) = 10 by decide), if_neg (show ¬ (2 : Int32) = 12 by decide), if_neg (show ¬ (2 : Int32) = 13 by decide), if_neg (show ¬ (2 : Int32) = 14 by decide), if_neg (show ¬ (2 : Int32) = 15 by decide), if_neg (show ¬ (2 : Int32) = 6 by decide), if_true]
  rw [hv, nI_l32, nI_pred, nI_clamp (by omega), if_neg he, if_neg he, nI_1]
  exact ⟨fun h => ⟨hp, hp, vp_in_nI hn (by omega), hq, ho, vp_in_nI hn (by omega), h⟩, rfl⟩
theorem g_9a (hL : mr.1 = nI L) (h4 : L ≤ 400) (hpc : pc < L) (hop : mr.2.1 pc = 9) {a : Nat} (hv : mr.2.2.2 pc = (nI a).toInt64) (ha : a < 40) (he : ¬ mc.2.2.2.2 a = -1) (hc : ¬ co + 1 ≤ 1000) : En1 mb mc mr mv σ fs (n + 1, lo, co, pc, b, q) (3, b, q) := by
  intro fu
  unfold OZ LZ
  have hend : ¬ mr.1 ≤ nI pc := by rw [hL]; exact nI_ge hpc (by omega)
  have hp : vp_in (nI pc) 401 := vp_in_nI (by omega) (by omega)
  rw [OK_X5_step_L10, G_X5_step_L10]
  dsimp only
  rw [if_neg hend, if_neg hend, nI_clamp (by omega), hop]
  simp only [if_neg (show ¬ (9 : Int32) = 0 by decide), if_neg (show ¬ (9 : Int32) = 1 by decide), if_neg (show ¬ (9 : Int32) = 2 by decide), if_pos (show (9 : Int32) = 9 from rfl), if_neg (show ¬ (9 : Int32) = 10 by decide), if_neg (show ¬ (9 : Int32) = 12 by decide), if_neg (show ¬ (9 : Int32) = 13 by decide), if_neg (show ¬ (9 : Int32) = 14 by decide), if_neg (show ¬ (9 : Int32) = 15 by decide), if_neg (show ¬ (9 : Int32) = 6 by decide), if_true]
  rw [hv, nI_l32, nI_clamp (show a < 2 ^ 31 by omega), if_neg he, if_neg he, if_neg hc, if_neg hc]
  exact ⟨⟨hp, hp, vp_in_nI ha (by omega), trivial⟩, rfl⟩
theorem g_9b (hL : mr.1 = nI L) (h4 : L ≤ 400) (hpc : pc < L) (hop : mr.2.1 pc = 9) {a : Nat} (hv : mr.2.2.2 pc = (nI a).toInt64) (ha : a < 40) (hn : n < 500) (he : ¬ mc.2.2.2.2 a = -1) (hc : co + 1 ≤ 1000) (ho : OK_X5_store b mc (nI σ) (nI a) (mc.2.2.2.2 a) (q.1 n)) : Go1 mb mc mr mv σ fs (n + 1, lo, co, pc, b, q) (n, lo, co + 1, pc + 1, G_X5_store b mc (nI σ) (nI a) (mc.2.2.2.2 a) (q.1 n), q) := by
  intro fu
  unfold OZ LZ
  have hend : ¬ mr.1 ≤ nI pc := by rw [hL]; exact nI_ge hpc (by omega)
  have hp : vp_in (nI pc) 401 := vp_in_nI (by omega) (by omega)
  rw [OK_X5_step_L10, G_X5_step_L10]
  dsimp only
  rw [if_neg hend, if_neg hend, nI_clamp (by omega), hop]
  simp only [if_neg (show ¬ (9 : Int32) = 0 by decide), if_neg (show ¬ (9 : Int32) = 1 by decide), if_neg (show ¬ (9 : Int32) = 2 by decide), if_pos (show (9 : Int32) = 9 from rfl), if_neg (show ¬ (9 : Int32) = 10 by decide), if_neg (show ¬ (9 : Int32) = 12 by decide), if_neg (show ¬ (9 : Int32) = 13 by decide), if_neg (show ¬ (9 : Int32) = 14 by decide), if_neg (show ¬ (9 : Int32) = 15 by decide), if_neg (show ¬ (9 : Int32) = 6 by decide), if_true]
  rw [hv, nI_l32, nI_clamp (show a < 2 ^ 31 by omega), nI_pred, nI_clamp (show n < 2 ^ 31 by omega), if_neg he, if_neg he, if_pos hc, if_pos hc, nI_1]
  exact ⟨fun h => ⟨hp, hp, vp_in_nI ha (by omega), vp_in_nI hn (by omega), ho, h⟩, rfl⟩
theorem g_10a (hL : mr.1 = nI L) (h4 : L ≤ 400) (hpc : pc < L) (hop : mr.2.1 pc = 10) {a : Nat} (hv : mr.2.2.2 pc = (nI a).toInt64) (hn : n < 400) (hq : OK_X5_placeOf mc (nI a) (q.1 n)) (he : G_X5_placeOf mc (nI a) (q.1 n) = -1) : En1 mb mc mr mv σ fs (n + 2, lo, co, pc, b, q) (1, b, q) := by
  intro fu
  unfold OZ LZ
  have hend : ¬ mr.1 ≤ nI pc := by rw [hL]; exact nI_ge hpc (by omega)
  have hp : vp_in (nI pc) 401 := vp_in_nI (by omega) (by omega)
  rw [OK_X5_step_L10, G_X5_step_L10]
  dsimp only
  rw [if_neg hend, if_neg hend, nI_clamp (by omega), hop]
  simp only [if_neg (show ¬ (10 : Int32) = 0 by decide), if_neg (show ¬ (10 : Int32) = 1 by decide), if_neg (show ¬ (10 : Int32) = 2 by decide), if_neg (show ¬ (10 : Int32) = 9 by decide), if_pos (show (10 : Int32) = 10 from rfl), if_neg (show ¬ (10 : Int32) = 12 by decide), if_neg (show ¬ (10 : Int32) = 13 by decide), if_neg (show ¬ (10 : Int32) = 14 by decide), if_neg (show ¬ (10 : Int32) = 15 by decide), if_neg (show ¬ (10 : Int32) = 6 by decide), if_true]
  rw [hv, nI_l32, nI_m2, nI_clamp (show n < 2 ^ 31 by omega), if_pos he, if_pos he]
  exact ⟨⟨hp, hp, vp_in_nI (by omega) (by omega), hq, trivial⟩, rfl⟩
theorem g_10b (hL : mr.1 = nI L) (h4 : L ≤ 400) (hpc : pc < L) (hop : mr.2.1 pc = 10) {a : Nat} (hv : mr.2.2.2 pc = (nI a).toInt64) (hn : n < 400) (hq : OK_X5_placeOf mc (nI a) (q.1 n)) (he : ¬ G_X5_placeOf mc (nI a) (q.1 n) = -1) (hc : ¬ co + 1 ≤ 1000) : En1 mb mc mr mv σ fs (n + 2, lo, co, pc, b, q) (3, b, q) := by
  intro fu
  unfold OZ LZ
  have hend : ¬ mr.1 ≤ nI pc := by rw [hL]; exact nI_ge hpc (by omega)
  have hp : vp_in (nI pc) 401 := vp_in_nI (by omega) (by omega)
  rw [OK_X5_step_L10, G_X5_step_L10]
  dsimp only
  rw [if_neg hend, if_neg hend, nI_clamp (by omega), hop]
  simp only [if_neg (show ¬ (10 : Int32) = 0 by decide), if_neg (show ¬ (10 : Int32) = 1 by decide), if_neg (show ¬ (10 : Int32) = 2 by decide), if_neg (show ¬ (10 : Int32) = 9 by decide), if_pos (show (10 : Int32) = 10 from rfl), if_neg (show ¬ (10 : Int32) = 12 by decide), if_neg (show ¬ (10 : Int32) = 13 by decide), if_neg (show ¬ (10 : Int32) = 14 by decide), if_neg (show ¬ (10 : Int32) = 15 by decide), if_neg (show ¬ (10 : Int32) = 6 by decide), if_true]
  rw [hv, nI_l32, nI_m2, nI_clamp (show n < 2 ^ 31 by omega), if_neg he, if_neg he, if_neg hc, if_neg hc]
  exact ⟨⟨hp, hp, vp_in_nI (by omega) (by omega), hq, trivial⟩, rfl⟩
theorem g_10c (hL : mr.1 = nI L) (h4 : L ≤ 400) (hpc : pc < L) (hop : mr.2.1 pc = 10) {a : Nat} (hv : mr.2.2.2 pc = (nI a).toInt64) (hn : n < 400) (hq : OK_X5_placeOf mc (nI a) (q.1 n)) (he : ¬ G_X5_placeOf mc (nI a) (q.1 n) = -1) (hc : co + 1 ≤ 1000) (ho : OK_X5_store b mc (nI σ) (nI a) (G_X5_placeOf mc (nI a) (q.1 n)) (q.1 (n + 1))) : Go1 mb mc mr mv σ fs (n + 2, lo, co, pc, b, q) (n, lo, co + 1, pc + 1, G_X5_store b mc (nI σ) (nI a) (G_X5_placeOf mc (nI a) (q.1 n)) (q.1 (n + 1)), q) := by
  intro fu
  unfold OZ LZ
  have hend : ¬ mr.1 ≤ nI pc := by rw [hL]; exact nI_ge hpc (by omega)
  have hp : vp_in (nI pc) 401 := vp_in_nI (by omega) (by omega)
  have e1 : nI (n + 2) - (1 : Int32) = nI (n + 1) := nI_pred (n + 1)
  rw [OK_X5_step_L10, G_X5_step_L10]
  dsimp only
  rw [if_neg hend, if_neg hend, nI_clamp (by omega), hop]
  simp only [if_neg (show ¬ (10 : Int32) = 0 by decide), if_neg (show ¬ (10 : Int32) = 1 by decide), if_neg (show ¬ (10 : Int32) = 2 by decide), if_neg (show ¬ (10 : Int32) = 9 by decide), if_pos (show (10 : Int32) = 10 from rfl), if_neg (show ¬ (10 : Int32) = 12 by decide), if_neg (show ¬ (10 : Int32) = 13 by decide), if_neg (show ¬ (10 : Int32) = 14 by decide), if_neg (show ¬ (10 : Int32) = 15 by decide), if_neg (show ¬ (10 : Int32) = 6 by decide), if_true]
  rw [hv, nI_l32, nI_m2, nI_clamp (show n < 2 ^ 31 by omega), e1, nI_clamp (show n + 1 < 2 ^ 31 by omega), if_neg he, if_neg he, if_pos hc, if_pos hc, nI_1]
  exact ⟨fun h => ⟨hp, hp, vp_in_nI (by omega) (by omega), hq, vp_in_nI (by omega) (by omega), ho, h⟩, rfl⟩
theorem g_12 (hL : mr.1 = nI L) (h4 : L ≤ 400) (hpc : pc < L) (hop : mr.2.1 pc = 12) {tg : Nat} (hv : mr.2.2.2 pc = lN tg) (hn : n < 500) : Go1 mb mc mr mv σ fs (n + 1, lo, co, pc, b, q) (n, lo, co, (if lg_cmp (q.1 n) 0 = 0 then tg else pc + 1), b, q) := by
  intro fu
  unfold OZ LZ
  have hend : ¬ mr.1 ≤ nI pc := by rw [hL]; exact nI_ge hpc (by omega)
  have hp : vp_in (nI pc) 401 := vp_in_nI (by omega) (by omega)
  rw [OK_X5_step_L10, G_X5_step_L10]
  dsimp only
  rw [if_neg hend, if_neg hend, nI_clamp (by omega), hop]
  simp only [if_neg (show ¬ (12 : Int32) = 0 by decide), if_neg (show ¬ (12 : Int32) = 1 by decide), if_neg (show ¬ (12 : Int32) = 2 by decide), if_neg (show ¬ (12 : Int32) = 9 by decide), if_neg (show ¬ (12 : Int32) = 10 by decide), if_pos (show (12 : Int32) = 12 from rfl), if_neg (show ¬ (12 : Int32) = 13 by decide), if_neg (show ¬ (12 : Int32) = 14 by decide), if_neg (show ¬ (12 : Int32) = 15 by decide), if_neg (show ¬ (12 : Int32) = 6 by decide), if_true]
  rw [hv, lN_i, nI_m1, nI_clamp (show n < 2 ^ 31 by omega), nI_1]
  by_cases hz : lg_cmp (q.1 n) 0 = 0
  · rw [if_pos hz, if_pos hz, if_pos hz]
    exact ⟨fun h => ⟨hp, hp, vp_in_nI hn (by omega), h⟩, rfl⟩
  · rw [if_neg hz, if_neg hz, if_neg hz]
    exact ⟨fun h => ⟨hp, hp, vp_in_nI hn (by omega), h⟩, rfl⟩
theorem g_13a (hL : mr.1 = nI L) (h4 : L ≤ 400) (hpc : pc < L) (hop : mr.2.1 pc = 13) {tg : Nat} (hv : mr.2.2.2 pc = lN tg) (hn : n < 500) (hl : lo < 500) (hz : lg_cmp (q.1 n) 0 ≤ 0) : Go1 mb mc mr mv σ fs (n + 1, lo, co, pc, b, q) (n, lo, co, tg, b, (q.1, vp_updL q.2 lo (q.1 n))) := by
  intro fu
  unfold OZ LZ
  have hend : ¬ mr.1 ≤ nI pc := by rw [hL]; exact nI_ge hpc (by omega)
  have hp : vp_in (nI pc) 401 := vp_in_nI (by omega) (by omega)
  have e1 : nI lo + (1 : Int32) - 1 = nI lo := by rw [nI_1]; exact nI_pred lo
  have e2 : nI lo + (1 : Int32) + (-1) = nI lo := by rw [nI_1]; exact nI_m1 lo
  rw [OK_X5_step_L10, G_X5_step_L10]
  dsimp only
  rw [if_neg hend, if_neg hend, nI_clamp (by omega), hop]
  simp only [if_neg (show ¬ (13 : Int32) = 0 by decide), if_neg (show ¬ (13 : Int32) = 1 by decide), if_neg (show ¬ (13 : Int32) = 2 by decide), if_neg (show ¬ (13 : Int32) = 9 by decide), if_neg (show ¬ (13 : Int32) = 10 by decide), if_neg (show ¬ (13 : Int32) = 12 by decide), if_pos (show (13 : Int32) = 13 from rfl), if_neg (show ¬ (13 : Int32) = 14 by decide), if_neg (show ¬ (13 : Int32) = 15 by decide), if_neg (show ¬ (13 : Int32) = 6 by decide), if_true]
  rw [hv, lN_i, nI_m1, e1, e2, nI_clamp (show n < 2 ^ 31 by omega), nI_clamp (show lo < 2 ^ 31 by omega), pk_uLs, if_pos hz, if_pos hz]
  exact ⟨fun h => ⟨hp, hp, vp_in_nI hn (by omega), vp_in_nI hl (by omega), vp_in_nI hl (by omega), h⟩, rfl⟩
theorem g_13b (hL : mr.1 = nI L) (h4 : L ≤ 400) (hpc : pc < L) (hop : mr.2.1 pc = 13) {tg : Nat} (hv : mr.2.2.2 pc = lN tg) (hn : n < 500) (hl : lo < 500) (hz : ¬ lg_cmp (q.1 n) 0 ≤ 0) (hc : ¬ co + 1 ≤ 1000) : En1 mb mc mr mv σ fs (n + 1, lo, co, pc, b, q) (3, b, (q.1, vp_updL q.2 lo (q.1 n))) := by
  intro fu
  unfold OZ LZ
  have hend : ¬ mr.1 ≤ nI pc := by rw [hL]; exact nI_ge hpc (by omega)
  have hp : vp_in (nI pc) 401 := vp_in_nI (by omega) (by omega)
  have e1 : nI lo + (1 : Int32) - 1 = nI lo := by rw [nI_1]; exact nI_pred lo
  have e2 : nI lo + (1 : Int32) + (-1) = nI lo := by rw [nI_1]; exact nI_m1 lo
  rw [OK_X5_step_L10, G_X5_step_L10]
  dsimp only
  rw [if_neg hend, if_neg hend, nI_clamp (by omega), hop]
  simp only [if_neg (show ¬ (13 : Int32) = 0 by decide), if_neg (show ¬ (13 : Int32) = 1 by decide), if_neg (show ¬ (13 : Int32) = 2 by decide), if_neg (show ¬ (13 : Int32) = 9 by decide), if_neg (show ¬ (13 : Int32) = 10 by decide), if_neg (show ¬ (13 : Int32) = 12 by decide), if_pos (show (13 : Int32) = 13 from rfl), if_neg (show ¬ (13 : Int32) = 14 by decide), if_neg (show ¬ (13 : Int32) = 15 by decide), if_neg (show ¬ (13 : Int32) = 6 by decide), if_true]
  rw [hv, lN_i, nI_m1, e1, e2, nI_clamp (show n < 2 ^ 31 by omega), nI_clamp (show lo < 2 ^ 31 by omega), pk_uLs, if_neg hz, if_neg hz, if_neg hc, if_neg hc]
  exact ⟨⟨hp, hp, vp_in_nI hn (by omega), vp_in_nI hl (by omega), vp_in_nI hl (by omega), trivial⟩, rfl⟩
theorem g_13c (hL : mr.1 = nI L) (h4 : L ≤ 400) (hpc : pc < L) (hop : mr.2.1 pc = 13) {tg : Nat} (hv : mr.2.2.2 pc = lN tg) (hn : n < 500) (hl : lo < 500) (hz : ¬ lg_cmp (q.1 n) 0 ≤ 0) (hc : co + 1 ≤ 1000) : Go1 mb mc mr mv σ fs (n + 1, lo, co, pc, b, q) (n, lo + 1, co + 1, pc + 1, b, (q.1, vp_updL q.2 lo (q.1 n))) := by
  intro fu
  unfold OZ LZ
  have hend : ¬ mr.1 ≤ nI pc := by rw [hL]; exact nI_ge hpc (by omega)
  have hp : vp_in (nI pc) 401 := vp_in_nI (by omega) (by omega)
  have e1 : nI lo + (1 : Int32) - 1 = nI lo := by rw [nI_1]; exact nI_pred lo
  have e2 : nI lo + (1 : Int32) + (-1) = nI lo := by rw [nI_1]; exact nI_m1 lo
  rw [OK_X5_step_L10, G_X5_step_L10]
  dsimp only
  rw [if_neg hend, if_neg hend, nI_clamp (by omega), hop]
  simp only [if_neg (show ¬ (13 : Int32) = 0 by decide), if_neg (show ¬ (13 : Int32) = 1 by decide), if_neg (show ¬ (13 : Int32) = 2 by decide), if_neg (show ¬ (13 : Int32) = 9 by decide), if_neg (show ¬ (13 : Int32) = 10 by decide), if_neg (show ¬ (13 : Int32) = 12 by decide), if_pos (show (13 : Int32) = 13 from rfl), if_neg (show ¬ (13 : Int32) = 14 by decide), if_neg (show ¬ (13 : Int32) = 15 by decide), if_neg (show ¬ (13 : Int32) = 6 by decide), if_true]
  rw [hv, lN_i, nI_m1, e1, e2, nI_clamp (show n < 2 ^ 31 by omega), nI_clamp (show lo < 2 ^ 31 by omega), pk_uLs, if_neg hz, if_neg hz, if_pos hc, if_pos hc, nI_1, nI_1]
  exact ⟨fun h => ⟨hp, hp, vp_in_nI hn (by omega), vp_in_nI hl (by omega), vp_in_nI hl (by omega), h⟩, rfl⟩
theorem g_14a (hL : mr.1 = nI L) (h4 : L ≤ 400) (hpc : pc < L) (hop : mr.2.1 pc = 14) {tg : Nat} (hv : mr.2.2.2 pc = lN tg) (hl : lo < 500) (hz : lg_cmp (q.2 lo - 1) 0 ≤ 0) : Go1 mb mc mr mv σ fs (n, lo + 1, co, pc, b, q) (n, lo, co, pc + 1, b, (q.1, vp_updL q.2 lo (q.2 lo - 1))) := by
  intro fu
  unfold OZ LZ
  have hend : ¬ mr.1 ≤ nI pc := by rw [hL]; exact nI_ge hpc (by omega)
  have hp : vp_in (nI pc) 401 := vp_in_nI (by omega) (by omega)
  rw [OK_X5_step_L10, G_X5_step_L10]
  dsimp only
  rw [if_neg hend, if_neg hend, nI_clamp (by omega), hop]
  simp only [if_neg (show ¬ (14 : Int32) = 0 by decide), if_neg (show ¬ (14 : Int32) = 1 by decide), if_neg (show ¬ (14 : Int32) = 2 by decide), if_neg (show ¬ (14 : Int32) = 9 by decide), if_neg (show ¬ (14 : Int32) = 10 by decide), if_neg (show ¬ (14 : Int32) = 12 by decide), if_neg (show ¬ (14 : Int32) = 13 by decide), if_pos (show (14 : Int32) = 14 from rfl), if_neg (show ¬ (14 : Int32) = 15 by decide), if_neg (show ¬ (14 : Int32) = 6 by decide), if_true]
  rw [hv, lN_i, nI_pred, nI_m1, nI_clamp (show lo < 2 ^ 31 by omega), pk_uLs, if_pos hz, if_pos hz, nI_1]
  exact ⟨fun h => ⟨hp, hp, vp_in_nI hl (by omega), vp_in_nI hl (by omega), vp_in_nI hl (by omega), h⟩, rfl⟩
theorem g_14b (hL : mr.1 = nI L) (h4 : L ≤ 400) (hpc : pc < L) (hop : mr.2.1 pc = 14) {tg : Nat} (hv : mr.2.2.2 pc = lN tg) (hl : lo < 500) (hz : ¬ lg_cmp (q.2 lo - 1) 0 ≤ 0) (hc : ¬ co + 1 ≤ 1000) : En1 mb mc mr mv σ fs (n, lo + 1, co, pc, b, q) (3, b, (q.1, vp_updL q.2 lo (q.2 lo - 1))) := by
  intro fu
  unfold OZ LZ
  have hend : ¬ mr.1 ≤ nI pc := by rw [hL]; exact nI_ge hpc (by omega)
  have hp : vp_in (nI pc) 401 := vp_in_nI (by omega) (by omega)
  rw [OK_X5_step_L10, G_X5_step_L10]
  dsimp only
  rw [if_neg hend, if_neg hend, nI_clamp (by omega), hop]
  simp only [if_neg (show ¬ (14 : Int32) = 0 by decide), if_neg (show ¬ (14 : Int32) = 1 by decide), if_neg (show ¬ (14 : Int32) = 2 by decide), if_neg (show ¬ (14 : Int32) = 9 by decide), if_neg (show ¬ (14 : Int32) = 10 by decide), if_neg (show ¬ (14 : Int32) = 12 by decide), if_neg (show ¬ (14 : Int32) = 13 by decide), if_pos (show (14 : Int32) = 14 from rfl), if_neg (show ¬ (14 : Int32) = 15 by decide), if_neg (show ¬ (14 : Int32) = 6 by decide), if_true]
  rw [hv, lN_i, nI_pred, nI_m1, nI_clamp (show lo < 2 ^ 31 by omega), pk_uLs, if_neg hz, if_neg hz, if_neg hc, if_neg hc]
  exact ⟨⟨hp, hp, vp_in_nI hl (by omega), vp_in_nI hl (by omega), vp_in_nI hl (by omega), trivial⟩, rfl⟩
theorem g_14c (hL : mr.1 = nI L) (h4 : L ≤ 400) (hpc : pc < L) (hop : mr.2.1 pc = 14) {tg : Nat} (hv : mr.2.2.2 pc = lN tg) (hl : lo < 500) (hz : ¬ lg_cmp (q.2 lo - 1) 0 ≤ 0) (hc : co + 1 ≤ 1000) : Go1 mb mc mr mv σ fs (n, lo + 1, co, pc, b, q) (n, lo + 1, co + 1, tg, b, (q.1, vp_updL q.2 lo (q.2 lo - 1))) := by
  intro fu
  unfold OZ LZ
  have hend : ¬ mr.1 ≤ nI pc := by rw [hL]; exact nI_ge hpc (by omega)
  have hp : vp_in (nI pc) 401 := vp_in_nI (by omega) (by omega)
  rw [OK_X5_step_L10, G_X5_step_L10]
  dsimp only
  rw [if_neg hend, if_neg hend, nI_clamp (by omega), hop]
  simp only [if_neg (show ¬ (14 : Int32) = 0 by decide), if_neg (show ¬ (14 : Int32) = 1 by decide), if_neg (show ¬ (14 : Int32) = 2 by decide), if_neg (show ¬ (14 : Int32) = 9 by decide), if_neg (show ¬ (14 : Int32) = 10 by decide), if_neg (show ¬ (14 : Int32) = 12 by decide), if_neg (show ¬ (14 : Int32) = 13 by decide), if_pos (show (14 : Int32) = 14 from rfl), if_neg (show ¬ (14 : Int32) = 15 by decide), if_neg (show ¬ (14 : Int32) = 6 by decide), if_true]
  rw [hv, lN_i, nI_pred, nI_m1, nI_clamp (show lo < 2 ^ 31 by omega), pk_uLs, if_neg hz, if_neg hz, if_pos hc, if_pos hc]
  exact ⟨fun h => ⟨hp, hp, vp_in_nI hl (by omega), vp_in_nI hl (by omega), vp_in_nI hl (by omega), h⟩, rfl⟩
theorem g_15 (hL : mr.1 = nI L) (h4 : L ≤ 400) (hpc : pc < L) (hop : mr.2.1 pc = 15)  : Go1 mb mc mr mv σ fs (n + 1, lo, co, pc, b, q) (n, lo, co, pc + 1, b, q) := by
  intro fu
  unfold OZ LZ
  have hend : ¬ mr.1 ≤ nI pc := by rw [hL]; exact nI_ge hpc (by omega)
  have hp : vp_in (nI pc) 401 := vp_in_nI (by omega) (by omega)
  rw [OK_X5_step_L10, G_X5_step_L10]
  dsimp only
  rw [if_neg hend, if_neg hend, nI_clamp (by omega), hop]
  simp only [if_neg (show ¬ (15 : Int32) = 0 by decide), if_neg (show ¬ (15 : Int32) = 1 by decide), if_neg (show ¬ (15 : Int32) = 2 by decide), if_neg (show ¬ (15 : Int32) = 9 by decide), if_neg (show ¬ (15 : Int32) = 10 by decide), if_neg (show ¬ (15 : Int32) = 12 by decide), if_neg (show ¬ (15 : Int32) = 13 by decide), if_neg (show ¬ (15 : Int32) = 14 by decide), if_pos (show (15 : Int32) = 15 from rfl), if_neg (show ¬ (15 : Int32) = 6 by decide), if_true]
  rw [nI_m1, nI_1]
  exact ⟨fun h => ⟨hp, hp, h⟩, rfl⟩
theorem g_ra {op : Int32} (hL : mr.1 = nI L) (h4 : L ≤ 400) (hpc : pc < L) (hop : mr.2.1 pc = op) (hk1 : 3 ≤ op.toInt) (hk2 : op.toInt ≤ 8) (hn : n < 400) (h6 : op = 6) (hz : lg_cmp (q.1 (n + 1)) 0 = 0) : En1 mb mc mr mv σ fs (n + 2, lo, co, pc, b, q) (2, b, q) := by
  intro fu
  unfold OZ LZ
  have hend : ¬ mr.1 ≤ nI pc := by rw [hL]; exact nI_ge hpc (by omega)
  have hp : vp_in (nI pc) 401 := vp_in_nI (by omega) (by omega)
  have e1 : nI (n + 2) + (-1 : Int32) = nI (n + 1) := nI_m1 (n + 1)
  rw [OK_X5_step_L10, G_X5_step_L10]
  dsimp only
  rw [if_neg hend, if_neg hend, nI_clamp (by omega), hop]
  simp only [if_neg (show ¬ op = 0 from kne hk1 hk2 (by decide)), if_neg (show ¬ op = 1 from kne hk1 hk2 (by decide)), if_neg (show ¬ op = 2 from kne hk1 hk2 (by decide)), if_neg (show ¬ op = 9 from kne hk1 hk2 (by decide)), if_neg (show ¬ op = 10 from kne hk1 hk2 (by decide)), if_neg (show ¬ op = 12 from kne hk1 hk2 (by decide)), if_neg (show ¬ op = 13 from kne hk1 hk2 (by decide)), if_neg (show ¬ op = 14 from kne hk1 hk2 (by decide)), if_neg (show ¬ op = 15 from kne hk1 hk2 (by decide))]
  rw [e1, nI_pred, nI_clamp (show n < 2 ^ 31 by omega), nI_clamp (show n + 1 < 2 ^ 31 by omega)]
  rw [if_pos h6, if_pos h6, if_pos hz, if_pos hz]
  exact ⟨⟨hp, hp, vp_in_nI (by omega) (by omega), trivial⟩, rfl⟩
theorem g_rb {op : Int32} (hL : mr.1 = nI L) (h4 : L ≤ 400) (hpc : pc < L) (hop : mr.2.1 pc = op) (hk1 : 3 ≤ op.toInt) (hk2 : op.toInt ≤ 8) (hn : n < 400) (hz : op = 6 → ¬ lg_cmp (q.1 (n + 1)) 0 = 0) (ho : OK_X5_reckoned op (q.1 n) (q.1 (n + 1))) : Go1 mb mc mr mv σ fs (n + 2, lo, co, pc, b, q) (n + 1, lo, co, pc + 1, b, (vp_updL q.1 n (G_X5_reckoned op (q.1 n) (q.1 (n + 1))), q.2)) := by
  intro fu
  unfold OZ LZ
  have hend : ¬ mr.1 ≤ nI pc := by rw [hL]; exact nI_ge hpc (by omega)
  have hp : vp_in (nI pc) 401 := vp_in_nI (by omega) (by omega)
  have e1 : nI (n + 2) + (-1 : Int32) = nI (n + 1) := nI_m1 (n + 1)
  rw [OK_X5_step_L10, G_X5_step_L10]
  dsimp only
  rw [if_neg hend, if_neg hend, nI_clamp (by omega), hop]
  simp only [if_neg (show ¬ op = 0 from kne hk1 hk2 (by decide)), if_neg (show ¬ op = 1 from kne hk1 hk2 (by decide)), if_neg (show ¬ op = 2 from kne hk1 hk2 (by decide)), if_neg (show ¬ op = 9 from kne hk1 hk2 (by decide)), if_neg (show ¬ op = 10 from kne hk1 hk2 (by decide)), if_neg (show ¬ op = 12 from kne hk1 hk2 (by decide)), if_neg (show ¬ op = 13 from kne hk1 hk2 (by decide)), if_neg (show ¬ op = 14 from kne hk1 hk2 (by decide)), if_neg (show ¬ op = 15 from kne hk1 hk2 (by decide))]
  rw [e1, nI_pred, nI_clamp (show n < 2 ^ 31 by omega), nI_clamp (show n + 1 < 2 ^ 31 by omega)]
  rw [nI_1]
  by_cases h6 : op = 6
  · rw [if_pos h6, if_pos h6, if_neg (hz h6), if_neg (hz h6)]
    exact ⟨fun h => ⟨hp, hp, vp_in_nI (by omega) (by omega), vp_in_nI (by omega) (by omega), vp_in_nI (by omega) (by omega), ho, vp_in_nI (by omega) (by omega), h⟩, rfl⟩
  · rw [if_neg h6, if_neg h6]
    exact ⟨fun h => ⟨hp, hp, vp_in_nI (by omega) (by omega), vp_in_nI (by omega) (by omega), ho, vp_in_nI (by omega) (by omega), h⟩, rfl⟩
end STP2
