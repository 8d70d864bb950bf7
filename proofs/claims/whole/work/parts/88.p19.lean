/-! the reference's stepping is such a machine too -/
def nT : Stk → Nat
  | [] => 0
  | (true, _) :: st => nT st + 1
  | (false, _) :: st => nT st
def nF : Stk → Nat
  | [] => 0
  | (true, _) :: st => nF st
  | (false, _) :: st => nF st + 1
def sI (q : MV) : Stk → Prop
  | [] => True
  | (true, v) :: st => q.1 (nT st) = v ∧ sI q st
  | (false, u) :: st => q.2 (nF st) = u + 1 ∧ sI q st
theorem nTF : ∀ st : Stk, nT st + nF st = st.length
  | [] => rfl
  | (true, _) :: st => by
    have := nTF st
    simp only [nT, nF, List.length_cons]
    omega
  | (false, _) :: st => by
    have := nTF st
    simp only [nT, nF, List.length_cons]
    omega
theorem sI_u1 {q : MV} {n : Nat} {v : Int64} : ∀ {st : Stk}, nT st ≤ n → sI q st → sI (vp_updL q.1 n v, q.2) st
  | [], _, _ => trivial
  | (true, _) :: st, hl, h => by
    simp only [nT] at hl
    exact ⟨(pk_uLn (by omega)).trans h.1, sI_u1 (by omega) h.2⟩
  | (false, _) :: st, hl, h => ⟨h.1, sI_u1 (st := st) hl h.2⟩
theorem sI_u2 {q : MV} {n : Nat} {v : Int64} : ∀ {st : Stk}, nF st ≤ n → sI q st → sI (q.1, vp_updL q.2 n v) st
  | [], _, _ => trivial
  | (true, _) :: st, hl, h => ⟨h.1, sI_u2 (st := st) hl h.2⟩
  | (false, _) :: st, hl, h => by
    simp only [nF] at hl
    exact ⟨(pk_uLn (by omega)).trans h.1, sI_u2 (by omega) h.2⟩
theorem reck_is {op : Int32} {y w : Int64} (h : op = 6 → ¬ lg_cmp w 0 = 0) : OK_X5_reckoned op y w ∧ G_X5_reckoned op y w = G_X4_reckon op y w := by
  unfold OK_X5_reckoned G_X5_reckoned G_X4_reckon
  by_cases h3 : op = 3
  · simp only [if_pos h3]
    exact ⟨trivial, trivial⟩
  · by_cases h4 : op = 4
    · simp only [if_neg h3, if_pos h4]
      exact ⟨trivial, trivial⟩
    · by_cases h5 : op = 5
      · simp only [if_neg h3, if_neg h4, if_pos h5]
        exact ⟨trivial, trivial⟩
      · by_cases h6 : op = 6
        · have hz := h h6
          have hw : ¬ w = 0 := fun e => hz ((lg_cmp_eq w 0).mpr e)
          simp only [if_neg h3, if_neg h4, if_neg h5, if_pos h6, if_neg hz]
          exact ⟨⟨hw, trivial⟩, trivial⟩
        · simp only [if_neg h3, if_neg h4, if_neg h5, if_neg h6]
          refine ⟨?_, trivial⟩
          repeat' split
          all_goals trivial
section MM
variable (mb : AI) (mc : MC) (mr : MR) (mv : MV) (σ : Nat) (fs : Nat)
def CfS (pc : Nat) (st : Stk) (x : SS) (_m : Nat) (z : ZS) : Prop := z.1 = nT st ∧ z.2.1 = nF st ∧ z.2.2.1 = x.2.2 ∧ z.2.2.2.1 = pc ∧ bR z.2.2.2.2.1 (64 * σ) x.1 ∧ oK (64 * σ) mb z.2.2.2.2.1 ∧ sI z.2.2.2.2.2 st
def GoS (z z' : ZS) : Prop := ∃ k, ∀ fu, (OZ mb mc mr mv σ fs fu z' → OZ mb mc mr mv σ fs (fu + k) z) ∧ LZ mb mc mr mv σ fs (fu + k) z = LZ mb mc mr mv σ fs fu z'
def EnS (z : ZS) (x : SS) : Prop := ∃ (k : Nat) (mb' : AI) (q' : MV), (∀ fu, OZ mb mc mr mv σ fs (fu + k) z ∧ LZ mb mc mr mv σ fs (fu + k) z = (x.2.1, mb', q')) ∧ bR mb' (64 * σ) x.1 ∧ oK (64 * σ) mb mb'
end MM
def mrI (code : List Row) (mr : MR) : Prop := mr.1 = nI code.length ∧ code.length ≤ 400 ∧ ∀ (i : Nat) (r : Row), code[i]? = some r → mr.2.1 i = r.1 ∧ mr.2.2.2 i = r.2.1
section MM2
variable {mb : AI} {mc : MC} {mr : MR} {mv : MV} {σ : Nat} {fs : Nat}
theorem S_go {z z' : ZS} {m pc : Nat} {st : Stk} {x : SS} (h : Go1 mb mc mr mv σ fs z z') (hx : x.2.1 = 0) (hc : CfS mb σ pc st x (m + 1) z') : St1 (CfS mb σ) (GoS mb mc mr mv σ fs) (EnS mb mc mr mv σ fs) z m pc st x :=
  ⟨fun _ => ⟨z', ⟨1, h⟩, hc⟩, fun h0 => absurd hx h0⟩
theorem S_en {z : ZS} {m pc : Nat} {st : Stk} {x : SS} {b : AI} {q : MV} {r : Int32} (h : En1 mb mc mr mv σ fs z (r, b, q)) (hr : x.2.1 = r) (hx : ¬ r = 0) (hb : bR b (64 * σ) x.1) (ho : oK (64 * σ) mb b) : St1 (CfS mb σ) (GoS mb mc mr mv σ fs) (EnS mb mc mr mv σ fs) z m pc st x :=
  ⟨fun h0 => absurd (hr.symm.trans h0) hx, fun _ => ⟨1, b, q, fun fu => by rw [hr]; exact h fu, hb, ho⟩⟩
theorem co_is {x : SS} (hx : x.2.1 = 0) : (x.2.2 + 1 ≤ 1000 → G_X2_countOne x = (x.1, 0, x.2.2 + 1)) ∧ (¬ x.2.2 + 1 ≤ 1000 → G_X2_countOne x = (x.1, 3, x.2.2 + 1)) := by
  unfold G_X2_countOne
  rw [if_pos hx, hx]
  exact ⟨fun h => if_pos h, fun h => if_neg h⟩
theorem nI_nm1 {q : Nat} (h : q < 2 ^ 31) : ¬ nI q = -1 := fun e => by
  have := congrArg Int32.toInt e
  rw [nI_toInt h] at this
  have : (-1 : Int32).toInt = -1 := by decide
  omega
theorem machM {N : Nat} {c : CS} {code : List Row} (hR : cR N c mc) (hm : mrI code mr) (hs : σ ≤ 1) : Mach N c code (CfS mb σ) (GoS mb mc mr mv σ fs) (EnS mb mc mr mv σ fs) := by
  obtain ⟨hL, h4, hrow⟩ := hm
  have hN := hR.2.2.1
  refine ⟨fun a => ⟨0, fun fu => ⟨id, rfl⟩⟩, fun a b e h1 h2 => ?_, fun a b x h1 h2 => ?_, fun pc x m z hx ho hm => ⟨?_, ?_, ?_, ?_, ?_, ?_, ?_, ?_, ?_, ?_⟩⟩
  · obtain ⟨k1, q1⟩ := h1
    obtain ⟨k2, q2⟩ := h2
    refine ⟨k2 + k1, fun fu => ?_⟩
    rw [← Nat.add_assoc]
    exact ⟨fun h => (q1 (fu + k2)).1 ((q2 fu).1 h), (q1 (fu + k2)).2.trans (q2 fu).2⟩
  · obtain ⟨k1, q1⟩ := h1
    obtain ⟨k2, b', q', q2, r⟩ := h2
    refine ⟨k2 + k1, b', q', fun fu => ?_, r⟩
    rw [← Nat.add_assoc]
    exact ⟨(q1 (fu + k2)).1 (q2 fu).1, (q1 (fu + k2)).2.trans (q2 fu).2⟩
  · intro st v nn hr hl hc
    obtain ⟨n, lo, co, pc', b, q⟩ := z
    obtain ⟨e1, e2, e3, e4, hb, hk, hq⟩ := hc
    dsimp only at e1 e2 e3 e4 hb hk hq
    subst e1 e2 e3 e4
    have hp := (List.getElem?_eq_some_iff.mp hr).1
    obtain ⟨o1, o2⟩ := hrow _ _ hr
    have := nTF st
    exact S_go (g_0 hL h4 hp o1 o2 (by omega)) hx ⟨rfl, rfl, rfl, rfl, hb, hk, pk_uLs, sI_u1 (Nat.le_refl _) hq⟩
  · intro st a nn hr ha hl hc
    obtain ⟨n, lo, co, pc', b, q⟩ := z
    obtain ⟨e1, e2, e3, e4, hb, hk, hq⟩ := hc
    dsimp only at e1 e2 e3 e4 hb hk hq
    subst e1 e2 e3 e4
    have hp := (List.getElem?_eq_some_iff.mp hr).1
    obtain ⟨o1, o2⟩ := hrow _ _ hr
    have := nTF st
    obtain ⟨u, d, p, hC⟩ := hR.2.2.2 a ha
    have hp6 := hC.p6
    obtain ⟨r1, r2⟩ := read_is hR ha hC hb hs hC.p6
    have eL : G_X2_load c x (nI a) 0 = (G_X0_read c x (nI a) (nI p), x) := by
      unfold G_X2_load
      rw [if_pos hx, place_0 hR ha hC, if_neg (nI_nm1 (by omega))]
    have G := g_1 (mb := mb) (mc := mc) (mv := mv) (fs := fs) (σ := σ) (b := b) (q := q) (n := nT st) (lo := nF st) (co := x.2.2) hL h4 hp o1 o2 (by omega) (by omega) (by rw [hC.mp]; exact r1)
    rw [hC.mp, r2] at G
    rw [eL]
    exact S_go G hx ⟨rfl, rfl, rfl, rfl, hb, hk, pk_uLs, sI_u1 (Nat.le_refl _) hq⟩
  · intro st a i nn hr ha hl hc
    obtain ⟨n, lo, co, pc', b, q⟩ := z
    obtain ⟨e1, e2, e3, e4, hb, hk, hq1, hq⟩ := hc
    dsimp only at e1 e2 e3 e4 hb hk hq1 hq
    subst e1 e2 e3 e4
    have hp := (List.getElem?_eq_some_iff.mp hr).1
    obtain ⟨o1, o2⟩ := hrow _ _ hr
    have := nTF st
    obtain ⟨u, d, p, hC⟩ := hR.2.2.2 a ha
    obtain ⟨p1, p2, p3⟩ := place_is hR ha hC i
    rcases p3 with p3 | ⟨w, hw, p3⟩
    · have eL : G_X2_load c x (nI a) i = (0, (x.1, 1, x.2.2)) := by
        unfold G_X2_load
        rw [if_pos hx, if_pos p3]
      rw [eL]
      exact S_en (g_2a (n := nT st) hL h4 hp o1 o2 (by omega) (by rw [hq1]; exact p1) (by rw [hq1, p2, p3])) rfl (by decide) hb hk
    · have hsz := szN_r (u := u) hC.d1 hC.d9
      have hn1 : ¬ nI w = -1 := nI_nm1 (by omega)
      have eL : G_X2_load c x (nI a) i = (G_X0_read c x (nI a) (nI w), x) := by
        unfold G_X2_load
        rw [if_pos hx, p3, if_neg hn1]
      obtain ⟨r1, r2⟩ := read_is hR ha hC hb hs hw
      have G := g_2b (mb := mb) (mc := mc) (mv := mv) (fs := fs) (σ := σ) (b := b) (q := q) (n := nT st) (lo := nF st) (co := x.2.2) hL h4 hp o1 o2 (by omega) (by rw [hq1]; exact p1) (by rw [hq1, p2, p3]; exact hn1) (by rw [hq1, p2, p3]; exact r1)
      rw [hq1, p2, p3, r2] at G
      rw [eL]
      exact S_go G hx ⟨rfl, rfl, rfl, rfl, hb, hk, pk_uLs, sI_u1 (Nat.le_refl _) hq⟩
  · intro st a u nn hr ha hl hc
    obtain ⟨n, lo, co, pc', b, q⟩ := z
    obtain ⟨e1, e2, e3, e4, hb, hk, hq1, hq⟩ := hc
    dsimp only at e1 e2 e3 e4 hb hk hq1 hq
    subst e1 e2 e3 e4
    have hp := (List.getElem?_eq_some_iff.mp hr).1
    obtain ⟨o1, o2⟩ := hrow _ _ hr
    have := nTF st
    obtain ⟨u', d, p, hC⟩ := hR.2.2.2 a ha
    have hp6 := hC.p6
    have hn1 : ¬ nI p = -1 := nI_nm1 (by omega)
    obtain ⟨c1, c2⟩ := co_is hx
    by_cases hcc : x.2.2 + 1 ≤ 1000
    · have eS : G_X2_save c x (nI a) 0 u = G_X0_write c (x.1, 0, x.2.2 + 1) (nI a) (nI p) u := by
        unfold G_X2_save
        rw [if_pos hx, place_0 hR ha hC, if_neg hn1, c1 hcc, if_pos rfl]
      obtain ⟨r1, r2, r3⟩ := store_is (x := (x.1, 0, x.2.2 + 1)) hR ha hC hb hs hC.p6 u
      have e2 := wr_2 c (x.1, 0, x.2.2 + 1) (nI a) (nI p) u
      have G := g_9b (mb := mb) (mc := mc) (mv := mv) (fs := fs) (σ := σ) (b := b) (q := q) (n := nT st) (lo := nF st) (co := x.2.2) hL h4 hp o1 o2 (by omega) (by omega) (by rw [hC.mp]; exact hn1) hcc (by rw [hC.mp, hq1]; exact r1)
      rw [hC.mp, hq1] at G
      rw [eS]
      exact S_go G (by rw [e2]) ⟨rfl, rfl, by rw [e2], rfl, r2, fun i hi => (r3 i hi).trans (hk i hi), hq⟩
    · have eS : G_X2_save c x (nI a) 0 u = (x.1, 3, x.2.2 + 1) := by
        unfold G_X2_save
        rw [if_pos hx, place_0 hR ha hC, if_neg hn1, c2 hcc, if_neg (show ¬ (3 : Int32) = 0 by decide)]
      rw [eS]
      exact S_en (g_9a (n := nT st) hL h4 hp o1 o2 (by omega) (by rw [hC.mp]; exact hn1) hcc) rfl (by decide) hb hk
  · intro st a i u nn hr ha hl hc
    obtain ⟨n, lo, co, pc', b, q⟩ := z
    obtain ⟨e1, e2, e3, e4, hb, hk, hq1, hq2, hq⟩ := hc
    dsimp only at e1 e2 e3 e4 hb hk hq1 hq2 hq
    subst e1 e2 e3 e4
    have hp := (List.getElem?_eq_some_iff.mp hr).1
    obtain ⟨o1, o2⟩ := hrow _ _ hr
    have := nTF st
    have hq1' : q.1 (nT st + 1) = u := hq1
    obtain ⟨u', d, p, hC⟩ := hR.2.2.2 a ha
    obtain ⟨p1, p2, p3⟩ := place_is hR ha hC i
    obtain ⟨c1, c2⟩ := co_is hx
    rcases p3 with p3 | ⟨w, hw, p3⟩
    · have eS : G_X2_save c x (nI a) i u = (x.1, 1, x.2.2) := by
        unfold G_X2_save
        rw [if_pos hx, if_pos p3]
      rw [eS]
      exact S_en (g_10a (n := nT st) hL h4 hp o1 o2 (by omega) (by rw [hq2]; exact p1) (by rw [hq2, p2, p3])) rfl (by decide) hb hk
    · have hsz := szN_r (u := u') hC.d1 hC.d9
      have hn1 : ¬ nI w = -1 := nI_nm1 (by omega)
      by_cases hcc : x.2.2 + 1 ≤ 1000
      · have eS : G_X2_save c x (nI a) i u = G_X0_write c (x.1, 0, x.2.2 + 1) (nI a) (nI w) u := by
          unfold G_X2_save
          rw [if_pos hx, p3, if_neg hn1, c1 hcc, if_pos rfl]
        obtain ⟨r1, r2, r3⟩ := store_is (x := (x.1, 0, x.2.2 + 1)) hR ha hC hb hs hw u
        have e2 := wr_2 c (x.1, 0, x.2.2 + 1) (nI a) (nI w) u
        have G := g_10c (mb := mb) (mc := mc) (mv := mv) (fs := fs) (σ := σ) (b := b) (q := q) (n := nT st) (lo := nF st) (co := x.2.2) hL h4 hp o1 o2 (by omega) (by rw [hq2]; exact p1) (by rw [hq2, p2, p3]; exact hn1) hcc (by rw [hq2, p2, p3, hq1']; exact r1)
        rw [hq2, p2, p3, hq1'] at G
        rw [eS]
        exact S_go G (by rw [e2]) ⟨rfl, rfl, by rw [e2], rfl, r2, fun i hi => (r3 i hi).trans (hk i hi), hq⟩
      · have eS : G_X2_save c x (nI a) i u = (x.1, 3, x.2.2 + 1) := by
          unfold G_X2_save
          rw [if_pos hx, p3, if_neg hn1, c2 hcc, if_neg (show ¬ (3 : Int32) = 0 by decide)]
        rw [eS]
        exact S_en (g_10b (n := nT st) hL h4 hp o1 o2 (by omega) (by rw [hq2]; exact p1) (by rw [hq2, p2, p3]; exact hn1) hcc) rfl (by decide) hb hk
  · intro st tg u nn hr ht hl hc
    obtain ⟨n, lo, co, pc', b, q⟩ := z
    obtain ⟨e1, e2, e3, e4, hb, hk, hq1, hq⟩ := hc
    dsimp only at e1 e2 e3 e4 hb hk hq1 hq
    subst e1 e2 e3 e4
    have hp := (List.getElem?_eq_some_iff.mp hr).1
    obtain ⟨o1, o2⟩ := hrow _ _ hr
    have := nTF st
    have G := g_12 (mb := mb) (mc := mc) (mv := mv) (fs := fs) (σ := σ) (b := b) (q := q) (n := nT st) (lo := nF st) (co := x.2.2) hL h4 hp o1 o2 (by omega)
    rw [hq1] at G
    exact S_go G hx ⟨rfl, rfl, rfl, rfl, hb, hk, hq⟩
  · intro st tg u nn hr ht hl hc
    obtain ⟨n, lo, co, pc', b, q⟩ := z
    obtain ⟨e1, e2, e3, e4, hb, hk, hq1, hq⟩ := hc
    dsimp only at e1 e2 e3 e4 hb hk hq1 hq
    subst e1 e2 e3 e4
    have hp := (List.getElem?_eq_some_iff.mp hr).1
    obtain ⟨o1, o2⟩ := hrow _ _ hr
    have := nTF st
    have e0 : (0 : Int64).toInt = 0 := by decide
    refine ⟨fun hu => ?_, fun hu => ?_⟩
    · exact S_go (g_13a (n := nT st) (lo := nF st) hL h4 hp o1 o2 (by omega) (by omega) (by rw [hq1, lg_cmp_le, Int64.le_iff_toInt_le, e0]; exact hu)) hx ⟨rfl, rfl, rfl, rfl, hb, hk, sI_u2 (Nat.le_refl _) hq⟩
    · have hz : ¬ lg_cmp (q.1 (nT st)) 0 ≤ 0 := by rw [hq1, lg_cmp_le, Int64.le_iff_toInt_le, e0]; exact hu
      obtain ⟨c1, c2⟩ := co_is hx
      by_cases hcc : x.2.2 + 1 ≤ 1000
      · rw [c1 hcc]
        have G := g_13c (mb := mb) (mc := mc) (mv := mv) (fs := fs) (σ := σ) (b := b) (q := q) (n := nT st) (lo := nF st) (co := x.2.2) hL h4 hp o1 o2 (by omega) (by omega) hz hcc
        rw [hq1] at G
        refine S_go G rfl ⟨rfl, rfl, rfl, rfl, hb, hk, ?_, sI_u2 (Nat.le_refl _) hq⟩
        show vp_updL q.2 (nF st) u (nF st) = u - 1 + 1
        rw [pk_uLs, Int64.sub_add_cancel]
      · rw [c2 hcc]
        exact S_en (g_13b (n := nT st) (lo := nF st) hL h4 hp o1 o2 (by omega) (by omega) hz hcc) rfl (by decide) hb hk
  · intro st tg u nn hr ht hl hc
    obtain ⟨n, lo, co, pc', b, q⟩ := z
    obtain ⟨e1, e2, e3, e4, hb, hk, hq1, hq⟩ := hc
    dsimp only at e1 e2 e3 e4 hb hk hq1 hq
    subst e1 e2 e3 e4
    have hp := (List.getElem?_eq_some_iff.mp hr).1
    obtain ⟨o1, o2⟩ := hrow _ _ hr
    have := nTF st
    have e0 : (0 : Int64).toInt = 0 := by decide
    have hq2 : q.2 (nF st) - 1 = u := by rw [hq1, Int64.add_sub_cancel]
    refine ⟨fun hu => ?_, fun hu => ?_⟩
    · exact S_go (g_14a (lo := nF st) hL h4 hp o1 o2 (by omega) (by rw [hq2, lg_cmp_le, Int64.le_iff_toInt_le, e0]; exact hu)) hx ⟨rfl, rfl, rfl, rfl, hb, hk, sI_u2 (Nat.le_refl _) hq⟩
    · have hz : ¬ lg_cmp (q.2 (nF st) - 1) 0 ≤ 0 := by rw [hq2, lg_cmp_le, Int64.le_iff_toInt_le, e0]; exact hu
      obtain ⟨c1, c2⟩ := co_is hx
      by_cases hcc : x.2.2 + 1 ≤ 1000
      · rw [c1 hcc]
        have G := g_14c (mb := mb) (mc := mc) (mv := mv) (fs := fs) (σ := σ) (b := b) (q := q) (n := nT st) (lo := nF st) (co := x.2.2) hL h4 hp o1 o2 (by omega) hz hcc
        rw [hq2] at G
        refine S_go G rfl ⟨rfl, rfl, rfl, rfl, hb, hk, ?_, sI_u2 (Nat.le_refl _) hq⟩
        show vp_updL q.2 (nF st) u (nF st) = u - 1 + 1
        rw [pk_uLs, Int64.sub_add_cancel]
      · rw [c2 hcc]
        exact S_en (g_14b (lo := nF st) hL h4 hp o1 o2 (by omega) hz hcc) rfl (by decide) hb hk
  · intro st u v nn hr hl hc
    obtain ⟨n, lo, co, pc', b, q⟩ := z
    obtain ⟨e1, e2, e3, e4, hb, hk, hq1, hq⟩ := hc
    dsimp only at e1 e2 e3 e4 hb hk hq1 hq
    subst e1 e2 e3 e4
    have hp := (List.getElem?_eq_some_iff.mp hr).1
    obtain ⟨o1, o2⟩ := hrow _ _ hr
    exact S_go (g_15 hL h4 hp o1) hx ⟨rfl, rfl, rfl, rfl, hb, hk, hq⟩
  · intro st op y w v nn hr hk1 hk2 hl hc
    obtain ⟨n, lo, co, pc', b, q⟩ := z
    obtain ⟨e1, e2, e3, e4, hb, hk, hq1, hq2, hq⟩ := hc
    dsimp only at e1 e2 e3 e4 hb hk hq1 hq2 hq
    subst e1 e2 e3 e4
    have hp := (List.getElem?_eq_some_iff.mp hr).1
    obtain ⟨o1, o2⟩ := hrow _ _ hr
    have := nTF st
    have hq1' : q.1 (nT st + 1) = w := hq1
    by_cases hz : op = 6 ∧ lg_cmp w 0 = 0
    · have eR : G_X2_result x op y w = (0, (x.1, 2, x.2.2)) := by
        unfold G_X2_result
        rw [if_pos hx, if_pos hz.1, if_pos hz.2]
      rw [eR]
      exact S_en (g_ra (n := nT st) hL h4 hp o1 hk1 hk2 (by omega) hz.1 (by rw [hq1']; exact hz.2)) rfl (by decide) hb hk
    · have hz' : op = 6 → ¬ lg_cmp w 0 = 0 := fun a b => hz ⟨a, b⟩
      have eR : G_X2_result x op y w = (G_X4_reckon op y w, x) := by
        unfold G_X2_result
        rw [if_pos hx]
        by_cases h6 : op = 6
        · rw [if_pos h6, if_neg (hz' h6)]
        · rw [if_neg h6]
      obtain ⟨r1, r2⟩ := reck_is (y := y) hz'
      have G := g_rb (mb := mb) (mc := mc) (mv := mv) (fs := fs) (σ := σ) (b := b) (q := q) (n := nT st) (lo := nF st) (co := x.2.2) hL h4 hp o1 hk1 hk2 (by omega) (by rw [hq1']; exact hz') (by rw [hq1', hq2]; exact r1)
      rw [hq1', hq2, r2] at G
      rw [eR]
      exact S_go G hx ⟨rfl, rfl, rfl, rfl, hb, hk, pk_uLs, sI_u1 (Nat.le_refl _) hq⟩
end MM2
theorem LZ_fs {mb : AI} {mc : MC} {mr : MR} {mv : MV} {s : Int32} (f1 f2 : Nat) : ∀ (fu : Nat) (n lo co pc : Int32) (b : AI) (q : MV), G_X5_step_L10 mb mc mr mv s f1 fu n lo co pc b q = G_X5_step_L10 mb mc mr mv s f2 fu n lo co pc b q := by
  intro fu
  induction fu with
  | zero => intro n lo co pc b q; rfl
  | succ fu ih =>
    intro n lo co pc b q
    rw [G_X5_step_L10, G_X5_step_L10]
    simp only [ih]
theorem OZ_fs {mb : AI} {mc : MC} {mr : MR} {mv : MV} {s : Int32} (f1 f2 : Nat) : ∀ (fu : Nat) (n lo co pc : Int32) (b : AI) (q : MV), OK_X5_step_L10 mb mc mr mv s f1 fu n lo co pc b q = OK_X5_step_L10 mb mc mr mv s f2 fu n lo co pc b q := by
  intro fu
  induction fu with
  | zero => intro n lo co pc b q; rfl
  | succ fu ih =>
    intro n lo co pc b q
    rw [OK_X5_step_L10, OK_X5_step_L10]
    simp only [ih]
/-- the reference's stepping ends as the walk ends -/
theorem step_walk {N M : Nat} {c : CS} {t : TS} {mb : AI} {mc : MC} {mr : MR} {mv : MV} {σ : Nat} (hT : tOK N M c t) (hR : cR N c mc) {k : Nat} (h1 : 1 ≤ k) (h2 : k ≤ M) (hm : mrI (cd t 200 k 0) mr) (hl : ln t 200 k ≤ 400) (hs : σ ≤ 1) (x : SS) (hb : bR mb (64 * σ) x.1) :
    ∃ fs mb' mv', OK_X5_step mb mc mr mv (nI σ) fs ∧ G_X5_step mb mc mr mv (nI σ) fs = ((G_X3_walkAll c t x (nI k)).2.1, mb', mv') ∧ bR mb' (64 * σ) (G_X3_walkAll c t x (nI k)).1 ∧ oK (64 * σ) mb mb' := by
  have hb0 : (G_X2_begin x).2.1 = 0 := rfl
  have ho : xOK (G_X2_begin x) := ⟨by show 0 ≤ (0 : Int32).toInt; decide, by show (0 : Int32).toInt ≤ 1000; decide⟩
  have hc0 : cn (G_X2_begin x) = 0 := rfl
  have S := sim (machM (mb := mb) (mv := mv) (fs := 0) hR hm hs) hT 200 k 0 [] (G_X2_begin x) 0 (0, 0, 0, 0, mb, mv) h1 h2 (by have := hT.2.2.2.1; omega) (by omega) (fun i q hq => by rw [Nat.zero_add]; exact hq) (by omega) (by simp only [List.length_nil]; omega) hb0 ho (by rw [hc0]; omega) ⟨rfl, rfl, rfl, rfl, hb, fun i _ => rfl, trivial⟩
  have e : (ev c t 200 (G_X2_begin x) k).2 = G_X3_walkAll c t x (nI k) := rfl
  rw [e] at S
  by_cases hz : (G_X3_walkAll c t x (nI k)).2.1 = 0
  · obtain ⟨z, m, ⟨n, g⟩, hc, o, -, hp⟩ := S.1 hz
    obtain ⟨a1, a2⟩ := g 1
    obtain ⟨q1, q2, q3, q4, q5, q6, q7⟩ := hc
    have hend : mr.1 ≤ nI z.2.2.2.1 := by
      rw [hm.1, q4, cd_len]
      exact nI_le (by omega) (by omega)
    have b1 : OZ mb mc mr mv σ 0 1 z := by
      unfold OZ
      rw [OK_X5_step_L10, if_pos hend]
      trivial
    have b2 : LZ mb mc mr mv σ 0 1 z = (0, z.2.2.2.2.1, z.2.2.2.2.2) := by
      unfold LZ
      rw [G_X5_step_L10, if_pos hend]
    refine ⟨1 + n, z.2.2.2.2.1, z.2.2.2.2.2, ?_, ?_, q5, q6⟩
    · unfold OK_X5_step
      rw [OZ_fs (1 + n) 0]
      exact a1 b1
    · unfold G_X5_step
      rw [LZ_fs (1 + n) 0, hz]
      exact a2.trans b2
  · obtain ⟨n, mb', q', g, r1, r2⟩ := S.2 hz
    obtain ⟨a1, a2⟩ := g 0
    refine ⟨0 + n, mb', q', ?_, ?_, r1, r2⟩
    · unfold OK_X5_step
      rw [OZ_fs (0 + n) 0]
      exact a1
    · unfold G_X5_step
      rw [LZ_fs (0 + n) 0]
      exact a2
