section SIM2
variable {Z : Type} {N M : Nat} {c : CS} {t : TS} {code : List Row} {Cfg : Nat → Stk → SS → Nat → Z → Prop} {Go : Z → Z → Prop} {En : Z → SS → Prop}
/-- with d levels left: a node's rows do what its walk does -/
def SimAt {Z : Type} (M : Nat) (c : CS) (t : TS) (code : List Row) (Cfg : Nat → Stk → SS → Nat → Z → Prop) (Go : Z → Z → Prop) (En : Z → SS → Prop) (d : Nat) : Prop :=
  ∀ (k b : Nat) (st : Stk) (x : SS) (m : Nat) (z : Z), 1 ≤ k → k ≤ M → k ≤ d → d ≤ 200 → Seg code b (cd t d k b) → b + ln t d k ≤ 400 → st.length + d ≤ 200 → x.2.1 = 0 → xOK x → m + 401 * (1001 - cn x) + ln t d k ≤ 999999 → Cfg b st x m z →
    Tt Cfg Go En z m x (ln t d k) (b + ln t d k) (psh t k (ev c t d x k).1 st) (ev c t d x k).2
/-- at a statement's place -/
theorem simS (hM : Mach N c code Cfg Go En) {d : Nat} (ih : SimAt M c t code Cfg Go En d) {k b : Nat} {st : Stk} {x : SS} {m : Nat} {z : Z} (h1 : 1 ≤ k) (h2 : k ≤ M) (h3 : k ≤ d) (h4 : d ≤ 200) (hs : Seg code b (cd t d k b ++ dr t k)) (hb : b + (ln t d k + dl t k) ≤ 400) (hl : st.length + d ≤ 200) (hx : x.2.1 = 0) (ho : xOK x) (hm : m + 401 * (1001 - cn x) + (ln t d k + dl t k) ≤ 999999) (hc : Cfg b st x m z) :
    Tt Cfg Go En z m x (ln t d k + dl t k) (b + (ln t d k + dl t k)) st (ev c t d x k).2 := by
  have A := ih k b st x m z h1 h2 h3 h4 hs.left (by omega) hl hx ho (by omega) hc
  by_cases hv : isV t k
  · have e1 : dl t k = 1 := by unfold dl; rw [if_pos hv]
    have e2 : dr t k = [(15, 0, 0)] := by unfold dr; rw [if_pos hv]
    have e3 : psh t k (ev c t d x k).1 st = (true, (ev c t d x k).1) :: st := if_pos hv
    rw [e3] at A
    rw [e1] at hb hm ⊢
    have hr := hs.right (cd_len t d k b)
    rw [e2] at hr
    refine Tt.seq hM A (fun h0 z1 m1 c1 o1 p1 => ?_) (fun _ => rfl) rfl
    have R := (hM.2.2.2 (b + ln t d k) (ev c t d x k).2 m1 z1 h0 o1 (by omega)).2.2.2.2.2.2.2.2.1 st (ev c t d x k).1 0 0 hr.head (by omega) c1
    exact Tt.one R (fun _ => ⟨o1, Nat.le_refl _⟩)
  · have e1 : dl t k = 0 := by unfold dl; rw [if_neg hv]
    have e3 : psh t k (ev c t d x k).1 st = st := if_neg hv
    rw [e3] at A
    rw [e1]
    exact A
theorem sim_f (hM : Mach N c code Cfg Go En) (hT : tOK N M c t) {d k b : Nat} {st : Stk} {x : SS} {m : Nat} {z : Z} (h1 : 1 ≤ k) (h2 : k ≤ M) (h4 : d + 1 ≤ 200) (hs : Seg code b (cd t (d + 1) k b)) (hl : st.length + (d + 1) ≤ 200) (hx : x.2.1 = 0) (ho : xOK x) (hm : m + 401 * (1001 - cn x) + ln t (d + 1) k ≤ 999999) (hc : Cfg b st x m z) (hf : fo t k = 1) (hv : isV t k) :
    Tt Cfg Go En z m x (ln t (d + 1) k) (b + ln t (d + 1) k) (psh t k (ev c t (d + 1) x k).1 st) (ev c t (d + 1) x k).2 := by
  obtain ⟨e1, e2⟩ := cd_f (d := d) (b := b) hf
  rw [e1] at hs
  rw [e2] at hm ⊢
  rw [ev_folded hT h1 h2 h4 hx hf, show psh t k (nu t k, x).1 st = (true, nu t k) :: st from if_pos hv]
  exact Tt.one ((hM.2.2.2 b x m z hx ho (by omega)).1 st (nu t k) 0 hs.head (by omega) hc) (fun _ => ⟨ho, Nat.le_refl _⟩)
theorem sim_1 (hM : Mach N c code Cfg Go En) (hT : tOK N M c t) {d k b : Nat} {st : Stk} {x : SS} {m : Nat} {z : Z} (h1 : 1 ≤ k) (h2 : k ≤ M) (h4 : d + 1 ≤ 200) (hs : Seg code b (cd t (d + 1) k b)) (hl : st.length + (d + 1) ≤ 200) (hx : x.2.1 = 0) (ho : xOK x) (hm : m + 401 * (1001 - cn x) + ln t (d + 1) k ≤ 999999) (hc : Cfg b st x m z) (hf : fo t k = 0) (hk : kd t k = 1) {a : Nat} (haN : a < N) (ha : fa t k = nI a) :
    Tt Cfg Go En z m x (ln t (d + 1) k) (b + ln t (d + 1) k) (psh t k (ev c t (d + 1) x k).1 st) (ev c t (d + 1) x k).2 := by
  obtain ⟨e1, e2⟩ := cd_1 (d := d) (b := b) hf hk ha
  rw [e1] at hs
  rw [e2] at hm ⊢
  have hv : isV t k := by show (kd t k).toInt < 9; rw [hk]; decide
  rw [ev_k1 hT h1 h2 h4 hx hf hk ha, show ∀ v, psh t k v st = (true, v) :: st from fun v => if_pos hv]
  exact Tt.one ((hM.2.2.2 b x m z hx ho (by omega)).2.1 st a 0 hs.head haN (by omega) hc) (fun h => by rw [ld_ok hx h]; exact ⟨ho, Nat.le_refl _⟩)
theorem sim_2 (hM : Mach N c code Cfg Go En) (hT : tOK N M c t) {d k b : Nat} (ih : SimAt M c t code Cfg Go En d) {st : Stk} {x : SS} {m : Nat} {z : Z} (h1 : 1 ≤ k) (h2 : k ≤ M) (h3 : k ≤ d + 1) (h4 : d + 1 ≤ 200) (hs : Seg code b (cd t (d + 1) k b)) (hb : b + ln t (d + 1) k ≤ 400) (hl : st.length + (d + 1) ≤ 200) (hx : x.2.1 = 0) (ho : xOK x) (hm : m + 401 * (1001 - cn x) + ln t (d + 1) k ≤ 999999) (hc : Cfg b st x m z) (hf : fo t k = 0) (hk : kd t k = 2) {a j : Nat} (haN : a < N) (ha : fa t k = nI a) (hj : sb t k = nI j) (hj1 : 1 ≤ j) (hj2 : j < k) (hjv : isV t j) :
    Tt Cfg Go En z m x (ln t (d + 1) k) (b + ln t (d + 1) k) (psh t k (ev c t (d + 1) x k).1 st) (ev c t (d + 1) x k).2 := by
  have hM2 := hT.2.2.2.1
  obtain ⟨e1, e2⟩ := cd_2 (d := d) (b := b) hf (Or.inl hk) ha hj (by omega)
  rw [e1] at hs
  rw [e2] at hb hm ⊢
  have hv : isV t k := by show (kd t k).toInt < 9; rw [hk]; decide
  rw [ev_k2 hT h1 h2 h4 hx hf hk ha hj, show ∀ v, psh t k v st = (true, v) :: st from fun v => if_pos hv]
  have A := ih j b st x m z hj1 (by omega) (by omega) (by omega) hs.left (by omega) (by omega) hx ho (by omega) hc
  rw [show ∀ v, psh t j v st = (true, v) :: st from fun v => if_pos hjv] at A
  have hr := (hs.right (cd_len t d j b)).head
  rw [hk] at hr
  refine Tt.seq hM A (fun h0 z1 m1 c1 o1 p1 => ?_) (fun h => ?_) rfl
  · exact Tt.one ((hM.2.2.2 (b + ln t d j) _ m1 z1 h0 o1 (by omega)).2.2.1 st a _ 0 hr haN (by omega) c1) (fun h => by rw [ld_ok h0 h]; exact ⟨o1, Nat.le_refl _⟩)
  · unfold G_X2_load
    rw [if_neg h]
theorem sim_9 (hM : Mach N c code Cfg Go En) (hT : tOK N M c t) {d k b : Nat} (ih : SimAt M c t code Cfg Go En d) {st : Stk} {x : SS} {m : Nat} {z : Z} (h1 : 1 ≤ k) (h2 : k ≤ M) (h3 : k ≤ d + 1) (h4 : d + 1 ≤ 200) (hs : Seg code b (cd t (d + 1) k b)) (hb : b + ln t (d + 1) k ≤ 400) (hl : st.length + (d + 1) ≤ 200) (hx : x.2.1 = 0) (ho : xOK x) (hm : m + 401 * (1001 - cn x) + ln t (d + 1) k ≤ 999999) (hc : Cfg b st x m z) (hf : fo t k = 0) (hk : kd t k = 9) {a j : Nat} (haN : a < N) (ha : fa t k = nI a) (hj : sb t k = nI j) (hj1 : 1 ≤ j) (hj2 : j < k) (hjv : isV t j) :
    Tt Cfg Go En z m x (ln t (d + 1) k) (b + ln t (d + 1) k) (psh t k (ev c t (d + 1) x k).1 st) (ev c t (d + 1) x k).2 := by
  have hM2 := hT.2.2.2.1
  obtain ⟨e1, e2⟩ := cd_2 (d := d) (b := b) hf (Or.inr hk) ha hj (by omega)
  rw [e1] at hs
  rw [e2] at hb hm ⊢
  have hv : ¬ isV t k := by show ¬ (kd t k).toInt < 9; rw [hk]; decide
  rw [ev_k9 hT h1 h2 h4 hx hf hk ha hj, show ∀ v, psh t k v st = st from fun v => if_neg hv]
  have A := ih j b st x m z hj1 (by omega) (by omega) (by omega) hs.left (by omega) (by omega) hx ho (by omega) hc
  rw [show ∀ v, psh t j v st = (true, v) :: st from fun v => if_pos hjv] at A
  have hr := (hs.right (cd_len t d j b)).head
  rw [hk] at hr
  refine Tt.seq hM A (fun h0 z1 m1 c1 o1 p1 => ?_) (fun h => ?_) rfl
  · exact Tt.one ((hM.2.2.2 (b + ln t d j) _ m1 z1 h0 o1 (by omega)).2.2.2.1 st a _ 0 hr haN (by omega) c1) (fun h => by
      obtain ⟨q1, q2⟩ := sv_ok h0 o1 h
      exact ⟨q1, by rw [q2]; omega⟩)
  · show G_X2_save c _ _ _ _ = _
    unfold G_X2_save
    rw [if_neg h]
theorem sim_10 (hM : Mach N c code Cfg Go En) (hT : tOK N M c t) {d k b : Nat} (ih : SimAt M c t code Cfg Go En d) {st : Stk} {x : SS} {m : Nat} {z : Z} (h1 : 1 ≤ k) (h2 : k ≤ M) (h3 : k ≤ d + 1) (h4 : d + 1 ≤ 200) (hs : Seg code b (cd t (d + 1) k b)) (hb : b + ln t (d + 1) k ≤ 400) (hl : st.length + (d + 1) ≤ 200) (hx : x.2.1 = 0) (ho : xOK x) (hm : m + 401 * (1001 - cn x) + ln t (d + 1) k ≤ 999999) (hc : Cfg b st x m z) (hf : fo t k = 0) (hk : kd t k = 10) {a j p q : Nat} (haN : a < N) (ha : fa t k = nI a) (hj : sb t k = nI j) (hj1 : 1 ≤ j) (hj2 : j < k) (hp : fa t j = nI p) (hq : sb t j = nI q) (hp1 : 1 ≤ p) (hp2 : p < k) (hq1 : 1 ≤ q) (hq2 : q < k) (hpv : isV t p) (hqv : isV t q) :
    Tt Cfg Go En z m x (ln t (d + 1) k) (b + ln t (d + 1) k) (psh t k (ev c t (d + 1) x k).1 st) (ev c t (d + 1) x k).2 := by
  have hM2 := hT.2.2.2.1
  obtain ⟨e1, e2⟩ := cd_10 (d := d) (b := b) hf hk ha hj hp hq (by omega) (by omega) (by omega)
  rw [e1] at hs
  rw [e2] at hb hm ⊢
  have hv : ¬ isV t k := by show ¬ (kd t k).toInt < 9; rw [hk]; decide
  rw [ev_k10 hT h1 h2 h4 hx hf hk ha hj hj1 (by omega) hp hq, show ∀ v, psh t k v st = st from fun v => if_neg hv]
  have A := ih p b st x m z hp1 (by omega) (by omega) (by omega) hs.left (by omega) (by omega) hx ho (by omega) hc
  rw [show ∀ v, psh t p v st = (true, v) :: st from fun v => if_pos hpv] at A
  have hs2 := hs.right (cd_len t d p b)
  refine Tt.seq (L1 := ln t d p) (L2 := ln t d q + 1) hM A (fun h0 z1 m1 c1 o1 p1 => ?_) (fun h => ?_) (by omega)
  · have B := ih q (b + ln t d p) ((true, (ev c t d x p).1) :: st) _ m1 z1 hq1 (by omega) (by omega) (by omega) hs2.left (by omega) (by simp only [List.length_cons]; omega) h0 o1 (by omega) c1
    rw [show ∀ v, psh t q v ((true, (ev c t d x p).1) :: st) = (true, v) :: (true, (ev c t d x p).1) :: st from fun v => if_pos hqv] at B
    have hr := (hs2.right (cd_len t d q _)).head
    refine Tt.seq hM B (fun h0' z2 m2 c2 o2 p2 => ?_) (fun h => ?_) rfl
    · have R := (hM.2.2.2 (b + ln t d p + ln t d q) _ m2 z2 h0' o2 (by omega)).2.2.2.2.1 st a _ _ 0 hr haN (by omega) c2
      rw [show b + (ln t d p + ln t d q + 1) = b + ln t d p + ln t d q + 1 by omega]
      exact Tt.one R (fun h => by
        obtain ⟨q1, q2⟩ := sv_ok h0' o2 h
        exact ⟨q1, by rw [q2]; omega⟩)
    · show G_X2_save c _ _ _ _ = _
      unfold G_X2_save
      rw [if_neg h]
  · have hz : ev c t d (ev c t d x p).2 q = (0, (ev c t d x p).2) := ev_raised h
    show G_X2_save c _ _ _ _ = _
    rw [hz]
    unfold G_X2_save
    rw [if_neg h]
theorem sim_r (hM : Mach N c code Cfg Go En) (hT : tOK N M c t) {d k b : Nat} (ih : SimAt M c t code Cfg Go En d) {st : Stk} {x : SS} {m : Nat} {z : Z} (h1 : 1 ≤ k) (h2 : k ≤ M) (h3 : k ≤ d + 1) (h4 : d + 1 ≤ 200) (hs : Seg code b (cd t (d + 1) k b)) (hb : b + ln t (d + 1) k ≤ 400) (hl : st.length + (d + 1) ≤ 200) (hx : x.2.1 = 0) (ho : xOK x) (hm : m + 401 * (1001 - cn x) + ln t (d + 1) k ≤ 999999) (hc : Cfg b st x m z) (hf : fo t k = 0) (hk1 : 3 ≤ (kd t k).toInt) (hk2 : (kd t k).toInt ≤ 8) {i j : Nat} (hi : fa t k = nI i) (hj : sb t k = nI j) (hi1 : 1 ≤ i) (hi2 : i < k) (hj1 : 1 ≤ j) (hj2 : j < k) (hiv : isV t i) (hjv : isV t j) :
    Tt Cfg Go En z m x (ln t (d + 1) k) (b + ln t (d + 1) k) (psh t k (ev c t (d + 1) x k).1 st) (ev c t (d + 1) x k).2 := by
  have hM2 := hT.2.2.2.1
  obtain ⟨e1, e2⟩ := cd_r (d := d) (b := b) hf hk1 hk2 hi hj (by omega) (by omega)
  rw [e1] at hs
  rw [e2] at hb hm ⊢
  have hv : isV t k := by show (kd t k).toInt < 9; omega
  rw [ev_kr hT h1 h2 h4 hx hf hk1 hk2 hi hj, show ∀ v, psh t k v st = (true, v) :: st from fun v => if_pos hv]
  have A := ih i b st x m z hi1 (by omega) (by omega) (by omega) hs.left (by omega) (by omega) hx ho (by omega) hc
  rw [show ∀ v, psh t i v st = (true, v) :: st from fun v => if_pos hiv] at A
  have hs2 := hs.right (cd_len t d i b)
  refine Tt.seq (L1 := ln t d i) (L2 := ln t d j + 1) hM A (fun h0 z1 m1 c1 o1 p1 => ?_) (fun h => ?_) (by omega)
  · have B := ih j (b + ln t d i) ((true, (ev c t d x i).1) :: st) _ m1 z1 hj1 (by omega) (by omega) (by omega) hs2.left (by omega) (by simp only [List.length_cons]; omega) h0 o1 (by omega) c1
    rw [show ∀ v, psh t j v ((true, (ev c t d x i).1) :: st) = (true, v) :: (true, (ev c t d x i).1) :: st from fun v => if_pos hjv] at B
    have hr := (hs2.right (cd_len t d j _)).head
    refine Tt.seq hM B (fun h0' z2 m2 c2 o2 p2 => ?_) (fun h => ?_) rfl
    · have R := (hM.2.2.2 (b + ln t d i + ln t d j) _ m2 z2 h0' o2 (by omega)).2.2.2.2.2.2.2.2.2 st (kd t k) _ _ 0 (nI k) hr hk1 hk2 (by omega) c2
      rw [show b + (ln t d i + ln t d j + 1) = b + ln t d i + ln t d j + 1 by omega]
      exact Tt.one R (fun h => by rw [rs_ok h0' h]; exact ⟨o2, Nat.le_refl _⟩)
    · unfold G_X2_result
      rw [if_neg h]
  · have hz : ev c t d (ev c t d x i).2 j = (0, (ev c t d x i).2) := ev_raised h
    rw [hz]
    unfold G_X2_result
    rw [if_neg h]
theorem sim_11 (hM : Mach N c code Cfg Go En) (hT : tOK N M c t) {d k b : Nat} (ih : SimAt M c t code Cfg Go En d) {st : Stk} {x : SS} {m : Nat} {z : Z} (h1 : 1 ≤ k) (h2 : k ≤ M) (h3 : k ≤ d + 1) (h4 : d + 1 ≤ 200) (hs : Seg code b (cd t (d + 1) k b)) (hb : b + ln t (d + 1) k ≤ 400) (hl : st.length + (d + 1) ≤ 200) (hx : x.2.1 = 0) (ho : xOK x) (hm : m + 401 * (1001 - cn x) + ln t (d + 1) k ≤ 999999) (hc : Cfg b st x m z) (hf : fo t k = 0) (hk : kd t k = 11) {i j : Nat} (hi : fa t k = nI i) (hj : sb t k = nI j) (hi1 : 1 ≤ i) (hi2 : i < k) (hj1 : 1 ≤ j) (hj2 : j < k) :
    Tt Cfg Go En z m x (ln t (d + 1) k) (b + ln t (d + 1) k) (psh t k (ev c t (d + 1) x k).1 st) (ev c t (d + 1) x k).2 := by
  have hM2 := hT.2.2.2.1
  obtain ⟨e1, e2⟩ := cd_11 (d := d) (b := b) hf hk hi hj (by omega) (by omega)
  rw [e1, ← List.append_assoc] at hs
  rw [e2] at hb hm ⊢
  have hv : ¬ isV t k := by show ¬ (kd t k).toInt < 9; rw [hk]; decide
  rw [ev_k11 hT h1 h2 h4 hx hf hk hi hj, show ∀ v, psh t k v st = st from fun v => if_neg hv]
  have A := simS hM ih hi1 (by omega) (by omega) (by omega) hs.left (by omega) (by omega) hx ho (by omega) hc
  have hs2 := hs.right (n := ln t d i + dl t i) (by rw [List.length_append, cd_len, dr_len])
  refine Tt.seq hM A (fun h0 z1 m1 c1 o1 p1 => ?_) (fun h => ?_) rfl
  · have B := simS hM ih hj1 (by omega) (by omega) (by omega) hs2 (by omega) (by omega) h0 o1 (by omega) c1
    rw [show b + (ln t d i + dl t i + (ln t d j + dl t j)) = b + (ln t d i + dl t i) + (ln t d j + dl t j) by omega]
    exact B
  · have hz : ev c t d (ev c t d x i).2 j = (0, (ev c t d x i).2) := ev_raised h
    rw [hz]
theorem sim_12 (hM : Mach N c code Cfg Go En) (hT : tOK N M c t) {d k b : Nat} (ih : SimAt M c t code Cfg Go En d) {st : Stk} {x : SS} {m : Nat} {z : Z} (h1 : 1 ≤ k) (h2 : k ≤ M) (h3 : k ≤ d + 1) (h4 : d + 1 ≤ 200) (hs : Seg code b (cd t (d + 1) k b)) (hb : b + ln t (d + 1) k ≤ 400) (hl : st.length + (d + 1) ≤ 200) (hx : x.2.1 = 0) (ho : xOK x) (hm : m + 401 * (1001 - cn x) + ln t (d + 1) k ≤ 999999) (hc : Cfg b st x m z) (hf : fo t k = 0) (hk : kd t k = 12) {i j : Nat} (hi : fa t k = nI i) (hj : sb t k = nI j) (hi1 : 1 ≤ i) (hi2 : i < k) (hj1 : 1 ≤ j) (hj2 : j < k) (hiv : isV t i) :
    Tt Cfg Go En z m x (ln t (d + 1) k) (b + ln t (d + 1) k) (psh t k (ev c t (d + 1) x k).1 st) (ev c t (d + 1) x k).2 := by
  have hM2 := hT.2.2.2.1
  obtain ⟨e1, e2⟩ := cd_12 (d := d) (b := b) hf hk hi hj (by omega) (by omega)
  rw [e1] at hs
  rw [e2] at hb hm ⊢
  have hv : ¬ isV t k := by show ¬ (kd t k).toInt < 9; rw [hk]; decide
  rw [ev_k12 hT h1 h2 h4 hx hf hk hi hj, show ∀ v, psh t k v st = st from fun v => if_neg hv]
  have A := ih i b st x m z hi1 (by omega) (by omega) (by omega) hs.left (by omega) (by omega) hx ho (by omega) hc
  rw [show ∀ v, psh t i v st = (true, v) :: st from fun v => if_pos hiv] at A
  have hs2 := hs.right (cd_len t d i b)
  refine Tt.seq (L1 := ln t d i) (L2 := 1 + (ln t d j + dl t j)) hM A (fun h0 z1 m1 c1 o1 p1 => ?_) (fun h => ?_) (by omega)
  · have R := (hM.2.2.2 (b + ln t d i) _ m1 z1 h0 o1 (by omega)).2.2.2.2.2.1 st _ _ 0 hs2.head (by omega) (by omega) c1
    have R1 := Tt.one (x := (ev c t d x i).2) R (fun _ => ⟨o1, Nat.le_refl _⟩)
    by_cases hz : lg_cmp (ev c t d x i).1 0 = 0
    · rw [if_pos hz] at R1
      rw [if_pos hz]
      show Tt Cfg Go En z1 m1 (ev c t d x i).2 (1 + (ln t d j + dl t j)) _ st (ev c t d x i).2
      obtain ⟨z2, m2, g2, c2, o2, n2, p2⟩ := R1.1 h0
      exact ⟨fun _ => ⟨z2, m2, g2, c2, o2, n2, by omega⟩, R1.2⟩
    · rw [if_neg hz] at R1
      rw [if_neg hz]
      refine Tt.seq hM R1 (fun _ z2 m2 c2 o2 p2 => ?_) (fun h => absurd h0 h) rfl
      have hs3 := hs2.tail
      rw [show b + ln t d i + 1 = b + (ln t d i + 1) by omega] at hs3 c2
      have B := simS (m := m2) (st := st) hM ih hj1 (by omega) (by omega) (by omega) hs3 (by omega) (by omega) h0 o2 (by omega) c2
      rw [show b + (ln t d i + 1 + (ln t d j + dl t j)) = b + (ln t d i + 1) + (ln t d j + dl t j) by omega]
      exact B
  · have hz : ev c t d (ev c t d x i).2 j = (0, (ev c t d x i).2) := ev_raised h
    rw [hz]
    split <;> rfl
end SIM2
