section EVK
variable {N M : Nat} {c : CS} {t : TS} {d : Nat} {x : SS} {k : Nat}
theorem ev_def (c : CS) (t : TS) (d : Nat) (x : SS) (j : Nat) : G_X3_walk c t d x (nI j) (nI (201 - d)) = ev c t d x j := rfl
theorem kne {v a : Int32} (h1 : 3 ≤ v.toInt) (h2 : v.toInt ≤ 8) (ha : a.toInt < 3 ∨ 8 < a.toInt) : ¬ v = a := fun e => by subst e; omega
theorem ev_k1 (h : tOK N M c t) (h1 : 1 ≤ k) (h2 : k ≤ M) (hd : d + 1 ≤ 200) (hx : x.2.1 = 0) (hf : fo t k = 0) (hk : kd t k = 1) {a : Nat} (ha : fa t k = nI a) : ev c t (d + 1) x k = G_X2_load c x (nI a) 0 := by
  rw [ev_open h h1 h2 hd hx hf, if_pos hk, ha]
theorem ev_k2 (h : tOK N M c t) (h1 : 1 ≤ k) (h2 : k ≤ M) (hd : d + 1 ≤ 200) (hx : x.2.1 = 0) (hf : fo t k = 0) (hk : kd t k = 2) {a j : Nat} (ha : fa t k = nI a) (hj : sb t k = nI j) : ev c t (d + 1) x k = G_X2_load c (ev c t d x j).2 (nI a) (ev c t d x j).1 := by
  rw [ev_open h h1 h2 hd hx hf, hk, ha, hj, if_neg (by decide), if_pos rfl, ev_def]
theorem ev_k9 (h : tOK N M c t) (h1 : 1 ≤ k) (h2 : k ≤ M) (hd : d + 1 ≤ 200) (hx : x.2.1 = 0) (hf : fo t k = 0) (hk : kd t k = 9) {a j : Nat} (ha : fa t k = nI a) (hj : sb t k = nI j) : ev c t (d + 1) x k = (0, G_X2_save c (ev c t d x j).2 (nI a) 0 (ev c t d x j).1) := by
  rw [ev_open h h1 h2 hd hx hf, hk, ha, hj, if_neg (by decide), if_neg (by decide), if_pos rfl, ev_def]
theorem ev_k10 (h : tOK N M c t) (h1 : 1 ≤ k) (h2 : k ≤ M) (hd : d + 1 ≤ 200) (hx : x.2.1 = 0) (hf : fo t k = 0) (hk : kd t k = 10) {a j p q : Nat} (ha : fa t k = nI a) (hj : sb t k = nI j) (hj1 : 1 ≤ j) (hj2 : j ≤ M) (hp : fa t j = nI p) (hq : sb t j = nI q) : ev c t (d + 1) x k = (0, G_X2_save c (ev c t d (ev c t d x p).2 q).2 (nI a) (ev c t d x p).1 (ev c t d (ev c t d x p).2 q).1) := by
  rw [ev_open h h1 h2 hd hx hf, hk, ha, hj, if_neg (by decide), if_neg (by decide), if_neg (by decide), if_pos rfl, tOK_first h hj1 hj2, tOK_second h hj1 hj2, hp, hq, ev_def, ev_def]
theorem ev_k11 (h : tOK N M c t) (h1 : 1 ≤ k) (h2 : k ≤ M) (hd : d + 1 ≤ 200) (hx : x.2.1 = 0) (hf : fo t k = 0) (hk : kd t k = 11) {i j : Nat} (hi : fa t k = nI i) (hj : sb t k = nI j) : ev c t (d + 1) x k = (0, (ev c t d (ev c t d x i).2 j).2) := by
  rw [ev_open h h1 h2 hd hx hf, hk, hi, hj, if_neg (by decide), if_neg (by decide), if_neg (by decide), if_neg (by decide), if_pos rfl, ev_def, ev_def]
theorem ev_k12 (h : tOK N M c t) (h1 : 1 ≤ k) (h2 : k ≤ M) (hd : d + 1 ≤ 200) (hx : x.2.1 = 0) (hf : fo t k = 0) (hk : kd t k = 12) {i j : Nat} (hi : fa t k = nI i) (hj : sb t k = nI j) : ev c t (d + 1) x k = (0, if lg_cmp (ev c t d x i).1 0 = 0 then (ev c t d x i).2 else (ev c t d (ev c t d x i).2 j).2) := by
  rw [ev_open h h1 h2 hd hx hf, hk, hi, hj, if_neg (by decide), if_neg (by decide), if_neg (by decide), if_neg (by decide), if_neg (by decide), if_pos rfl, ev_def, ev_def]
  split <;> rfl
theorem ev_k13 (h : tOK N M c t) (h1 : 1 ≤ k) (h2 : k ≤ M) (hd : d + 1 ≤ 200) (hx : x.2.1 = 0) (hf : fo t k = 0) (hk : kd t k = 13) {i j : Nat} (hi : fa t k = nI i) (hj : sb t k = nI j) : ev c t (d + 1) x k = G_X3_walk_L285 (fun y => ev c t d y j) 1003 (if (1001 : Int64) < (ev c t d x i).1 then 1001 else (ev c t d x i).1) 0 (ev c t d x i).2 := by
  rw [ev_open h h1 h2 hd hx hf, hk, hi, hj, if_neg (by decide), if_neg (by decide), if_neg (by decide), if_neg (by decide), if_neg (by decide), if_neg (by decide), if_pos rfl, ev_def]
  rfl
theorem ev_kr (h : tOK N M c t) (h1 : 1 ≤ k) (h2 : k ≤ M) (hd : d + 1 ≤ 200) (hx : x.2.1 = 0) (hf : fo t k = 0) (hk1 : 3 ≤ (kd t k).toInt) (hk2 : (kd t k).toInt ≤ 8) {i j : Nat} (hi : fa t k = nI i) (hj : sb t k = nI j) : ev c t (d + 1) x k = G_X2_result (ev c t d (ev c t d x i).2 j).2 (kd t k) (ev c t d x i).1 (ev c t d (ev c t d x i).2 j).1 := by
  rw [ev_open h h1 h2 hd hx hf, hi, hj, if_neg (kne hk1 hk2 (by decide)), if_neg (kne hk1 hk2 (by decide)), if_neg (kne hk1 hk2 (by decide)), if_neg (kne hk1 hk2 (by decide)), if_neg (kne hk1 hk2 (by decide)), if_neg (kne hk1 hk2 (by decide)), if_neg (kne hk1 hk2 (by decide)), ev_def, ev_def]
end EVK
section CDK
variable {t : TS} {d k b : Nat}
theorem cd_f (hf : fo t k = 1) : cd t (d + 1) k b = [(0, nu t k, 0)] ∧ ln t (d + 1) k = 1 := by
  have h : ¬ fo t k = 0 := by rw [hf]; decide
  constructor
  · rw [cd, if_neg h]
  · rw [ln, if_neg h]
theorem cd_1 (hf : fo t k = 0) (hk : kd t k = 1) {a : Nat} (ha : fa t k = nI a) : cd t (d + 1) k b = [(1, (nI a).toInt64, 0)] ∧ ln t (d + 1) k = 1 := by
  constructor
  · rw [cd, if_pos hf, if_pos hk, ha]
  · rw [ln, if_pos hf, if_pos hk]
theorem cd_2 (hf : fo t k = 0) (hk : kd t k = 2 ∨ kd t k = 9) {a j : Nat} (ha : fa t k = nI a) (hj : sb t k = nI j) (hl : j < 2 ^ 31) : cd t (d + 1) k b = cd t d j b ++ [(kd t k, (nI a).toInt64, 0)] ∧ ln t (d + 1) k = ln t d j + 1 := by
  have h1 : ¬ kd t k = 1 := by rcases hk with e | e <;> rw [e] <;> decide
  have e : ix (sb t k) = j := by rw [hj]; exact nI_clamp hl
  constructor
  · rw [cd, if_pos hf, if_neg h1, if_pos hk, e, ha]
  · rw [ln, if_pos hf, if_neg h1, if_pos hk, e]
theorem cd_10 (hf : fo t k = 0) (hk : kd t k = 10) {a j p q : Nat} (ha : fa t k = nI a) (hj : sb t k = nI j) (hp : fa t j = nI p) (hq : sb t j = nI q) (hl : j < 2 ^ 31) (hl2 : p < 2 ^ 31) (hl3 : q < 2 ^ 31) : cd t (d + 1) k b = cd t d p b ++ (cd t d q (b + ln t d p) ++ [(10, (nI a).toInt64, 0)]) ∧ ln t (d + 1) k = ln t d p + ln t d q + 1 := by
  have e : ix (sb t k) = j := by rw [hj]; exact nI_clamp hl
  have e2 : ix (fa t j) = p := by rw [hp]; exact nI_clamp hl2
  have e3 : ix (sb t j) = q := by rw [hq]; exact nI_clamp hl3
  constructor
  · rw [cd, if_pos hf, if_neg (by rw [hk]; decide), if_neg (by rw [hk]; decide), if_pos hk, e, e2, e3, ha]
  · rw [ln, if_pos hf, if_neg (by rw [hk]; decide), if_neg (by rw [hk]; decide), if_pos hk, e, e2, e3]
theorem cd_11 (hf : fo t k = 0) (hk : kd t k = 11) {i j : Nat} (hi : fa t k = nI i) (hj : sb t k = nI j) (hl : i < 2 ^ 31) (hl2 : j < 2 ^ 31) : cd t (d + 1) k b = cd t d i b ++ (dr t i ++ (cd t d j (b + (ln t d i + dl t i)) ++ dr t j)) ∧ ln t (d + 1) k = (ln t d i + dl t i) + (ln t d j + dl t j) := by
  have e : ix (fa t k) = i := by rw [hi]; exact nI_clamp hl
  have e2 : ix (sb t k) = j := by rw [hj]; exact nI_clamp hl2
  constructor
  · rw [cd, if_pos hf, if_neg (by rw [hk]; decide), if_neg (by rw [hk]; decide), if_neg (by rw [hk]; decide), if_pos hk, e, e2]
  · rw [ln, if_pos hf, if_neg (by rw [hk]; decide), if_neg (by rw [hk]; decide), if_neg (by rw [hk]; decide), if_pos hk, e, e2]
theorem cd_12 (hf : fo t k = 0) (hk : kd t k = 12) {i j : Nat} (hi : fa t k = nI i) (hj : sb t k = nI j) (hl : i < 2 ^ 31) (hl2 : j < 2 ^ 31) : cd t (d + 1) k b = cd t d i b ++ ((12, lN (b + (ln t d i + 1 + (ln t d j + dl t j))), 0) :: (cd t d j (b + (ln t d i + 1)) ++ dr t j)) ∧ ln t (d + 1) k = ln t d i + 1 + (ln t d j + dl t j) := by
  have e : ix (fa t k) = i := by rw [hi]; exact nI_clamp hl
  have e2 : ix (sb t k) = j := by rw [hj]; exact nI_clamp hl2
  constructor
  · rw [cd, if_pos hf, if_neg (by rw [hk]; decide), if_neg (by rw [hk]; decide), if_neg (by rw [hk]; decide), if_neg (by rw [hk]; decide), if_pos hk, e, e2]
  · rw [ln, if_pos hf, if_neg (by rw [hk]; decide), if_neg (by rw [hk]; decide), if_neg (by rw [hk]; decide), if_neg (by rw [hk]; decide), if_pos hk, e, e2]
theorem cd_13 (hf : fo t k = 0) (hk : kd t k = 13) {i j : Nat} (hi : fa t k = nI i) (hj : sb t k = nI j) (hl : i < 2 ^ 31) (hl2 : j < 2 ^ 31) : cd t (d + 1) k b = cd t d i b ++ ((13, lN (b + (ln t d i + 1 + (ln t d j + dl t j) + 1)), 0) :: (cd t d j (b + (ln t d i + 1)) ++ (dr t j ++ [(14, lN (b + (ln t d i + 1)), 0)]))) ∧ ln t (d + 1) k = ln t d i + 1 + (ln t d j + dl t j) + 1 := by
  have e : ix (fa t k) = i := by rw [hi]; exact nI_clamp hl
  have e2 : ix (sb t k) = j := by rw [hj]; exact nI_clamp hl2
  constructor
  · rw [cd, if_pos hf, if_neg (by rw [hk]; decide), if_neg (by rw [hk]; decide), if_neg (by rw [hk]; decide), if_neg (by rw [hk]; decide), if_neg (by rw [hk]; decide), if_pos hk, e, e2]
  · rw [ln, if_pos hf, if_neg (by rw [hk]; decide), if_neg (by rw [hk]; decide), if_neg (by rw [hk]; decide), if_neg (by rw [hk]; decide), if_neg (by rw [hk]; decide), if_pos hk, e, e2]
theorem cd_r (hf : fo t k = 0) (hk1 : 3 ≤ (kd t k).toInt) (hk2 : (kd t k).toInt ≤ 8) {i j : Nat} (hi : fa t k = nI i) (hj : sb t k = nI j) (hl : i < 2 ^ 31) (hl2 : j < 2 ^ 31) : cd t (d + 1) k b = cd t d i b ++ (cd t d j (b + ln t d i) ++ [(kd t k, 0, nI k)]) ∧ ln t (d + 1) k = ln t d i + ln t d j + 1 := by
  have e : ix (fa t k) = i := by rw [hi]; exact nI_clamp hl
  have e2 : ix (sb t k) = j := by rw [hj]; exact nI_clamp hl2
  have h29 : ¬ (kd t k = 2 ∨ kd t k = 9) := fun q => q.elim (kne hk1 hk2 (by decide)) (kne hk1 hk2 (by decide))
  constructor
  · rw [cd, if_pos hf, if_neg (kne hk1 hk2 (by decide)), if_neg h29, if_neg (kne hk1 hk2 (by decide)), if_neg (kne hk1 hk2 (by decide)), if_neg (kne hk1 hk2 (by decide)), if_neg (kne hk1 hk2 (by decide)), e, e2]
  · rw [ln, if_pos hf, if_neg (kne hk1 hk2 (by decide)), if_neg h29, if_neg (kne hk1 hk2 (by decide)), if_neg (kne hk1 hk2 (by decide)), if_neg (kne hk1 hk2 (by decide)), if_neg (kne hk1 hk2 (by decide)), e, e2]
end CDK
