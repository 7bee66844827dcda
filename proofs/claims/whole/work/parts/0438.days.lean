def saR (r : MM) (n at' i q : Int) : Int := if r 11 0 n = 0 then 1 else if r 11 0 n = 2 then r 13 0 (24 * n + (i % (if q = 0 then 12 else 4)) % r 12 0 n) else r 13 0 (24 * n + (at' + i) % r 12 0 n)
theorem saR_rng {bd bs bw : Int} {G : GG} {c r : MM} (hR : Rel bd bs bw G c r) {n : Int} (n0 : 0 ≤ n) (n1 : n < r 0 10 0) (a i q : Int) : 1 ≤ saR r n a i q ∧ saR r n a i q ≤ 24 := by
  have I1 := hR.I1
  have I3 := hR.I3
  have i1 := I1 n n0 n1
  unfold saR
  split
  · omega
  · split
    · have m0 := Int.emod_nonneg (i % (if q = 0 then 12 else 4)) (show r 12 0 n ≠ 0 by omega)
      have m1 := Int.emod_lt_of_pos (i % (if q = 0 then 12 else 4)) (show 0 < r 12 0 n by omega)
      exact I3 n _ n0 n1 m0 m1
    · have m0 := Int.emod_nonneg (a + i) (show r 12 0 n ≠ 0 by omega)
      have m1 := Int.emod_lt_of_pos (a + i) (show 0 < r 12 0 n by omega)
      exact I3 n _ n0 n1 m0 m1
theorem strokesAhead_ok {bd bs bw : Int} {G : GG} {c r : MM} {Q : Int → MM → Prop} (hR : Rel bd bs bw G c r) {n i q : Int} (n0 : 0 ≤ n) (n1 : n < r 0 10 0) (i0 : 0 ≤ i) (i1 : i ≤ 200000) (hq : q = 0 ∨ q = 1) (h : Q (saR r n (r 14 0 n) i q) c) : wpD_strokesAhead G n i q c Q := by
  have T1 := hR.T1
  have I1 := hR.I1
  have I2 := hR.I2
  have E1 := hR.E1
  have E3 := hR.E3
  have g := T1 n n0 n1
  have i1' := I1 n n0 n1
  have i2 := I2 n n0 n1
  have e3 := congrFun E3 n
  unfold wpD_strokesAhead
  unfold saR at h
  rcases (show r 11 0 n = 0 ∨ r 11 0 n = 2 ∨ r 11 0 n = 1 ∨ r 11 0 n = 3 by omega) with e | e | e
  · rw [if_pos e] at h
    exact ite_p (by omega) h
  · rw [if_neg (by omega), if_pos e] at h
    refine ite_n (by omega) (ite_n (by omega) (ite_p (by omega) ?_))
    unfold wpX7_strokesAhead wpX7_strokesAhead_J12
    rcases hq with rfl | rfl
    · rw [if_pos rfl] at h
      refine ⟨by omega, ite_p rfl ⟨by omega, by omega, by omega, ?_⟩⟩
      rw [Int.tmod_eq_emod_of_nonneg i0]
      refine strokesRound_ok (by omega) (by omega) (by omega) (by omega) ?_
      rw [E1, g.2.1]
      exact h
    · rw [if_neg (by decide)] at h
      refine ⟨by omega, ite_n (by decide) ⟨by omega, by omega, by omega, ?_⟩⟩
      rw [Int.tmod_eq_emod_of_nonneg i0]
      refine strokesRound_ok (by omega) (by omega) (by omega) (by omega) ?_
      rw [E1, g.2.1]
      exact h
  · rw [if_neg (by omega), if_neg (by omega)] at h
    have fin : wpX4_strokesAhead G n i q c Q := by
      unfold wpX4_strokesAhead
      refine strokesRound_ok (by omega) (by omega) (by omega) (by omega) ?_
      rw [E1, g.2.1, e3]
      exact h
    exact ite_n (by omega) (ite_i (fun _ => fin) (fun _ => ite_n (by omega) fin))
theorem ofDay_ok {bd bs bw : Int} {G : GG} {c r : MM} {Q : Int → MM → Prop} (hR : Rel bd bs bw G c r) {n q : Int} (n0 : 0 ≤ n) (n1 : n < r 0 10 0) (hq : q = 0 ∨ q = 1) (h : Q (sumF (fun i => saR r n (r 14 0 n) i q) 0 (if q = 0 then 24 else 96)) c) : wpX9_strokesOfDay G n q c Q := by
  have aux : ∀ (N : Int) (NN : Nat), (NN : Int) = N → N ≤ 96 → Q (sumF (fun i => saR r n (r 14 0 n) i q) 0 NN) c → ∀ (m : Nat) (x : Nat), (x : Int) + m = N → wpX9_strokesOfDay_L17 G Q (m + 1) n q N (sumF (fun i => saR r n (r 14 0 n) i q) 0 x) x c := by
    intro N NN hN hN2 hQ m
    induction m with
    | zero =>
      intro x hx
      have e : x = NN := by omega
      subst e
      exact ⟨by omega, by omega, ite_p (by omega) hQ⟩
    | succ m ih =>
      intro x hx
      refine ⟨by omega, by omega, ite_n (by omega) (strokesAhead_ok hR n0 n1 (by omega) (by omega) hq ?_)⟩
      have k := ih (x + 1) (by omega)
      rw [sumF_succ, Int.zero_add] at k
      exact k
  unfold wpX9_strokesOfDay wpX9_strokesOfDay_J11
  rcases hq with rfl | rfl
  · rw [if_pos rfl] at h
    exact ⟨by omega, ite_p rfl ⟨25, aux 24 24 rfl (by decide) h 24 0 (by decide)⟩⟩
  · rw [if_neg (by decide)] at h
    exact ⟨by omega, ite_n (by decide) ⟨97, aux 96 96 rfl (by decide) h 96 0 (by decide)⟩⟩
theorem dayOf_ok {bd bs bw : Int} {G : GG} {c r : MM} {Q : Int → MM → Prop} (hR : Rel bd bs bw G c r) {n q at' : Int} (n0 : 0 ≤ n) (n1 : n < r 0 10 0) (a0 : 0 ≤ at') (a1 : at' ≤ 1000) (hq : q = 0 ∨ q = 1) (h : Q (sumF (fun i => saR r n at' i q) 0 (if q = 0 then 24 else 96)) r) : wpX11_dayOf n q at' r Q := by
  have T0 := hR.T0
  have I1 := hR.I1
  have i1' := I1 n n0 n1
  have one : ∀ (k19 : Int → Int → Int → Int → Int → Int → MM → Prop) (x4 N x6 tt : Int), 0 ≤ x6 → x6 ≤ 96 → tt = x6 % (if q = 0 then 12 else 4) → k19 n q at' (x4 + saR r n at' x6 q) N (x6 + 1) r → wpX11_dayOf_J42 k19 Q n q at' x4 N x6 tt r := by
    intro k19 x4 N x6 tt x0 x96 ht hk
    unfold wpX11_dayOf_J42 wpX11_dayOf_J100 wpX11_dayOf_J102
    unfold saR at hk
    have t0 : 0 ≤ tt ∧ tt < 12 := by
      rw [ht]
      split <;> omega
    refine ⟨n0, by omega, by omega, ite_i (fun e => ?_) (fun e => ite_i (fun e2 => ?_) (fun e2 => ?_))⟩
    · rw [if_pos e] at hk
      exact hk
    · rw [if_neg e, if_pos e2, ← ht] at hk
      have m0 := Int.emod_nonneg tt (show r 12 0 n ≠ 0 by omega)
      have m1 := Int.emod_lt_of_pos tt (show 0 < r 12 0 n by omega)
      rw [Int.tmod_eq_emod_of_nonneg t0.1]
      exact ⟨by omega, by omega, by omega, by omega, by omega, hk⟩
    · rw [if_neg e, if_neg e2] at hk
      have m0 := Int.emod_nonneg (at' + x6) (show r 12 0 n ≠ 0 by omega)
      have m1 := Int.emod_lt_of_pos (at' + x6) (show 0 < r 12 0 n by omega)
      rw [Int.tmod_eq_emod_of_nonneg (show 0 ≤ at' + x6 by omega)]
      exact ⟨by omega, by omega, by omega, by omega, by omega, hk⟩
  have aux : ∀ (N : Int) (NN : Nat), (NN : Int) = N → N ≤ 96 → Q (sumF (fun i => saR r n at' i q) 0 NN) r → ∀ (m : Nat) (x : Nat), (x : Int) + m = N → wpX11_dayOf_L19 Q (m + 1) n q at' (sumF (fun i => saR r n at' i q) 0 x) N x r := by
    intro N NN hN hN2 hQ m
    induction m with
    | zero =>
      intro x hx
      have e : x = NN := by omega
      subst e
      exact ⟨by omega, by omega, ite_p (by omega) hQ⟩
    | succ m ih =>
      intro x hx
      have k := ih (x + 1) (by omega)
      rw [sumF_succ, Int.zero_add] at k
      refine ⟨by omega, by omega, ite_n (by omega) ⟨by omega, ite_i (fun z => one _ _ _ _ _ (by omega) (by omega) ?_ k) (fun z => one _ _ _ _ _ (by omega) (by omega) ?_ k)⟩⟩
      · rw [if_pos z, Int.tmod_eq_emod_of_nonneg (by omega)]
      · rw [if_neg z, Int.tmod_eq_emod_of_nonneg (by omega)]
  unfold wpX11_dayOf wpX11_dayOf_J14
  rcases hq with rfl | rfl
  · rw [if_pos rfl] at h
    exact ⟨by omega, ite_p rfl ⟨25, aux 24 24 rfl (by decide) h 24 0 (by decide)⟩⟩
  · rw [if_neg (by decide)] at h
    exact ⟨by omega, ite_n (by decide) ⟨97, aux 96 96 rfl (by decide) h 96 0 (by decide)⟩⟩
theorem rel_daily {k : Int} {G : GG} {c r : MM} (h : RelK k G c r) (hk : k < 512) (x1 : Int) (h1 : rg x1) (x2 : Int) (h2 : x2 = 0 ∨ x2 = 1) : wpX10_daily G x1 x2 c (fun v c' => wpX11_daily x1 x2 r (fun v' r' => Lf v v' (RelK (k + 1) G c' r'))) := by
  have hR := h.2
  unfold wpX10_daily wpX11_daily
  refine trainOf_ok hR h1 (fun hx => ?_) (fun a b => ?_)
  · repeat' (first | (with_reducible refine ⟨by omega, ?_⟩) | (with_reducible refine ite_p (by omega) ?_) | (with_reducible refine ite_n (by omega) ?_) | (with_reducible refine trainOf_ok hR (by omega) (fun _ => ?_) (fun _ _ => by exfalso; omega)) | (with_reducible refine trainOf_ok hR (by omega) (fun _ => by exfalso; omega) (fun _ _ => ?_)) | (with_reducible refine trainOf_ok hR (by omega) (fun _ => ?_) (fun _ _ => ?_)) | (with_reducible refine isTrain_ok hR (by omega) (fun _ => ?_) (fun _ _ => by exfalso; omega)) | (with_reducible refine isTrain_ok hR (by omega) (fun _ => by exfalso; omega) (fun _ _ => ?_)) | (with_reducible refine isTrain_ok hR (by omega) (fun _ => ?_) (fun _ _ => ?_)) | (with_reducible refine rowOf_ok (by omega) (fun _ => ?_) (fun _ _ => by exfalso; omega)) | (with_reducible refine rowOf_ok (by omega) (fun _ => by exfalso; omega) (fun _ _ => ?_)) | (with_reducible refine rowOf_ok (by omega) (fun _ => ?_) (fun _ _ => ?_)) | (with_reducible refine towerOf_ok (by omega) (fun _ => ?_) (fun _ _ => by exfalso; omega)) | (with_reducible refine towerOf_ok (by omega) (fun _ => by exfalso; omega) (fun _ _ => ?_)) | (with_reducible refine towerOf_ok (by omega) (fun _ => ?_) (fun _ _ => ?_)) | (with_reducible refine looked_ok hR (by omega) (fun _ => ?_) (fun _ _ _ _ => by exfalso; omega) (fun _ _ _ _ _ => by exfalso; omega)) | (with_reducible refine looked_ok hR (by omega) (fun _ => by exfalso; omega) (fun _ _ _ _ => ?_) (fun _ _ _ _ _ => by exfalso; omega)) | (with_reducible refine looked_ok hR (by omega) (fun _ => by exfalso; omega) (fun _ _ _ _ => by exfalso; omega) (fun _ _ _ _ _ => ?_)) | (with_reducible refine looked_ok hR (by omega) (fun _ => ?_) (fun _ _ _ _ => ?_) (fun _ _ _ _ _ => ?_)) | (with_reducible refine askedFor_ok hR (by omega) (fun _ => ?_) (fun _ _ _ => by exfalso; omega) (fun _ _ _ => by exfalso; omega)) | (with_reducible refine askedFor_ok hR (by omega) (fun _ => by exfalso; omega) (fun _ _ _ => ?_) (fun _ _ _ => by exfalso; omega)) | (with_reducible refine askedFor_ok hR (by omega) (fun _ => by exfalso; omega) (fun _ _ _ => by exfalso; omega) (fun _ _ _ => ?_)) | (with_reducible refine askedFor_ok hR (by omega) (fun _ => ?_) (fun _ _ _ => ?_) (fun _ _ _ => ?_)) | (with_reducible refine inn_ok (by omega) (by omega) (by omega) (fun _ => ?_) (fun _ _ => by exfalso; omega)) | (with_reducible refine inn_ok (by omega) (by omega) (by omega) (fun _ => by exfalso; omega) (fun _ _ => ?_)) | (with_reducible refine inn_ok (by omega) (by omega) (by omega) (fun _ => ?_) (fun _ _ => ?_)) | (with_reducible refine isPlate_ok (by omega) (by omega) (by omega) (fun _ => ?_) (fun _ => by exfalso; omega)) | (with_reducible refine isPlate_ok (by omega) (by omega) (by omega) (fun _ => by exfalso; omega) (fun _ => ?_)) | (with_reducible refine isPlate_ok (by omega) (by omega) (by omega) (fun _ => ?_) (fun _ => ?_)) | (with_reducible refine hasPlace_ok (by omega) (by omega) (fun _ => ?_) (fun _ _ => by exfalso; omega)) | (with_reducible refine hasPlace_ok (by omega) (by omega) (fun _ => by exfalso; omega) (fun _ _ => ?_)) | (with_reducible refine hasPlace_ok (by omega) (by omega) (fun _ => ?_) (fun _ _ => ?_)) | (with_reducible refine isThere_ok (by omega) (fun _ => ?_) (fun _ => by exfalso; omega)) | (with_reducible refine isThere_ok (by omega) (fun _ => by exfalso; omega) (fun _ => ?_)) | (with_reducible refine isThere_ok (by omega) (fun _ => ?_) (fun _ => ?_)) | (with_reducible refine isDayHour_ok (by omega) (fun _ => ?_) (fun _ _ => by exfalso; omega)) | (with_reducible refine isDayHour_ok (by omega) (fun _ => by exfalso; omega) (fun _ _ => ?_)) | (with_reducible refine isDayHour_ok (by omega) (fun _ => ?_) (fun _ _ => ?_)) | (with_reducible refine isHour_ok (by omega) (fun _ => ?_) (fun _ _ => by exfalso; omega)) | (with_reducible refine isHour_ok (by omega) (fun _ => by exfalso; omega) (fun _ _ => ?_)) | (with_reducible refine isHour_ok (by omega) (fun _ => ?_) (fun _ _ => ?_)) | (with_reducible refine trainIn_ok (by omega) (fun _ => ?_) (fun _ => by exfalso; omega)) | (with_reducible refine trainIn_ok (by omega) (fun _ => by exfalso; omega) (fun _ => ?_)) | (with_reducible refine trainIn_ok (by omega) (fun _ => ?_) (fun _ => ?_)) | (with_reducible refine found_ok (by decide) (by decide) ?_) | (with_reducible refine meets_ok (by decide) (by decide) ?_) | (with_reducible refine ite_i (fun _ => ?_) (fun _ => ?_)) | (with_reducible refine all_eq ?_))
    all_goals (first | exact Lf.mk rfl (h.up hk) | exact Lf.mk rfl (h.f hk _) | exact Lf.mk (by omega) (h.up hk) | skip)
  · have T0 := hR.T0
    have I1 := hR.I1
    have I2 := hR.I2
    have i1 := I1 x1 a b
    have i2 := I2 x1 a b
    refine ite_n (by omega) ⟨by omega, ofDay_ok hR a b h2 (isTrain_ok hR h1 (fun _ => by exfalso; omega) (fun _ _ => ite_n (by decide) ⟨a, by omega, dayOf_ok hR a b (by omega) (by omega) h2 (Lf.mk rfl (h.up hk))⟩))⟩
/-! whole days: the class walks by strokes, the reference by days -/
theorem sumF_up {f : Int → Int} {b : Int} (hf : ∀ i, 1 ≤ f i) : ∀ (m n : Nat), sumF f b n + m ≤ sumF f b (n + m) := by
  intro m
  induction m with
  | zero => intro n; show sumF f b n + 0 ≤ sumF f b n; omega
  | succ m ih =>
    intro n
    have k := ih n
    have k2 := hf (b + (n + m : Nat))
    show sumF f b n + ((m + 1 : Nat) : Int) ≤ sumF f b (n + m) + f (b + (n + m : Nat))
    omega
theorem whole_ok {bd bs bw : Int} {G : GG} {c r : MM} (hR : Rel bd bs bw G c r) {n q N : Int} (n0 : 0 ≤ n) (n1 : n < r 0 10 0) (hq : q = 0 ∨ q = 1) (hN : 1 ≤ N) (hN2 : N ≤ 96) (w : Int) (w1 : w ≤ 100000) : ∀ (m x : Nat), 0 ≤ w - sumF (fun i => saR r n (r 14 0 n) i q) 0 x → w - sumF (fun i => saR r n (r 14 0 n) i q) 0 x ≤ m → ∃ I : Nat, x ≤ I ∧ sumF (fun i => saR r n (r 14 0 n) i q) 0 I ≤ w ∧ w < sumF (fun i => saR r n (r 14 0 n) i q) 0 (I + 1) ∧ ∃ fu : Nat, ∀ Q : Int → MM → Prop, Q (Int.tdiv I N) c → wpX9_wholeDays_L20 G Q fu n q N (w - sumF (fun i => saR r n (r 14 0 n) i q) 0 x) x c := by
  intro m
  induction m with
  | zero =>
    intro x h0 hm
    have sr := saR_rng hR n0 n1 (r 14 0 n) x q
    have up := sumF_up (b := 0) (fun i => (saR_rng hR n0 n1 (r 14 0 n) i q).1) x 0
    have e0 : sumF (fun i => saR r n (r 14 0 n) i q) 0 0 = 0 := rfl
    rw [e0, Nat.zero_add] at up
    have es : sumF (fun i => saR r n (r 14 0 n) i q) 0 (x + 1) = sumF (fun i => saR r n (r 14 0 n) i q) 0 x + saR r n (r 14 0 n) x q := by rw [sumF_succ, Int.zero_add]
    refine ⟨x, Nat.le_refl _, by omega, by omega, 1, fun Q h => ⟨by omega, ite_n (by omega) (strokesAhead_ok hR n0 n1 (by omega) (by omega) hq ⟨by omega, ite_n (by omega) ⟨by omega, by omega, h⟩⟩)⟩⟩
  | succ m ih =>
    intro x h0 hm
    have sr := saR_rng hR n0 n1 (r 14 0 n) x q
    have up := sumF_up (b := 0) (fun i => (saR_rng hR n0 n1 (r 14 0 n) i q).1) x 0
    have e0 : sumF (fun i => saR r n (r 14 0 n) i q) 0 0 = 0 := rfl
    rw [e0, Nat.zero_add] at up
    have es : sumF (fun i => saR r n (r 14 0 n) i q) 0 (x + 1) = sumF (fun i => saR r n (r 14 0 n) i q) 0 x + saR r n (r 14 0 n) x q := by rw [sumF_succ, Int.zero_add]
    by_cases z : 0 ≤ w - sumF (fun i => saR r n (r 14 0 n) i q) 0 x - saR r n (r 14 0 n) x q
    · obtain ⟨I, a1, a2, a3, fu, a4⟩ := ih (x + 1) (by omega) (by omega)
      refine ⟨I, by omega, a2, a3, fu + 1, fun Q h => ⟨by omega, ite_n (by omega) (strokesAhead_ok hR n0 n1 (by omega) (by omega) hq ⟨by omega, ite_p z ?_⟩)⟩⟩
      have k := a4 Q h
      have e : w - sumF (fun i => saR r n (r 14 0 n) i q) 0 (x + 1) = w - sumF (fun i => saR r n (r 14 0 n) i q) 0 x - saR r n (r 14 0 n) x q := by omega
      rw [e] at k
      exact k
    · refine ⟨x, Nat.le_refl _, by omega, by omega, 1, fun Q h => ⟨by omega, ite_n (by omega) (strokesAhead_ok hR n0 n1 (by omega) (by omega) hq ⟨by omega, ite_n z ⟨by omega, by omega, h⟩⟩)⟩⟩
theorem add_round {a b m : Int} : (a % m + b) % m = (a + b) % m := by
  rw [Int.emod_add_emod]
theorem saR_day {r : MM} {n a i q : Int} {k : Nat} (N : Nat) (hN : N = if q = 0 then 24 else 96) (hq : q = 0 ∨ q = 1) : saR r n ((a + (k * N : Nat)) % r 12 0 n) i q = saR r n a ((k * N : Nat) + i) q := by
  unfold saR
  have e1 : i % (if q = 0 then 12 else 4) = (((k * N : Nat) : Int) + i) % (if q = 0 then 12 else 4) := by
    rcases hq with rfl | rfl
    · rw [if_pos rfl] at hN ⊢
      subst hN
      have : ((k * 24 : Nat) : Int) = 24 * k := by omega
      rw [this]
      omega
    · rw [if_neg (by decide)] at hN ⊢
      subst hN
      have : ((k * 96 : Nat) : Int) = 96 * k := by omega
      rw [this]
      omega
  have e2 : ((a + (k * N : Nat)) % r 12 0 n + i) % r 12 0 n = (a + ((k * N : Nat) + i)) % r 12 0 n := by
    rw [add_round, Int.add_assoc]
  rw [e1, e2]
