def atk (r : MM) (n : Int) (N k : Nat) : Int := if r 12 0 n = 0 then 0 else (r 14 0 n + (k * N : Nat)) % r 12 0 n
theorem day_split {bd bs bw : Int} {G : GG} {c r : MM} (hR : Rel bd bs bw G c r) {n q : Int} (n0 : 0 ≤ n) (n1 : n < r 0 10 0) (hq : q = 0 ∨ q = 1) (N k : Nat) (hN : N = if q = 0 then 24 else 96) : sumF (fun i => saR r n (r 14 0 n) i q) 0 (k * N + N) = sumF (fun i => saR r n (r 14 0 n) i q) 0 (k * N) + sumF (fun i => saR r n (atk r n N k) i q) 0 N := by
  have i1 := hR.I1 n n0 n1
  rw [sumF_split]
  have e : sumF (fun i => saR r n (r 14 0 n) i q) (0 + (k * N : Nat)) N = sumF (fun i => saR r n (atk r n N k) i q) 0 N := by
    apply sumF_congr
    intro i i0 i2
    show saR r n (r 14 0 n) (0 + (k * N : Nat) + i) q = saR r n (atk r n N k) (0 + i) q
    unfold atk
    by_cases z : r 12 0 n = 0
    · have z2 : r 11 0 n = 0 := by omega
      unfold saR
      rw [if_pos z2, if_pos z2]
    · rw [if_neg z, saR_day N hN hq]
      congr 1
      omega
  rw [e]
theorem days_ok {bd bs bw : Int} {G : GG} {c r : MM} (hR : Rel bd bs bw G c r) {n q : Int} (n0 : 0 ≤ n) (n1 : n < r 0 10 0) (hq : q = 0 ∨ q = 1) (N : Nat) (hN : N = if q = 0 then 24 else 96) (w : Int) (w1 : w ≤ 100000) : ∀ (m k : Nat), 0 ≤ w - sumF (fun i => saR r n (r 14 0 n) i q) 0 (k * N) → w - sumF (fun i => saR r n (r 14 0 n) i q) 0 (k * N) ≤ m → ∃ d : Nat, sumF (fun i => saR r n (r 14 0 n) i q) 0 (d * N) ≤ w ∧ w < sumF (fun i => saR r n (r 14 0 n) i q) 0 (d * N + N) ∧ ∃ fu : Nat, ∀ Q : Int → MM → Prop, Q d r → wpX11_lastingDays_L38 Q fu n q (w - sumF (fun i => saR r n (r 14 0 n) i q) 0 (k * N)) (atk r n N k) k (sumF (fun i => saR r n (atk r n N k) i q) 0 N) r := by
  have i1 := hR.I1 n n0 n1
  have i2 := hR.I2 n n0 n1
  have T0 := hR.T0
  have N1 : 24 ≤ N ∧ N ≤ 96 := by rw [hN]; split <;> omega
  have hD : ∀ k : Nat, (N : Int) ≤ sumF (fun i => saR r n (atk r n N k) i q) 0 N ∧ sumF (fun i => saR r n (atk r n N k) i q) 0 N ≤ 2400 := by
    intro k
    have := sumF_rng (f := fun i => saR r n (atk r n N k) i q) (b := 0) (lo := 1) (hi := 24) N (fun i _ _ => saR_rng hR n0 n1 _ _ _)
    omega
  have up : ∀ k : Nat, (k : Int) ≤ sumF (fun i => saR r n (r 14 0 n) i q) 0 (k * N) := by
    intro k
    have u := sumF_up (b := 0) (fun i => (saR_rng hR n0 n1 (r 14 0 n) i q).1) (k * N) 0
    have e0 : sumF (fun i => saR r n (r 14 0 n) i q) 0 0 = 0 := rfl
    rw [e0, Nat.zero_add] at u
    have : k ≤ k * N := Nat.le_mul_of_pos_right k (by omega)
    omega
  have ak : ∀ k : Nat, 0 ≤ atk r n N k ∧ atk r n N k < 24 := by
    intro k
    unfold atk
    split
    · omega
    · have m0 := Int.emod_nonneg (r 14 0 n + (k * N : Nat)) (show r 12 0 n ≠ 0 by assumption)
      have m1 := Int.emod_lt_of_pos (r 14 0 n + (k * N : Nat)) (show 0 < r 12 0 n by omega)
      omega
  have stop : ∀ (k : Nat) (x3 : Int), 0 ≤ x3 → x3 ≤ 100000 → x3 < sumF (fun i => saR r n (atk r n N k) i q) 0 N → ∀ Q : Int → MM → Prop, Q k r → wpX11_lastingDays_L38 Q 1 n q x3 (atk r n N k) k (sumF (fun i => saR r n (atk r n N k) i q) 0 N) r := by
    intro k x3 h0 h1 h2 Q h
    have d := hD k
    exact ⟨by omega, by omega, ite_p h2 h⟩
  have sP : ∀ k : Nat, 0 ≤ sumF (fun i => saR r n (r 14 0 n) i q) 0 (k * N) := fun k => by have := up k; omega
  intro m
  induction m with
  | zero =>
    intro k h0 hm
    have d := hD k
    have sp := day_split hR n0 n1 hq N k hN
    have s0 := sP k
    exact ⟨k, by omega, by omega, 1, stop k _ h0 (by omega) (by omega)⟩
  | succ m ih =>
    intro k h0 hm
    have d := hD k
    have sp := day_split hR n0 n1 hq N k hN
    have s0 := sP k
    have uk := up k
    have ek : (k + 1) * N = k * N + N := by rw [Nat.add_mul, Nat.one_mul]
    by_cases z : w - sumF (fun i => saR r n (r 14 0 n) i q) 0 (k * N) < sumF (fun i => saR r n (atk r n N k) i q) 0 N
    · exact ⟨k, by omega, by omega, 1, stop k _ h0 (by omega) z⟩
    · have e3 : w - sumF (fun i => saR r n (r 14 0 n) i q) 0 ((k + 1) * N) = w - sumF (fun i => saR r n (r 14 0 n) i q) 0 (k * N) - sumF (fun i => saR r n (atk r n N k) i q) 0 N := by
        rw [ek, sp]
        omega
      obtain ⟨dd, a1, a2, fu, a3⟩ := ih (k + 1) (by omega) (by omega)
      refine ⟨dd, a1, a2, fu + 1, fun Q h => ?_⟩
      have kk := a3 Q h
      rw [e3] at kk
      have ak1 := ak (k + 1)
      have ak0 := ak k
      have fin : wpX11_lastingDays_J86 (fun x1' x2' x3' x4' x5' x6' μ' => wpX11_lastingDays_L38 Q fu x1' x2' x3' x4' x5' x6' μ') Q n q (w - sumF (fun i => saR r n (r 14 0 n) i q) 0 (k * N) - sumF (fun i => saR r n (atk r n N k) i q) 0 N) ((k : Int) + 1) (atk r n N (k + 1)) r := by
        unfold wpX11_lastingDays_J86
        refine dayOf_ok hR n0 n1 (by omega) (by omega) hq ?_
        rw [← hN]
        exact kk
      refine ⟨by omega, by omega, ite_n z ⟨n0, by omega, by omega, ite_i (fun y => ?_) (fun y => ⟨by omega, ite_i (fun y2 => ?_) (fun y2 => ?_)⟩)⟩⟩
      · have : atk r n N (k + 1) = 0 := if_pos y
        rw [this] at fin
        exact fin
      · rw [if_pos y2] at hN
        have e5 : Int.tmod (atk r n N k + 24) (r 12 0 n) = atk r n N (k + 1) := by
          rw [Int.tmod_eq_emod_of_nonneg (by omega)]
          unfold atk
          rw [if_neg y, if_neg y, add_round, ek]
          congr 1
          omega
        unfold wpX11_lastingDays_J78
        rw [e5]
        exact ⟨n0, by omega, by omega, by omega, y, fin⟩
      · rw [if_neg y2] at hN
        have e5 : Int.tmod (atk r n N k + 96) (r 12 0 n) = atk r n N (k + 1) := by
          rw [Int.tmod_eq_emod_of_nonneg (by omega)]
          unfold atk
          rw [if_neg y, if_neg y, add_round, ek]
          congr 1
          omega
        unfold wpX11_lastingDays_J78
        rw [e5]
        exact ⟨n0, by omega, by omega, by omega, y, fin⟩
theorem rel_lastingDays {k : Int} {G : GG} {c r : MM} (h : RelK k G c r) (hk : k < 512) (x1 : Int) (h1 : rg x1) (x2 : Int) (h2 : x2 = 0 ∨ x2 = 1) : wpX10_lastingDays G x1 x2 c (fun v c' => wpX11_lastingDays x1 x2 r (fun v' r' => Lf v v' (RelK (k + 1) G c' r'))) := by
  have hR := h.2
  unfold wpX10_lastingDays
  refine trainOf_ok hR h1 (fun hx => ?_) (fun a b => ?_)
  · repeat' (first | (with_reducible refine ⟨by omega, ?_⟩) | (with_reducible refine ite_p (by omega) ?_) | (with_reducible refine ite_n (by omega) ?_) | (with_reducible refine trainOf_ok hR (by omega) (fun _ => ?_) (fun _ _ => by exfalso; omega)) | (with_reducible refine trainOf_ok hR (by omega) (fun _ => by exfalso; omega) (fun _ _ => ?_)) | (with_reducible refine trainOf_ok hR (by omega) (fun _ => ?_) (fun _ _ => ?_)) | (with_reducible refine isTrain_ok hR (by omega) (fun _ => ?_) (fun _ _ => by exfalso; omega)) | (with_reducible refine isTrain_ok hR (by omega) (fun _ => by exfalso; omega) (fun _ _ => ?_)) | (with_reducible refine isTrain_ok hR (by omega) (fun _ => ?_) (fun _ _ => ?_)) | (with_reducible refine rowOf_ok (by omega) (fun _ => ?_) (fun _ _ => by exfalso; omega)) | (with_reducible refine rowOf_ok (by omega) (fun _ => by exfalso; omega) (fun _ _ => ?_)) | (with_reducible refine rowOf_ok (by omega) (fun _ => ?_) (fun _ _ => ?_)) | (with_reducible refine towerOf_ok (by omega) (fun _ => ?_) (fun _ _ => by exfalso; omega)) | (with_reducible refine towerOf_ok (by omega) (fun _ => by exfalso; omega) (fun _ _ => ?_)) | (with_reducible refine towerOf_ok (by omega) (fun _ => ?_) (fun _ _ => ?_)) | (with_reducible refine looked_ok hR (by omega) (fun _ => ?_) (fun _ _ _ _ => by exfalso; omega) (fun _ _ _ _ _ => by exfalso; omega)) | (with_reducible refine looked_ok hR (by omega) (fun _ => by exfalso; omega) (fun _ _ _ _ => ?_) (fun _ _ _ _ _ => by exfalso; omega)) | (with_reducible refine looked_ok hR (by omega) (fun _ => by exfalso; omega) (fun _ _ _ _ => by exfalso; omega) (fun _ _ _ _ _ => ?_)) | (with_reducible refine looked_ok hR (by omega) (fun _ => ?_) (fun _ _ _ _ => ?_) (fun _ _ _ _ _ => ?_)) | (with_reducible refine askedFor_ok hR (by omega) (fun _ => ?_) (fun _ _ _ => by exfalso; omega) (fun _ _ _ => by exfalso; omega)) | (with_reducible refine askedFor_ok hR (by omega) (fun _ => by exfalso; omega) (fun _ _ _ => ?_) (fun _ _ _ => by exfalso; omega)) | (with_reducible refine askedFor_ok hR (by omega) (fun _ => by exfalso; omega) (fun _ _ _ => by exfalso; omega) (fun _ _ _ => ?_)) | (with_reducible refine askedFor_ok hR (by omega) (fun _ => ?_) (fun _ _ _ => ?_) (fun _ _ _ => ?_)) | (with_reducible refine inn_ok (by omega) (by omega) (by omega) (fun _ => ?_) (fun _ _ => by exfalso; omega)) | (with_reducible refine inn_ok (by omega) (by omega) (by omega) (fun _ => by exfalso; omega) (fun _ _ => ?_)) | (with_reducible refine inn_ok (by omega) (by omega) (by omega) (fun _ => ?_) (fun _ _ => ?_)) | (with_reducible refine isPlate_ok (by omega) (by omega) (by omega) (fun _ => ?_) (fun _ => by exfalso; omega)) | (with_reducible refine isPlate_ok (by omega) (by omega) (by omega) (fun _ => by exfalso; omega) (fun _ => ?_)) | (with_reducible refine isPlate_ok (by omega) (by omega) (by omega) (fun _ => ?_) (fun _ => ?_)) | (with_reducible refine hasPlace_ok (by omega) (by omega) (fun _ => ?_) (fun _ _ => by exfalso; omega)) | (with_reducible refine hasPlace_ok (by omega) (by omega) (fun _ => by exfalso; omega) (fun _ _ => ?_)) | (with_reducible refine hasPlace_ok (by omega) (by omega) (fun _ => ?_) (fun _ _ => ?_)) | (with_reducible refine isThere_ok (by omega) (fun _ => ?_) (fun _ => by exfalso; omega)) | (with_reducible refine isThere_ok (by omega) (fun _ => by exfalso; omega) (fun _ => ?_)) | (with_reducible refine isThere_ok (by omega) (fun _ => ?_) (fun _ => ?_)) | (with_reducible refine isDayHour_ok (by omega) (fun _ => ?_) (fun _ _ => by exfalso; omega)) | (with_reducible refine isDayHour_ok (by omega) (fun _ => by exfalso; omega) (fun _ _ => ?_)) | (with_reducible refine isDayHour_ok (by omega) (fun _ => ?_) (fun _ _ => ?_)) | (with_reducible refine isHour_ok (by omega) (fun _ => ?_) (fun _ _ => by exfalso; omega)) | (with_reducible refine isHour_ok (by omega) (fun _ => by exfalso; omega) (fun _ _ => ?_)) | (with_reducible refine isHour_ok (by omega) (fun _ => ?_) (fun _ _ => ?_)) | (with_reducible refine trainIn_ok (by omega) (fun _ => ?_) (fun _ => by exfalso; omega)) | (with_reducible refine trainIn_ok (by omega) (fun _ => by exfalso; omega) (fun _ => ?_)) | (with_reducible refine trainIn_ok (by omega) (fun _ => ?_) (fun _ => ?_)) | (with_reducible refine found_ok (by decide) (by decide) ?_) | (with_reducible refine meets_ok (by decide) (by decide) ?_) | (with_reducible refine ite_i (fun _ => ?_) (fun _ => ?_)) | (with_reducible refine all_eq ?_) | unfold wpX11_lastingDays)
    all_goals (first | exact Lf.mk rfl (h.up hk) | exact Lf.mk rfl (h.f hk _) | exact Lf.mk (by omega) (h.up hk) | skip)
  · have T0 := hR.T0
    have I1 := hR.I1
    have I2 := hR.I2
    have I6 := hR.I6
    have E7 := hR.E7
    have i1 := I1 x1 a b
    have i2 := I2 x1 a b
    have i6 := I6 x1 a b
    have e7 := congrFun E7 x1
    have key : ∀ N : Nat, N = (if x2 = 0 then 24 else 96) → ∃ fu : Nat, wpX9_wholeDays_L20 G (fun v c' => wpX11_lastingDays x1 x2 r (fun v' r' => Lf v v' (RelK (k + 1) G c' r'))) fu x1 x2 N (c 2 5 x1) 0 c := by
      intro N hN
      have N1 : 24 ≤ N ∧ N ≤ 96 := by rw [hN]; split <;> omega
      have z0 : sumF (fun i => saR r x1 (r 14 0 x1) i x2) 0 0 = 0 := rfl
      obtain ⟨I, a1, a2, a3, fu, a4⟩ := whole_ok hR (N := N) a b h2 (by omega) (by omega) (r 20 0 x1) (by omega) (r 20 0 x1).toNat 0 (by omega) (by omega)
      obtain ⟨d, b1, b2, fu2, b3⟩ := days_ok hR a b h2 N hN (r 20 0 x1) (by omega) (r 20 0 x1).toNat 0 (by rw [Nat.zero_mul]; omega) (by rw [Nat.zero_mul]; omega)
      have mono : ∀ u v : Nat, u ≤ v → sumF (fun i => saR r x1 (r 14 0 x1) i x2) 0 u ≤ sumF (fun i => saR r x1 (r 14 0 x1) i x2) 0 v := by
        intro u v huv
        have := sumF_up (b := 0) (fun i => (saR_rng hR a b (r 14 0 x1) i x2).1) (v - u) u
        rw [Nat.add_sub_cancel' huv] at this
        omega
      have c1 : d * N ≤ I := by
        rcases Nat.lt_or_ge I (d * N) with z | z
        · have := mono (I + 1) (d * N) z
          omega
        · exact z
      have c2 : I < d * N + N := by
        rcases Nat.lt_or_ge I (d * N + N) with z | z
        · exact z
        · have := mono (d * N + N) I z
          omega
      have c3 : Int.tdiv (I : Int) (N : Int) = d := by
        rw [Int.tdiv_eq_ediv_of_nonneg (by omega)]
        have h5 : I / N = d := by
          rw [Nat.div_eq_iff (by omega)]
          omega
        omega
      refine ⟨fu, ?_⟩
      rw [z0, Int.sub_zero] at a4
      rw [e7]
      refine a4 _ ?_
      rw [c3]
      unfold wpX11_lastingDays
      have k3 := b3 (fun v' r' => Lf d v' (RelK (k + 1) G c r')) (Lf.mk rfl (h.up hk))
      have at0 : atk r x1 N 0 = r 14 0 x1 := by
        unfold atk
        split
        · omega
        · rw [Nat.zero_mul]
          show (r 14 0 x1 + 0) % r 12 0 x1 = _
          rw [Int.add_zero]
          exact Int.emod_eq_of_lt (by omega) (by omega)
      rw [Nat.zero_mul, z0, Int.sub_zero, at0] at k3
      refine isTrain_ok hR h1 (fun _ => by exfalso; omega) (fun _ _ => ite_n (by decide) ⟨a, by omega, dayOf_ok hR a b (by omega) (by omega) h2 ⟨fu2, ?_⟩⟩)
      rw [← hN]
      exact k3
    unfold wpX9_wholeDays wpX9_wholeDays_J11
    refine ite_n (by omega) ⟨by omega, by omega, ite_i (fun z => ?_) (fun z => ?_)⟩
    · exact key 24 (by rw [if_pos z])
    · exact key 96 (by rw [if_neg z])
theorem rel_lasting {k : Int} {G : GG} {c r : MM} (h : RelK k G c r) (hk : k < 512) (x1 : Int) (h1 : rg x1) : wpX10_lasting G x1 c (fun v c' => wpX11_lasting x1 r (fun v' r' => Lf v v' (RelK (k + 1) G c' r'))) := by
  have hR := h.2
  unfold wpX10_lasting
  refine towerOf_ok h1 (fun hx => ?_) (fun a b => ?_)
  · repeat' (first | (with_reducible refine ⟨by omega, ?_⟩) | (with_reducible refine ite_p (by omega) ?_) | (with_reducible refine ite_n (by omega) ?_) | (with_reducible refine trainOf_ok hR (by omega) (fun _ => ?_) (fun _ _ => by exfalso; omega)) | (with_reducible refine trainOf_ok hR (by omega) (fun _ => by exfalso; omega) (fun _ _ => ?_)) | (with_reducible refine trainOf_ok hR (by omega) (fun _ => ?_) (fun _ _ => ?_)) | (with_reducible refine isTrain_ok hR (by omega) (fun _ => ?_) (fun _ _ => by exfalso; omega)) | (with_reducible refine isTrain_ok hR (by omega) (fun _ => by exfalso; omega) (fun _ _ => ?_)) | (with_reducible refine isTrain_ok hR (by omega) (fun _ => ?_) (fun _ _ => ?_)) | (with_reducible refine rowOf_ok (by omega) (fun _ => ?_) (fun _ _ => by exfalso; omega)) | (with_reducible refine rowOf_ok (by omega) (fun _ => by exfalso; omega) (fun _ _ => ?_)) | (with_reducible refine rowOf_ok (by omega) (fun _ => ?_) (fun _ _ => ?_)) | (with_reducible refine towerOf_ok (by omega) (fun _ => ?_) (fun _ _ => by exfalso; omega)) | (with_reducible refine towerOf_ok (by omega) (fun _ => by exfalso; omega) (fun _ _ => ?_)) | (with_reducible refine towerOf_ok (by omega) (fun _ => ?_) (fun _ _ => ?_)) | (with_reducible refine looked_ok hR (by omega) (fun _ => ?_) (fun _ _ _ _ => by exfalso; omega) (fun _ _ _ _ _ => by exfalso; omega)) | (with_reducible refine looked_ok hR (by omega) (fun _ => by exfalso; omega) (fun _ _ _ _ => ?_) (fun _ _ _ _ _ => by exfalso; omega)) | (with_reducible refine looked_ok hR (by omega) (fun _ => by exfalso; omega) (fun _ _ _ _ => by exfalso; omega) (fun _ _ _ _ _ => ?_)) | (with_reducible refine looked_ok hR (by omega) (fun _ => ?_) (fun _ _ _ _ => ?_) (fun _ _ _ _ _ => ?_)) | (with_reducible refine askedFor_ok hR (by omega) (fun _ => ?_) (fun _ _ _ => by exfalso; omega) (fun _ _ _ => by exfalso; omega)) | (with_reducible refine askedFor_ok hR (by omega) (fun _ => by exfalso; omega) (fun _ _ _ => ?_) (fun _ _ _ => by exfalso; omega)) | (with_reducible refine askedFor_ok hR (by omega) (fun _ => by exfalso; omega) (fun _ _ _ => by exfalso; omega) (fun _ _ _ => ?_)) | (with_reducible refine askedFor_ok hR (by omega) (fun _ => ?_) (fun _ _ _ => ?_) (fun _ _ _ => ?_)) | (with_reducible refine inn_ok (by omega) (by omega) (by omega) (fun _ => ?_) (fun _ _ => by exfalso; omega)) | (with_reducible refine inn_ok (by omega) (by omega) (by omega) (fun _ => by exfalso; omega) (fun _ _ => ?_)) | (with_reducible refine inn_ok (by omega) (by omega) (by omega) (fun _ => ?_) (fun _ _ => ?_)) | (with_reducible refine isPlate_ok (by omega) (by omega) (by omega) (fun _ => ?_) (fun _ => by exfalso; omega)) | (with_reducible refine isPlate_ok (by omega) (by omega) (by omega) (fun _ => by exfalso; omega) (fun _ => ?_)) | (with_reducible refine isPlate_ok (by omega) (by omega) (by omega) (fun _ => ?_) (fun _ => ?_)) | (with_reducible refine hasPlace_ok (by omega) (by omega) (fun _ => ?_) (fun _ _ => by exfalso; omega)) | (with_reducible refine hasPlace_ok (by omega) (by omega) (fun _ => by exfalso; omega) (fun _ _ => ?_)) | (with_reducible refine hasPlace_ok (by omega) (by omega) (fun _ => ?_) (fun _ _ => ?_)) | (with_reducible refine isThere_ok (by omega) (fun _ => ?_) (fun _ => by exfalso; omega)) | (with_reducible refine isThere_ok (by omega) (fun _ => by exfalso; omega) (fun _ => ?_)) | (with_reducible refine isThere_ok (by omega) (fun _ => ?_) (fun _ => ?_)) | (with_reducible refine isDayHour_ok (by omega) (fun _ => ?_) (fun _ _ => by exfalso; omega)) | (with_reducible refine isDayHour_ok (by omega) (fun _ => by exfalso; omega) (fun _ _ => ?_)) | (with_reducible refine isDayHour_ok (by omega) (fun _ => ?_) (fun _ _ => ?_)) | (with_reducible refine isHour_ok (by omega) (fun _ => ?_) (fun _ _ => by exfalso; omega)) | (with_reducible refine isHour_ok (by omega) (fun _ => by exfalso; omega) (fun _ _ => ?_)) | (with_reducible refine isHour_ok (by omega) (fun _ => ?_) (fun _ _ => ?_)) | (with_reducible refine trainIn_ok (by omega) (fun _ => ?_) (fun _ => by exfalso; omega)) | (with_reducible refine trainIn_ok (by omega) (fun _ => by exfalso; omega) (fun _ => ?_)) | (with_reducible refine trainIn_ok (by omega) (fun _ => ?_) (fun _ => ?_)) | (with_reducible refine found_ok (by decide) (by decide) ?_) | (with_reducible refine meets_ok (by decide) (by decide) ?_) | (with_reducible refine ite_i (fun _ => ?_) (fun _ => ?_)) | (with_reducible refine all_eq ?_) | unfold wpX11_lasting)
    all_goals (first | exact Lf.mk rfl (h.up hk) | exact Lf.mk rfl (h.f hk _) | exact Lf.mk (by omega) (h.up hk) | skip)
  · have W1 := hR.W1
    have J1 := hR.J1
    have W3 := hR.W3
    have W4 := hR.W4
    have W5 := hR.W5
    have W6 := hR.W6
    have J3 := hR.J3
    have J4 := hR.J4
    have J5 := hR.J5
    have J6 := hR.J6
    have K0 := hR.K0
    have w1_x1 := congrFun W1 x1
    have w3_x1 := congrFun W3 x1
    have w4_x1 := congrFun W4 x1
    have w5_x1 := congrFun W5 x1
    have w6_x1 := congrFun W6 x1
    have j1 := J1 x1 a b
    have j3 := J3 x1 a b
    have j4 := J4 x1 a b
    have j5 := J5 x1 a b
    have j6 := J6 x1 a b
    refine ite_n (by omega) ⟨b, by omega, ite_i (fun e => ?_) (fun e => ?_)⟩
    · repeat' (first | (with_reducible refine ⟨by omega, ?_⟩) | (with_reducible refine ite_p (by omega) ?_) | (with_reducible refine ite_n (by omega) ?_) | (with_reducible refine trainOf_ok hR (by omega) (fun _ => ?_) (fun _ _ => by exfalso; omega)) | (with_reducible refine trainOf_ok hR (by omega) (fun _ => by exfalso; omega) (fun _ _ => ?_)) | (with_reducible refine trainOf_ok hR (by omega) (fun _ => ?_) (fun _ _ => ?_)) | (with_reducible refine isTrain_ok hR (by omega) (fun _ => ?_) (fun _ _ => by exfalso; omega)) | (with_reducible refine isTrain_ok hR (by omega) (fun _ => by exfalso; omega) (fun _ _ => ?_)) | (with_reducible refine isTrain_ok hR (by omega) (fun _ => ?_) (fun _ _ => ?_)) | (with_reducible refine rowOf_ok (by omega) (fun _ => ?_) (fun _ _ => by exfalso; omega)) | (with_reducible refine rowOf_ok (by omega) (fun _ => by exfalso; omega) (fun _ _ => ?_)) | (with_reducible refine rowOf_ok (by omega) (fun _ => ?_) (fun _ _ => ?_)) | (with_reducible refine towerOf_ok (by omega) (fun _ => ?_) (fun _ _ => by exfalso; omega)) | (with_reducible refine towerOf_ok (by omega) (fun _ => by exfalso; omega) (fun _ _ => ?_)) | (with_reducible refine towerOf_ok (by omega) (fun _ => ?_) (fun _ _ => ?_)) | (with_reducible refine looked_ok hR (by omega) (fun _ => ?_) (fun _ _ _ _ => by exfalso; omega) (fun _ _ _ _ _ => by exfalso; omega)) | (with_reducible refine looked_ok hR (by omega) (fun _ => by exfalso; omega) (fun _ _ _ _ => ?_) (fun _ _ _ _ _ => by exfalso; omega)) | (with_reducible refine looked_ok hR (by omega) (fun _ => by exfalso; omega) (fun _ _ _ _ => by exfalso; omega) (fun _ _ _ _ _ => ?_)) | (with_reducible refine looked_ok hR (by omega) (fun _ => ?_) (fun _ _ _ _ => ?_) (fun _ _ _ _ _ => ?_)) | (with_reducible refine askedFor_ok hR (by omega) (fun _ => ?_) (fun _ _ _ => by exfalso; omega) (fun _ _ _ => by exfalso; omega)) | (with_reducible refine askedFor_ok hR (by omega) (fun _ => by exfalso; omega) (fun _ _ _ => ?_) (fun _ _ _ => by exfalso; omega)) | (with_reducible refine askedFor_ok hR (by omega) (fun _ => by exfalso; omega) (fun _ _ _ => by exfalso; omega) (fun _ _ _ => ?_)) | (with_reducible refine askedFor_ok hR (by omega) (fun _ => ?_) (fun _ _ _ => ?_) (fun _ _ _ => ?_)) | (with_reducible refine inn_ok (by omega) (by omega) (by omega) (fun _ => ?_) (fun _ _ => by exfalso; omega)) | (with_reducible refine inn_ok (by omega) (by omega) (by omega) (fun _ => by exfalso; omega) (fun _ _ => ?_)) | (with_reducible refine inn_ok (by omega) (by omega) (by omega) (fun _ => ?_) (fun _ _ => ?_)) | (with_reducible refine isPlate_ok (by omega) (by omega) (by omega) (fun _ => ?_) (fun _ => by exfalso; omega)) | (with_reducible refine isPlate_ok (by omega) (by omega) (by omega) (fun _ => by exfalso; omega) (fun _ => ?_)) | (with_reducible refine isPlate_ok (by omega) (by omega) (by omega) (fun _ => ?_) (fun _ => ?_)) | (with_reducible refine hasPlace_ok (by omega) (by omega) (fun _ => ?_) (fun _ _ => by exfalso; omega)) | (with_reducible refine hasPlace_ok (by omega) (by omega) (fun _ => by exfalso; omega) (fun _ _ => ?_)) | (with_reducible refine hasPlace_ok (by omega) (by omega) (fun _ => ?_) (fun _ _ => ?_)) | (with_reducible refine isThere_ok (by omega) (fun _ => ?_) (fun _ => by exfalso; omega)) | (with_reducible refine isThere_ok (by omega) (fun _ => by exfalso; omega) (fun _ => ?_)) | (with_reducible refine isThere_ok (by omega) (fun _ => ?_) (fun _ => ?_)) | (with_reducible refine isDayHour_ok (by omega) (fun _ => ?_) (fun _ _ => by exfalso; omega)) | (with_reducible refine isDayHour_ok (by omega) (fun _ => by exfalso; omega) (fun _ _ => ?_)) | (with_reducible refine isDayHour_ok (by omega) (fun _ => ?_) (fun _ _ => ?_)) | (with_reducible refine isHour_ok (by omega) (fun _ => ?_) (fun _ _ => by exfalso; omega)) | (with_reducible refine isHour_ok (by omega) (fun _ => by exfalso; omega) (fun _ _ => ?_)) | (with_reducible refine isHour_ok (by omega) (fun _ => ?_) (fun _ _ => ?_)) | (with_reducible refine trainIn_ok (by omega) (fun _ => ?_) (fun _ => by exfalso; omega)) | (with_reducible refine trainIn_ok (by omega) (fun _ => by exfalso; omega) (fun _ => ?_)) | (with_reducible refine trainIn_ok (by omega) (fun _ => ?_) (fun _ => ?_)) | (with_reducible refine found_ok (by decide) (by decide) ?_) | (with_reducible refine meets_ok (by decide) (by decide) ?_) | (with_reducible refine ite_i (fun _ => ?_) (fun _ => ?_)) | (with_reducible refine all_eq ?_) | unfold wpX11_lasting)
      all_goals (first | exact Lf.mk rfl (h.up hk) | exact Lf.mk rfl (h.f hk _) | exact Lf.mk (by omega) (h.up hk) | skip)
    · obtain ⟨Y, hY⟩ : ∃ Y, Y = r 29 0 x1 * 86400 - r 30 0 x1 := ⟨_, rfl⟩
      obtain ⟨P, hP⟩ : ∃ P, P = 86400 + r 28 0 x1 := ⟨_, rfl⟩
      have eY : c 3 4 x1 * 86400 - c 3 3 x1 = Y := by rw [w4_x1, w5_x1, hY]
      have eP : 86400 + c 3 2 x1 = P := by rw [w3_x1, hP]
      obtain ⟨D, hD⟩ : ∃ D, D = Int.tdiv (Y + P - 1) P := ⟨_, rfl⟩
      have dle : ¬ 0 < Y → D ≤ 0 := fun z => by rw [hD]; exact tdiv_le0 (by omega) (by omega)
      have dge : 0 < Y → 1 ≤ D ∧ D ≤ Y + P - 1 := fun z => by rw [hD]; exact tdiv_ge1 (by omega) (by omega)
      have dlo : -(Y.natAbs + P) ≤ D ∧ D ≤ Y.natAbs + P := by
        by_cases z : 0 < Y
        · have := dge z
          omega
        · have := dle z
          have d2 : -(D) = Int.tdiv (-(Y + P - 1)) P := by rw [hD, Int.neg_tdiv]
          by_cases z2 : 0 ≤ Y + P - 1
          · have : 0 ≤ D := by rw [hD]; exact Int.tdiv_nonneg z2 (by omega)
            omega
          · rw [Int.tdiv_eq_ediv_of_nonneg (by omega)] at d2
            have d3 := Int.ediv_le_self P (show 0 ≤ -(Y + P - 1) by omega)
            omega
      have ref : ∀ v : Int, (r 31 0 x1 = 0 → v = -9) → (r 31 0 x1 ≠ 0 → r 29 0 x1 = 0 → v = 0) → (r 31 0 x1 ≠ 0 → r 29 0 x1 ≠ 0 → 0 < Y → v = if D ≤ 1000000 then D else 1000001) → (r 31 0 x1 ≠ 0 → r 29 0 x1 ≠ 0 → ¬ 0 < Y → v = 1) → wpX11_lasting x1 r (fun v' r' => Lf v v' (RelK (k + 1) G c r')) := by
        intro v v1 v2 v3 v4
        unfold wpX11_lasting wpX11_lasting_J30 wpX11_lasting_J97
        refine askedFor_ok hR h1 (fun _ => by exfalso; omega) (fun _ _ _ => by exfalso; omega) (fun _ _ _ => ⟨by omega, ite_p (by omega) ⟨a, b, by omega, ite_i (fun z => ⟨a, b, by omega, ite_i (fun z2 => Lf.mk (v1 z2) (h.up hk)) (fun z2 => Lf.mk (v2 z2 z) (h.up hk))⟩) (fun z => ⟨by omega, ite_i (fun z2 => ⟨a, b, by omega, ite_p z2 (Lf.mk (v1 z2) (h.up hk))⟩) (fun z2 => ⟨by omega, all_eq ⟨by omega, all_eq ?_⟩⟩)⟩)⟩⟩)
        rw [← hY, ← hP]
        refine ⟨by omega, ite_i (fun y => ⟨by omega, by omega, by omega, ?_⟩) (fun y => ⟨by omega, ite_p (by omega) (Lf.mk (v4 z2 z y) (h.up hk))⟩)⟩
        rw [← hD]
        have k3 := v3 z2 z y
        have dg := dge y
        refine ⟨by omega, ite_i (fun y2 => ?_) (fun y2 => ?_)⟩
        · rw [if_pos y2] at k3
          exact Lf.mk k3 (h.up hk)
        · rw [if_neg y2] at k3
          exact Lf.mk k3 (h.up hk)
      unfold wpX8_minutesLeft
      refine ⟨by omega, ite_i (fun z => ref (-9) (fun _ => rfl) (fun y => by exfalso; omega) (fun y => by exfalso; omega) (fun y => by exfalso; omega)) (fun z => ⟨by omega, ite_i (fun z2 => ref 0 (fun y => by exfalso; omega) (fun _ _ => rfl) (fun _ y => by exfalso; omega) (fun _ y => by exfalso; omega)) (fun z2 => ⟨by omega, all_eq ?_⟩)⟩)⟩
      rw [eP]
      refine ⟨by omega, ite_p (by omega) ⟨by omega, all_eq ?_⟩⟩
      rw [eY, ← hD]
      refine ⟨by omega, by omega, maxL_ok (by omega) (by omega) (fun y => minL_ok (by omega) (by omega) (fun y2 => ?_) (fun y2 => ?_)) (fun y => minL_ok (by omega) (by omega) (fun y2 => ?_) (fun y2 => ?_))⟩
      · exact ref _ (fun y => by exfalso; omega) (fun _ y => by exfalso; omega) (fun _ _ y3 => by rw [if_neg (by omega)]) (fun _ _ y3 => by have := dle y3; exfalso; omega)
      · by_cases y4 : D ≤ 1000000
        · exact ref _ (fun y => by exfalso; omega) (fun _ y => by exfalso; omega) (fun _ _ y3 => by rw [if_pos y4]) (fun _ _ y3 => by have := dle y3; exfalso; omega)
        · have y5 : D = 1000001 := by omega
          rw [y5]
          exact ref _ (fun y => by exfalso; omega) (fun _ y => by exfalso; omega) (fun _ _ y3 => by rw [if_neg y4]) (fun _ _ y3 => by have := dle y3; exfalso; omega)
      · exfalso; omega
      · exact ref _ (fun y => by exfalso; omega) (fun _ y => by exfalso; omega) (fun _ _ y3 => by have := dge y3; rw [if_pos (by omega)]; omega) (fun _ _ y3 => rfl)
theorem sumI_eq (f : Int → Int) : ∀ n : Nat, sumI f n = sumF f 0 n := by
  intro n
  induction n with
  | zero => rfl
  | succ n ih =>
    show sumI f n + f n = sumF f 0 n + f (0 + n)
    rw [ih, Int.zero_add]
theorem towersThere_ok {bd bs bw : Int} {G : GG} {c r : MM} {Q : Int → MM → Prop} (hR : Rel bd bs bw G c r) (h : Q (sumF (fun j => if r 26 0 j = 0 then 0 else 1) 0 4) c) : wpX10_towersThere G c Q := by
  have aux : ∀ (m : Nat) (x : Nat), x + m = 4 → wpX10_towersThere_L4 G Q (m + 1) (sumF (fun j => if r 26 0 j = 0 then 0 else 1) 0 x) x c := by
    intro m
    induction m with
    | zero =>
      intro x hx
      have e : x = 4 := by omega
      subst e
      exact ⟨by omega, ite_p (by omega) h⟩
    | succ m ih =>
      intro x hx
      have k := ih (x + 1) (by omega)
      rw [sumF_succ, Int.zero_add] at k
      have j := hR.J1 x (by omega) (by omega)
      have w := congrFun hR.W1 x
      refine ⟨by omega, ite_n (by omega) ⟨by omega, by omega, by omega, ite_i (fun z => ?_) (fun z => ?_)⟩⟩
      · rw [if_pos (by omega), Int.add_zero] at k
        exact k
      · rw [if_neg (by omega)] at k
        exact k
  exact ⟨5, aux 4 0 rfl⟩
theorem countT_ok {bd bs bw : Int} {G : GG} {c r : MM} {Q : Int → MM → Prop} (hR : Rel bd bs bw G c r) (h : Q (sumF (fun j => if r 26 0 j = 0 then 0 else 1) 0 4) r) : ∃ n, wpX11_count_L52 Q n 0 0 r := by
  have aux : ∀ (m : Nat) (x : Nat), x + m = 4 → wpX11_count_L52 Q (m + 1) (sumF (fun j => if r 26 0 j = 0 then 0 else 1) 0 x) x r := by
    intro m
    induction m with
    | zero =>
      intro x hx
      have e : x = 4 := by omega
      subst e
      exact ⟨by omega, ite_p (by omega) h⟩
    | succ m ih =>
      intro x hx
      have k := ih (x + 1) (by omega)
      rw [sumF_succ, Int.zero_add] at k
      have j := hR.J1 x (by omega) (by omega)
      refine ⟨by omega, ite_n (by omega) ⟨by omega, by omega, by omega, ite_i (fun z => ?_) (fun z => ?_)⟩⟩
      · rw [if_pos z] at k
        exact k
      · rw [if_neg z] at k
        exact k
  exact ⟨5, aux 4 0 rfl⟩
theorem rowsThere_ok {bd bs bw : Int} {G : GG} {c r : MM} {Q : Int → MM → Prop} (hR : Rel bd bs bw G c r) (h : Q (sumF (fun j => if r 7 0 j < 0 then 0 else 1) 0 8) c) : wpX10_rowsThere G c Q := by
  have aux : ∀ (m : Nat) (x : Nat), x + m = 8 → wpX10_rowsThere_L4 G Q (m + 1) (sumF (fun j => if r 7 0 j < 0 then 0 else 1) 0 x) x c := by
    intro m
    induction m with
    | zero =>
      intro x hx
      have e : x = 8 := by omega
      subst e
      exact ⟨by omega, ite_p (by omega) h⟩
    | succ m ih =>
      intro x hx
      have k := ih (x + 1) (by omega)
      rw [sumF_succ, Int.zero_add] at k
      have j := hR.R3 x (by omega) (by omega)
      refine ⟨by omega, ite_n (by omega) ⟨by omega, by omega, isThere_ok (by omega) (fun z => ite_p rfl ?_) (fun z => ite_n (by decide) ?_)⟩⟩
      · rw [if_pos (by omega), Int.add_zero] at k
        exact k
      · rw [if_neg (by omega)] at k
        exact k
  exact ⟨9, aux 8 0 rfl⟩
theorem countR_ok {bd bs bw : Int} {G : GG} {c r : MM} {Q : Int → MM → Prop} (hR : Rel bd bs bw G c r) (h : Q (sumF (fun j => if r 7 0 j < 0 then 0 else 1) 0 8) r) : ∃ n, wpX11_count_L89 Q n 0 0 r := by
  have aux : ∀ (m : Nat) (x : Nat), x + m = 8 → wpX11_count_L89 Q (m + 1) (sumF (fun j => if r 7 0 j < 0 then 0 else 1) 0 x) x r := by
    intro m
    induction m with
    | zero =>
      intro x hx
      have e : x = 8 := by omega
      subst e
      exact ⟨by omega, ite_p (by omega) h⟩
    | succ m ih =>
      intro x hx
      have k := ih (x + 1) (by omega)
      rw [sumF_succ, Int.zero_add] at k
      have j := hR.R3 x (by omega) (by omega)
      refine ⟨by omega, ite_n (by omega) ⟨by omega, by omega, by omega, ite_i (fun z => ?_) (fun z => ?_)⟩⟩
      · rw [if_pos z] at k
        exact k
      · rw [if_neg z] at k
        exact k
  exact ⟨9, aux 8 0 rfl⟩
theorem strokesEver_ok {bd bs bw : Int} {G : GG} {c r : MM} {Q : Int → MM → Prop} (hR : Rel bd bs bw G c r) (h : Q (r 0 6 0) c) : wpX10_strokesEver G c Q := by
  have T0 := hR.T0
  have T2 := hR.T2
  have E10 := hR.E10
  have I14 := hR.I14
  rw [I14, sumI_eq] at h
  have aux : ∀ (m : Nat) (x : Nat), (x : Int) + m = r 0 10 0 → wpX10_strokesEver_L4 G Q (m + 1) (sumF (r 24 0) 0 x) x c := by
    intro m
    induction m with
    | zero =>
      intro x hx
      have e : x = (r 0 10 0).toNat := by omega
      subst e
      exact ⟨by omega, by omega, ite_p (by omega) h⟩
    | succ m ih =>
      intro x hx
      have k := ih (x + 1) (by omega)
      rw [sumF_succ, Int.zero_add] at k
      have t2 := T2 x (by omega) (by omega)
      refine ⟨by omega, by omega, ite_n (by omega) ⟨by omega, by omega, ite_n (by omega) ⟨by omega, all_eq ?_⟩⟩⟩
      rw [t2, E10]
      exact k
  exact ⟨_, aux (r 0 10 0).toNat 0 (by omega)⟩
theorem rel_count {k : Int} {G : GG} {c r : MM} (h : RelK k G c r) (hk : k < 512) (x1 : Int) (h1 : rg x1) : wpX10_count G x1 c (fun v c' => wpX11_count x1 r (fun v' r' => Lf v v' (RelK (k + 1) G c' r'))) := by
  have hR := h.2
  unfold wpX10_count wpX11_count
  have S4 := hR.S4
  have T0 := hR.T0
  have Q1 := hR.Q1
  refine ⟨h1, ite_i (fun e => ?_) (fun e => ite_i (fun e1 => ?_) (fun e1 => ite_i (fun e2 => ?_) (fun e2 => ite_i (fun e3 => ?_) (fun e3 => ite_i (fun e4 => ?_) (fun e4 => ite_i (fun e5 => ?_) (fun e5 => ?_))))))⟩
  · exact ⟨h1, ite_p e (Lf.mk S4 (h.up hk))⟩
  · exact ⟨h1, ite_n e (ite_p e1 (Lf.mk T0.2.1 (h.up hk)))⟩
  · exact towersThere_ok hR ⟨h1, ite_n e (ite_n e1 (ite_p e2 (countT_ok hR (Lf.mk rfl (h.up hk)))))⟩
  · exact ⟨h1, ite_n e (ite_n e1 (ite_n e2 (ite_p e3 (Lf.mk Q1.1 (h.up hk)))))⟩
  · exact rowsThere_ok hR ⟨h1, ite_n e (ite_n e1 (ite_n e2 (ite_n e3 (ite_p e4 (countR_ok hR (Lf.mk rfl (h.up hk)))))))⟩
  · exact strokesEver_ok hR ⟨h1, ite_n e (ite_n e1 (ite_n e2 (ite_n e3 (ite_n e4 (ite_p e5 (Lf.mk rfl (h.up hk)))))))⟩
  · exact ⟨h1, ite_n e (ite_n e1 (ite_n e2 (ite_n e3 (ite_n e4 (ite_n e5 (Lf.mk rfl (h.up hk)))))))⟩
