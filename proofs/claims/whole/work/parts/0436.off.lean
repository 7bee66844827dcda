def nxt (r : MM) (t q : Int) : Int := if q = 0 then r 27 0 t / 60 % 12 else r 27 0 t % 60 / 15
theorem nxt_rng {r : MM} {t q : Int} (h : 0 ≤ r 27 0 t) (h2 : r 27 0 t ≤ 1439) : 0 ≤ nxt r t q ∧ nxt r t q < 12 := by
  unfold nxt
  split <;> omega
theorem nextPlace_ok {bd bs bw : Int} {G : GG} {c r : MM} {Q : Int → MM → Prop} (hR : Rel bd bs bw G c r) {t q : Int} (t0 : 0 ≤ t) (t4 : t < 4) (hq : q = 0 ∨ q = 1) (h : Q (nxt r t q) c) : wpX8_nextPlace G t q c Q := by
  have W2 := hR.W2
  have J2 := hR.J2
  have w := congrFun W2 t
  have j := J2 t t0 t4
  have d1 : Int.tdiv (c 3 1 t) 60 = r 27 0 t / 60 := by rw [w]; exact Int.tdiv_eq_ediv_of_nonneg j.1
  have d2 : Int.tmod (c 3 1 t) 60 = r 27 0 t % 60 := by rw [w]; exact Int.tmod_eq_emod_of_nonneg j.1
  have d3 : Int.tmod (r 27 0 t / 60) 12 = r 27 0 t / 60 % 12 := Int.tmod_eq_emod_of_nonneg (by omega)
  have d4 : Int.tdiv (r 27 0 t % 60) 15 = r 27 0 t % 60 / 15 := Int.tdiv_eq_ediv_of_nonneg (by omega)
  unfold wpX8_nextPlace
  unfold nxt at h
  rw [d1, d2, d3, d4]
  rcases hq with rfl | rfl
  · rw [if_pos rfl] at h
    exact ⟨by omega, ite_p rfl ⟨by omega, by omega, h⟩⟩
  · rw [if_neg (by decide)] at h
    exact ⟨by omega, ite_n (by decide) ⟨by omega, by omega, h⟩⟩
theorem rightNotch_ok {bd bs bw : Int} {G : GG} {c r : MM} {Q : Int → MM → Prop} (hR : Rel bd bs bw G c r) {t q n : Int} (t0 : 0 ≤ t) (t4 : t < 4) (hq : q = 0 ∨ q = 1) (hn : r 35 0 (2 * t + q) = n) (n0 : 0 ≤ n) (hk : r 11 0 n ≠ 0) (h : Q (nxt r t q % r 12 0 n) r) : wpX11_rightNotch t q r Q := by
  have J2 := hR.J2
  have H2 := hR.H2
  have T0 := hR.T0
  have I1 := hR.I1
  have h2 := H2 (2 * t + q) (by omega) (by omega)
  rw [hn] at h2
  have i1 := I1 n n0 (by omega)
  have j := J2 t t0 t4
  have nr := nxt_rng (q := q) j.1 j.2
  have d1 : Int.tmod (r 27 0 t + 60) 1440 = (r 27 0 t + 60) % 1440 := Int.tmod_eq_emod_of_nonneg (by omega)
  have d2 : Int.tdiv ((r 27 0 t + 60) % 1440) 60 = (r 27 0 t + 60) % 1440 / 60 := Int.tdiv_eq_ediv_of_nonneg (by omega)
  have d3 : Int.tmod ((r 27 0 t + 60) % 1440 / 60 + 11) 12 = ((r 27 0 t + 60) % 1440 / 60 + 11) % 12 := Int.tmod_eq_emod_of_nonneg (by omega)
  have d4 : Int.tmod (r 27 0 t) 60 = r 27 0 t % 60 := Int.tmod_eq_emod_of_nonneg j.1
  have d5 : Int.tdiv (r 27 0 t % 60) 15 = r 27 0 t % 60 / 15 := Int.tdiv_eq_ediv_of_nonneg (by omega)
  have dm : Int.tmod (nxt r t q) (r 12 0 n) = nxt r t q % r 12 0 n := Int.tmod_eq_emod_of_nonneg nr.1
  rw [← dm] at h
  unfold wpX11_rightNotch wpX11_nextHour wpX11_hourOf
  refine placeOf_ok hq ⟨by omega, by omega, by omega, ?_⟩
  rw [d1, d2, d3, d4, d5, hn]
  rcases hq with rfl | rfl
  · have e : ((r 27 0 t + 60) % 1440 / 60 + 11) % 12 + 1 - 1 = nxt r t 0 := by
      unfold nxt
      rw [if_pos rfl]
      omega
    refine ite_p rfl ⟨t0, t4, by omega, by omega, by omega, n0, by omega, by omega, by omega, by omega, ?_⟩
    rw [e]
    exact h
  · have e : r 27 0 t % 60 / 15 = nxt r t 1 := by
      unfold nxt
      rw [if_neg (by decide)]
    refine ite_n (by decide) ⟨t0, t4, by omega, by omega, n0, by omega, by omega, by omega, by omega, ?_⟩
    rw [e]
    exact h
theorem askedPlate_ok {bd bs bw : Int} {G : GG} {t q : Int} {c r : MM} {Q : Int → MM → Prop} (hR : Rel bd bs bw G c r) (hx : rg t) (hq : q = 0 ∨ q = 1) (h1 : t < 0 ∨ 4 ≤ t → Q (-1) r) (h2 : 0 ≤ t → t < 4 → r 26 0 t = 0 ∨ r 35 0 (2 * t + q) < 0 → Q (-3) (fR 1 r)) (h3 : 0 ≤ t → t < 4 → r 26 0 t = 1 → ∀ n, r 35 0 (2 * t + q) = n → 0 ≤ n → ¬ (r 11 0 n = 1 ∨ r 11 0 n = 3) → Q (-3) (fR 3 r)) (h4 : 0 ≤ t → t < 4 → r 26 0 t = 1 → ∀ n, r 35 0 (2 * t + q) = n → 0 ≤ n → (r 11 0 n = 1 ∨ r 11 0 n = 3) → Q 0 r) : wpX11_askedPlate t q r Q := by
  unfold wpX11_askedPlate
  refine askedPlace_ok hR hx hq (fun e => ⟨by omega, ite_n (by omega) (h1 e)⟩) (fun a b e => ⟨by omega, ite_n (by omega) (h2 a b e)⟩) (fun a b e e2 => ⟨by omega, ite_p (by omega) (placeOf_ok hq ⟨by omega, by omega, ?_⟩)⟩)
  have H2 := hR.H2
  have T0 := hR.T0
  have I1 := hR.I1
  have k := H2 (2 * t + q) (by omega) (by omega)
  have i1 := I1 _ e2 (by omega)
  exact isPlate_ok e2 (by omega) (by omega) (fun z => ite_n (by decide) (h4 a b e _ rfl e2 z)) (fun z => ite_p rfl (meets_ok (by decide) (by decide) (h3 a b e _ rfl e2 z)))
theorem off_ok {bd bs bw : Int} {G : GG} {t q : Int} {c r : MM} {Q : Int → MM → Prop} (hR : Rel bd bs bw G c r) (hx : rg t) (hq : q = 0 ∨ q = 1) (h1 : t < 0 ∨ 4 ≤ t → Q (-1) c) (h2 : 0 ≤ t → t < 4 → r 26 0 t = 0 ∨ r 35 0 (2 * t + q) < 0 → Q (-3) (fC 1 c)) (h3 : 0 ≤ t → t < 4 → r 26 0 t = 1 → ∀ n, r 35 0 (2 * t + q) = n → 0 ≤ n → ¬ (r 11 0 n = 1 ∨ r 11 0 n = 3) → Q (-3) (fC 3 c)) (h4 : 0 ≤ t → t < 4 → r 26 0 t = 1 → ∀ n, r 35 0 (2 * t + q) = n → 0 ≤ n → (r 11 0 n = 1 ∨ r 11 0 n = 3) → Q ((r 14 0 n - nxt r t q) % r 12 0 n) c) : wpX10_off G t q c Q := by
  unfold wpX10_off wpX10_off_J31
  refine towerOf_ok hx (fun e => ite_p (by omega) (h1 e)) (fun a b => ite_n (by omega) ⟨b, ?_⟩)
  have W1 := hR.W1
  have J1 := hR.J1
  have H1 := hR.H1
  have H2 := hR.H2
  have T0 := hR.T0
  have T1 := hR.T1
  have I1 := hR.I1
  have I2 := hR.I2
  have E3 := hR.E3
  have J2 := hR.J2
  have w := congrFun W1 t
  have j1 := J1 t a b
  have j2 := J2 t a b
  have k1 := H1 t a b
  have kp := H2 (2 * t + q) (by omega) (by omega)
  have nr := nxt_rng (q := q) j2.1 j2.2
  have main : r 26 0 t = 1 → ∀ n, r 35 0 (2 * t + q) = n → 0 ≤ n → (if G 1 n = 1 ∨ G 1 n = 3 then (wpX8_nextPlace G t q c (fun v14 μ15 => wpX4_aheadOf G n v14 μ15 (fun v16 μ17 => Q v16 μ17))) else (wpX10_found G 3 c (fun v18 μ19 => Q v18 μ19))) := by
    intro e n hn n0
    rw [hn] at kp
    have g := T1 n n0 (by omega)
    have i1 := I1 n n0 (by omega)
    have i2 := I2 n n0 (by omega)
    have e3 := congrFun E3 n
    refine ite_i (fun z => nextPlace_ok hR a b hq ?_) (fun z => found_ok (by decide) (by decide) (h3 a b e n hn n0 (by omega)))
    have k4 := h4 a b e n hn n0 (by omega)
    unfold wpX4_aheadOf
    refine ⟨by omega, ite_n (by omega) (floorMod_ok (by omega) (by omega) (by omega) ?_)⟩
    rw [e3, g.2.1]
    exact k4
  refine trainIn_ok hq (fun e => ⟨by omega, ite_i (fun e2 => found_ok (by decide) (by decide) (h2 a b (by omega))) (fun e2 => ?_)⟩) (fun e => ⟨by omega, ite_i (fun e2 => found_ok (by decide) (by decide) (h2 a b (by omega))) (fun e2 => ?_)⟩)
  · subst e
    rw [Int.add_zero] at h2 main kp
    exact ite_i (fun e3 => found_ok (by decide) (by decide) (h2 a b (by omega))) (fun e3 => ⟨by omega, main (by omega) _ (by omega) (by omega)⟩)
  · subst e
    exact ite_i (fun e3 => found_ok (by decide) (by decide) (h2 a b (by omega))) (fun e3 => ⟨by omega, main (by omega) _ (by omega) (by omega)⟩)
theorem sub_round {a x m : Int} (hm : 0 < m) : (a + m - x % m) % m = (a - x) % m := by
  have h1 := Int.emod_def x m
  have h2 : a + m - x % m = (a - x) + m * (1 + x / m) := by
    rw [h1, Int.mul_add, Int.mul_one]
    omega
  rw [h2, Int.add_mul_emod_self_left]
theorem sub_zero_iff {a x m : Int} (a0 : 0 ≤ a) (a1 : a < m) : (a - x) % m = 0 ↔ a = x % m := by
  rw [← Int.emod_eq_emod_iff_emod_sub_eq_zero, Int.emod_eq_of_lt a0 a1]
theorem rel_off {k : Int} {G : GG} {c r : MM} (h : RelK k G c r) (hk : k < 512) (x1 : Int) (h1 : rg x1) (x2 : Int) (h2 : x2 = 0 ∨ x2 = 1) : wpX10_off G x1 x2 c (fun v c' => wpX11_off x1 x2 r (fun v' r' => Lf v v' (RelK (k + 1) G c' r'))) := by
  have hR := h.2
  refine off_ok hR h1 h2 (fun e => ?_) (fun a b e => ?_) (fun a b e n hn n0 z => ?_) (fun a b e n hn n0 z => ?_)
  · exact askedPlate_ok hR h1 h2 (fun _ => ⟨by omega, ite_n (by omega) (Lf.mk rfl (h.up hk))⟩) (fun _ _ _ => by exfalso; omega) (fun _ _ _ _ _ _ _ => by exfalso; omega) (fun _ _ _ _ _ _ _ => by exfalso; omega)
  · exact askedPlate_ok hR h1 h2 (fun _ => by exfalso; omega) (fun _ _ _ => ⟨by omega, ite_n (by omega) (Lf.mk rfl (h.f hk _))⟩) (fun _ _ _ _ _ _ _ => by exfalso; omega) (fun _ _ _ _ _ _ _ => by exfalso; omega)
  · refine askedPlate_ok hR h1 h2 (fun _ => by exfalso; omega) (fun _ _ _ => by exfalso; omega) (fun _ _ _ _ _ _ _ => ⟨by omega, ite_n (by omega) (Lf.mk rfl (h.f hk _))⟩) (fun _ _ _ m hm _ zz => ?_)
    exfalso
    rw [hn] at hm
    subst hm
    exact z zz
  · refine askedPlate_ok hR h1 h2 (fun _ => by exfalso; omega) (fun _ _ _ => by exfalso; omega) (fun _ _ _ m hm _ zz => ?_) (fun _ _ _ _ _ _ _ => ⟨by omega, ite_p (by omega) (placeOf_ok h2 ?_)⟩)
    · exfalso
      rw [hn] at hm
      subst hm
      exact zz z
    · have H2 := hR.H2
      have T0 := hR.T0
      have I1 := hR.I1
      have I2 := hR.I2
      have J2 := hR.J2
      have kp := H2 (2 * x1 + x2) (by omega) (by omega)
      rw [hn] at kp
      have i1 := I1 n n0 (by omega)
      have i2 := I2 n n0 (by omega)
      have j2 := J2 x1 a b
      have nr := nxt_rng (q := x2) j2.1 j2.2
      have m0 := Int.emod_nonneg (nxt r x1 x2) (show r 12 0 n ≠ 0 by omega)
      have m1 := Int.emod_lt_of_pos (nxt r x1 x2) (show 0 < r 12 0 n by omega)
      rw [hn]
      refine ⟨by omega, by omega, by omega, by omega, rightNotch_ok hR a b h2 hn n0 (by omega) ⟨by omega, by omega, by omega, Lf.mk ?_ (h.up hk)⟩⟩
      rw [Int.tmod_eq_emod_of_nonneg (by omega), sub_round (by omega)]
theorem rel_right {k : Int} {G : GG} {c r : MM} (h : RelK k G c r) (hk : k < 512) (x1 : Int) (h1 : rg x1) (x2 : Int) (h2 : x2 = 0 ∨ x2 = 1) : wpX10_right G x1 x2 c (fun v c' => wpX11_right x1 x2 r (fun v' r' => Lf v v' (RelK (k + 1) G c' r'))) := by
  have hR := h.2
  unfold wpX10_right wpX11_right
  refine off_ok hR h1 h2 (fun e => ⟨by omega, ite_n (by omega) ?_⟩) (fun a b e => ⟨by omega, ite_n (by omega) ?_⟩) (fun a b e n hn n0 z => ⟨by omega, ite_n (by omega) ?_⟩) (fun a b e n hn n0 z => ?_)
  · exact askedPlate_ok hR h1 h2 (fun _ => ⟨by omega, ite_n (by omega) (Lf.mk rfl (h.up hk))⟩) (fun _ _ _ => by exfalso; omega) (fun _ _ _ _ _ _ _ => by exfalso; omega) (fun _ _ _ _ _ _ _ => by exfalso; omega)
  · exact askedPlate_ok hR h1 h2 (fun _ => by exfalso; omega) (fun _ _ _ => ⟨by omega, ite_n (by omega) (Lf.mk rfl (h.f hk _))⟩) (fun _ _ _ _ _ _ _ => by exfalso; omega) (fun _ _ _ _ _ _ _ => by exfalso; omega)
  · refine askedPlate_ok hR h1 h2 (fun _ => by exfalso; omega) (fun _ _ _ => by exfalso; omega) (fun _ _ _ _ _ _ _ => ⟨by omega, ite_n (by omega) (Lf.mk rfl (h.f hk _))⟩) (fun _ _ _ m hm _ zz => ?_)
    exfalso
    rw [hn] at hm
    subst hm
    exact z zz
  · have H2 := hR.H2
    have T0 := hR.T0
    have I1 := hR.I1
    have I2 := hR.I2
    have J2 := hR.J2
    have kp := H2 (2 * x1 + x2) (by omega) (by omega)
    rw [hn] at kp
    have i1 := I1 n n0 (by omega)
    have i2 := I2 n n0 (by omega)
    have j2 := J2 x1 a b
    have nr := nxt_rng (q := x2) j2.1 j2.2
    have m0 := Int.emod_nonneg (nxt r x1 x2) (show r 12 0 n ≠ 0 by omega)
    have m1 := Int.emod_lt_of_pos (nxt r x1 x2) (show 0 < r 12 0 n by omega)
    have p0 := Int.emod_nonneg (r 14 0 n - nxt r x1 x2) (show r 12 0 n ≠ 0 by omega)
    have p1 := Int.emod_lt_of_pos (r 14 0 n - nxt r x1 x2) (show 0 < r 12 0 n by omega)
    have key := sub_zero_iff (a := r 14 0 n) (x := nxt r x1 x2) (m := r 12 0 n) (by omega) (by omega)
    have ref : ∀ v : Int, (r 14 0 n = nxt r x1 x2 % r 12 0 n → v = 1) → (r 14 0 n ≠ nxt r x1 x2 % r 12 0 n → v = 0) → wpX11_right x1 x2 r (fun v' r' => Lf v v' (RelK (k + 1) G c r')) := by
      intro v v1 v2
      unfold wpX11_right
      refine askedPlate_ok hR h1 h2 (fun _ => by exfalso; omega) (fun _ _ _ => by exfalso; omega) (fun _ _ _ m hm _ zz => ?_) (fun _ _ _ _ _ _ _ => ⟨by omega, ite_p (by omega) (placeOf_ok h2 ?_)⟩)
      · exfalso
        rw [hn] at hm
        subst hm
        exact zz z
      · rw [hn]
        exact ⟨by omega, by omega, by omega, by omega, rightNotch_ok hR a b h2 hn n0 (by omega) ⟨by omega, by omega, ite_i (fun y => Lf.mk (v1 y) (h.up hk)) (fun y => Lf.mk (v2 y) (h.up hk))⟩⟩
    refine ⟨by omega, ite_p (by omega) (ite_i (fun y => ?_) (fun y => ?_))⟩
    · exact ref 1 (fun _ => rfl) (fun y2 => absurd (key.mp y) y2)
    · exact ref 0 (fun y2 => absurd (key.mpr y2) y) (fun _ => rfl)
