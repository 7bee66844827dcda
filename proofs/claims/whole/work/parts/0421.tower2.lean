theorem askedPlace_ok {bd bs bw : Int} {G : GG} {t q : Int} {c r : MM} {Q : Int → MM → Prop} (hR : Rel bd bs bw G c r) (hx : rg t) (hq : q = 0 ∨ q = 1) (h1 : t < 0 ∨ 4 ≤ t → Q (-1) r) (h2 : 0 ≤ t → t < 4 → r 26 0 t = 0 ∨ r 35 0 (2 * t + q) < 0 → Q (-3) (fR 1 r)) (h3 : 0 ≤ t → t < 4 → r 26 0 t = 1 → 0 ≤ r 35 0 (2 * t + q) → Q 0 r) : wpX11_askedPlace t q r Q := by
  have H2 := hR.H2
  have T0 := hR.T0
  unfold wpX11_askedPlace wpX11_placeOf
  refine askedFor_ok hR hx (fun e => ⟨by omega, ite_n (by omega) (h1 e)⟩) (fun a b e => ⟨by omega, ite_n (by omega) (h2 a b (Or.inl e))⟩) (fun a b e => ⟨by omega, ite_p (by omega) ⟨by omega, ?_⟩⟩)
  have k1 := H2 (2 * t + q) (by omega) (by omega)
  rcases hq with rfl | rfl
  · refine ite_p rfl ⟨by omega, by omega, by omega, ite_i (fun e2 => h3 a b e e2) (fun e2 => meets_ok (by decide) (by decide) (h2 a b (Or.inr (by omega))))⟩
  · refine ite_n (by decide) ⟨by omega, by omega, by omega, ite_i (fun e2 => h3 a b e e2) (fun e2 => meets_ok (by decide) (by decide) (h2 a b (Or.inr (by omega))))⟩
theorem placeOf_ok {t q : Int} {r : MM} {Q : Int → MM → Prop} (hq : q = 0 ∨ q = 1) (h : Q (2 * t + q) r) : wpX11_placeOf t q r Q := by
  unfold wpX11_placeOf
  rcases hq with rfl | rfl
  · exact ⟨by omega, ite_p rfl h⟩
  · exact ⟨by omega, ite_n (by decide) h⟩
theorem rel_unhang {k : Int} {G : GG} {c r : MM} (h : RelK k G c r) (hk : k < 512) (x1 : Int) (h1 : rg x1) (x2 : Int) (h2 : x2 = 0 ∨ x2 = 1) : wpX10_unhang G x1 x2 c (fun v c' => wpX11_unhang x1 x2 r (fun v' r' => Lf v v' (RelK (k + 1) G c' r'))) := by
  have hR := h.2
  unfold wpX10_unhang wpX10_unhang_J27 wpX11_unhang
  refine towerOf_ok h1 (fun hx => ?_) (fun a b => ?_)
  · repeat' (first | (with_reducible refine ⟨by omega, ?_⟩) | (with_reducible refine ite_p (by omega) ?_) | (with_reducible refine ite_n (by omega) ?_) | (with_reducible refine askedPlace_ok hR (by omega) (by omega) (fun _ => ?_) (fun _ _ _ => by exfalso; omega) (fun _ _ _ _ => by exfalso; omega)) | (with_reducible refine askedPlace_ok hR (by omega) (by omega) (fun _ => by exfalso; omega) (fun _ _ _ => ?_) (fun _ _ _ _ => by exfalso; omega)) | (with_reducible refine askedPlace_ok hR (by omega) (by omega) (fun _ => by exfalso; omega) (fun _ _ _ => by exfalso; omega) (fun _ _ _ _ => ?_)) | (with_reducible refine askedPlace_ok hR (by omega) (by omega) (fun _ => ?_) (fun _ _ _ => ?_) (fun _ _ _ _ => ?_)) | (with_reducible refine ite_i (fun _ => ?_) (fun _ => ?_)) | (with_reducible refine all_eq ?_))
    all_goals (first | exact Lf.mk rfl (h.up hk) | exact Lf.mk rfl (h.f hk _) | exact Lf.mk (by omega) (h.up hk) | skip)
  · have W1 := hR.W1
    have J1 := hR.J1
    have H1 := hR.H1
    have H2 := hR.H2
    have T0 := hR.T0
    have w1_x1 := congrFun W1 x1
    have j1 := J1 x1 a b
    have k1 := H1 x1 a b
    have k2 := H2 (2 * x1) (by omega) (by omega)
    have k3 := H2 (2 * x1 + 1) (by omega) (by omega)
    refine ite_n (by omega) ⟨b, by omega, ite_i (fun e => ?_) (fun e => trainIn_ok h2 (fun e2 => ?_) (fun e2 => ?_))⟩
    · refine found_ok (by decide) (by decide) (askedPlace_ok hR h1 h2 (fun _ => by exfalso; omega) (fun _ _ _ => ⟨by omega, ite_n (by omega) (Lf.mk rfl (h.f hk _))⟩) (fun _ _ _ _ => by exfalso; omega))
    · subst e2
      refine ite_i (fun e3 => found_ok (by decide) (by decide) (askedPlace_ok hR h1 h2 (fun _ => by exfalso; omega) (fun _ _ _ => ⟨by omega, ite_n (by omega) (Lf.mk rfl (h.f hk _))⟩) (fun _ _ _ q => by exfalso; rw [Int.add_zero] at q; omega))) (fun e3 => ⟨by omega, ?_⟩)
      refine release_ok hR a b h2 (fun _ => ?_) (fun q => by exfalso; omega)
      refine askedPlace_ok hR h1 h2 (fun _ => by exfalso; omega) (fun _ _ q => by exfalso; rw [Int.add_zero] at q; omega) (fun _ _ _ _ => ⟨by omega, ite_p (by omega) (placeOf_ok h2 ⟨by omega, by omega, placeOf_ok h2 ?_⟩)⟩)
      rw [Int.add_zero]
      exact free_ok (by omega) (by omega) (by omega) (by omega) (Lf.mk rfl (h.of hk (hR.free a b (Or.inl ⟨rfl, rfl⟩))))
    · subst e2
      refine ite_i (fun e3 => found_ok (by decide) (by decide) (askedPlace_ok hR h1 h2 (fun _ => by exfalso; omega) (fun _ _ _ => ⟨by omega, ite_n (by omega) (Lf.mk rfl (h.f hk _))⟩) (fun _ _ _ q => by exfalso; omega))) (fun e3 => ⟨by omega, ?_⟩)
      refine release_ok hR a b h2 (fun q => by exfalso; omega) (fun _ => ?_)
      refine askedPlace_ok hR h1 h2 (fun _ => by exfalso; omega) (fun _ _ q => by exfalso; omega) (fun _ _ _ _ => ⟨by omega, ite_p (by omega) (placeOf_ok h2 ⟨by omega, by omega, placeOf_ok h2 ?_⟩)⟩)
      exact free_ok (by omega) (by omega) (by omega) (by omega) (Lf.mk rfl (h.of hk (hR.free a b (Or.inr ⟨rfl, rfl⟩))))
def tw6C (c : MM) (t : Int) : MM := ms (ms (ms (ms (ms (ms c 3 0 t 1) 3 1 t 0) 3 2 t 0) 3 3 t 0) 3 4 t 20000) 3 5 t 1
def tw6R (r : MM) (t : Int) : MM := ms (ms (ms (ms (ms (ms r 26 0 t 1) 27 0 t 0) 28 0 t 0) 29 0 t 20000) 30 0 t 0) 31 0 t 1
theorem Rel.tw6 {bd bs bw : Int} {G : GG} {t : Int} {c r : MM} (hR : Rel bd bs bw G c r) (h0 : 0 ≤ t) (h4 : t < 4) : Rel bd bs bw G (tw6C c t) (tw6R r t) := by
  have W1 := hR.W1
  have W2 := hR.W2
  have W3 := hR.W3
  have W4 := hR.W4
  have W5 := hR.W5
  have W6 := hR.W6
  have J1 := hR.J1
  have J2 := hR.J2
  have J3 := hR.J3
  have J4 := hR.J4
  have J5 := hR.J5
  have J6 := hR.J6
  have K0 := hR.K0
  unfold tw6C tw6R
  refine ⟨hR.K0, hR.S1, hR.S2, hR.S3, hR.S4, hR.S5, hR.R1, hR.R2, hR.R3, hR.T0, hR.T1, hR.T2, hR.T3, hR.E1, hR.E2, hR.E3, hR.E4, hR.E5, hR.E6, hR.E7, hR.E8, hR.E9, hR.E10, hR.E11, hR.I1, hR.I2, hR.I3, hR.I4, hR.I5, hR.I6, hR.I7, hR.I8, hR.I9, hR.I10, hR.I11, hR.I12, hR.I13, hR.I14, msEq W1 _ _, msEq W2 _ _, msEq W3 _ _, msEq W4 _ _, msEq W5 _ _, msEq W6 _ _, hR.W7, hR.W8, hR.W9, ?_, ?_, ?_, ?_, ?_, ?_, hR.J7, hR.H1, hR.H2, hR.H3, hR.H4, hR.L1, hR.L2, hR.A1, hR.A2, hR.F1, hR.F2, hR.F3, hR.Q1, hR.Q2, hR.Q3, hR.Q4, hR.Q5, hR.Q6, hR.Q7⟩
  · intro z a b
    have q := J1 z a b
    by_cases e : z = t
    · subst e
      simp [ms] <;> omega
    · simp [ms, e] <;> omega
  · intro z a b
    have q := J2 z a b
    by_cases e : z = t
    · subst e
      simp [ms] <;> omega
    · simp [ms, e] <;> omega
  · intro z a b
    have q := J3 z a b
    by_cases e : z = t
    · subst e
      simp [ms] <;> omega
    · simp [ms, e] <;> omega
  · intro z a b
    have q := J4 z a b
    by_cases e : z = t
    · subst e
      simp [ms] <;> omega
    · simp [ms, e] <;> omega
  · intro z a b
    have q := J5 z a b
    by_cases e : z = t
    · subst e
      simp [ms] <;> omega
    · simp [ms, e] <;> omega
  · intro z a b
    have q := J6 z a b
    by_cases e : z = t
    · subst e
      simp [ms] <;> omega
    · simp [ms, e] <;> omega
def begC (c r : MM) (t : Int) : MM := relC (relC (tw6C c t) 6 t (tw6R r t 35 0 (2 * t))) 7 t (freR (tw6R r t) (2 * t) 35 0 (2 * t + 1))
def begR (r : MM) (t : Int) : MM := freR (freR (tw6R r t) (2 * t)) (2 * t + 1)
theorem Rel.beg {bd bs bw : Int} {G : GG} {t : Int} {c r : MM} (hR : Rel bd bs bw G c r) (h0 : 0 ≤ t) (h4 : t < 4) : Rel bd bs bw G (begC c r t) (begR r t) := ((hR.tw6 h0 h4).free h0 h4 (Or.inl ⟨rfl, rfl⟩)).free h0 h4 (Or.inr ⟨rfl, rfl⟩)
theorem begin_ok {bd bs bw : Int} {G : GG} {t : Int} {c r : MM} {Q : Int → MM → Prop} (hR : Rel bd bs bw G c r) (h0 : 0 ≤ t) (h4 : t < 4) (hQ : Q 0 (ms (ms (ms (ms (ms (begC c r t) 3 8 t 0) 3 9 t 0) 3 10 t 1) 4 4 t 0) 4 5 t 0)) : wpX8_begin G t c Q := by
  unfold wpX8_begin wpX8_keepSilence wpX3_clear
  refine all_eq (all_eq (all_eq (all_eq (all_eq (all_eq ?_)))))
  have h6 := hR.tw6 h0 h4
  refine release_ok h6 h0 h4 (Or.inl rfl) (fun _ => ?_) (fun e => by exfalso; omega)
  refine release_ok (h6.free h0 h4 (Or.inl ⟨rfl, rfl⟩)) h0 h4 (Or.inr rfl) (fun e => by exfalso; omega) (fun _ => ?_)
  exact all_eq (all_eq (all_eq (all_eq (all_eq hQ))))
theorem Rel.begin {bd bs bw : Int} {G : GG} {t : Int} {c r : MM} (hR : Rel bd bs bw G c r) (h0 : 0 ≤ t) (h4 : t < 4) : Rel bd bs bw G (ms (ms (ms (ms (ms (begC c r t) 3 8 t 0) 3 9 t 0) 3 10 t 1) 4 4 t 0) 4 5 t 0) (ms (ms (ms (begR r t) 32 0 t 0) 33 0 t 0) 37 0 t 0) := by
  have hB := hR.beg h0 h4
  generalize begC c r t = c1 at *
  generalize begR r t = r1 at *
  have W7 := hB.W7
  have W8 := hB.W8
  have W9 := hB.W9
  have J7 := hB.J7
  have L1 := hB.L1
  have L2 := hB.L2
  refine ⟨hB.K0, hB.S1, hB.S2, hB.S3, hB.S4, hB.S5, hB.R1, hB.R2, hB.R3, hB.T0, hB.T1, hB.T2, hB.T3, hB.E1, hB.E2, hB.E3, hB.E4, hB.E5, hB.E6, hB.E7, hB.E8, hB.E9, hB.E10, hB.E11, hB.I1, hB.I2, hB.I3, hB.I4, hB.I5, hB.I6, hB.I7, hB.I8, hB.I9, hB.I10, hB.I11, hB.I12, hB.I13, hB.I14, hB.W1, hB.W2, hB.W3, hB.W4, hB.W5, hB.W6, msEq W7 _ _, msEq W8 _ _, ?_, hB.J1, hB.J2, hB.J3, hB.J4, hB.J5, hB.J6, ?_, hB.H1, hB.H2, hB.H3, hB.H4, ?_, ?_, hB.A1, hB.A2, hB.F1, hB.F2, hB.F3, hB.Q1, hB.Q2, hB.Q3, hB.Q4, hB.Q5, hB.Q6, hB.Q7⟩
  · intro z a b
    have q := W9 z a b
    by_cases e : z = t
    · subst e
      simp [ms] <;> omega
    · simp [ms, e]
      exact q
  · intro z a b
    have q := J7 z a b
    by_cases e : z = t
    · subst e
      simp [ms] <;> omega
    · simp [ms, e] <;> omega
  · intro z a b
    have q := L1 z a b
    by_cases e : z = t
    · subst e
      simp [ms] <;> omega
    · simp [ms, e] <;> omega
  · intro z i a b
    have q := L2 z i a b
    by_cases e : z = t
    · subst e
      simp [ms]
      intro x y
      exfalso; omega
    · simp [ms, e]
      exact q
theorem tower_ok {bd bs bw : Int} {G : GG} {t : Int} {c r : MM} {Q : Int → MM → Prop} (hR : Rel bd bs bw G c r) (w : Int) (h0 : 0 ≤ t) (h4 : t < 4) (hQ : Q w (ms (ms (ms (begR r t) 32 0 t 0) 33 0 t 0) 37 0 t 0)) : wpX11_tower_J23 Q t w r := by
  unfold wpX11_tower_J23
  refine ⟨h0, h4, all_eq (all_eq (all_eq (all_eq (all_eq (all_eq (all_eq (all_eq (all_eq ?_))))))))⟩
  have h6 := hR.tw6 h0 h4
  have h7 := h6.free h0 h4 (Or.inl ⟨rfl, rfl⟩)
  have k1 := h6.H2 (2 * t) (by omega) (by omega)
  have k2 := h7.H2 (2 * t + 1) (by omega) (by omega)
  have t1 := h6.T0
  have t2 := h7.T0
  show wpX11_free (2 * t) (ms (ms (ms (tw6R r t) 32 0 t 0) 33 0 t 0) 37 0 t 0) _
  refine free_ok (by omega) (by omega) (show -9 ≤ tw6R r t 35 0 (2 * t) by omega) (show tw6R r t 35 0 (2 * t) < 16 by omega) ?_
  rw [freR_ms _ _ (by decide) (by decide) (by decide), freR_ms _ _ (by decide) (by decide) (by decide), freR_ms _ _ (by decide) (by decide) (by decide)]
  refine free_ok (by omega) (by omega) (show -9 ≤ freR (tw6R r t) (2 * t) 35 0 (2 * t + 1) by omega) (show freR (tw6R r t) (2 * t) 35 0 (2 * t + 1) < 16 by omega) ?_
  rw [freR_ms _ _ (by decide) (by decide) (by decide), freR_ms _ _ (by decide) (by decide) (by decide), freR_ms _ _ (by decide) (by decide) (by decide)]
  exact hQ
theorem rel_tower {k : Int} {G : GG} {c r : MM} (h : RelK k G c r) (hk : k < 512) (x1 : Int) (h1 : rg x1) : wpX10_tower G x1 c (fun v c' => wpX11_tower x1 r (fun v' r' => Lf v v' (RelK (k + 1) G c' r'))) := by
  have hR := h.2
  unfold wpX10_tower wpX11_tower wpX10_tower_J24
  refine towerOf_ok h1 (fun hx => ?_) (fun a b => ?_)
  · repeat' (first | (with_reducible refine ⟨by omega, ?_⟩) | (with_reducible refine ite_p (by omega) ?_) | (with_reducible refine ite_n (by omega) ?_) | (with_reducible refine isNumber_ok (by omega) (fun _ => ?_) (fun _ _ => by exfalso; omega)) | (with_reducible refine isNumber_ok (by omega) (fun _ => by exfalso; omega) (fun _ _ => ?_)) | (with_reducible refine isNumber_ok (by omega) (fun _ => ?_) (fun _ _ => ?_)) | (with_reducible refine trainOf_ok hR (by omega) (fun _ => ?_) (fun _ _ => by exfalso; omega)) | (with_reducible refine trainOf_ok hR (by omega) (fun _ => by exfalso; omega) (fun _ _ => ?_)) | (with_reducible refine trainOf_ok hR (by omega) (fun _ => ?_) (fun _ _ => ?_)) | (with_reducible refine isTrain_ok hR (by omega) (fun _ => ?_) (fun _ _ => by exfalso; omega)) | (with_reducible refine isTrain_ok hR (by omega) (fun _ => by exfalso; omega) (fun _ _ => ?_)) | (with_reducible refine isTrain_ok hR (by omega) (fun _ => ?_) (fun _ _ => ?_)) | (with_reducible refine rowOf_ok (by omega) (fun _ => ?_) (fun _ _ => by exfalso; omega)) | (with_reducible refine rowOf_ok (by omega) (fun _ => by exfalso; omega) (fun _ _ => ?_)) | (with_reducible refine rowOf_ok (by omega) (fun _ => ?_) (fun _ _ => ?_)) | (with_reducible refine towerOf_ok (by omega) (fun _ => ?_) (fun _ _ => by exfalso; omega)) | (with_reducible refine towerOf_ok (by omega) (fun _ => by exfalso; omega) (fun _ _ => ?_)) | (with_reducible refine towerOf_ok (by omega) (fun _ => ?_) (fun _ _ => ?_)) | (with_reducible refine looked_ok hR (by omega) (fun _ => ?_) (fun _ _ _ _ => by exfalso; omega) (fun _ _ _ _ _ => by exfalso; omega)) | (with_reducible refine looked_ok hR (by omega) (fun _ => by exfalso; omega) (fun _ _ _ _ => ?_) (fun _ _ _ _ _ => by exfalso; omega)) | (with_reducible refine looked_ok hR (by omega) (fun _ => by exfalso; omega) (fun _ _ _ _ => by exfalso; omega) (fun _ _ _ _ _ => ?_)) | (with_reducible refine looked_ok hR (by omega) (fun _ => ?_) (fun _ _ _ _ => ?_) (fun _ _ _ _ _ => ?_)) | (with_reducible refine askedFor_ok hR (by omega) (fun _ => ?_) (fun _ _ _ => by exfalso; omega) (fun _ _ _ => by exfalso; omega)) | (with_reducible refine askedFor_ok hR (by omega) (fun _ => by exfalso; omega) (fun _ _ _ => ?_) (fun _ _ _ => by exfalso; omega)) | (with_reducible refine askedFor_ok hR (by omega) (fun _ => by exfalso; omega) (fun _ _ _ => by exfalso; omega) (fun _ _ _ => ?_)) | (with_reducible refine askedFor_ok hR (by omega) (fun _ => ?_) (fun _ _ _ => ?_) (fun _ _ _ => ?_)) | (with_reducible refine inn_ok (by omega) (by omega) (by omega) (fun _ => ?_) (fun _ _ => by exfalso; omega)) | (with_reducible refine inn_ok (by omega) (by omega) (by omega) (fun _ => by exfalso; omega) (fun _ _ => ?_)) | (with_reducible refine inn_ok (by omega) (by omega) (by omega) (fun _ => ?_) (fun _ _ => ?_)) | (with_reducible refine isPlate_ok (by omega) (by omega) (by omega) (fun _ => ?_) (fun _ => by exfalso; omega)) | (with_reducible refine isPlate_ok (by omega) (by omega) (by omega) (fun _ => by exfalso; omega) (fun _ => ?_)) | (with_reducible refine isPlate_ok (by omega) (by omega) (by omega) (fun _ => ?_) (fun _ => ?_)) | (with_reducible refine hasPlace_ok (by omega) (by omega) (fun _ => ?_) (fun _ _ => by exfalso; omega)) | (with_reducible refine hasPlace_ok (by omega) (by omega) (fun _ => by exfalso; omega) (fun _ _ => ?_)) | (with_reducible refine hasPlace_ok (by omega) (by omega) (fun _ => ?_) (fun _ _ => ?_)) | (with_reducible refine isThere_ok (by omega) (fun _ => ?_) (fun _ => by exfalso; omega)) | (with_reducible refine isThere_ok (by omega) (fun _ => by exfalso; omega) (fun _ => ?_)) | (with_reducible refine isThere_ok (by omega) (fun _ => ?_) (fun _ => ?_)) | (with_reducible refine isDayHour_ok (by omega) (fun _ => ?_) (fun _ _ => by exfalso; omega)) | (with_reducible refine isDayHour_ok (by omega) (fun _ => by exfalso; omega) (fun _ _ => ?_)) | (with_reducible refine isDayHour_ok (by omega) (fun _ => ?_) (fun _ _ => ?_)) | (with_reducible refine isHour_ok (by omega) (fun _ => ?_) (fun _ _ => by exfalso; omega)) | (with_reducible refine isHour_ok (by omega) (fun _ => by exfalso; omega) (fun _ _ => ?_)) | (with_reducible refine isHour_ok (by omega) (fun _ => ?_) (fun _ _ => ?_)) | (with_reducible refine trainIn_ok (by omega) (fun _ => ?_) (fun _ => by exfalso; omega)) | (with_reducible refine trainIn_ok (by omega) (fun _ => by exfalso; omega) (fun _ => ?_)) | (with_reducible refine trainIn_ok (by omega) (fun _ => ?_) (fun _ => ?_)) | (with_reducible refine found_ok (by decide) (by decide) ?_) | (with_reducible refine meets_ok (by decide) (by decide) ?_) | (with_reducible refine ite_i (fun _ => ?_) (fun _ => ?_)) | (with_reducible refine all_eq ?_))
    all_goals (first | exact Lf.mk rfl (h.up hk) | exact Lf.mk rfl (h.f hk _) | exact Lf.mk (by omega) (h.up hk) | skip)
  · have W1 := hR.W1
    have J1 := hR.J1
    have w1_x1 := congrFun W1 x1
    have j1 := J1 x1 a b
    refine ite_n (by omega) ⟨b, by omega, ite_i (fun e => ?_) (fun e => ?_)⟩
    · refine begin_ok hR a b (isNumber_ok h1 (fun _ => by exfalso; omega) (fun _ _ => ite_n (by decide) ⟨a, b, by omega, ite_p (by omega) ?_⟩))
      exact tower_ok hR 0 a b (Lf.mk rfl (h.of hk (hR.begin a b)))
    · refine begin_ok hR a b (isNumber_ok h1 (fun _ => by exfalso; omega) (fun _ _ => ite_n (by decide) ⟨a, b, by omega, ite_n (by omega) ?_⟩))
      exact tower_ok hR 1 a b (Lf.mk rfl (h.of hk (hR.begin a b)))
theorem rel_tells {k : Int} {G : GG} {c r : MM} (h : RelK k G c r) (hk : k < 512) (x1 : Int) (h1 : rg x1) (x2 : Int) (h2 : rg x2) : wpX10_tells G x1 x2 c (fun v c' => wpX11_tells x1 x2 r (fun v' r' => Lf v v' (RelK (k + 1) G c' r'))) := by
  have hR := h.2
  unfold wpX10_tells wpX11_tells
  refine towerOf_ok h1 (fun hx => ?_) (fun a b => ?_)
  · repeat' (first | (with_reducible refine ⟨by omega, ?_⟩) | (with_reducible refine ite_p (by omega) ?_) | (with_reducible refine ite_n (by omega) ?_) | (with_reducible refine trainOf_ok hR (by omega) (fun _ => ?_) (fun _ _ => by exfalso; omega)) | (with_reducible refine trainOf_ok hR (by omega) (fun _ => by exfalso; omega) (fun _ _ => ?_)) | (with_reducible refine trainOf_ok hR (by omega) (fun _ => ?_) (fun _ _ => ?_)) | (with_reducible refine isTrain_ok hR (by omega) (fun _ => ?_) (fun _ _ => by exfalso; omega)) | (with_reducible refine isTrain_ok hR (by omega) (fun _ => by exfalso; omega) (fun _ _ => ?_)) | (with_reducible refine isTrain_ok hR (by omega) (fun _ => ?_) (fun _ _ => ?_)) | (with_reducible refine rowOf_ok (by omega) (fun _ => ?_) (fun _ _ => by exfalso; omega)) | (with_reducible refine rowOf_ok (by omega) (fun _ => by exfalso; omega) (fun _ _ => ?_)) | (with_reducible refine rowOf_ok (by omega) (fun _ => ?_) (fun _ _ => ?_)) | (with_reducible refine towerOf_ok (by omega) (fun _ => ?_) (fun _ _ => by exfalso; omega)) | (with_reducible refine towerOf_ok (by omega) (fun _ => by exfalso; omega) (fun _ _ => ?_)) | (with_reducible refine towerOf_ok (by omega) (fun _ => ?_) (fun _ _ => ?_)) | (with_reducible refine looked_ok hR (by omega) (fun _ => ?_) (fun _ _ _ _ => by exfalso; omega) (fun _ _ _ _ _ => by exfalso; omega)) | (with_reducible refine looked_ok hR (by omega) (fun _ => by exfalso; omega) (fun _ _ _ _ => ?_) (fun _ _ _ _ _ => by exfalso; omega)) | (with_reducible refine looked_ok hR (by omega) (fun _ => by exfalso; omega) (fun _ _ _ _ => by exfalso; omega) (fun _ _ _ _ _ => ?_)) | (with_reducible refine looked_ok hR (by omega) (fun _ => ?_) (fun _ _ _ _ => ?_) (fun _ _ _ _ _ => ?_)) | (with_reducible refine askedFor_ok hR (by omega) (fun _ => ?_) (fun _ _ _ => by exfalso; omega) (fun _ _ _ => by exfalso; omega)) | (with_reducible refine askedFor_ok hR (by omega) (fun _ => by exfalso; omega) (fun _ _ _ => ?_) (fun _ _ _ => by exfalso; omega)) | (with_reducible refine askedFor_ok hR (by omega) (fun _ => by exfalso; omega) (fun _ _ _ => by exfalso; omega) (fun _ _ _ => ?_)) | (with_reducible refine askedFor_ok hR (by omega) (fun _ => ?_) (fun _ _ _ => ?_) (fun _ _ _ => ?_)) | (with_reducible refine inn_ok (by omega) (by omega) (by omega) (fun _ => ?_) (fun _ _ => by exfalso; omega)) | (with_reducible refine inn_ok (by omega) (by omega) (by omega) (fun _ => by exfalso; omega) (fun _ _ => ?_)) | (with_reducible refine inn_ok (by omega) (by omega) (by omega) (fun _ => ?_) (fun _ _ => ?_)) | (with_reducible refine isPlate_ok (by omega) (by omega) (by omega) (fun _ => ?_) (fun _ => by exfalso; omega)) | (with_reducible refine isPlate_ok (by omega) (by omega) (by omega) (fun _ => by exfalso; omega) (fun _ => ?_)) | (with_reducible refine isPlate_ok (by omega) (by omega) (by omega) (fun _ => ?_) (fun _ => ?_)) | (with_reducible refine hasPlace_ok (by omega) (by omega) (fun _ => ?_) (fun _ _ => by exfalso; omega)) | (with_reducible refine hasPlace_ok (by omega) (by omega) (fun _ => by exfalso; omega) (fun _ _ => ?_)) | (with_reducible refine hasPlace_ok (by omega) (by omega) (fun _ => ?_) (fun _ _ => ?_)) | (with_reducible refine isThere_ok (by omega) (fun _ => ?_) (fun _ => by exfalso; omega)) | (with_reducible refine isThere_ok (by omega) (fun _ => by exfalso; omega) (fun _ => ?_)) | (with_reducible refine isThere_ok (by omega) (fun _ => ?_) (fun _ => ?_)) | (with_reducible refine isDayHour_ok (by omega) (fun _ => ?_) (fun _ _ => by exfalso; omega)) | (with_reducible refine isDayHour_ok (by omega) (fun _ => by exfalso; omega) (fun _ _ => ?_)) | (with_reducible refine isDayHour_ok (by omega) (fun _ => ?_) (fun _ _ => ?_)) | (with_reducible refine isHour_ok (by omega) (fun _ => ?_) (fun _ _ => by exfalso; omega)) | (with_reducible refine isHour_ok (by omega) (fun _ => by exfalso; omega) (fun _ _ => ?_)) | (with_reducible refine isHour_ok (by omega) (fun _ => ?_) (fun _ _ => ?_)) | (with_reducible refine trainIn_ok (by omega) (fun _ => ?_) (fun _ => by exfalso; omega)) | (with_reducible refine trainIn_ok (by omega) (fun _ => by exfalso; omega) (fun _ => ?_)) | (with_reducible refine trainIn_ok (by omega) (fun _ => ?_) (fun _ => ?_)) | (with_reducible refine found_ok (by decide) (by decide) ?_) | (with_reducible refine meets_ok (by decide) (by decide) ?_) | (with_reducible refine ite_i (fun _ => ?_) (fun _ => ?_)) | (with_reducible refine all_eq ?_))
    all_goals (first | exact Lf.mk rfl (h.up hk) | exact Lf.mk rfl (h.f hk _) | exact Lf.mk (by omega) (h.up hk) | skip)
  · have W1 := hR.W1
    have J1 := hR.J1
    have w1_x1 := congrFun W1 x1
    have j1 := J1 x1 a b
    refine ite_n (by omega) ⟨b, h2, ite_i (fun e => ?_) (fun e => ite_i (fun e2 => ⟨by omega, ite_i (fun e3 => ?_) (fun e3 => ?_)⟩) (fun e2 => ?_))⟩
    · repeat' (first | (with_reducible refine ⟨by omega, ?_⟩) | (with_reducible refine ite_p (by omega) ?_) | (with_reducible refine ite_n (by omega) ?_) | (with_reducible refine trainOf_ok hR (by omega) (fun _ => ?_) (fun _ _ => by exfalso; omega)) | (with_reducible refine trainOf_ok hR (by omega) (fun _ => by exfalso; omega) (fun _ _ => ?_)) | (with_reducible refine trainOf_ok hR (by omega) (fun _ => ?_) (fun _ _ => ?_)) | (with_reducible refine isTrain_ok hR (by omega) (fun _ => ?_) (fun _ _ => by exfalso; omega)) | (with_reducible refine isTrain_ok hR (by omega) (fun _ => by exfalso; omega) (fun _ _ => ?_)) | (with_reducible refine isTrain_ok hR (by omega) (fun _ => ?_) (fun _ _ => ?_)) | (with_reducible refine rowOf_ok (by omega) (fun _ => ?_) (fun _ _ => by exfalso; omega)) | (with_reducible refine rowOf_ok (by omega) (fun _ => by exfalso; omega) (fun _ _ => ?_)) | (with_reducible refine rowOf_ok (by omega) (fun _ => ?_) (fun _ _ => ?_)) | (with_reducible refine towerOf_ok (by omega) (fun _ => ?_) (fun _ _ => by exfalso; omega)) | (with_reducible refine towerOf_ok (by omega) (fun _ => by exfalso; omega) (fun _ _ => ?_)) | (with_reducible refine towerOf_ok (by omega) (fun _ => ?_) (fun _ _ => ?_)) | (with_reducible refine looked_ok hR (by omega) (fun _ => ?_) (fun _ _ _ _ => by exfalso; omega) (fun _ _ _ _ _ => by exfalso; omega)) | (with_reducible refine looked_ok hR (by omega) (fun _ => by exfalso; omega) (fun _ _ _ _ => ?_) (fun _ _ _ _ _ => by exfalso; omega)) | (with_reducible refine looked_ok hR (by omega) (fun _ => by exfalso; omega) (fun _ _ _ _ => by exfalso; omega) (fun _ _ _ _ _ => ?_)) | (with_reducible refine looked_ok hR (by omega) (fun _ => ?_) (fun _ _ _ _ => ?_) (fun _ _ _ _ _ => ?_)) | (with_reducible refine askedFor_ok hR (by omega) (fun _ => ?_) (fun _ _ _ => by exfalso; omega) (fun _ _ _ => by exfalso; omega)) | (with_reducible refine askedFor_ok hR (by omega) (fun _ => by exfalso; omega) (fun _ _ _ => ?_) (fun _ _ _ => by exfalso; omega)) | (with_reducible refine askedFor_ok hR (by omega) (fun _ => by exfalso; omega) (fun _ _ _ => by exfalso; omega) (fun _ _ _ => ?_)) | (with_reducible refine askedFor_ok hR (by omega) (fun _ => ?_) (fun _ _ _ => ?_) (fun _ _ _ => ?_)) | (with_reducible refine inn_ok (by omega) (by omega) (by omega) (fun _ => ?_) (fun _ _ => by exfalso; omega)) | (with_reducible refine inn_ok (by omega) (by omega) (by omega) (fun _ => by exfalso; omega) (fun _ _ => ?_)) | (with_reducible refine inn_ok (by omega) (by omega) (by omega) (fun _ => ?_) (fun _ _ => ?_)) | (with_reducible refine isPlate_ok (by omega) (by omega) (by omega) (fun _ => ?_) (fun _ => by exfalso; omega)) | (with_reducible refine isPlate_ok (by omega) (by omega) (by omega) (fun _ => by exfalso; omega) (fun _ => ?_)) | (with_reducible refine isPlate_ok (by omega) (by omega) (by omega) (fun _ => ?_) (fun _ => ?_)) | (with_reducible refine hasPlace_ok (by omega) (by omega) (fun _ => ?_) (fun _ _ => by exfalso; omega)) | (with_reducible refine hasPlace_ok (by omega) (by omega) (fun _ => by exfalso; omega) (fun _ _ => ?_)) | (with_reducible refine hasPlace_ok (by omega) (by omega) (fun _ => ?_) (fun _ _ => ?_)) | (with_reducible refine isThere_ok (by omega) (fun _ => ?_) (fun _ => by exfalso; omega)) | (with_reducible refine isThere_ok (by omega) (fun _ => by exfalso; omega) (fun _ => ?_)) | (with_reducible refine isThere_ok (by omega) (fun _ => ?_) (fun _ => ?_)) | (with_reducible refine isDayHour_ok (by omega) (fun _ => ?_) (fun _ _ => by exfalso; omega)) | (with_reducible refine isDayHour_ok (by omega) (fun _ => by exfalso; omega) (fun _ _ => ?_)) | (with_reducible refine isDayHour_ok (by omega) (fun _ => ?_) (fun _ _ => ?_)) | (with_reducible refine isHour_ok (by omega) (fun _ => ?_) (fun _ _ => by exfalso; omega)) | (with_reducible refine isHour_ok (by omega) (fun _ => by exfalso; omega) (fun _ _ => ?_)) | (with_reducible refine isHour_ok (by omega) (fun _ => ?_) (fun _ _ => ?_)) | (with_reducible refine trainIn_ok (by omega) (fun _ => ?_) (fun _ => by exfalso; omega)) | (with_reducible refine trainIn_ok (by omega) (fun _ => by exfalso; omega) (fun _ => ?_)) | (with_reducible refine trainIn_ok (by omega) (fun _ => ?_) (fun _ => ?_)) | (with_reducible refine found_ok (by decide) (by decide) ?_) | (with_reducible refine meets_ok (by decide) (by decide) ?_) | (with_reducible refine ite_i (fun _ => ?_) (fun _ => ?_)) | (with_reducible refine all_eq ?_))
      all_goals (first | exact Lf.mk rfl (h.up hk) | exact Lf.mk rfl (h.f hk _) | exact Lf.mk (by omega) (h.up hk) | skip)
    · repeat' (first | (with_reducible refine ⟨by omega, ?_⟩) | (with_reducible refine ite_p (by omega) ?_) | (with_reducible refine ite_n (by omega) ?_) | (with_reducible refine trainOf_ok hR (by omega) (fun _ => ?_) (fun _ _ => by exfalso; omega)) | (with_reducible refine trainOf_ok hR (by omega) (fun _ => by exfalso; omega) (fun _ _ => ?_)) | (with_reducible refine trainOf_ok hR (by omega) (fun _ => ?_) (fun _ _ => ?_)) | (with_reducible refine isTrain_ok hR (by omega) (fun _ => ?_) (fun _ _ => by exfalso; omega)) | (with_reducible refine isTrain_ok hR (by omega) (fun _ => by exfalso; omega) (fun _ _ => ?_)) | (with_reducible refine isTrain_ok hR (by omega) (fun _ => ?_) (fun _ _ => ?_)) | (with_reducible refine rowOf_ok (by omega) (fun _ => ?_) (fun _ _ => by exfalso; omega)) | (with_reducible refine rowOf_ok (by omega) (fun _ => by exfalso; omega) (fun _ _ => ?_)) | (with_reducible refine rowOf_ok (by omega) (fun _ => ?_) (fun _ _ => ?_)) | (with_reducible refine towerOf_ok (by omega) (fun _ => ?_) (fun _ _ => by exfalso; omega)) | (with_reducible refine towerOf_ok (by omega) (fun _ => by exfalso; omega) (fun _ _ => ?_)) | (with_reducible refine towerOf_ok (by omega) (fun _ => ?_) (fun _ _ => ?_)) | (with_reducible refine looked_ok hR (by omega) (fun _ => ?_) (fun _ _ _ _ => by exfalso; omega) (fun _ _ _ _ _ => by exfalso; omega)) | (with_reducible refine looked_ok hR (by omega) (fun _ => by exfalso; omega) (fun _ _ _ _ => ?_) (fun _ _ _ _ _ => by exfalso; omega)) | (with_reducible refine looked_ok hR (by omega) (fun _ => by exfalso; omega) (fun _ _ _ _ => by exfalso; omega) (fun _ _ _ _ _ => ?_)) | (with_reducible refine looked_ok hR (by omega) (fun _ => ?_) (fun _ _ _ _ => ?_) (fun _ _ _ _ _ => ?_)) | (with_reducible refine askedFor_ok hR (by omega) (fun _ => ?_) (fun _ _ _ => by exfalso; omega) (fun _ _ _ => by exfalso; omega)) | (with_reducible refine askedFor_ok hR (by omega) (fun _ => by exfalso; omega) (fun _ _ _ => ?_) (fun _ _ _ => by exfalso; omega)) | (with_reducible refine askedFor_ok hR (by omega) (fun _ => by exfalso; omega) (fun _ _ _ => by exfalso; omega) (fun _ _ _ => ?_)) | (with_reducible refine askedFor_ok hR (by omega) (fun _ => ?_) (fun _ _ _ => ?_) (fun _ _ _ => ?_)) | (with_reducible refine inn_ok (by omega) (by omega) (by omega) (fun _ => ?_) (fun _ _ => by exfalso; omega)) | (with_reducible refine inn_ok (by omega) (by omega) (by omega) (fun _ => by exfalso; omega) (fun _ _ => ?_)) | (with_reducible refine inn_ok (by omega) (by omega) (by omega) (fun _ => ?_) (fun _ _ => ?_)) | (with_reducible refine isPlate_ok (by omega) (by omega) (by omega) (fun _ => ?_) (fun _ => by exfalso; omega)) | (with_reducible refine isPlate_ok (by omega) (by omega) (by omega) (fun _ => by exfalso; omega) (fun _ => ?_)) | (with_reducible refine isPlate_ok (by omega) (by omega) (by omega) (fun _ => ?_) (fun _ => ?_)) | (with_reducible refine hasPlace_ok (by omega) (by omega) (fun _ => ?_) (fun _ _ => by exfalso; omega)) | (with_reducible refine hasPlace_ok (by omega) (by omega) (fun _ => by exfalso; omega) (fun _ _ => ?_)) | (with_reducible refine hasPlace_ok (by omega) (by omega) (fun _ => ?_) (fun _ _ => ?_)) | (with_reducible refine isThere_ok (by omega) (fun _ => ?_) (fun _ => by exfalso; omega)) | (with_reducible refine isThere_ok (by omega) (fun _ => by exfalso; omega) (fun _ => ?_)) | (with_reducible refine isThere_ok (by omega) (fun _ => ?_) (fun _ => ?_)) | (with_reducible refine isDayHour_ok (by omega) (fun _ => ?_) (fun _ _ => by exfalso; omega)) | (with_reducible refine isDayHour_ok (by omega) (fun _ => by exfalso; omega) (fun _ _ => ?_)) | (with_reducible refine isDayHour_ok (by omega) (fun _ => ?_) (fun _ _ => ?_)) | (with_reducible refine isHour_ok (by omega) (fun _ => ?_) (fun _ _ => by exfalso; omega)) | (with_reducible refine isHour_ok (by omega) (fun _ => by exfalso; omega) (fun _ _ => ?_)) | (with_reducible refine isHour_ok (by omega) (fun _ => ?_) (fun _ _ => ?_)) | (with_reducible refine trainIn_ok (by omega) (fun _ => ?_) (fun _ => by exfalso; omega)) | (with_reducible refine trainIn_ok (by omega) (fun _ => by exfalso; omega) (fun _ => ?_)) | (with_reducible refine trainIn_ok (by omega) (fun _ => ?_) (fun _ => ?_)) | (with_reducible refine found_ok (by decide) (by decide) ?_) | (with_reducible refine meets_ok (by decide) (by decide) ?_) | (with_reducible refine ite_i (fun _ => ?_) (fun _ => ?_)) | (with_reducible refine all_eq ?_))
      all_goals (first | exact Lf.mk rfl (h.up hk) | exact Lf.mk rfl (h.f hk _) | exact Lf.mk (by omega) (h.up hk) | skip)
    · have W2 := hR.W2
      have W4 := hR.W4
      have W5 := hR.W5
      have W6 := hR.W6
      have J2 := hR.J2
      have J4 := hR.J4
      have J5 := hR.J5
      have J6 := hR.J6
      have H1 := hR.H1
      have H2 := hR.H2
      have H4 := hR.H4
      have T0 := hR.T0
      have w2_x1 := congrFun W2 x1
      have w4_x1 := congrFun W4 x1
      have w5_x1 := congrFun W5 x1
      have w6_x1 := congrFun W6 x1
      have j2 := J2 x1 a b
      have j4 := J4 x1 a b
      have j5 := J5 x1 a b
      have j6 := J6 x1 a b
      have k1 := H1 x1 a b
      have k2 := H2 (2 * x1) (by omega) (by omega)
      have k3 := H2 (2 * x1 + 1) (by omega) (by omega)
      have k4 := (H4 (2 * x1) (by omega) (by omega)).1
      have k5 := (H4 (2 * x1 + 1) (by omega) (by omega)).1
      have u4 : c 3 6 x1 < 0 → r 36 0 (2 * x1) = 0 := fun q => (H4 (2 * x1) (by omega) (by omega)).2.2 (by omega)
      have u5 : c 3 7 x1 < 0 → r 36 0 (2 * x1 + 1) = 0 := fun q => (H4 (2 * x1 + 1) (by omega) (by omega)).2.2 (by omega)
      have v4 : ¬ c 3 6 x1 < 0 → c 2 10 (c 3 6 x1) = r 36 0 (2 * x1) := fun q => by
        have e4 : c 3 6 x1 = r 35 0 (2 * x1) := by omega
        rw [e4]
        exact (H4 (2 * x1) (by omega) (by omega)).2.1 (by omega)
      have v5 : ¬ c 3 7 x1 < 0 → c 2 10 (c 3 7 x1) = r 36 0 (2 * x1 + 1) := fun q => by
        have e4 : c 3 7 x1 = r 35 0 (2 * x1 + 1) := by omega
        rw [e4]
        exact (H4 (2 * x1 + 1) (by omega) (by omega)).2.1 (by omega)
      repeat' (first | (with_reducible refine ⟨by omega, ?_⟩) | (with_reducible refine ite_p (by omega) ?_) | (with_reducible refine ite_n (by omega) ?_) | (with_reducible refine trainIn_ok (by omega) (fun _ => ?_) (fun _ => by exfalso; omega)) | (with_reducible refine trainIn_ok (by omega) (fun _ => by exfalso; omega) (fun _ => ?_)) | (with_reducible refine trainIn_ok (by omega) (fun _ => ?_) (fun _ => ?_)) | (with_reducible refine silenceNow_ok hR (by omega) (by omega) ?_) | (with_reducible refine silenceOf_ok hR (by omega) (by omega) ?_) | (with_reducible refine inn_ok (by omega) (by omega) (by omega) (fun _ => ?_) (fun _ _ => by exfalso; omega)) | (with_reducible refine inn_ok (by omega) (by omega) (by omega) (fun _ => by exfalso; omega) (fun _ _ => ?_)) | (with_reducible refine inn_ok (by omega) (by omega) (by omega) (fun _ => ?_) (fun _ _ => ?_)) | (with_reducible refine askedFor_ok hR (by omega) (fun _ => ?_) (fun _ _ _ => by exfalso; omega) (fun _ _ _ => by exfalso; omega)) | (with_reducible refine askedFor_ok hR (by omega) (fun _ => by exfalso; omega) (fun _ _ _ => ?_) (fun _ _ _ => by exfalso; omega)) | (with_reducible refine askedFor_ok hR (by omega) (fun _ => by exfalso; omega) (fun _ _ _ => by exfalso; omega) (fun _ _ _ => ?_)) | (with_reducible refine askedFor_ok hR (by omega) (fun _ => ?_) (fun _ _ _ => ?_) (fun _ _ _ => ?_)) | (with_reducible refine ite_i (fun _ => ?_) (fun _ => ?_)) | (with_reducible refine all_eq ?_) | unfold wpX8_numberIn | unfold wpX8_isWarned | unfold wpX11_towerTells)
      all_goals (first | exact Lf.mk rfl (h.up hk) | exact Lf.mk rfl (h.f hk _) | exact Lf.mk (by omega) (h.up hk) | skip)
    · repeat' (first | (with_reducible refine ⟨by omega, ?_⟩) | (with_reducible refine ite_p (by omega) ?_) | (with_reducible refine ite_n (by omega) ?_) | (with_reducible refine trainOf_ok hR (by omega) (fun _ => ?_) (fun _ _ => by exfalso; omega)) | (with_reducible refine trainOf_ok hR (by omega) (fun _ => by exfalso; omega) (fun _ _ => ?_)) | (with_reducible refine trainOf_ok hR (by omega) (fun _ => ?_) (fun _ _ => ?_)) | (with_reducible refine isTrain_ok hR (by omega) (fun _ => ?_) (fun _ _ => by exfalso; omega)) | (with_reducible refine isTrain_ok hR (by omega) (fun _ => by exfalso; omega) (fun _ _ => ?_)) | (with_reducible refine isTrain_ok hR (by omega) (fun _ => ?_) (fun _ _ => ?_)) | (with_reducible refine rowOf_ok (by omega) (fun _ => ?_) (fun _ _ => by exfalso; omega)) | (with_reducible refine rowOf_ok (by omega) (fun _ => by exfalso; omega) (fun _ _ => ?_)) | (with_reducible refine rowOf_ok (by omega) (fun _ => ?_) (fun _ _ => ?_)) | (with_reducible refine towerOf_ok (by omega) (fun _ => ?_) (fun _ _ => by exfalso; omega)) | (with_reducible refine towerOf_ok (by omega) (fun _ => by exfalso; omega) (fun _ _ => ?_)) | (with_reducible refine towerOf_ok (by omega) (fun _ => ?_) (fun _ _ => ?_)) | (with_reducible refine looked_ok hR (by omega) (fun _ => ?_) (fun _ _ _ _ => by exfalso; omega) (fun _ _ _ _ _ => by exfalso; omega)) | (with_reducible refine looked_ok hR (by omega) (fun _ => by exfalso; omega) (fun _ _ _ _ => ?_) (fun _ _ _ _ _ => by exfalso; omega)) | (with_reducible refine looked_ok hR (by omega) (fun _ => by exfalso; omega) (fun _ _ _ _ => by exfalso; omega) (fun _ _ _ _ _ => ?_)) | (with_reducible refine looked_ok hR (by omega) (fun _ => ?_) (fun _ _ _ _ => ?_) (fun _ _ _ _ _ => ?_)) | (with_reducible refine askedFor_ok hR (by omega) (fun _ => ?_) (fun _ _ _ => by exfalso; omega) (fun _ _ _ => by exfalso; omega)) | (with_reducible refine askedFor_ok hR (by omega) (fun _ => by exfalso; omega) (fun _ _ _ => ?_) (fun _ _ _ => by exfalso; omega)) | (with_reducible refine askedFor_ok hR (by omega) (fun _ => by exfalso; omega) (fun _ _ _ => by exfalso; omega) (fun _ _ _ => ?_)) | (with_reducible refine askedFor_ok hR (by omega) (fun _ => ?_) (fun _ _ _ => ?_) (fun _ _ _ => ?_)) | (with_reducible refine inn_ok (by omega) (by omega) (by omega) (fun _ => ?_) (fun _ _ => by exfalso; omega)) | (with_reducible refine inn_ok (by omega) (by omega) (by omega) (fun _ => by exfalso; omega) (fun _ _ => ?_)) | (with_reducible refine inn_ok (by omega) (by omega) (by omega) (fun _ => ?_) (fun _ _ => ?_)) | (with_reducible refine isPlate_ok (by omega) (by omega) (by omega) (fun _ => ?_) (fun _ => by exfalso; omega)) | (with_reducible refine isPlate_ok (by omega) (by omega) (by omega) (fun _ => by exfalso; omega) (fun _ => ?_)) | (with_reducible refine isPlate_ok (by omega) (by omega) (by omega) (fun _ => ?_) (fun _ => ?_)) | (with_reducible refine hasPlace_ok (by omega) (by omega) (fun _ => ?_) (fun _ _ => by exfalso; omega)) | (with_reducible refine hasPlace_ok (by omega) (by omega) (fun _ => by exfalso; omega) (fun _ _ => ?_)) | (with_reducible refine hasPlace_ok (by omega) (by omega) (fun _ => ?_) (fun _ _ => ?_)) | (with_reducible refine isThere_ok (by omega) (fun _ => ?_) (fun _ => by exfalso; omega)) | (with_reducible refine isThere_ok (by omega) (fun _ => by exfalso; omega) (fun _ => ?_)) | (with_reducible refine isThere_ok (by omega) (fun _ => ?_) (fun _ => ?_)) | (with_reducible refine isDayHour_ok (by omega) (fun _ => ?_) (fun _ _ => by exfalso; omega)) | (with_reducible refine isDayHour_ok (by omega) (fun _ => by exfalso; omega) (fun _ _ => ?_)) | (with_reducible refine isDayHour_ok (by omega) (fun _ => ?_) (fun _ _ => ?_)) | (with_reducible refine isHour_ok (by omega) (fun _ => ?_) (fun _ _ => by exfalso; omega)) | (with_reducible refine isHour_ok (by omega) (fun _ => by exfalso; omega) (fun _ _ => ?_)) | (with_reducible refine isHour_ok (by omega) (fun _ => ?_) (fun _ _ => ?_)) | (with_reducible refine trainIn_ok (by omega) (fun _ => ?_) (fun _ => by exfalso; omega)) | (with_reducible refine trainIn_ok (by omega) (fun _ => by exfalso; omega) (fun _ => ?_)) | (with_reducible refine trainIn_ok (by omega) (fun _ => ?_) (fun _ => ?_)) | (with_reducible refine found_ok (by decide) (by decide) ?_) | (with_reducible refine meets_ok (by decide) (by decide) ?_) | (with_reducible refine ite_i (fun _ => ?_) (fun _ => ?_)) | (with_reducible refine all_eq ?_))
      all_goals (first | exact Lf.mk rfl (h.up hk) | exact Lf.mk rfl (h.f hk _) | exact Lf.mk (by omega) (h.up hk) | skip)
