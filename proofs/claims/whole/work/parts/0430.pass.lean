theorem sumI_up (f : Int → Int) (n v : Int) (hn : 0 ≤ n) : ∀ N : Nat, sumI (upI f n v) N = sumI f N + (if n < N then v - f n else 0) := by
  intro N
  induction N with
  | zero =>
    rw [if_neg (by omega)]
    rfl
  | succ N ih =>
    show sumI (upI f n v) N + upI f n v N = sumI f N + f N + _
    rw [ih]
    by_cases e : (N : Int) = n
    · rw [e, upI_same, if_neg (by omega), if_pos (by omega)]
      omega
    · rw [upI_ne _ e]
      by_cases e2 : n < N
      · rw [if_pos e2, if_pos (by omega)]
        omega
      · rw [if_neg e2, if_neg (by omega)]
        omega
def skR (r : MM) (n v : Int) : MM := ms (ms r 24 0 n (r 24 0 n + v)) 0 6 0 (r 0 6 0 + v)
theorem Rel.struck {bd bs bw : Int} {G : GG} {c r : MM} (hR : Rel bd bs bw G c r) {n v : Int} (n0 : 0 ≤ n) (n1 : n < r 0 10 0) (v0 : 0 ≤ v) (hw : r 24 0 n + r 20 0 n + v ≤ bw) : Rel bd bs bw G (ms c 2 8 n (c 2 8 n + v)) (skR r n v) := by
  have E10 := hR.E10
  have I6 := hR.I6
  have I13 := hR.I13
  have I14 := hR.I14
  have T0 := hR.T0
  have e10 := congrFun E10 n
  unfold skR
  rw [e10]
  refine ⟨hR.K0, hR.S1, hR.S2, hR.S3, hR.S4, hR.S5, hR.R1, hR.R2, hR.R3, hR.T0, hR.T1, hR.T2, hR.T3, hR.E1, hR.E2, hR.E3, hR.E4, hR.E5, hR.E6, hR.E7, hR.E8, hR.E9, msEq E10 _ _, hR.E11, hR.I1, hR.I2, hR.I3, hR.I4, hR.I5, ?_, hR.I7, hR.I8, hR.I9, hR.I10, hR.I11, hR.I12, ?_, ?_, hR.W1, hR.W2, hR.W3, hR.W4, hR.W5, hR.W6, hR.W7, hR.W8, hR.W9, hR.J1, hR.J2, hR.J3, hR.J4, hR.J5, hR.J6, hR.J7, hR.H1, hR.H2, hR.H3, hR.H4, hR.L1, hR.L2, hR.A1, hR.A2, hR.F1, hR.F2, hR.F3, hR.Q1, hR.Q2, hR.Q3, hR.Q4, hR.Q5, hR.Q6, hR.Q7⟩
  · intro m a b
    have q := I6 m a b
    by_cases e : m = n
    · subst e
      simp [ms] <;> omega
    · simp [ms, e] <;> omega
  · intro m h1
    have q2 := I13 m h1
    have e : m ≠ n := fun e => by subst e; exact absurd n1 (Int.not_lt.mpr h1)
    simp [ms, e] <;> omega
  · show r 0 6 0 + v = sumI (ms r 24 0 n (r 24 0 n + v) 24 0) (r 0 10 0).toNat
    rw [ms_up, sumI_up _ _ _ n0, if_pos (by omega), I14]
    omega
theorem liftP_ok {bd bs bw : Int} {G : GG} {c r : MM} (hR : Rel bd bs bw G c r) {t q n v : Int} (t0 : 0 ≤ t) (t4 : t < 4) (hq : q = 0 ∨ q = 1) (hn : r 35 0 (2 * t + q) = n) (n0 : 0 ≤ n) (hd : ∀ n, 0 ≤ n → n < r 0 10 0 → r 22 0 n / 2 = t → r 21 0 n + 24 ≤ bd) (hv : rg v) (hv0 : r 21 0 n = 0 → 0 < v) : ∃ c' r', Rel bd bs bw G c' r' ∧ Fr t 24 r r' ∧ (∀ Q : Int → MM → Prop, Q v c' → wpX8_run_J45 G Q t n v c) ∧ (∀ Q : Int → MM → Prop, Q v r' → wpX11_runs_J249 Q t q n v r) := by
  have E8 := hR.E8
  have E11 := hR.E11
  have I8 := hR.I8
  have I12 := hR.I12
  have H1 := hR.H1
  have H2 := hR.H2
  have T0 := hR.T0
  have K0 := hR.K0
  have h2 := H2 (2 * t + q) (by omega) (by omega)
  rw [hn] at h2
  have n1 : n < r 0 10 0 := by omega
  have e8 := congrFun E8 n
  have e11 := congrFun E11 n
  have i8 := I8 n n0 n1
  have i12 := I12 n n0 n1
  have h1 := H1 t t0 t4
  have h2a := H2 (2 * t) (by omega) (by omega)
  have h2b := H2 (2 * t + 1) (by omega) (by omega)
  have sg := silR_rng hR t0 t4
  unfold wpX8_run_J45 wpX11_runs_J249
  by_cases z : r 21 0 n = 0
  · rcases hq with rfl | rfl
    · rw [Int.add_zero] at hn h2
      have ne : n ≠ c 3 7 t := by
        intro e
        have e2 : r 35 0 (2 * t + 1) = n := by omega
        rw [e2] at h2b
        omega
      exact ⟨c, r, hR, Fr.refl t (by decide) r, fun Q h => ⟨by omega, ite_p (by omega) ⟨by omega, ite_n ne h⟩⟩, fun Q h => ⟨by omega, ite_p rfl h⟩⟩
    · have ne : n = c 3 7 t := by omega
      by_cases z2 : r 25 0 n = 0
      · exact ⟨c, r, hR, Fr.refl t (by decide) r, fun Q h => ⟨by omega, ite_p (by omega) ⟨by omega, ite_p ne ⟨by omega, ite_p (by omega) h⟩⟩⟩, fun Q h => ⟨by omega, ite_n (by decide) ⟨by omega, ite_i (fun _ => h) (fun _ => ⟨n0, by omega, by omega, ite_p z ⟨by omega, ite_p z2 h⟩⟩)⟩⟩⟩
      · have hv1 := hv0 z
        unfold wpX8_liftHour
        by_cases z3 : r 35 0 (2 * t) < 0
        · exact ⟨c, r, hR, Fr.refl t (by decide) r, fun Q h => ⟨by omega, ite_p (by omega) ⟨by omega, ite_p ne ⟨by omega, ite_n (by omega) (ite_p (by omega) h)⟩⟩⟩, fun Q h => ⟨by omega, ite_n (by decide) ⟨by omega, ite_i (fun _ => h) (fun _ => ⟨n0, by omega, by omega, ite_p z ⟨by omega, ite_n z2 ⟨by omega, by omega, by omega, ite_p z3 h⟩⟩⟩)⟩⟩⟩
        · by_cases z4 : silR t r = 2
          · exact ⟨c, r, hR, Fr.refl t (by decide) r, fun Q h => ⟨by omega, ite_p (by omega) ⟨by omega, ite_p ne ⟨by omega, ite_n (by omega) (ite_n (by omega) ⟨by omega, silenceNow_ok hR t0 t4 ⟨by omega, ite_p z4 h⟩⟩)⟩⟩⟩, fun Q h => ⟨by omega, ite_n (by decide) ⟨by omega, ite_i (fun _ => h) (fun _ => ⟨n0, by omega, by omega, ite_p z ⟨by omega, ite_n z2 ⟨by omega, by omega, by omega, ite_n z3 (silenceOf_ok hR t0 t4 ⟨by omega, ite_p z4 h⟩)⟩⟩⟩)⟩⟩⟩
          · have j := hR.J2 t t0 t4
            have sr := stepQ_rng r t 0 j.1 j.2
            have m0 : 0 ≤ r 35 0 (2 * t) := by omega
            have m1 : r 35 0 (2 * t) < r 0 10 0 := by omega
            have hL := hR.letOff m0 m1 (stepQ r t 0) 0 sr.1 (hd _ m0 m1 (by omega))
            have hF := Fr.letOff (t := t) (n := r 35 0 (2 * t)) (x := stepQ r t 0) (q := 0) (r := r) (lgD_rng hR m0 m1 _ sr.1).2 (by omega)
            have ec : c 3 6 t = r 35 0 (2 * t) := by omega
            refine ⟨loC c r t (r 35 0 (2 * t)) 0, loR r t (r 35 0 (2 * t)) 0, hL, hF, fun Q h => ⟨by omega, ite_p (by omega) ⟨by omega, ite_p ne ⟨by omega, ite_n (by omega) (ite_n (by omega) ⟨by omega, silenceNow_ok hR t0 t4 ⟨by omega, ite_n z4 ⟨by omega, by omega, ?_⟩⟩⟩)⟩⟩⟩, fun Q h => ⟨by omega, ite_n (by decide) ⟨by omega, ite_n (by omega) ⟨n0, by omega, by omega, ite_p z ⟨by omega, ite_n z2 ⟨by omega, by omega, by omega, ite_n z3 (silenceOf_ok hR t0 t4 ⟨by omega, ite_n z4 (offGoes_ok hR t0 t4 (Or.inl rfl) (by rw [Int.add_zero]) m0 h)⟩)⟩⟩⟩⟩⟩⟩
            rw [ec]
            exact byHands_ok hR t0 t4 (Or.inl rfl) m0 m1 h
  · exact ⟨c, r, hR, Fr.refl t (by decide) r, fun Q h => ⟨by omega, ite_n (by omega) h⟩, fun Q h => ⟨by omega, ite_i (fun _ => h) (fun _ => ⟨by omega, ite_i (fun _ => h) (fun _ => ⟨n0, by omega, by omega, ite_n z h⟩)⟩)⟩⟩
theorem skR_fr (t : Int) (r : MM) (n v : Int) : Fr t 0 r (skR r n v) := ⟨rfl, rfl, rfl, rfl, rfl, rfl, rfl, fun _ _ => rfl, fun m => (by show r 21 0 m ≤ r 21 0 m + 0; omega)⟩
theorem run_ok {bd bs bw : Int} {G : GG} {c r : MM} (hR : Rel bd bs bw G c r) {t q n mC mR : Int} (t0 : 0 ≤ t) (t4 : t < 4) (hq : q = 0 ∨ q = 1) (hn : r 35 0 (2 * t + q) = n) (n0 : 0 ≤ n) (hC : rg mC) (hM : rg mR) (hmost : mC = mR ∨ (r 21 0 n ≤ mC ∧ r 21 0 n ≤ mR)) (hd : ∀ n, 0 ≤ n → n < r 0 10 0 → r 22 0 n / 2 = t → r 21 0 n + 24 ≤ bd) : ∃ c' r' v, Rel bd bs bw G c' r' ∧ Fr t 24 r r' ∧ (∀ Q : Int → MM → Prop, Q v c' → wpX8_run G t n mC (c 0 4 0) c Q) ∧ (∀ Q : Int → MM → Prop, Q v r' → wpX11_runs t q mR r Q) := by
  have E8 := hR.E8
  have I6 := hR.I6
  have I12 := hR.I12
  have H2 := hR.H2
  have T0 := hR.T0
  have K0 := hR.K0
  have S4 := hR.S4
  have h2 := H2 (2 * t + q) (by omega) (by omega)
  rw [hn] at h2
  have n1 : n < r 0 10 0 := by omega
  have hnt : 0 ≤ r 22 0 n ∧ r 22 0 n / 2 = t := by omega
  have e8 := congrFun E8 n
  have i12 := I12 n n0 n1
  have i6 := I6 n n0 n1
  have sg := silR_rng hR t0 t4
  by_cases zd : r 21 0 n = 0
  · have es : skR r n 0 = r := by
      unfold skR
      rw [Int.add_zero, Int.add_zero, ms_self (show r 24 0 n = r 24 0 n from rfl), ms_self rfl]
    refine ⟨c, r, 0, hR, Fr.refl t (by decide) r, fun Q h => ⟨by omega, ite_p (by omega) h⟩, fun Q h => ?_⟩
    have fin : ∀ mute : Int, wpX11_runs_J26 Q t q mR n mute r := fun mute => by
      refine ⟨1, n0, by omega, by omega, ite_p (by omega) ⟨n0, by omega, all_eq (all_eq ⟨by omega, ite_p (by omega) ?_⟩)⟩⟩
      show wpX11_runs_J249 Q t q n 0 (skR r n 0)
      rw [es]
      exact ⟨by omega, ite_i (fun _ => h) (fun _ => ⟨by omega, ite_p (by omega) h⟩)⟩
    unfold wpX11_runs
    refine placeOf_ok hq ⟨by omega, by omega, silenceOf_ok hR t0 t4 ⟨by omega, ?_⟩⟩
    rw [hn]
    exact ite_i (fun _ => fin 1) (fun _ => fin 0)
  obtain ⟨mute, hmu⟩ : ∃ mute : Int, mute = if silR t r = 1 then 1 else 0 := ⟨_, rfl⟩
  have hmu01 : mute = 0 ∨ mute = 1 := by rw [hmu]; split <;> omega
  obtain ⟨c1, r1, y6, y7, y8, a1, a2, a3, a4, a5, a6, a7, a8, a9⟩ := strikes_ok (t := t) (q := q) hC hM hmu01 n0 (r 21 0 n).toNat 0 0 0 (ms (ms c 2 12 n 0) 2 13 n 0) r (hR.heard n 0 0) n1 hnt (by omega) (by decide) (by decide) (by decide) (by omega) (by decide) (ms_at _ _ _ _ _) (ms_at _ _ _ _ _) (by omega)
  have p1 : n < r1 0 10 0 := by rw [a7.2.2.2.1]; exact n1
  have f24 : r1 24 0 n = r 24 0 n := congrFun a6.1 n
  have hS := a1.struck (v := y6) n0 p1 (by omega) (by omega)
  have i1' := a1.I12 n n0 p1
  have fS := skR_fr t r1 n y6
  -- the log
  obtain ⟨c2, r2, b1, b2, b3, b4, b5⟩ : ∃ c2 r2, Rel bd bs bw G c2 r2 ∧ Fr t 0 (skR r1 n y6) r2 ∧ r2 21 0 n = r1 21 0 n ∧ (∀ Q : Int → MM → Prop, wpX8_run_J45 G Q t n y6 c2 → (rg (ms c1 2 8 n (c1 2 8 n + y6) 2 12 n) ∧ (if (ms c1 2 8 n (c1 2 8 n + y6) 2 12 n) ≤ 0 then (wpX8_run_J45 G Q t n y6 (ms c1 2 8 n (c1 2 8 n + y6))) else (wpX3_add G t (c 0 4 0) n (ms c1 2 8 n (c1 2 8 n + y6)) (fun v5 μ6 => wpX8_run_J45 G Q t n y6 μ6))))) ∧ (∀ Q : Int → MM → Prop, wpX11_runs_J249 Q t q n y6 r2 → wpX11_runs_J210 Q t q n y6 y7 y8 r1) := by
    have k12 : ms c1 2 8 n (c1 2 8 n + y6) 2 12 n = y7 := a2
    have k13 : ms c1 2 8 n (c1 2 8 n + y6) 2 13 n = y8 := a3
    have l1 := hS.L1 t t0 t4
    have now1 : skR r1 n y6 0 5 0 = c 0 4 0 := (show r1 0 5 0 = c 0 4 0 by rw [a7.2.2.2.2.1, S4])
    rw [k12]
    by_cases z : y7 ≤ 0
    · exact ⟨_, _, hS, Fr.refl t (by decide) _, rfl, fun Q h => ⟨by omega, ite_p z h⟩, fun Q h => ⟨n0, by omega, all_eq (all_eq ⟨by omega, ite_p z h⟩)⟩⟩
    · have hL := hS.log (n := n) (x7 := y7) (x8 := y8) t0 t4 (by omega) (by omega) a4.2.2.2
      refine ⟨_, _, hL, wlR_fr _ _ _ _ _, ?_, fun Q h => ⟨by omega, ite_n z (add_ok (by omega) (by omega) (by omega) (by omega) ?_)⟩, fun Q h => ⟨n0, by omega, all_eq (all_eq ⟨by omega, ite_n z (writeLog_ok t0 t4 l1.1.1 l1.1.2 h)⟩)⟩⟩
      · unfold wlR
        split <;> rfl
      · rw [k12, k13, ← now1]
        exact h
  have fr2 : Fr t 0 r r2 := ((a7.trans fS).trans b2).mono (by omega)
  have e35 : r2 35 0 (2 * t + q) = n := by rw [fr2.2.1]; exact hn
  obtain ⟨c3, r3, d1, d2, d3, d4⟩ := liftP_ok b1 (v := y6) t0 t4 hq e35 n0 (fun m z1 z2 z3 => by have := fr2.hd hd m z1 z2 z3; omega) (by omega) (fun z => by omega)
  refine ⟨c3, r3, y6, d1, (fr2.trans d2).mono (by omega), fun Q h => ?_, fun Q h => ?_⟩
  · have k := a8 (fun v1 μ2 => rg (μ2 2 12 n) ∧ (if (μ2 2 12 n) ≤ 0 then (wpX8_run_J45 G Q t n v1 μ2) else (wpX3_add G t (c 0 4 0) n μ2 (fun v5 μ6 => wpX8_run_J45 G Q t n v1 μ6)))) (all_eq (b4 Q (d3 Q h)))
    unfold wpX8_run wpX8_run_J24 wpX9_strike
    refine ⟨by omega, ite_n (by omega) (silenceNow_ok hR t0 t4 ⟨by omega, ite_i (fun z => all_eq (all_eq ⟨(r 21 0 n).toNat + 1, ?_⟩)) (fun z => all_eq (all_eq ⟨(r 21 0 n).toNat + 1, ?_⟩))⟩)⟩
    · rw [hmu, if_pos z] at k
      exact k
    · rw [hmu, if_neg z] at k
      exact k
  · have k := a9 Q (b5 Q (d4 Q h))
    unfold wpX11_runs wpX11_runs_J26
    refine placeOf_ok hq ⟨by omega, by omega, silenceOf_ok hR t0 t4 ⟨by omega, ?_⟩⟩
    rw [hn]
    refine ite_i (fun z => ⟨(r 21 0 n).toNat + 1, ?_⟩) (fun z => ⟨(r 21 0 n).toNat + 1, ?_⟩)
    · rw [hmu, if_pos z] at k
      exact k
    · rw [hmu, if_neg z] at k
      exact k
theorem rel_runOut {k : Int} {G : GG} {c r : MM} (h : RelK k G c r) (hk : k < 512) (x1 : Int) (h1 : rg x1) (x2 : Int) (h2 : x2 = 0 ∨ x2 = 1) : wpX10_runOut G x1 x2 c (fun v c' => wpX11_runOut x1 x2 r (fun v' r' => Lf v v' (RelK (k + 1) G c' r'))) := by
  have hR := h.2
  unfold wpX10_runOut wpX10_runOut_J31 wpX11_runOut
  refine towerOf_ok h1 (fun hx => ?_) (fun a b => ?_)
  · repeat' (first | (with_reducible refine ⟨by omega, ?_⟩) | (with_reducible refine ite_p (by omega) ?_) | (with_reducible refine ite_n (by omega) ?_) | (with_reducible refine askedPlace_ok hR (by omega) (by omega) (fun _ => ?_) (fun _ _ _ => by exfalso; omega) (fun _ _ _ _ => by exfalso; omega)) | (with_reducible refine askedPlace_ok hR (by omega) (by omega) (fun _ => by exfalso; omega) (fun _ _ _ => ?_) (fun _ _ _ _ => by exfalso; omega)) | (with_reducible refine askedPlace_ok hR (by omega) (by omega) (fun _ => by exfalso; omega) (fun _ _ _ => by exfalso; omega) (fun _ _ _ _ => ?_)) | (with_reducible refine askedPlace_ok hR (by omega) (by omega) (fun _ => ?_) (fun _ _ _ => ?_) (fun _ _ _ _ => ?_)) | (with_reducible refine ite_i (fun _ => ?_) (fun _ => ?_)) | (with_reducible refine all_eq ?_))
    all_goals (first | exact Lf.mk rfl (h.up hk) | exact Lf.mk rfl (h.f hk _) | exact Lf.mk (by omega) (h.up hk) | skip)
  · have W1 := hR.W1
    have J1 := hR.J1
    have H1 := hR.H1
    have H2 := hR.H2
    have T0 := hR.T0
    have E8 := hR.E8
    have w1_x1 := congrFun W1 x1
    have j1 := J1 x1 a b
    have k1 := H1 x1 a b
    have kp := H2 (2 * x1 + x2) (by omega) (by omega)
    have hNo : r 26 0 x1 = 0 ∨ r 35 0 (2 * x1 + x2) < 0 → wpX11_askedPlace x1 x2 r (fun v1 μ2 => rg v1 ∧ (if 0 ≤ v1 then (wpX11_runs x1 x2 2147483647 μ2 (fun v5 μ6 => Lf (-3) v5 (RelK (k + 1) G (fC 1 c) μ6))) else (Lf (-3) v1 (RelK (k + 1) G (fC 1 c) μ2)))) := fun z => askedPlace_ok hR h1 h2 (fun _ => by exfalso; omega) (fun _ _ _ => ⟨by omega, ite_n (by omega) (Lf.mk rfl (h.f hk _))⟩) (fun _ _ z2 z3 => by exfalso; omega)
    have hYes : r 26 0 x1 = 1 → ∀ n, r 35 0 (2 * x1 + x2) = n → 0 ≤ n → wpX8_run G x1 n (c 2 7 n) (c 0 4 0) c (fun v13 μ14 => wpX11_askedPlace x1 x2 r (fun v1 μ2 => rg v1 ∧ (if 0 ≤ v1 then (wpX11_runs x1 x2 2147483647 μ2 (fun v5 μ6 => Lf v13 v5 (RelK (k + 1) G μ14 μ6))) else (Lf v13 v1 (RelK (k + 1) G μ14 μ2))))) := fun e n hn n0 => by
      rw [hn] at kp
      have n1 : n < r 0 10 0 := by omega
      have h' := h.up hk
      have i12 := hR.I12 n n0 n1
      have e8 := congrFun E8 n
      obtain ⟨c', r', v, b1, b2, b3, b4⟩ := run_ok (mC := c 2 7 n) (mR := 2147483647) h'.2 a b h2 hn n0 (by omega) (by omega) (by omega) (fun m z1 z2 z3 => by have := hR.I12 m z1 z2; omega)
      refine b3 _ (askedPlace_ok hR h1 h2 (fun _ => by exfalso; omega) (fun _ _ z => by exfalso; omega) (fun _ _ _ _ => ⟨by omega, ite_p (by omega) (b4 _ (Lf.mk rfl ⟨h'.1, b1⟩))⟩))
    refine ite_n (by omega) ⟨b, trainIn_ok h2 (fun e => ⟨by omega, ite_i (fun e2 => ?_) (fun e2 => ?_)⟩) (fun e => ⟨by omega, ite_i (fun e2 => ?_) (fun e2 => ?_)⟩)⟩
    · exact found_ok (by decide) (by decide) (hNo (by omega))
    · subst e
      rw [Int.add_zero] at hNo hYes kp
      refine ite_i (fun e3 => found_ok (by decide) (by decide) (hNo (by omega))) (fun e3 => ⟨by omega, ?_⟩)
      exact hYes (by omega) (c 3 6 x1) (by omega) (by omega)
    · exact found_ok (by decide) (by decide) (hNo (by omega))
    · subst e
      refine ite_i (fun e3 => found_ok (by decide) (by decide) (hNo (by omega))) (fun e3 => ⟨by omega, ?_⟩)
      exact hYes (by omega) (c 3 7 x1) (by omega) (by omega)
