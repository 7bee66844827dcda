def Fm (t e : Int) (r r' : MM) : Prop := r' 22 0 = r 22 0 ∧ r' 35 0 = r 35 0 ∧ r' 26 0 = r 26 0 ∧ r' 0 10 0 = r 0 10 0 ∧ r' 0 5 0 = r 0 5 0 ∧ (∀ t', t' ≠ t → r' 29 0 t' = r 29 0 t' ∧ r' 30 0 t' = r 30 0 t') ∧ (∀ m, r 22 0 m < 0 ∨ r 22 0 m / 2 ≠ t → r' 21 0 m = r 21 0 m) ∧ (∀ m, r' 21 0 m ≤ r 21 0 m + e)
theorem Fr.fm {t e : Int} {r r' : MM} (h : Fr t e r r') : Fm t e r r' := ⟨h.1, h.2.1, h.2.2.1, h.2.2.2.1, h.2.2.2.2.1, fun t' _ => ⟨congrFun h.2.2.2.2.2.1 t', congrFun h.2.2.2.2.2.2.1 t'⟩, h.2.2.2.2.2.2.2.1, h.2.2.2.2.2.2.2.2⟩
theorem Fm.trans {t e e' : Int} {r r1 r2 : MM} (h : Fm t e r r1) (h' : Fm t e' r1 r2) : Fm t (e + e') r r2 := by
  obtain ⟨a1, a2, a3, a4, a5, a6, a8, a9⟩ := h
  obtain ⟨b1, b2, b3, b4, b5, b6, b8, b9⟩ := h'
  refine ⟨b1.trans a1, b2.trans a2, b3.trans a3, b4.trans a4, b5.trans a5, fun t' ht => ⟨(b6 t' ht).1.trans (a6 t' ht).1, (b6 t' ht).2.trans (a6 t' ht).2⟩, fun m hm => ?_, fun m => ?_⟩
  · rw [b8 m (by rw [a1]; exact hm), a8 m hm]
  · have := a9 m
    have := b9 m
    omega
theorem Fm.mono {t e e' : Int} {r r' : MM} (h : Fm t e r r') (he : e ≤ e') : Fm t e' r r' := by
  obtain ⟨a1, a2, a3, a4, a5, a6, a8, a9⟩ := h
  exact ⟨a1, a2, a3, a4, a5, a6, a8, fun m => by have := a9 m; omega⟩
theorem Fm.hd {bd t e e' : Int} {r r' : MM} (h : Fm t e r r') (hd : ∀ n, 0 ≤ n → n < r 0 10 0 → r 22 0 n / 2 = t → r 21 0 n + e' ≤ bd) : ∀ n, 0 ≤ n → n < r' 0 10 0 → r' 22 0 n / 2 = t → r' 21 0 n + (e' - e) ≤ bd := by
  intro n a b d
  rw [h.2.2.2.1] at b
  rw [h.1] at d
  have k := hd n a b d
  have k2 := h.2.2.2.2.2.2.2 n
  omega
theorem Rel.sums {bd bs bw : Int} {G : GG} {c r : MM} (hR : Rel bd bs bw G c r) {t s g : Int} (s0 : 0 ≤ s) (s1 : s ≤ bs) (g0 : 0 ≤ g) (g1 : g ≤ 100000) : Rel bd bs bw G (ms (ms c 3 3 t s) 3 4 t g) (ms (ms r 30 0 t s) 29 0 t g) := by
  have W4 := hR.W4
  have W5 := hR.W5
  have J4 := hR.J4
  have J5 := hR.J5
  refine ⟨hR.K0, hR.S1, hR.S2, hR.S3, hR.S4, hR.S5, hR.R1, hR.R2, hR.R3, hR.T0, hR.T1, hR.T2, hR.T3, hR.E1, hR.E2, hR.E3, hR.E4, hR.E5, hR.E6, hR.E7, hR.E8, hR.E9, hR.E10, hR.E11, hR.I1, hR.I2, hR.I3, hR.I4, hR.I5, hR.I6, hR.I7, hR.I8, hR.I9, hR.I10, hR.I11, hR.I12, hR.I13, hR.I14, hR.W1, hR.W2, hR.W3, msEq W4 _ _, msEq W5 _ _, hR.W6, hR.W7, hR.W8, hR.W9, hR.J1, hR.J2, hR.J3, ?_, ?_, hR.J6, hR.J7, hR.H1, hR.H2, hR.H3, hR.H4, hR.L1, hR.L2, hR.A1, hR.A2, hR.F1, hR.F2, hR.F3, hR.Q1, hR.Q2, hR.Q3, hR.Q4, hR.Q5, hR.Q6, hR.Q7⟩
  · intro z a b
    have q := J4 z a b
    by_cases e : z = t
    · subst e
      simp [ms] <;> omega
    · simp [ms, e] <;> omega
  · intro z a b
    have q := J5 z a b
    by_cases e : z = t
    · subst e
      simp [ms] <;> omega
    · simp [ms, e] <;> omega
theorem sums_fm (r : MM) (t s g : Int) : Fm t 0 r (ms (ms r 30 0 t s) 29 0 t g) := by
  refine ⟨rfl, rfl, rfl, rfl, rfl, fun t' h => ?_, fun _ _ => rfl, fun m => ?_⟩
  · simp [ms, h]
  · show r 21 0 m ≤ r 21 0 m + 0
    omega
set_option maxRecDepth 100000 in
theorem minL_loop {bd bs bw : Int} {G : GG} {t now : Int} (t0 : 0 ≤ t) (t4 : t < 4) : ∀ (m : Nat) (c r : MM), Rel bd bs bw G c r → r 30 0 t < 86400 * (m + 1) → (∀ n, 0 ≤ n → n < r 0 10 0 → r 22 0 n / 2 = t → r 21 0 n + 24 * m ≤ bd) →
    ∃ c' r', Rel bd bs bw G c' r' ∧ Fm t (24 * m) r r' ∧ (r' 30 0 t < 86400 ∨ r' 29 0 t = 0) ∧ r' 29 0 t ≤ r 29 0 t ∧ r' 30 0 t = r 30 0 t - 86400 * (r 29 0 t - r' 29 0 t) ∧ (∀ Q : Int → MM → Prop, wpX8_minute_J74 G Q t now c' → wpX8_minute_L30 G Q (m + 1) t now c) ∧ (∀ Q : Int → MM → Prop, wpX11_minuteOf_J85 Q t r' → wpX11_minuteOf_L36 Q (m + 1) t r) := by
  intro m
  induction m with
  | zero =>
    intro c r hR hs hd
    have W5 := hR.W5
    have J5 := hR.J5
    have K0 := hR.K0
    have w5 := congrFun W5 t
    have j5 := J5 t t0 t4
    exact ⟨c, r, hR, (Fr.refl t (by decide) r).fm, by omega, by omega, by omega, fun Q h => ⟨by omega, ite_p (by omega) h⟩, fun Q h => ⟨t0, t4, by omega, ite_p (by omega) h⟩⟩
  | succ m ih =>
    intro c r hR hs hd
    have W4 := hR.W4
    have W5 := hR.W5
    have J4 := hR.J4
    have J5 := hR.J5
    have K0 := hR.K0
    have w4 := congrFun W4 t
    have w5 := congrFun W5 t
    have j4 := J4 t t0 t4
    have j5 := J5 t t0 t4
    by_cases z : r 30 0 t < 86400 ∨ r 29 0 t ≤ 0
    · exact ⟨c, r, hR, (Fr.refl t (by omega) r).fm, by omega, by omega, by omega, fun Q h => ⟨by omega, ite_i (fun _ => h) (fun _ => ⟨by omega, ite_p (by omega) h⟩)⟩, fun Q h => ⟨t0, t4, by omega, ite_i (fun _ => h) (fun _ => ⟨by omega, ite_p (by omega) h⟩)⟩⟩
    · have hS := hR.sums (t := t) (s := r 30 0 t - 86400) (g := r 29 0 t - 1) (by omega) (by omega) (by omega) (by omega)
      have fS := sums_fm r t (r 30 0 t - 86400) (r 29 0 t - 1)
      obtain ⟨c1, r1, a1, a2, a3, a4⟩ := step_ok hS t0 t4 (fun n z1 z2 z3 => by have := fS.hd hd n z1 z2 z3; omega)
      have f30 : r1 30 0 t = r 30 0 t - 86400 := by
        rw [a2.2.2.2.2.2.2.1]
        exact ms_at _ _ _ _ _
      have f29 : r1 29 0 t = r 29 0 t - 1 := by
        rw [a2.2.2.2.2.2.1]
        exact ms_at _ _ _ _ _
      have fr1 := fS.trans a2.fm
      obtain ⟨c2, r2, b1, b2, b3, b4, b5, b6, b7⟩ := ih c1 r1 a1 (by omega) (fun n z1 z2 z3 => by have := fr1.hd hd n z1 z2 z3; omega)
      refine ⟨c2, r2, b1, (fr1.trans b2).mono (by omega), b3, by omega, by omega, fun Q h => ⟨by omega, ite_n (by omega) ⟨by omega, ite_n (by omega) (all_eq (all_eq ?_))⟩⟩, fun Q h => ⟨t0, t4, by omega, ite_n (by omega) ⟨by omega, ite_n (by omega) (all_eq (all_eq ?_))⟩⟩⟩
      · have e1 : ms c 3 3 t (c 3 3 t - 86400) 3 4 t = r 29 0 t := w4
        rw [e1, w5]
        exact a3 _ (b6 Q h)
      · exact a4 _ (b7 Q h)
theorem runs2_ok {bd bs bw : Int} {G : GG} {c r : MM} (hR : Rel bd bs bw G c r) {t : Int} (t0 : 0 ≤ t) (t4 : t < 4) (hd : ∀ n, 0 ≤ n → n < r 0 10 0 → r 22 0 n / 2 = t → r 21 0 n + 48 ≤ bd) : ∃ c' r', Rel bd bs bw G c' r' ∧ Fr t 48 r r' ∧ (∀ Q : Int → MM → Prop, Q 0 c' → wpX8_minute_J74 G Q t (c 0 4 0) c) ∧ (∀ Q : Int → MM → Prop, Q 0 r' → wpX11_minuteOf_J85 Q t r) := by
  have one : ∀ (q : Int) (c r : MM), Rel bd bs bw G c r → q = 0 ∨ q = 1 → (∀ n, 0 ≤ n → n < r 0 10 0 → r 22 0 n / 2 = t → r 21 0 n + 24 ≤ bd) → ∃ c' r', Rel bd bs bw G c' r' ∧ Fr t 24 r r' ∧ (∀ Q : MM → Prop, Q c' → ∀ p : Int, (p < 0 ∧ r 35 0 (2 * t + q) < 0) ∨ (p = r 35 0 (2 * t + q) ∧ 0 ≤ p) → (if p < 0 then Q c else (p < G 0 0 ∧ wpX8_run G t p (c 2 3 p) (c 0 4 0) c (fun _ μ => Q μ)))) ∧ (∀ Q : MM → Prop, Q r' → (rg (r 35 0 (2 * t + q)) ∧ (if (r 35 0 (2 * t + q)) < 0 then Q r else (0 ≤ (r 35 0 (2 * t + q)) ∧ (r 35 0 (2 * t + q) < 16 ∧ wpX11_runs t q (r 18 0 (r 35 0 (2 * t + q))) r (fun _ μ => Q μ)))))) := by
    intro q c r hR hq hd
    have H2 := hR.H2
    have T0 := hR.T0
    have E5 := hR.E5
    have I4 := hR.I4
    have h2 := H2 (2 * t + q) (by omega) (by omega)
    by_cases z : r 35 0 (2 * t + q) < 0
    · exact ⟨c, r, hR, Fr.refl t (by decide) r, fun Q h p hp => ite_p (by omega) h, fun Q h => ⟨by omega, ite_p z h⟩⟩
    · have i4 := I4 (r 35 0 (2 * t + q)) (by omega) (by omega)
      have e5 := congrFun E5 (r 35 0 (2 * t + q))
      obtain ⟨c', r', v, b1, b2, b3, b4⟩ := run_ok (mC := c 2 3 (r 35 0 (2 * t + q))) (mR := r 18 0 (r 35 0 (2 * t + q))) hR t0 t4 hq rfl (by omega) (by omega) (by omega) (Or.inl e5) hd
      refine ⟨c', r', b1, b2, fun Q h p hp => ?_, fun Q h => ⟨by omega, ite_n z ⟨by omega, by omega, b4 _ h⟩⟩⟩
      have ep : p = r 35 0 (2 * t + q) := by omega
      subst ep
      exact ite_n z ⟨by omega, b3 _ h⟩
  obtain ⟨c1, r1, a1, a2, a3, a4⟩ := one 1 c r hR (Or.inr rfl) (fun n z1 z2 z3 => by have := hd n z1 z2 z3; omega)
  obtain ⟨c2, r2, b1, b2, b3, b4⟩ := one 0 c1 r1 a1 (Or.inl rfl) (fun n z1 z2 z3 => by have := a2.hd hd n z1 z2 z3; omega)
  have k1 := hR.H1 t t0 t4
  have k2 := a1.H1 t t0 t4
  have now1 : c1 0 4 0 = c 0 4 0 := by rw [a1.S4, a2.2.2.2.2.1, hR.S4]
  rw [Int.add_zero] at b3 b4
  refine ⟨c2, r2, b1, (a2.trans b2).mono (by omega), fun Q h => ?_, fun Q h => ?_⟩
  · have m2 : wpX8_minute_J98 G Q t (c 0 4 0) c1 := by
      have := b3 (fun μ => Q 0 μ) h (c1 3 6 t) (by omega)
      rw [now1] at this
      exact this
    exact a3 (fun μ => wpX8_minute_J98 G Q t (c 0 4 0) μ) m2 (c 3 7 t) (by omega)
  · have l0 : ∀ μ : MM, Q 0 μ → wpX11_minuteOf_L87 Q 1 t (-1) μ := fun μ h => ⟨by decide, ite_p (by decide) h⟩
    have l1 : wpX11_minuteOf_L87 Q 2 t 0 r1 := by
      have k := b4 (fun μ => wpX11_minuteOf_L87 Q 1 t (-1) μ) (l0 r2 h)
      refine ⟨by decide, ite_n (by decide) ?_⟩
      unfold wpX11_minuteOf_J116
      rw [Int.add_zero]
      refine ⟨by omega, by omega, k.1, ?_⟩
      have k2 := k.2
      by_cases z : r1 35 0 (2 * t) < 0
      · rw [if_pos z] at k2
        exact ite_p z k2
      · rw [if_neg z] at k2
        exact ite_n z (ite_n (by decide) ⟨by omega, by omega, k2.1, k2.2.1, k2.2.2⟩)
    have k := a4 (fun μ => wpX11_minuteOf_L87 Q 2 t 0 μ) l1
    refine ⟨3, by decide, ite_n (by decide) ⟨by omega, by omega, k.1, ?_⟩⟩
    have k2 := k.2
    by_cases z : r 35 0 (2 * t + 1) < 0
    · rw [if_pos z] at k2
      exact ite_p z k2
    · rw [if_neg z] at k2
      exact ite_n z (ite_p rfl ⟨by omega, by omega, k2.1, k2.2.1, k2.2.2⟩)
theorem minute_ok {bd bs bw : Int} {G : GG} {c r : MM} (hR : Rel bd bs bw G c r) {t B : Int} (t0 : 0 ≤ t) (t4 : t < 4) (hB0 : 86400 ≤ B) (hB1 : B ≤ 1950000) (hBs : B + 90000 ≤ bs) (hs : (r 29 0 t = 0 ∧ r 30 0 t ≤ B + 3600) ∨ r 30 0 t ≤ B) (hd : ∀ n, 0 ≤ n → n < r 0 10 0 → r 22 0 n / 2 = t → r 21 0 n + 624 ≤ bd) : ∃ c' r', Rel bd bs bw G c' r' ∧ Fm t 624 r r' ∧ ((r' 29 0 t = 0 ∧ r' 30 0 t ≤ B + 3600) ∨ r' 30 0 t ≤ B) ∧ (∀ Q : Int → MM → Prop, Q 0 c' → wpX8_minute G t (c 0 4 0) c Q) ∧ (∀ Q : Int → MM → Prop, Q 0 r' → wpX11_minuteOf t r Q) := by
  have W3 := hR.W3
  have W4 := hR.W4
  have W5 := hR.W5
  have W6 := hR.W6
  have J3 := hR.J3
  have J4 := hR.J4
  have J5 := hR.J5
  have J6 := hR.J6
  have K0 := hR.K0
  have w3 := congrFun W3 t
  have w4 := congrFun W4 t
  have w5 := congrFun W5 t
  have w6 := congrFun W6 t
  have j3 := J3 t t0 t4
  have j4 := J4 t t0 t4
  have j5 := J5 t t0 t4
  have j6 := J6 t t0 t4
  by_cases z : r 31 0 t = 0 ∨ r 29 0 t ≤ 0
  · obtain ⟨c', r', a1, a2, a3, a4⟩ := runs2_ok hR t0 t4 (fun n z1 z2 z3 => by have := hd n z1 z2 z3; omega)
    have f30 : r' 30 0 t = r 30 0 t := congrFun a2.2.2.2.2.2.2.1 t
    have f29 : r' 29 0 t = r 29 0 t := congrFun a2.2.2.2.2.2.1 t
    exact ⟨c', r', a1, a2.fm.mono (by omega), by omega, fun Q h => ⟨by omega, ite_i (fun _ => a3 Q h) (fun _ => ⟨by omega, ite_p (by omega) (a3 Q h)⟩)⟩, fun Q h => ⟨t0, t4, by omega, ite_i (fun _ => a4 Q h) (fun _ => ⟨by omega, ite_p (by omega) (a4 Q h)⟩)⟩⟩
  · have hS := hR.sums (t := t) (s := r 30 0 t + (86400 + r 28 0 t)) (g := r 29 0 t) (by omega) (by omega) (by omega) (by omega)
    have fS := sums_fm r t (r 30 0 t + (86400 + r 28 0 t)) (r 29 0 t)
    have ec : ms (ms c 3 3 t (r 30 0 t + (86400 + r 28 0 t))) 3 4 t (r 29 0 t) = ms c 3 3 t (r 30 0 t + (86400 + r 28 0 t)) := ms_self w4
    have er : ms (ms r 30 0 t (r 30 0 t + (86400 + r 28 0 t))) 29 0 t (r 29 0 t) = ms r 30 0 t (r 30 0 t + (86400 + r 28 0 t)) := ms_self rfl
    rw [ec, er] at hS
    rw [er] at fS
    have s30 : ms r 30 0 t (r 30 0 t + (86400 + r 28 0 t)) 30 0 t = r 30 0 t + (86400 + r 28 0 t) := ms_at _ _ _ _ _
    have s29 : ms r 30 0 t (r 30 0 t + (86400 + r 28 0 t)) 29 0 t = r 29 0 t := rfl
    obtain ⟨c1, r1, a1, a2, a3, a4, a5, a6, a7⟩ := minL_loop (now := c 0 4 0) t0 t4 24 _ _ hS (by omega) (fun n z1 z2 z3 => by have := fS.hd hd n z1 z2 z3; omega)
    have fr1 := fS.trans a2
    have now1 : c1 0 4 0 = c 0 4 0 := by rw [a1.S4, fr1.2.2.2.2.1, hR.S4]
    obtain ⟨c2, r2, b1, b2, b3, b4⟩ := runs2_ok a1 t0 t4 (fun n z1 z2 z3 => by have := fr1.hd hd n z1 z2 z3; omega)
    have f30 : r2 30 0 t = r1 30 0 t := congrFun b2.2.2.2.2.2.2.1 t
    have f29 : r2 29 0 t = r1 29 0 t := congrFun b2.2.2.2.2.2.1 t
    rw [now1] at b3
    refine ⟨c2, r2, b1, (fr1.trans b2.fm).mono (by omega), by omega, fun Q h => ⟨by omega, ite_n (by omega) ⟨by omega, ite_n (by omega) (all_eq ⟨25, ?_⟩)⟩⟩, fun Q h => ⟨t0, t4, by omega, ite_n (by omega) ⟨by omega, ite_n (by omega) (all_eq ⟨25, a7 Q (b4 Q h)⟩)⟩⟩⟩
    rw [w5, w3]
    exact a6 Q (b3 Q h)
theorem Rel.now {bd bs bw : Int} {G : GG} {c r : MM} (hR : Rel bd bs bw G c r) (h : r 0 5 0 < 1000000) : Rel bd bs bw G (ms c 0 4 0 (c 0 4 0 + 1)) (ms r 0 5 0 (r 0 5 0 + 1)) := by
  have S4 := hR.S4
  have S5 := hR.S5
  refine ⟨hR.K0, hR.S1, hR.S2, hR.S3, ?_, ?_, hR.R1, hR.R2, hR.R3, hR.T0, hR.T1, hR.T2, hR.T3, hR.E1, hR.E2, hR.E3, hR.E4, hR.E5, hR.E6, hR.E7, hR.E8, hR.E9, hR.E10, hR.E11, hR.I1, hR.I2, hR.I3, hR.I4, hR.I5, hR.I6, hR.I7, hR.I8, hR.I9, hR.I10, hR.I11, hR.I12, hR.I13, hR.I14, hR.W1, hR.W2, hR.W3, hR.W4, hR.W5, hR.W6, hR.W7, hR.W8, hR.W9, hR.J1, hR.J2, hR.J3, hR.J4, hR.J5, hR.J6, hR.J7, hR.H1, hR.H2, hR.H3, hR.H4, hR.L1, hR.L2, hR.A1, hR.A2, hR.F1, hR.F2, hR.F3, hR.Q1, hR.Q2, hR.Q3, hR.Q4, hR.Q5, hR.Q6, hR.Q7⟩
  · show c 0 4 0 + 1 = r 0 5 0 + 1
    omega
  · show 0 ≤ r 0 5 0 + 1 ∧ r 0 5 0 + 1 ≤ 1000000
    omega
def PI (bd bs bw B b0 : Int) (i x3 : Int) (G : GG) (c r : MM) : Prop := Rel bd bs bw G c r ∧ (∀ t, 0 ≤ t → t < 4 → (r 29 0 t = 0 ∧ r 30 0 t ≤ B + 3600) ∨ r 30 0 t ≤ B) ∧ (∀ n, 0 ≤ n → n < r 0 10 0 → r 21 0 n ≤ b0 + 624 * i + (if 0 ≤ r 22 0 n ∧ r 22 0 n / 2 < x3 then 624 else 0))
theorem towers_ok {bd bs bw B b0 : Int} {G : GG} {x1 x2 : Int} (hB0 : 86400 ≤ B) (hB1 : B ≤ 1950000) (hBs : B + 90000 ≤ bs) (hi : b0 + 624 * (x2 + 1) ≤ bd) : ∀ (m : Nat) (x3 : Int) (c r : MM), PI bd bs bw B b0 x2 x3 G c r → 0 ≤ x3 → x3 + m = 4 → r 0 5 0 < 1000000 → ∃ c' r', PI bd bs bw B b0 (x2 + 1) 0 G c' r' ∧ r' 0 5 0 = r 0 5 0 + 1 ∧ (∀ (k29 : Int → Int → MM → Prop) (Q : Int → MM → Prop), k29 x1 (x2 + 1) c' → wpX10_pass_L36 G k29 Q (m + 1) x1 x2 x3 c) ∧ (∀ (k29 : Int → Int → MM → Prop) (Q : Int → MM → Prop), k29 x1 (x2 + 1) r' → wpX11_pass_L36 k29 Q (m + 1) x1 x2 x3 r) := by
  intro m
  induction m with
  | zero =>
    intro x3 c r hP h0 hx hnow
    obtain ⟨hR, hS, hD⟩ := hP
    refine ⟨_, _, ⟨hR.now hnow, hS, fun n z1 z2 => ?_⟩, ms_at _ _ _ _ _, fun k29 Q h => ⟨by omega, ite_p (by omega) (all_eq h)⟩, fun k29 Q h => ⟨by omega, ite_p (by omega) (all_eq h)⟩⟩
    have k := hD n z1 z2
    show r 21 0 n ≤ b0 + 624 * (x2 + 1) + _
    split at k <;> split <;> omega
  | succ m ih =>
    intro x3 c r hP h0 hx hnow
    obtain ⟨hR, hS, hD⟩ := hP
    have t4 : x3 < 4 := by omega
    have W1 := hR.W1
    have J1 := hR.J1
    have w1 := congrFun W1 x3
    have j1 := J1 x3 h0 t4
    by_cases z : r 26 0 x3 = 0
    · obtain ⟨c2, r2, b1, b2, b3, b4⟩ := ih (x3 + 1) c r ⟨hR, hS, fun n z1 z2 => by
        have k := hD n z1 z2
        split at k <;> split <;> omega⟩ (by omega) (by omega) hnow
      exact ⟨c2, r2, b1, b2, fun k29 Q h => ⟨by omega, ite_n (by omega) ⟨h0, t4, by omega, ite_p (by omega) (b3 k29 Q h)⟩⟩, fun k29 Q h => ⟨by omega, ite_n (by omega) ⟨h0, t4, by omega, ite_p z (b4 k29 Q h)⟩⟩⟩
    · obtain ⟨c1, r1, a1, a2, a3, a4, a5⟩ := minute_ok hR h0 t4 hB0 hB1 hBs (hS x3 h0 t4) (fun n z1 z2 z3 => by
        have k := hD n z1 z2
        rw [if_neg (by omega)] at k
        omega)
      obtain ⟨f22, f35, f26, f10, f5, f6, f7, f8⟩ := a2
      have P1 : ∀ t, 0 ≤ t → t < 4 → (r1 29 0 t = 0 ∧ r1 30 0 t ≤ B + 3600) ∨ r1 30 0 t ≤ B := by
        intro t z1 z2
        by_cases e : t = x3
        · subst e
          exact a3
        · have k := f6 t e
          rw [k.1, k.2]
          exact hS t z1 z2
      have P2 : ∀ n, 0 ≤ n → n < r1 0 10 0 → r1 21 0 n ≤ b0 + 624 * x2 + (if 0 ≤ r1 22 0 n ∧ r1 22 0 n / 2 < x3 + 1 then 624 else 0) := by
        intro n z1 z2
        rw [f10] at z2
        have k := hD n z1 z2
        have e22 : r1 22 0 n = r 22 0 n := congrFun f22 n
        rw [e22]
        by_cases e : 0 ≤ r 22 0 n ∧ r 22 0 n / 2 = x3
        · have k2 := f8 n
          rw [if_neg (by omega)] at k
          rw [if_pos (by omega)]
          omega
        · have k2 := f7 n (by omega)
          rw [k2]
          split at k <;> split <;> omega
      obtain ⟨c2, r2, b1, b2, b3, b4⟩ := ih (x3 + 1) c1 r1 ⟨a1, P1, P2⟩ (by omega) (by omega) (by omega)
      exact ⟨c2, r2, b1, by omega, fun k29 Q h => ⟨by omega, ite_n (by omega) ⟨h0, t4, by omega, ite_n (by omega) (a4 _ (b3 k29 Q h))⟩⟩, fun k29 Q h => ⟨by omega, ite_n (by omega) ⟨h0, t4, by omega, ite_n z (a5 _ (b4 k29 Q h))⟩⟩⟩
theorem minutes_ok {bd bs bw B b0 : Int} {G : GG} {x1 : Int} (hB0 : 86400 ≤ B) (hB1 : B ≤ 1950000) (hBs : B + 90000 ≤ bs) (hx1 : rg x1) (hi : b0 + 624 * x1 ≤ bd) : ∀ (m : Nat) (x2 : Int) (c r : MM), PI bd bs bw B b0 x2 0 G c r → 0 ≤ x2 → x2 + m = x1 → r 0 5 0 + m ≤ 1000000 → ∃ c' r', PI bd bs bw B b0 x1 0 G c' r' ∧ (∀ Q : Int → MM → Prop, Q (c' 0 4 0) c' → wpX10_pass_L29 G Q (m + 1) x1 x2 c) ∧ (∀ Q : Int → MM → Prop, Q (r' 0 5 0) r' → wpX11_pass_L29 Q (m + 1) x1 x2 r) := by
  intro m
  induction m with
  | zero =>
    intro x2 c r hP h0 hx hnow
    have e : x2 = x1 := by omega
    subst e
    exact ⟨c, r, hP, fun Q h => ⟨by omega, by omega, ite_p (by omega) h⟩, fun Q h => ⟨by omega, by omega, ite_p (by omega) h⟩⟩
  | succ m ih =>
    intro x2 c r hP h0 hx hnow
    obtain ⟨c1, r1, a1, a2, a3, a4⟩ := towers_ok (x1 := x1) (x2 := x2) hB0 hB1 hBs (by omega) 4 0 c r hP (by decide) (by decide) (by omega)
    obtain ⟨c2, r2, b1, b2, b3⟩ := ih (x2 + 1) c1 r1 a1 (by omega) (by omega) (by omega)
    exact ⟨c2, r2, b1, fun Q h => ⟨by omega, by omega, ite_n (by omega) ⟨5, a3 _ Q (b2 Q h)⟩⟩, fun Q h => ⟨by omega, by omega, ite_n (by omega) ⟨5, a4 _ Q (b3 Q h)⟩⟩⟩
theorem Rel.setS {bd bs bs' bw : Int} {G : GG} {c r : MM} (hR : Rel bd bs bw G c r) (h0 : 0 ≤ bs' ∧ bs' ≤ 100000000) (hj : ∀ t, 0 ≤ t → t < 4 → r 30 0 t ≤ bs') : Rel bd bs' bw G c r := by
  have J5 := hR.J5
  have K0 := hR.K0
  refine ⟨⟨K0.1, h0, K0.2.2⟩, hR.S1, hR.S2, hR.S3, hR.S4, hR.S5, hR.R1, hR.R2, hR.R3, hR.T0, hR.T1, hR.T2, hR.T3, hR.E1, hR.E2, hR.E3, hR.E4, hR.E5, hR.E6, hR.E7, hR.E8, hR.E9, hR.E10, hR.E11, hR.I1, hR.I2, hR.I3, hR.I4, hR.I5, hR.I6, hR.I7, hR.I8, hR.I9, hR.I10, hR.I11, hR.I12, hR.I13, hR.I14, hR.W1, hR.W2, hR.W3, hR.W4, hR.W5, hR.W6, hR.W7, hR.W8, hR.W9, hR.J1, hR.J2, hR.J3, hR.J4, fun t a b => ⟨(J5 t a b).1, hj t a b⟩, hR.J6, hR.J7, hR.H1, hR.H2, hR.H3, hR.H4, hR.L1, hR.L2, hR.A1, hR.A2, hR.F1, hR.F2, hR.F3, hR.Q1, hR.Q2, hR.Q3, hR.Q4, hR.Q5, hR.Q6, hR.Q7⟩
theorem rel_pass {k : Int} {G : GG} {c r : MM} (h : RelK k G c r) (hk : k < 512) (x1 : Int) (h1 : rg x1) : wpX10_pass G x1 c (fun v c' => wpX11_pass x1 r (fun v' r' => Lf v v' (RelK (k + 1) G c' r'))) := by
  have hR := h.2
  unfold wpX10_pass wpX11_pass
  have S4 := hR.S4
  have S5 := hR.S5
  refine ⟨h1, ite_i (fun e => ?_) (fun e => ite_i (fun e2 => ⟨by omega, ite_i (fun e3 => ?_) (fun e3 => ?_)⟩) (fun e2 => ?_))⟩
  · repeat' (first | (with_reducible refine ⟨by omega, ?_⟩) | (with_reducible refine ite_p (by omega) ?_) | (with_reducible refine ite_n (by omega) ?_) | (with_reducible refine trainOf_ok hR (by omega) (fun _ => ?_) (fun _ _ => by exfalso; omega)) | (with_reducible refine trainOf_ok hR (by omega) (fun _ => by exfalso; omega) (fun _ _ => ?_)) | (with_reducible refine trainOf_ok hR (by omega) (fun _ => ?_) (fun _ _ => ?_)) | (with_reducible refine isTrain_ok hR (by omega) (fun _ => ?_) (fun _ _ => by exfalso; omega)) | (with_reducible refine isTrain_ok hR (by omega) (fun _ => by exfalso; omega) (fun _ _ => ?_)) | (with_reducible refine isTrain_ok hR (by omega) (fun _ => ?_) (fun _ _ => ?_)) | (with_reducible refine rowOf_ok (by omega) (fun _ => ?_) (fun _ _ => by exfalso; omega)) | (with_reducible refine rowOf_ok (by omega) (fun _ => by exfalso; omega) (fun _ _ => ?_)) | (with_reducible refine rowOf_ok (by omega) (fun _ => ?_) (fun _ _ => ?_)) | (with_reducible refine towerOf_ok (by omega) (fun _ => ?_) (fun _ _ => by exfalso; omega)) | (with_reducible refine towerOf_ok (by omega) (fun _ => by exfalso; omega) (fun _ _ => ?_)) | (with_reducible refine towerOf_ok (by omega) (fun _ => ?_) (fun _ _ => ?_)) | (with_reducible refine looked_ok hR (by omega) (fun _ => ?_) (fun _ _ _ _ => by exfalso; omega) (fun _ _ _ _ _ => by exfalso; omega)) | (with_reducible refine looked_ok hR (by omega) (fun _ => by exfalso; omega) (fun _ _ _ _ => ?_) (fun _ _ _ _ _ => by exfalso; omega)) | (with_reducible refine looked_ok hR (by omega) (fun _ => by exfalso; omega) (fun _ _ _ _ => by exfalso; omega) (fun _ _ _ _ _ => ?_)) | (with_reducible refine looked_ok hR (by omega) (fun _ => ?_) (fun _ _ _ _ => ?_) (fun _ _ _ _ _ => ?_)) | (with_reducible refine askedFor_ok hR (by omega) (fun _ => ?_) (fun _ _ _ => by exfalso; omega) (fun _ _ _ => by exfalso; omega)) | (with_reducible refine askedFor_ok hR (by omega) (fun _ => by exfalso; omega) (fun _ _ _ => ?_) (fun _ _ _ => by exfalso; omega)) | (with_reducible refine askedFor_ok hR (by omega) (fun _ => by exfalso; omega) (fun _ _ _ => by exfalso; omega) (fun _ _ _ => ?_)) | (with_reducible refine askedFor_ok hR (by omega) (fun _ => ?_) (fun _ _ _ => ?_) (fun _ _ _ => ?_)) | (with_reducible refine inn_ok (by omega) (by omega) (by omega) (fun _ => ?_) (fun _ _ => by exfalso; omega)) | (with_reducible refine inn_ok (by omega) (by omega) (by omega) (fun _ => by exfalso; omega) (fun _ _ => ?_)) | (with_reducible refine inn_ok (by omega) (by omega) (by omega) (fun _ => ?_) (fun _ _ => ?_)) | (with_reducible refine isPlate_ok (by omega) (by omega) (by omega) (fun _ => ?_) (fun _ => by exfalso; omega)) | (with_reducible refine isPlate_ok (by omega) (by omega) (by omega) (fun _ => by exfalso; omega) (fun _ => ?_)) | (with_reducible refine isPlate_ok (by omega) (by omega) (by omega) (fun _ => ?_) (fun _ => ?_)) | (with_reducible refine hasPlace_ok (by omega) (by omega) (fun _ => ?_) (fun _ _ => by exfalso; omega)) | (with_reducible refine hasPlace_ok (by omega) (by omega) (fun _ => by exfalso; omega) (fun _ _ => ?_)) | (with_reducible refine hasPlace_ok (by omega) (by omega) (fun _ => ?_) (fun _ _ => ?_)) | (with_reducible refine isThere_ok (by omega) (fun _ => ?_) (fun _ => by exfalso; omega)) | (with_reducible refine isThere_ok (by omega) (fun _ => by exfalso; omega) (fun _ => ?_)) | (with_reducible refine isThere_ok (by omega) (fun _ => ?_) (fun _ => ?_)) | (with_reducible refine isDayHour_ok (by omega) (fun _ => ?_) (fun _ _ => by exfalso; omega)) | (with_reducible refine isDayHour_ok (by omega) (fun _ => by exfalso; omega) (fun _ _ => ?_)) | (with_reducible refine isDayHour_ok (by omega) (fun _ => ?_) (fun _ _ => ?_)) | (with_reducible refine isHour_ok (by omega) (fun _ => ?_) (fun _ _ => by exfalso; omega)) | (with_reducible refine isHour_ok (by omega) (fun _ => by exfalso; omega) (fun _ _ => ?_)) | (with_reducible refine isHour_ok (by omega) (fun _ => ?_) (fun _ _ => ?_)) | (with_reducible refine trainIn_ok (by omega) (fun _ => ?_) (fun _ => by exfalso; omega)) | (with_reducible refine trainIn_ok (by omega) (fun _ => by exfalso; omega) (fun _ => ?_)) | (with_reducible refine trainIn_ok (by omega) (fun _ => ?_) (fun _ => ?_)) | (with_reducible refine found_ok (by decide) (by decide) ?_) | (with_reducible refine meets_ok (by decide) (by decide) ?_) | (with_reducible refine ite_i (fun _ => ?_) (fun _ => ?_)) | (with_reducible refine all_eq ?_))
    all_goals (first | exact Lf.mk rfl (h.up hk) | exact Lf.mk rfl (h.f hk _) | exact Lf.mk (by omega) (h.up hk) | skip)
  · have hk1 := h.1
    have hP : PI (2000000 * (k + 1)) (90000 + 3600 * k + 90000) (100000 * (k + 1) + 100000) (90000 + 3600 * k) (2000000 * k) 0 0 G c r := by
      refine ⟨hR.mono (by omega) (by omega) (by omega) (by omega) (by omega) (by omega), fun t a b => Or.inr (hR.J5 t a b).2, fun n a b => ?_⟩
      have k2 := hR.I12 n a b
      rw [if_neg (by omega)]
      omega
    obtain ⟨c', r', a1, a2, a3⟩ := minutes_ok (x1 := x1) (by omega) (by omega) (by omega) h1 (by omega) x1.toNat 0 c r hP (by decide) (by omega) (by omega)
    refine ⟨x1.toNat + 1, a2 _ (inn_ok (by omega) (by omega) (by omega) (fun _ => by exfalso; omega) (fun _ _ => ite_n (by decide) ⟨by omega, ite_p (by omega) ⟨x1.toNat + 1, a3 _ ?_⟩⟩))⟩
    refine Lf.mk a1.1.S4 ⟨by omega, ?_⟩
    exact a1.1.setS (by omega) (fun t a b => by have := a1.2.1 t a b; omega)
  · refine inn_ok (by omega) (by omega) (by omega) (fun _ => by exfalso; omega) (fun _ _ => ite_n (by decide) ⟨by omega, ite_n (by omega) (Lf.mk rfl (h.up hk))⟩)
  · repeat' (first | (with_reducible refine ⟨by omega, ?_⟩) | (with_reducible refine ite_p (by omega) ?_) | (with_reducible refine ite_n (by omega) ?_) | (with_reducible refine trainOf_ok hR (by omega) (fun _ => ?_) (fun _ _ => by exfalso; omega)) | (with_reducible refine trainOf_ok hR (by omega) (fun _ => by exfalso; omega) (fun _ _ => ?_)) | (with_reducible refine trainOf_ok hR (by omega) (fun _ => ?_) (fun _ _ => ?_)) | (with_reducible refine isTrain_ok hR (by omega) (fun _ => ?_) (fun _ _ => by exfalso; omega)) | (with_reducible refine isTrain_ok hR (by omega) (fun _ => by exfalso; omega) (fun _ _ => ?_)) | (with_reducible refine isTrain_ok hR (by omega) (fun _ => ?_) (fun _ _ => ?_)) | (with_reducible refine rowOf_ok (by omega) (fun _ => ?_) (fun _ _ => by exfalso; omega)) | (with_reducible refine rowOf_ok (by omega) (fun _ => by exfalso; omega) (fun _ _ => ?_)) | (with_reducible refine rowOf_ok (by omega) (fun _ => ?_) (fun _ _ => ?_)) | (with_reducible refine towerOf_ok (by omega) (fun _ => ?_) (fun _ _ => by exfalso; omega)) | (with_reducible refine towerOf_ok (by omega) (fun _ => by exfalso; omega) (fun _ _ => ?_)) | (with_reducible refine towerOf_ok (by omega) (fun _ => ?_) (fun _ _ => ?_)) | (with_reducible refine looked_ok hR (by omega) (fun _ => ?_) (fun _ _ _ _ => by exfalso; omega) (fun _ _ _ _ _ => by exfalso; omega)) | (with_reducible refine looked_ok hR (by omega) (fun _ => by exfalso; omega) (fun _ _ _ _ => ?_) (fun _ _ _ _ _ => by exfalso; omega)) | (with_reducible refine looked_ok hR (by omega) (fun _ => by exfalso; omega) (fun _ _ _ _ => by exfalso; omega) (fun _ _ _ _ _ => ?_)) | (with_reducible refine looked_ok hR (by omega) (fun _ => ?_) (fun _ _ _ _ => ?_) (fun _ _ _ _ _ => ?_)) | (with_reducible refine askedFor_ok hR (by omega) (fun _ => ?_) (fun _ _ _ => by exfalso; omega) (fun _ _ _ => by exfalso; omega)) | (with_reducible refine askedFor_ok hR (by omega) (fun _ => by exfalso; omega) (fun _ _ _ => ?_) (fun _ _ _ => by exfalso; omega)) | (with_reducible refine askedFor_ok hR (by omega) (fun _ => by exfalso; omega) (fun _ _ _ => by exfalso; omega) (fun _ _ _ => ?_)) | (with_reducible refine askedFor_ok hR (by omega) (fun _ => ?_) (fun _ _ _ => ?_) (fun _ _ _ => ?_)) | (with_reducible refine inn_ok (by omega) (by omega) (by omega) (fun _ => ?_) (fun _ _ => by exfalso; omega)) | (with_reducible refine inn_ok (by omega) (by omega) (by omega) (fun _ => by exfalso; omega) (fun _ _ => ?_)) | (with_reducible refine inn_ok (by omega) (by omega) (by omega) (fun _ => ?_) (fun _ _ => ?_)) | (with_reducible refine isPlate_ok (by omega) (by omega) (by omega) (fun _ => ?_) (fun _ => by exfalso; omega)) | (with_reducible refine isPlate_ok (by omega) (by omega) (by omega) (fun _ => by exfalso; omega) (fun _ => ?_)) | (with_reducible refine isPlate_ok (by omega) (by omega) (by omega) (fun _ => ?_) (fun _ => ?_)) | (with_reducible refine hasPlace_ok (by omega) (by omega) (fun _ => ?_) (fun _ _ => by exfalso; omega)) | (with_reducible refine hasPlace_ok (by omega) (by omega) (fun _ => by exfalso; omega) (fun _ _ => ?_)) | (with_reducible refine hasPlace_ok (by omega) (by omega) (fun _ => ?_) (fun _ _ => ?_)) | (with_reducible refine isThere_ok (by omega) (fun _ => ?_) (fun _ => by exfalso; omega)) | (with_reducible refine isThere_ok (by omega) (fun _ => by exfalso; omega) (fun _ => ?_)) | (with_reducible refine isThere_ok (by omega) (fun _ => ?_) (fun _ => ?_)) | (with_reducible refine isDayHour_ok (by omega) (fun _ => ?_) (fun _ _ => by exfalso; omega)) | (with_reducible refine isDayHour_ok (by omega) (fun _ => by exfalso; omega) (fun _ _ => ?_)) | (with_reducible refine isDayHour_ok (by omega) (fun _ => ?_) (fun _ _ => ?_)) | (with_reducible refine isHour_ok (by omega) (fun _ => ?_) (fun _ _ => by exfalso; omega)) | (with_reducible refine isHour_ok (by omega) (fun _ => by exfalso; omega) (fun _ _ => ?_)) | (with_reducible refine isHour_ok (by omega) (fun _ => ?_) (fun _ _ => ?_)) | (with_reducible refine trainIn_ok (by omega) (fun _ => ?_) (fun _ => by exfalso; omega)) | (with_reducible refine trainIn_ok (by omega) (fun _ => by exfalso; omega) (fun _ => ?_)) | (with_reducible refine trainIn_ok (by omega) (fun _ => ?_) (fun _ => ?_)) | (with_reducible refine found_ok (by decide) (by decide) ?_) | (with_reducible refine meets_ok (by decide) (by decide) ?_) | (with_reducible refine ite_i (fun _ => ?_) (fun _ => ?_)) | (with_reducible refine all_eq ?_))
    all_goals (first | exact Lf.mk rfl (h.up hk) | exact Lf.mk rfl (h.f hk _) | exact Lf.mk (by omega) (h.up hk) | skip)
