theorem putR_ok {bd bs bw : Int} {G : GG} {c r : MM} (hR : Rel bd bs bw G c r) {t n h : Int} (t0 : 0 ≤ t) (t4 : t < 4) (n0 : 0 ≤ n) (n1 : n < r 0 10 0) (hk : r 11 0 n = 1 ∨ r 11 0 n = 3) (h12 : r 12 0 n = 12) (h0 : 0 ≤ h) (h1 : h < 12) : ∃ b a', (∀ j, 0 ≤ j → j < cnt ((h - r 14 0 n) % 12) ((h - nxt r t 0) % 12) → a' j = actV ((h - r 14 0 n) % 12) ((h - nxt r t 0) % 12) j) ∧ (∀ Q : Int → MM → Prop, Q (SS (fun i => r 13 0 (24 * n + i)) (r 14 0 n) ((h - r 14 0 n) % 12).toNat) (ms (ovM (ms (ovM r 39 b) 0 40 0 (cnt ((h - r 14 0 n) % 12) ((h - nxt r t 0) % 12))) 41 a') 0 2 0 (cnt ((h - r 14 0 n) % 12) ((h - nxt r t 0) % 12))) → ∃ f, wpX11_putRight_L64 Q f t n (13 * h) 0 r) := by
  have I2 := hR.I2
  have I3 := hR.I3
  have J2 := hR.J2
  have T0 := hR.T0
  have i2 := I2 n n0 n1
  have j2 := J2 t t0 t4
  have nr := nxt_rng (q := 0) j2.1 j2.2
  obtain ⟨s, es⟩ : ∃ s : Int → Int, s = fun i => r 13 0 (24 * n + i) := ⟨_, rfl⟩
  have hs : ∀ i, 0 ≤ i → i < 12 → 1 ≤ s i ∧ s i ≤ 24 := by
    intro i u v
    rw [es]
    exact I3 n i n0 n1 u (by omega)
  have hr : ∀ i, s i = r 13 0 (24 * n + i) := fun i => by rw [es]
  rw [← es]
  obtain ⟨b1, f1, f2⟩ := fillB (r := r) (n := n) (t := t) (g := 13 * h) (by omega) 144 0 (r 39 0) (by decide) (by decide) (fun q u v => by exfalso; omega)
  have hI : InvB s h b1 := by
    refine ⟨fun p p0 p1 => ?_, ?_⟩
    · have d := Dp_rng hs (h := h) p
      rw [f1 p p0 p1]
      by_cases z : p = 13 * h
      · rw [if_pos z, z, D_goal hs h0 h1]
        decide
      · rw [if_neg z]
        omega
    · rw [f1 _ (by omega) (by omega), if_pos rfl]
  obtain ⟨b, k1, k2⟩ := relaxA hs h0 h1 (r := r) (n := n) (t := t) n0 (by omega) hr (sumF b1 0 144).toNat b1 hI (by omega)
  obtain ⟨K, hK⟩ : ∃ K, K = cnt ((h - r 14 0 n) % 12) ((h - nxt r t 0) % 12) := ⟨_, rfl⟩
  have Kr := cnt_rng (al := (h - r 14 0 n) % 12) (be := (h - nxt r t 0) % 12) (by omega) (by omega) (by omega) (by omega)
  rw [← hK] at Kr ⊢
  obtain ⟨p, hp⟩ : ∃ p, p = 12 * r 14 0 n + nxt r t 0 := ⟨_, rfl⟩
  have q1 : p / 12 = r 14 0 n := by omega
  have q2 : p % 12 = nxt r t 0 := by omega
  have sr := SS_rng s hs (r 14 0 n) ((h - r 14 0 n) % 12).toNat
  have eD : Dp s h p = 1000 * SS s (r 14 0 n) ((h - r 14 0 n) % 12).toNat + K := by
    unfold Dp DD
    rw [q1, q2, hK]
  have dr := Dp_rng hs (h := h) p
  have eb : b p = Dp s h p := k1 p (by omega) (by omega)
  have em : Int.tmod (b p) 1000 = K := by
    rw [eb, Int.tmod_eq_emod_of_nonneg dr.1, eD]
    omega
  have ed : Int.tdiv (b p) 1000 = SS s (r 14 0 n) ((h - r 14 0 n) % 12).toNat := by
    rw [eb, Int.tdiv_eq_ediv_of_nonneg dr.1, eD]
    omega
  obtain ⟨a', g1, g2, g3⟩ := path_ok hs h0 h1 (μ := ms (ovM r 39 b) 0 40 0 K) (n := n) (x8 := b p) (K := K) (b := b) n0 (by omega) hr k1 (fun a => rfl) (ms_at _ _ _ _ _) Kr.1 (by omega) (by omega) K.toNat (r 14 0 n) (nxt r t 0) 0 (ms (ovM r 39 b) 0 40 0 K 41 0) (by omega) (by omega) (by omega) (by omega) (by omega) (by decide) (by omega)
  refine ⟨b, a', fun j u v => ?_, fun Q k => ?_⟩
  · have := g2 j u v
    rw [Int.sub_zero] at this
    exact this
  · rw [← ed] at k
    obtain ⟨f, k⟩ := g3 Q k
    rw [ovM_self] at k
    have fin : ∃ f, wpX11_putRight_L102 Q f t n 0 (ovM r 39 b) := by
      refine ⟨1, by decide, ite_p rfl ⟨n0, by omega, ?_⟩⟩
      have d1 : Int.tmod (r 27 0 t + 60) 1440 = (r 27 0 t + 60) % 1440 := Int.tmod_eq_emod_of_nonneg (by omega)
      have d2 : Int.tdiv ((r 27 0 t + 60) % 1440) 60 = (r 27 0 t + 60) % 1440 / 60 := Int.tdiv_eq_ediv_of_nonneg (by omega)
      have d3 : Int.tmod ((r 27 0 t + 60) % 1440 / 60 + 11) 12 = ((r 27 0 t + 60) % 1440 / 60 + 11) % 12 := Int.tmod_eq_emod_of_nonneg (by omega)
      have e27 : ovM r 39 b 27 0 t = r 27 0 t := rfl
      have e14 : ovM r 39 b 14 0 n = r 14 0 n := rfl
      unfold wpX11_nextHour wpX11_hourOf
      rw [e27, e14, d1, d2, d3]
      refine ⟨t0, t4, by omega, by omega, by omega, all_eq ?_⟩
      have ey : 12 * r 14 0 n + (((r 27 0 t + 60) % 1440 / 60 + 11) % 12 + 1) - 1 = p := by
        rw [hp]
        unfold nxt
        rw [if_pos rfl]
        omega
      rw [ey, ovM_at]
      refine ⟨by omega, by omega, by omega, all_eq ⟨f, ?_⟩⟩
      rw [em, hp]
      rw [hp] at k
      exact k
    have k5 := f2 Q (k2 Q fin)
    rw [ovM_self] at k5
    exact k5
theorem rel_putRight {k : Int} {G : GG} {c r : MM} (h : RelK k G c r) (hk : k < 512) (x1 : Int) (h1 : rg x1) (x2 : Int) (h2 : rg x2) : wpX10_putRight G x1 x2 c (fun v c' => wpX11_putRight x1 x2 r (fun v' r' => Lf v v' (RelK (k + 1) G c' r'))) := by
  have hR := h.2
  unfold wpX10_putRight wpX10_putRight_J38 wpX10_putRight_J70
  have bad : (x1 < 0 ∨ 4 ≤ x1) ∨ (x2 < 1 ∨ 12 < x2) → wpX11_putRight x1 x2 r (fun v' r' => Lf (-1) v' (RelK (k + 1) G c r')) := by
    intro z
    unfold wpX11_putRight
    exact inn_ok h2 (by omega) (by omega) (fun _ => ite_p rfl (Lf.mk rfl (h.up hk))) (fun _ _ => ite_n (by decide) (askedPlate_ok hR h1 (Or.inl rfl) (fun _ => ⟨by omega, ite_n (by omega) (Lf.mk rfl (h.up hk))⟩) (fun _ _ _ => by exfalso; omega) (fun _ _ _ _ _ _ _ => by exfalso; omega) (fun _ _ _ _ _ _ _ => by exfalso; omega)))
  refine towerOf_ok h1 (fun hx => ite_p (by omega) (bad (Or.inl hx))) (fun a b => ite_n (by omega) ⟨b, isHour_ok h2 (fun z => ite_p rfl (bad (Or.inr z))) (fun z z' => ite_n (by decide) ?_)⟩)
  have W1 := hR.W1
  have J1 := hR.J1
  have H1 := hR.H1
  have H2 := hR.H2
  have T0 := hR.T0
  have T1 := hR.T1
  have I1 := hR.I1
  have I2 := hR.I2
  have J2 := hR.J2
  have w1_x1 := congrFun W1 x1
  have j1 := J1 x1 a b
  have j2 := J2 x1 a b
  have k1 := H1 x1 a b
  have kp := H2 (2 * x1) (by omega) (by omega)
  have nr := nxt_rng (q := 0) j2.1 j2.2
  have nothing : r 26 0 x1 = 0 ∨ r 35 0 (2 * x1) < 0 → wpX11_putRight x1 x2 r (fun v' r' => Lf (-3) v' (RelK (k + 1) G (fC 1 c) r')) := by
    intro y
    unfold wpX11_putRight
    refine inn_ok h2 (by omega) (by omega) (fun _ => by exfalso; omega) (fun _ _ => ite_n (by decide) (askedPlate_ok hR h1 (Or.inl rfl) (fun _ => by exfalso; omega) (fun _ _ _ => ⟨by omega, ite_n (by omega) (Lf.mk rfl (h.f hk _))⟩) (fun _ _ y1 m hm m0 _ => ?_) (fun _ _ y1 m hm m0 _ => ?_)))
    · rw [Int.add_zero] at hm
      exfalso; omega
    · rw [Int.add_zero] at hm
      exfalso; omega
  refine trainIn_ok (Or.inl rfl) (fun _ => ⟨by omega, ite_i (fun y => found_ok (by decide) (by decide) (nothing (by omega))) (fun y => ite_i (fun y2 => found_ok (by decide) (by decide) (nothing (by omega))) (fun y2 => ?_))⟩) (fun e => by exfalso; omega)
  have hn : c 3 6 x1 = r 35 0 (2 * x1) := by omega
  rw [hn]
  obtain ⟨n, en⟩ : ∃ n, n = r 35 0 (2 * x1) := ⟨_, rfl⟩
  rw [← en] at hn kp ⊢
  have n0 : 0 ≤ n := by omega
  have n1 : n < r 0 10 0 := by omega
  have g := T1 n n0 n1
  have i1 := I1 n n0 n1
  have i2 := I2 n n0 n1
  have unlike : ¬ ((r 11 0 n = 1 ∨ r 11 0 n = 3) ∧ r 12 0 n = 12) → wpX11_putRight x1 x2 r (fun v' r' => Lf (-3) v' (RelK (k + 1) G (fC 3 c) r')) := by
    intro y3
    unfold wpX11_putRight
    refine inn_ok h2 (by omega) (by omega) (fun _ => by exfalso; omega) (fun _ _ => ite_n (by decide) (askedPlate_ok hR h1 (Or.inl rfl) (fun _ => by exfalso; omega) (fun _ _ y4 => ?_) (fun _ _ _ _ _ _ _ => ⟨by omega, ite_n (by omega) (Lf.mk rfl (h.f hk _))⟩) (fun _ _ y1 m hm m0 y5 => ?_)))
    · rw [Int.add_zero] at y4
      exfalso; omega
    · rw [Int.add_zero, ← en] at hm
      subst hm
      refine ⟨by omega, ite_p (by omega) ⟨by omega, by omega, all_eq ?_⟩⟩
      rw [← en]
      exact ⟨n0, by omega, by omega, ite_n (by omega) (meets_ok (by decide) (by decide) (Lf.mk rfl (h.f hk _)))⟩
  refine ⟨by omega, ite_i (fun y3 => ⟨by omega, ite_i (fun y4 => ?_) (fun y4 => found_ok (by decide) (by decide) (unlike (by omega)))⟩) (fun y3 => found_ok (by decide) (by decide) (unlike (by omega)))⟩
  obtain ⟨ac, p1, p2⟩ := plan_ok hR (n := n) (nx := nxt r x1 0) (h := x2 - 1) n0 n1 (by omega) (by omega) (by omega) (by omega) (by omega) (by omega)
  obtain ⟨bb, ar, q1, q2⟩ := putR_ok hR (t := x1) (n := n) (h := x2 - 1) a b n0 n1 (by omega) (by omega) (by omega) (by omega)
  have Kr := cnt_rng (al := (x2 - 1 - r 14 0 n) % 12) (be := (x2 - 1 - nxt r x1 0) % 12) (by omega) (by omega) (by omega) (by omega)
  refine nextPlace_ok hR a b (Or.inl rfl) (p2 _ (all_eq ?_))
  generalize cnt ((x2 - 1 - r 14 0 n) % 12) ((x2 - 1 - nxt r x1 0) % 12) = K at *
  unfold wpX11_putRight
  refine inn_ok h2 (by omega) (by omega) (fun _ => by exfalso; omega) (fun _ _ => ite_n (by decide) (askedPlate_ok hR h1 (Or.inl rfl) (fun _ => by exfalso; omega) (fun _ _ y5 => ?_) (fun _ _ _ m hm m0 y5 => ?_) (fun _ _ _ m hm m0 y5 => ?_)))
  · rw [Int.add_zero] at y5
    exfalso; omega
  · rw [Int.add_zero, ← en] at hm
    subst hm
    exfalso; omega
  · refine ⟨by omega, ite_p (by omega) ⟨by omega, by omega, all_eq ?_⟩⟩
    rw [← en]
    refine ⟨n0, by omega, by omega, ite_p (by omega) (all_eq (q2 _ (Lf.mk rfl (h.of hk ?_))))⟩
    refine ⟨hR.K0, hR.S1, hR.S2, rfl, hR.S4, hR.S5, hR.R1, hR.R2, hR.R3, hR.T0, hR.T1, hR.T2, hR.T3, hR.E1, hR.E2, hR.E3, hR.E4, hR.E5, hR.E6, hR.E7, hR.E8, hR.E9, hR.E10, hR.E11, hR.I1, hR.I2, hR.I3, hR.I4, hR.I5, hR.I6, hR.I7, hR.I8, hR.I9, hR.I10, hR.I11, hR.I12, hR.I13, hR.I14, hR.W1, hR.W2, hR.W3, hR.W4, hR.W5, hR.W6, hR.W7, hR.W8, hR.W9, hR.J1, hR.J2, hR.J3, hR.J4, hR.J5, hR.J6, hR.J7, hR.H1, hR.H2, hR.H3, hR.H4, hR.L1, hR.L2, Or.inr ⟨Kr.1, by show K ≤ 12; omega, rfl⟩, ?_, hR.F1, hR.F2, hR.F3, hR.Q1, hR.Q2, hR.Q3, hR.Q4, hR.Q5, hR.Q6, hR.Q7⟩
    · intro i u v
      show ac i = ar i
      rw [p1 i u v, q1 i u v]
