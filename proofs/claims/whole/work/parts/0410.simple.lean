theorem rel_gear {k : Int} {G : GG} {c r : MM} (h : RelK k G c r) (hk : k < 512) (x1 x2 x3 : Int) (h1 : rg x1) (h2 : rg x2) (h3 : rg x3) : wpX10_gear G x1 x2 x3 c (fun v c' => wpX11_gear x1 x2 x3 r (fun v' r' => Lf v v' (RelK (k + 1) G c' r'))) := by
  have hR := h.2
  obtain ⟨-, -, -, -, -, -, -, -, -, -, -, -, -, -, -, -, -, -, -, -, -, -, -, -, -, -, -, -, I6, -, -, -, -, -, -, -, -, -, -, -, -, -, -, -, -, -, -, -, -, -, -, -, -, -, -, -, -, -, -, -, -, -, -, -, -, -, -, -, -, -, -⟩ := id hR
  have I6o := I6
  have hU := (h.up hk).2
  obtain ⟨K0, S1, S2, S3, S4, S5, R1, R2, R3, T0, T1, T2, E1, E2, E3, E4, E5, E6, E7, E8, E9, E10, E11, I1, I2, I3, I4, I5, I6, I7, I8, I9, I10, I11, I12, I13, I14, W1, W2, W3, W4, W5, W6, W7, W8, W9, J1, J2, J3, J4, J5, J6, J7, H1, H2, H3, H4, L1, L2, A1, A2, F1, F2, F3, Q1, Q2, Q3, Q4, Q5, Q6, Q7⟩ := id hU
  repeat' (first | (with_reducible refine ⟨by omega, ?_⟩) | (with_reducible refine ite_p (by omega) ?_) | (with_reducible refine ite_n (by omega) ?_) | (with_reducible refine trainOf_ok hR h1 (fun _ => ?_) (fun _ _ => by exfalso; omega)) | (with_reducible refine trainOf_ok hR h1 (fun _ => by exfalso; omega) (fun _ _ => ?_)) | (with_reducible refine trainOf_ok hR h1 (fun _ => ?_) (fun _ _ => ?_)) | (with_reducible refine isTrain_ok hR h1 (fun _ => ?_) (fun _ _ => by exfalso; omega)) | (with_reducible refine isTrain_ok hR h1 (fun _ => by exfalso; omega) (fun _ _ => ?_)) | (with_reducible refine isTrain_ok hR h1 (fun _ => ?_) (fun _ _ => ?_)) | (with_reducible refine inn_ok (by omega) (by omega) (by omega) (fun _ => ?_) (fun _ _ => by exfalso; omega)) | (with_reducible refine inn_ok (by omega) (by omega) (by omega) (fun _ => by exfalso; omega) (fun _ _ => ?_)) | (with_reducible refine inn_ok (by omega) (by omega) (by omega) (fun _ => ?_) (fun _ _ => ?_)) | (with_reducible refine ite_i (fun _ => ?_) (fun _ => ?_)) | (with_reducible refine all_eq ?_) | unfold wpX10_gear | unfold wpX11_gear)
  all_goals (first | exact Lf.mk rfl (h.up hk) | skip)
  refine Lf.mk (congrFun E7 x1) ⟨by have := h.1; omega, ?_⟩
  refine ⟨K0, S1, S2, S3, S4, S5, R1, R2, R3, T0, T1, T2, E1, E2, E3, E4, msEq E5 x1 x2, msEq E6 x1 x3, msEq E7 x1 x3, E8, E9, E10, E11, I1, I2, I3, ?_, ?_, ?_, I7, I8, I9, I10, I11, I12, I13, I14, W1, W2, W3, W4, W5, W6, W7, W8, W9, J1, J2, J3, J4, J5, J6, J7, H1, H2, H3, H4, L1, L2, A1, A2, F1, F2, F3, Q1, Q2, Q3, Q4, Q5, Q6, Q7⟩
  · intro n a b
    have q := I4 n a b
    by_cases e : n = x1
    · subst e
      simp [ms] <;> omega
    · simp [ms, e] <;> omega
  · intro n a b
    have q := I5 n a b
    by_cases e : n = x1
    · subst e
      simp [ms] <;> omega
    · simp [ms, e] <;> omega
  · intro n a b
    have q := I6o n a b
    by_cases e : n = x1
    · subst e
      simp [ms] <;> omega
    · simp [ms, e] <;> omega
