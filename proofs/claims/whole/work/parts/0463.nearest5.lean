theorem near_fin {bd bs bw : Int} {G : GG} {n U V X : Int} {c r c' r' : MM} (hR : Rel bd bs bw G c r) (hn : n = 1 ∨ n = 2) (hX : rg X) (hG : GA n U V c r c' r') (hS : GSt n U V c' r') : ∃ c2 r2, Rel bd bs bw G c2 r2 ∧ (∀ Q : Int → MM → Prop, Q 0 c2 → wpX2_reduce G c' Q) ∧ (∀ Q : Int → MM → Prop, Q 1 r2 → ∃ f, wpX11_nearest_L95 Q f U V n X X r') := by
  obtain ⟨s1, s2, s3, s4, s5, s6, s7, s8⟩ := hS
  obtain ⟨g, g1, g2, g3, g4⟩ := reduce_ok s5.1 s5.2 s6.1 s6.2
  refine ⟨ms (ms c' 7 7 0 (Int.tdiv (c' 7 7 0) g)) 7 8 0 (Int.tdiv (c' 7 8 0) g), ms (ms (ms r' 0 50 0 (2 * n)) 0 3 0 (Int.tdiv (c' 7 7 0) g)) 0 4 0 (Int.tdiv (c' 7 8 0) g), ?_, fun Q h => g3 G Q c' rfl rfl h, fun Q h => ⟨1, by omega, by omega, ite_p (by omega) (all_eq ?_)⟩⟩
  · refine hR.gearT ((hG.1.set (by decide) _ _).set (by decide) _ _) (fun f e hf => ?_) rfl rfl ⟨s2, ?_, ?_⟩ (fun i a b => ?_)
    · rw [ms_other _ (fun q => hf (by omega)), ms_other _ (fun q => hf (by omega)), ms_other _ (fun q => hf (by omega))]
      exact hG.2.1 f e (fun q => hf (by omega))
    · show 0 ≤ 2 * n
      omega
    · show 2 * n ≤ 4
      omega
    · have b : i < 2 * n := b
      exact s8 i a b
  · have e1 : ms r' 0 50 0 (2 * n) 0 53 0 = c' 7 7 0 := s3
    have e2 : ms r' 0 50 0 (2 * n) 0 54 0 = c' 7 8 0 := s4
    rw [e1, e2]
    exact g4 Q _ h
theorem near1 {bd bs bw : Int} {G : GG} {U V W : Int} {c r : MM} (hR : Rel bd bs bw G c r) (U0 : 1 ≤ U) (U1 : U ≤ 10000) (V0 : 1 ≤ V) (V1 : V ≤ 10000) (W0 : 2 ≤ W) (rW : r 0 48 0 = W) : ∃ c2 r2, Rel bd bs bw G c2 r2 ∧ (∀ Q : Int → MM → Prop, Q 0 c2 → ∃ f, wpX2_search_L20 G Q f 1 0 (ms (ms (ms c 7 4 0 U) 7 5 0 V) 7 3 0 0)) ∧ (∀ Q : Int → MM → Prop, Q 1 r2 → ∃ f, wpX11_nearest_L95 Q f U V 1 (W * W) 0 (ms r 0 55 0 0)) := by
  have Q1 := hR.Q1
  have Q2 := hR.Q2
  have Q3 := hR.Q3
  have W1 : W ≤ 12 := by omega
  have XX := mul_rng (show 0 ≤ W by omega) W1 (show 0 ≤ W by omega) W1
  have hT : ∀ w, 0 ≤ w → w < W → c 17 0 w = r 49 0 w ∧ 6 ≤ r 49 0 w ∧ r 49 0 w ≤ 200 := fun w a b => ⟨congrFun Q2 w, Q3 w a (by omega)⟩
  have hI : GA 1 U V c r (ms (ms (ms c 7 4 0 U) 7 5 0 V) 7 3 0 0) (ms r 0 55 0 0) := by
    refine ⟨GC.set (GC.set (GC.set (fun _ _ _ => rfl) (by decide) _ _) (by decide) _ _) (by decide) _ _, GR.set (fun _ _ _ => rfl) (by decide) _ _, rfl, rfl, Or.inl ⟨rfl, rfl⟩⟩
  obtain ⟨c', r', k1, k2, k3, k4⟩ := allA (n := 1) (U := U) (V := V) (W := W) (X := W * W) (c0 := c) (r0 := r) (G := G) (idx := fun a => a * W + 0) W0 W1 (by omega) (fun a a0 a1 c1 r1 h1 => by
    obtain ⟨c2, r2, e1, e2, e3, e4⟩ := in1 (G := G) U0 U1 V0 V1 W0 W1 rfl (show c 7 1 0 = W by omega) rW hT a0 a1 W.toNat 0 c1 r1 (by decide) (by omega) h1
    refine ⟨c2, r2, e1, fun w => e2 ?_, e3, fun Q h => e4 Q ?_⟩
    · rcases w with w | w
      · exact Or.inl w
      · exact Or.inr ⟨1, by omega, by omega, by omega⟩
    · have : (a + 1) * W + 0 = a * W + W := by rw [Int.add_mul, Int.one_mul, Int.add_zero]
      rw [← this]
      exact h) W.toNat 0 _ _ (by decide) (by omega) hI
  obtain ⟨c2, r2, f1, f2, f3⟩ := near_fin (X := W * W) hR (Or.inl rfl) (by omega) k1 (k2 (Or.inr rfl))
  refine ⟨c2, r2, f1, fun Q h => k3 Q (f2 _ h), fun Q h => ?_⟩
  have q := k4 Q (by
    show ∃ f, wpX11_nearest_L95 Q f U V 1 (W * W) (W * W + 0) r'
    rw [Int.add_zero]
    exact f3 Q h)
  have e : 0 * W + 0 = 0 := by simp
  rw [e] at q
  exact q
theorem near2 {bd bs bw : Int} {G : GG} {U V W : Int} {c r : MM} (hR : Rel bd bs bw G c r) (U0 : 1 ≤ U) (U1 : U ≤ 10000) (V0 : 1 ≤ V) (V1 : V ≤ 10000) (W0 : 4 ≤ W) (rW : r 0 48 0 = W) : ∃ c2 r2, Rel bd bs bw G c2 r2 ∧ (∀ Q : Int → MM → Prop, Q 0 c2 → ∃ f, wpX2_search_L20 G Q f 2 0 (ms (ms (ms c 7 4 0 U) 7 5 0 V) 7 3 0 0)) ∧ (∀ Q : Int → MM → Prop, Q 1 r2 → ∃ f, wpX11_nearest_L95 Q f U V 2 (W * W * W * W) 0 (ms r 0 55 0 0)) := by
  have Q1 := hR.Q1
  have Q2 := hR.Q2
  have Q3 := hR.Q3
  have W1 : W ≤ 12 := by omega
  have XX := mul_rng (show 0 ≤ W by omega) W1 (show 0 ≤ W by omega) W1
  have X3 := mul_rng XX.1 XX.2 (show 0 ≤ W by omega) W1
  have X4 := mul_rng X3.1 X3.2 (show 0 ≤ W by omega) W1
  have hT : ∀ w, 0 ≤ w → w < W → c 17 0 w = r 49 0 w ∧ 6 ≤ r 49 0 w ∧ r 49 0 w ≤ 200 := fun w a b => ⟨congrFun Q2 w, Q3 w a (by omega)⟩
  have hI : GA 2 U V c r (ms (ms (ms c 7 4 0 U) 7 5 0 V) 7 3 0 0) (ms r 0 55 0 0) := by
    refine ⟨GC.set (GC.set (GC.set (fun _ _ _ => rfl) (by decide) _ _) (by decide) _ _) (by decide) _ _, GR.set (fun _ _ _ => rfl) (by decide) _ _, rfl, rfl, Or.inl ⟨rfl, rfl⟩⟩
  obtain ⟨c', r', k1, k2, k3, k4⟩ := allA (n := 2) (U := U) (V := V) (W := W) (X := W * W * W * W) (c0 := c) (r0 := r) (G := G) (idx := fun a => ((a * W + 0) * W + 0) * W + 0) (by omega) W1 (by omega) (fun a a0 a1 c1 r1 h1 => by
    have hXa : ((a * W + W) * W) * W ≤ W * W * W * W := by
      have p1 := Int.mul_le_mul_of_nonneg_right (show a + 1 ≤ W by omega) (show 0 ≤ W by omega)
      rw [Int.add_mul, Int.one_mul] at p1
      exact Int.mul_le_mul_of_nonneg_right (Int.mul_le_mul_of_nonneg_right p1 (by omega)) (by omega)
    obtain ⟨c2, r2, e1, e2, e3, e4⟩ := inB (G := G) U0 U1 V0 V1 (by omega) W1 (show c 7 1 0 = W by omega) rW hT a0 a1 hXa X4.2 W.toNat 0 c1 r1 (by decide) (by omega) h1
    refine ⟨c2, r2, e1, fun w => e2 ?_, e3, fun Q h => e4 Q ?_⟩
    · rcases w with w | w
      · exact Or.inl w
      · exact Or.inr ⟨1, 2, 3, by omega, by omega, by omega, by omega, by omega, by omega, by omega, by omega, by omega, by omega⟩
    · have : (a + 1) * W + 0 = a * W + W := by rw [Int.add_mul, Int.one_mul, Int.add_zero]
      rw [← this]
      exact h) W.toNat 0 _ _ (by decide) (by omega) hI
  obtain ⟨c2, r2, f1, f2, f3⟩ := near_fin (X := W * W * W * W) hR (Or.inr rfl) (by omega) k1 (k2 (Or.inr rfl))
  refine ⟨c2, r2, f1, fun Q h => k3 Q (f2 _ h), fun Q h => ?_⟩
  have q := k4 Q (by
    show ∃ f, wpX11_nearest_L95 Q f U V 2 (W * W * W * W) (((W * W + 0) * W + 0) * W + 0) r'
    rw [Int.add_zero, Int.add_zero, Int.add_zero]
    exact f3 Q h)
  have e : ((0 * W + 0) * W + 0) * W + 0 = 0 := by simp
  rw [e] at q
  exact q
theorem rel_nearest {k : Int} {G : GG} {c r : MM} (h : RelK k G c r) (hk : k < 512) (x1 : Int) (h1 : rg x1) (x2 : Int) (h2 : rg x2) (x3 : Int) (h3 : rg x3) : wpX10_nearest G x1 x2 x3 c (fun v c' => wpX11_nearest x1 x2 x3 r (fun v' r' => Lf v v' (RelK (k + 1) G c' r'))) := by
  have hR := h.2
  unfold wpX10_nearest wpX11_nearest
  have Q1 := hR.Q1
  refine ⟨h1, ite_i (fun z => ?_) (fun z => ite_i (fun z2 => ?_) (fun z2 => ⟨h2, ite_i (fun z3 => ?_) (fun z3 => ite_i (fun z4 => ?_) (fun z4 => ⟨h3, ite_i (fun z5 => ?_) (fun z5 => ite_i (fun z6 => ⟨by omega, by omega, ite_i (fun z7 => ?_) (fun z7 => ?_)⟩) (fun z6 => ?_))⟩))⟩))⟩
  · repeat' (first | (with_reducible refine ⟨by omega, ?_⟩) | (with_reducible refine ite_p (by omega) ?_) | (with_reducible refine ite_n (by omega) ?_) | (with_reducible refine inn_ok (by omega) (by omega) (by omega) (fun _ => ?_) (fun _ _ => by exfalso; omega)) | (with_reducible refine inn_ok (by omega) (by omega) (by omega) (fun _ => by exfalso; omega) (fun _ _ => ?_)) | (with_reducible refine inn_ok (by omega) (by omega) (by omega) (fun _ => ?_) (fun _ _ => ?_)) | (with_reducible refine ite_i (fun _ => ?_) (fun _ => ?_)) | (with_reducible refine all_eq ?_))
    all_goals (first | exact Lf.mk rfl (h.up hk) | exact Lf.mk rfl (h.f hk _) | exact Lf.mk (by omega) (h.up hk) | skip)
  · repeat' (first | (with_reducible refine ⟨by omega, ?_⟩) | (with_reducible refine ite_p (by omega) ?_) | (with_reducible refine ite_n (by omega) ?_) | (with_reducible refine inn_ok (by omega) (by omega) (by omega) (fun _ => ?_) (fun _ _ => by exfalso; omega)) | (with_reducible refine inn_ok (by omega) (by omega) (by omega) (fun _ => by exfalso; omega) (fun _ _ => ?_)) | (with_reducible refine inn_ok (by omega) (by omega) (by omega) (fun _ => ?_) (fun _ _ => ?_)) | (with_reducible refine ite_i (fun _ => ?_) (fun _ => ?_)) | (with_reducible refine all_eq ?_))
    all_goals (first | exact Lf.mk rfl (h.up hk) | exact Lf.mk rfl (h.f hk _) | exact Lf.mk (by omega) (h.up hk) | skip)
  · repeat' (first | (with_reducible refine ⟨by omega, ?_⟩) | (with_reducible refine ite_p (by omega) ?_) | (with_reducible refine ite_n (by omega) ?_) | (with_reducible refine inn_ok (by omega) (by omega) (by omega) (fun _ => ?_) (fun _ _ => by exfalso; omega)) | (with_reducible refine inn_ok (by omega) (by omega) (by omega) (fun _ => by exfalso; omega) (fun _ _ => ?_)) | (with_reducible refine inn_ok (by omega) (by omega) (by omega) (fun _ => ?_) (fun _ _ => ?_)) | (with_reducible refine ite_i (fun _ => ?_) (fun _ => ?_)) | (with_reducible refine all_eq ?_))
    all_goals (first | exact Lf.mk rfl (h.up hk) | exact Lf.mk rfl (h.f hk _) | exact Lf.mk (by omega) (h.up hk) | skip)
  · repeat' (first | (with_reducible refine ⟨by omega, ?_⟩) | (with_reducible refine ite_p (by omega) ?_) | (with_reducible refine ite_n (by omega) ?_) | (with_reducible refine inn_ok (by omega) (by omega) (by omega) (fun _ => ?_) (fun _ _ => by exfalso; omega)) | (with_reducible refine inn_ok (by omega) (by omega) (by omega) (fun _ => by exfalso; omega) (fun _ _ => ?_)) | (with_reducible refine inn_ok (by omega) (by omega) (by omega) (fun _ => ?_) (fun _ _ => ?_)) | (with_reducible refine ite_i (fun _ => ?_) (fun _ => ?_)) | (with_reducible refine all_eq ?_))
    all_goals (first | exact Lf.mk rfl (h.up hk) | exact Lf.mk rfl (h.f hk _) | exact Lf.mk (by omega) (h.up hk) | skip)
  · repeat' (first | (with_reducible refine ⟨by omega, ?_⟩) | (with_reducible refine ite_p (by omega) ?_) | (with_reducible refine ite_n (by omega) ?_) | (with_reducible refine inn_ok (by omega) (by omega) (by omega) (fun _ => ?_) (fun _ _ => by exfalso; omega)) | (with_reducible refine inn_ok (by omega) (by omega) (by omega) (fun _ => by exfalso; omega) (fun _ _ => ?_)) | (with_reducible refine inn_ok (by omega) (by omega) (by omega) (fun _ => ?_) (fun _ _ => ?_)) | (with_reducible refine ite_i (fun _ => ?_) (fun _ => ?_)) | (with_reducible refine all_eq ?_))
    all_goals (first | exact Lf.mk rfl (h.up hk) | exact Lf.mk rfl (h.f hk _) | exact Lf.mk (by omega) (h.up hk) | skip)
  · unfold wpX2_search wpX11_nearest_J90
    by_cases e : x3 = 1
    · subst e
      obtain ⟨c2, r2, f1, f2, f3⟩ := near1 (W := r 0 48 0) hR (by omega) (by omega) (by omega) (by omega) (by omega) rfl (U := x1) (V := x2)
      refine ⟨h1, all_eq ⟨h2, all_eq (all_eq (f2 _ ?_))⟩⟩
      exact inn_ok h1 (by omega) (by omega) (fun _ => by exfalso; omega) (fun _ _ => ite_n (by decide) (inn_ok h2 (by omega) (by omega) (fun _ => by exfalso; omega) (fun _ _ => ite_n (by decide) (inn_ok h3 (by omega) (by omega) (fun _ => by exfalso; omega) (fun _ _ => ite_n (by decide) ⟨by omega, by omega, ite_p (by omega) (all_eq ⟨by omega, ite_p rfl (f3 _ (Lf.mk rfl (h.of hk f1)))⟩)⟩)))))
    · have e2 : x3 = 2 := by omega
      subst e2
      obtain ⟨c2, r2, f1, f2, f3⟩ := near2 (W := r 0 48 0) hR (by omega) (by omega) (by omega) (by omega) (by omega) rfl (U := x1) (V := x2)
      refine ⟨h1, all_eq ⟨h2, all_eq (all_eq (f2 _ ?_))⟩⟩
      exact inn_ok h1 (by omega) (by omega) (fun _ => by exfalso; omega) (fun _ _ => ite_n (by decide) (inn_ok h2 (by omega) (by omega) (fun _ => by exfalso; omega) (fun _ _ => ite_n (by decide) (inn_ok h3 (by omega) (by omega) (fun _ => by exfalso; omega) (fun _ _ => ite_n (by decide) ⟨by omega, by omega, ite_p (by omega) (all_eq ⟨by omega, ite_n (by decide) (f3 _ (Lf.mk rfl (h.of hk f1)))⟩)⟩)))))
  · repeat' (first | (with_reducible refine ⟨by omega, ?_⟩) | (with_reducible refine ite_p (by omega) ?_) | (with_reducible refine ite_n (by omega) ?_) | (with_reducible refine inn_ok (by omega) (by omega) (by omega) (fun _ => ?_) (fun _ _ => by exfalso; omega)) | (with_reducible refine inn_ok (by omega) (by omega) (by omega) (fun _ => by exfalso; omega) (fun _ _ => ?_)) | (with_reducible refine inn_ok (by omega) (by omega) (by omega) (fun _ => ?_) (fun _ _ => ?_)) | (with_reducible refine found_ok (by decide) (by decide) ?_) | (with_reducible refine meets_ok (by decide) (by decide) ?_) | (with_reducible refine ite_i (fun _ => ?_) (fun _ => ?_)) | (with_reducible refine all_eq ?_))
    all_goals (first | exact Lf.mk rfl (h.up hk) | exact Lf.mk rfl (h.f hk _) | exact Lf.mk (by omega) (h.up hk) | skip)
  · repeat' (first | (with_reducible refine ⟨by omega, ?_⟩) | (with_reducible refine ite_p (by omega) ?_) | (with_reducible refine ite_n (by omega) ?_) | (with_reducible refine inn_ok (by omega) (by omega) (by omega) (fun _ => ?_) (fun _ _ => by exfalso; omega)) | (with_reducible refine inn_ok (by omega) (by omega) (by omega) (fun _ => by exfalso; omega) (fun _ _ => ?_)) | (with_reducible refine inn_ok (by omega) (by omega) (by omega) (fun _ => ?_) (fun _ _ => ?_)) | (with_reducible refine ite_i (fun _ => ?_) (fun _ => ?_)) | (with_reducible refine all_eq ?_))
    all_goals (first | exact Lf.mk rfl (h.up hk) | exact Lf.mk rfl (h.f hk _) | exact Lf.mk (by omega) (h.up hk) | skip)
