theorem Rel.gearT {bd bs bw : Int} {G : GG} {c r c' r' : MM} (hR : Rel bd bs bw G c r) (hc : ∀ f e : Nat, ¬ (f = 18 ∨ (f = 7 ∧ e ≠ 1)) → c' f e = c f e) (hr : ∀ f e : Nat, ¬ (f = 51 ∨ f = 52 ∨ (f = 0 ∧ (e = 53 ∨ e = 54 ∨ e = 55 ∨ e = 50 ∨ e = 3 ∨ e = 4))) → r' f e = r f e) (q4 : c' 7 7 0 = r' 0 3 0) (q5 : c' 7 8 0 = r' 0 4 0) (q6 : c' 7 3 0 = r' 0 50 0 ∧ 0 ≤ r' 0 50 0 ∧ r' 0 50 0 ≤ 4) (q7 : ∀ i, 0 ≤ i → i < r' 0 50 0 → c' 18 0 i = r' 51 0 i) : Rel bd bs bw G c' r' := by
  refine ⟨hR.K0, (by rw [hc 0 12 (by decide), hr 0 0 (by decide)]; exact hR.S1), (by rw [hc 19 0 (by decide), hr 1 0 (by decide)]; exact hR.S2), (by rw [hc 0 11 (by decide), hr 0 2 (by decide)]; exact hR.S3), (by rw [hc 0 4 (by decide), hr 0 5 (by decide)]; exact hR.S4), (by rw [hr 0 5 (by decide)]; exact hR.S5), (by rw [hc 8 0 (by decide), hr 8 0 (by decide)]; exact hR.R1), (by rw [hr 8 0 (by decide)]; exact hR.R2), (by rw [hc 1 1 (by decide), hr 7 0 (by decide)]; exact hR.R3), (by rw [hc 0 2 (by decide), hr 0 10 (by decide)]; exact hR.T0), (by rw [hr 0 10 (by decide), hr 11 0 (by decide), hr 12 0 (by decide), hr 15 0 (by decide)]; exact hR.T1), (by rw [hc 21 0 (by decide), hr 0 10 (by decide)]; exact hR.T2), (by rw [hc 21 0 (by decide), hr 0 10 (by decide)]; exact hR.T3), (by rw [hc 9 0 (by decide), hr 13 0 (by decide)]; exact hR.E1), (by rw [hc 10 0 (by decide), hr 16 0 (by decide)]; exact hR.E2), (by rw [hc 2 14 (by decide), hr 14 0 (by decide)]; exact hR.E3), (by rw [hc 2 16 (by decide), hr 17 0 (by decide)]; exact hR.E4), (by rw [hc 2 3 (by decide), hr 18 0 (by decide)]; exact hR.E5), (by rw [hc 2 4 (by decide), hr 19 0 (by decide)]; exact hR.E6), (by rw [hc 2 5 (by decide), hr 20 0 (by decide)]; exact hR.E7), (by rw [hc 2 7 (by decide), hr 21 0 (by decide)]; exact hR.E8), (by rw [hc 2 6 (by decide), hr 23 0 (by decide)]; exact hR.E9), (by rw [hc 2 8 (by decide), hr 24 0 (by decide)]; exact hR.E10), (by rw [hc 2 11 (by decide), hr 25 0 (by decide)]; exact hR.E11), (by rw [hr 0 10 (by decide), hr 11 0 (by decide), hr 12 0 (by decide)]; exact hR.I1), (by rw [hr 0 10 (by decide), hr 11 0 (by decide), hr 12 0 (by decide), hr 14 0 (by decide)]; exact hR.I2), (by rw [hr 0 10 (by decide), hr 12 0 (by decide), hr 13 0 (by decide)]; exact hR.I3), (by rw [hr 0 10 (by decide), hr 18 0 (by decide)]; exact hR.I4), (by rw [hr 0 10 (by decide), hr 19 0 (by decide)]; exact hR.I5), (by rw [hr 0 10 (by decide), hr 20 0 (by decide), hr 24 0 (by decide)]; exact hR.I6), (by rw [hr 0 10 (by decide), hr 23 0 (by decide)]; exact hR.I7), (by rw [hr 0 10 (by decide), hr 25 0 (by decide)]; exact hR.I8), (by rw [hr 0 10 (by decide), hr 11 0 (by decide), hr 15 0 (by decide)]; exact hR.I9), (by rw [hr 0 10 (by decide), hr 11 0 (by decide), hr 15 0 (by decide), hr 17 0 (by decide)]; exact hR.I10), (by rw [hr 16 0 (by decide)]; exact hR.I11), (by rw [hr 0 10 (by decide), hr 21 0 (by decide)]; exact hR.I12), (by rw [hr 0 10 (by decide), hr 12 0 (by decide), hr 14 0 (by decide), hr 15 0 (by decide), hr 17 0 (by decide), hr 21 0 (by decide), hr 23 0 (by decide), hr 24 0 (by decide), hr 25 0 (by decide)]; exact hR.I13), (by rw [hr 0 6 (by decide), hr 0 10 (by decide), hr 24 0 (by decide)]; exact hR.I14), (by rw [hc 3 0 (by decide), hr 26 0 (by decide)]; exact hR.W1), (by rw [hc 3 1 (by decide), hr 27 0 (by decide)]; exact hR.W2), (by rw [hc 3 2 (by decide), hr 28 0 (by decide)]; exact hR.W3), (by rw [hc 3 4 (by decide), hr 29 0 (by decide)]; exact hR.W4), (by rw [hc 3 3 (by decide), hr 30 0 (by decide)]; exact hR.W5), (by rw [hc 3 5 (by decide), hr 31 0 (by decide)]; exact hR.W6), (by rw [hc 3 8 (by decide), hr 32 0 (by decide)]; exact hR.W7), (by rw [hc 3 9 (by decide), hr 33 0 (by decide)]; exact hR.W8), (by rw [hc 3 10 (by decide), hr 32 0 (by decide), hr 33 0 (by decide), hr 34 0 (by decide)]; exact hR.W9), (by rw [hr 26 0 (by decide)]; exact hR.J1), (by rw [hr 27 0 (by decide)]; exact hR.J2), (by rw [hr 28 0 (by decide)]; exact hR.J3), (by rw [hr 29 0 (by decide)]; exact hR.J4), (by rw [hr 30 0 (by decide)]; exact hR.J5), (by rw [hr 31 0 (by decide)]; exact hR.J6), (by rw [hr 32 0 (by decide), hr 33 0 (by decide), hr 34 0 (by decide)]; exact hR.J7), (by rw [hc 3 6 (by decide), hc 3 7 (by decide), hr 35 0 (by decide)]; exact hR.H1), (by rw [hr 0 10 (by decide), hr 22 0 (by decide), hr 35 0 (by decide)]; exact hR.H2), (by rw [hc 2 9 (by decide), hr 0 10 (by decide), hr 22 0 (by decide), hr 35 0 (by decide)]; exact hR.H3), (by rw [hc 2 10 (by decide), hr 35 0 (by decide), hr 36 0 (by decide)]; exact hR.H4), (by rw [hc 4 4 (by decide), hc 4 5 (by decide), hr 37 0 (by decide)]; exact hR.L1), (by rw [hc 4 4 (by decide), hc 11 0 (by decide), hc 12 0 (by decide), hc 13 0 (by decide), hc 14 0 (by decide), hr 37 0 (by decide), hr 38 0 (by decide)]; exact hR.L2), (by rw [hc 5 1 (by decide), hr 0 40 (by decide)]; exact hR.A1), (by rw [hc 5 1 (by decide), hc 15 0 (by decide), hr 41 0 (by decide)]; exact hR.A2), (by rw [hc 0 7 (by decide)]; exact hR.F1), (by rw [hc 0 7 (by decide), hc 0 8 (by decide), hr 0 43 (by decide)]; exact hR.F2), (by rw [hc 0 7 (by decide), hc 0 9 (by decide), hr 0 44 (by decide)]; exact hR.F3), (by rw [hc 7 1 (by decide), hr 0 48 (by decide)]; exact hR.Q1), (by rw [hc 17 0 (by decide), hr 49 0 (by decide)]; exact hR.Q2), (by rw [hr 0 48 (by decide), hr 49 0 (by decide)]; exact hR.Q3), q4, q5, q6, q7⟩
def GA (n U V : Int) (c0 r0 c r : MM) : Prop := GC c0 c ∧ GR r0 r ∧ c 7 4 0 = U ∧ c 7 5 0 = V ∧ ((r 0 55 0 = 0 ∧ c 7 3 0 = 0) ∨ GSt n U V c r)
theorem GSt.of52 {n U V : Int} {c r r' : MM} (h : GSt n U V c r) (e : ∀ f e : Nat, f ≠ 52 → r' f e = r f e) : GSt n U V c r' := by
  obtain ⟨s1, s2, s3, s4, s5, s6, s7, s8⟩ := h
  refine ⟨?_, s2, ?_, ?_, s5, s6, s7, fun i a b => ?_⟩
  · rw [e 0 55 (by decide)]; exact s1
  · rw [e 0 53 (by decide)]; exact s3
  · rw [e 0 54 (by decide)]; exact s4
  · rw [e 51 0 (by decide)]; exact s8 i a b
theorem GA.of52 {n U V : Int} {c0 r0 c r r' : MM} (h : GA n U V c0 r0 c r) (e : ∀ f e : Nat, f ≠ 52 → r' f e = r f e) : GA n U V c0 r0 c r' := by
  obtain ⟨a1, a2, a3, a4, a5⟩ := h
  refine ⟨a1, fun f g hf => ?_, a3, a4, ?_⟩
  · rw [e f g (fun q => hf (Or.inr (Or.inl q)))]
    exact a2 f g hf
  · rcases a5 with ⟨z1, z2⟩ | z
    · exact Or.inl ⟨by rw [e 0 55 (by decide)]; exact z1, z2⟩
    · exact Or.inr (z.of52 e)
theorem ms52 (r : MM) (j v : Int) : ∀ f e : Nat, f ≠ 52 → ms r 52 0 j v f e = r f e := fun _ _ h => ms_other r (fun q => h q.1) j v
theorem in1 {U V W X : Int} {c0 r0 : MM} {G : GG} (U0 : 1 ≤ U) (U1 : U ≤ 10000) (V0 : 1 ≤ V) (V1 : V ≤ 10000) (W0 : 2 ≤ W) (W1 : W ≤ 12) (hX : X = W * W) (cW : c0 7 1 0 = W) (rW : r0 0 48 0 = W) (hT : ∀ w, 0 ≤ w → w < W → c0 17 0 w = r0 49 0 w ∧ 6 ≤ r0 49 0 w ∧ r0 49 0 w ≤ 200) {a : Int} (a0 : 0 ≤ a) (a1 : a < W) : ∀ (m : Nat) (b : Int) (c r : MM), 0 ≤ b → b + m = W → GA 1 U V c0 r0 c r → ∃ c' r', GA 1 U V c0 r0 c' r' ∧ ((GSt 1 U V c r ∨ ∃ b', b ≤ b' ∧ b' < W ∧ b' ≠ a) → GSt 1 U V c' r') ∧ (∀ (k20 : Int → Int → MM → Prop) (Q : Int → MM → Prop), k20 1 (a + 1) c' → ∃ f, wpX2_search_L32 G k20 Q f 1 a b c) ∧ (∀ Q : Int → MM → Prop, (∃ f, wpX11_nearest_L95 Q f U V 1 X (a * W + W) r') → ∃ f, wpX11_nearest_L95 Q f U V 1 X (a * W + b) r) := by
  have XX := mul_rng (show 0 ≤ W by omega) W1 (show 0 ≤ W by omega) W1
  have aW : a * W + W ≤ X := by
    have := Int.mul_le_mul_of_nonneg_right (show a + 1 ≤ W by omega) (show 0 ≤ W by omega)
    rw [Int.add_mul, Int.one_mul] at this
    omega
  have aW0 : 0 ≤ a * W := Int.mul_nonneg a0 (by omega)
  intro m
  induction m with
  | zero =>
    intro b c r b0 hb hG
    have e : b = W := by omega
    subst e
    have c71 : c 7 1 0 = b := by rw [hG.1 7 1 (by decide)]; exact cW
    refine ⟨c, r, hG, fun z => ?_, fun k20 Q h => ⟨1, by omega, ?_⟩, fun Q h => h⟩
    · rcases z with z | ⟨b', u, v, _⟩
      · exact z
      · exfalso; omega
    · rw [c71]
      exact ⟨by omega, ite_p (by omega) h⟩
  | succ m ih =>
    intro b c r b0 hb hG
    have c71 : c 7 1 0 = W := by rw [hG.1 7 1 (by decide)]; exact cW
    have r48 : r 0 48 0 = W := by rw [hG.2.1 0 48 (by decide)]; exact rW
    obtain ⟨r1, hr1⟩ : ∃ r1, r1 = ms (ms r 52 0 1 b) 52 0 0 a := ⟨_, rfl⟩
    have e52 : ∀ f e : Nat, f ≠ 52 → r1 f e = r f e := fun f e h => by
      rw [hr1, ms52 _ _ _ f e h, ms52 _ _ _ f e h]
    have hG1 := hG.of52 e52
    by_cases z : a = b
    · obtain ⟨c', r', g1, g2, g3, g4⟩ := ih (b + 1) c r1 (by omega) (by omega) hG1
      refine ⟨c', r', g1, fun w => g2 ?_, fun k20 Q h => ?_, fun Q h => ?_⟩
      · rcases w with w | ⟨b', u, v, y⟩
        · exact Or.inl (w.of52 e52)
        · exact Or.inr ⟨b', by omega, v, y⟩
      · obtain ⟨f, h⟩ := g3 k20 Q h
        refine ⟨f + 1, by omega, ?_⟩
        rw [c71]
        exact ⟨by omega, ite_n (by omega) ⟨by omega, ite_p z ⟨by omega, by omega, ite_p z h⟩⟩⟩
      · obtain ⟨f, h⟩ := g4 Q h
        refine ⟨f + 1, by omega, by omega, ite_n (by omega) (all_eq (dec1_ok r48 (by omega) W1 a0 a1 b0 (by omega) (fun _ => ?_) (fun y => absurd z y)))⟩
        rw [← hr1, Int.add_assoc]
        exact h
    · have ta := hT a a0 a1
      have tb := hT b b0 (by omega)
      obtain ⟨c1, r2, k1, k2, k3, k4, k5, k6, k7, k8⟩ := gear_ok (G := G) (Or.inl rfl) U0 U1 V0 V1 hG1.1 hG1.2.1 hG1.2.2.1 hG1.2.2.2.1 hG1.2.2.2.2 (a := a) (b := b) (p := -9) (q := -9) (tp := 1) (tq := 1) a0 (by omega) b0 (by omega) (Or.inl ⟨rfl, rfl, rfl, rfl, rfl⟩) ta.1 tb.1 rfl rfl (by rw [hr1]; exact ms_at _ _ _ _ _) (by rw [hr1]; rfl) (by omega) (by omega) (by decide) (by decide) rfl rfl
      obtain ⟨c', r', g1, g2, g3, g4⟩ := ih (b + 1) c1 r2 (by omega) (by omega) ⟨k1, k2, k3, k4, Or.inr k5⟩
      refine ⟨c', r', g1, fun _ => g2 (Or.inl k5), fun k20 Q h => ?_, fun Q h => ?_⟩
      · obtain ⟨f, h⟩ := g3 k20 Q h
        refine ⟨f + 1, by omega, ?_⟩
        rw [c71]
        exact ⟨by omega, ite_n (by omega) ⟨by omega, ite_n z ⟨by decide, ite_p rfl (k7 _ h)⟩⟩⟩
      · obtain ⟨f, h⟩ := g4 Q h
        refine ⟨f + 1, by omega, by omega, ite_n (by omega) (all_eq (dec1_ok r48 (by omega) W1 a0 a1 b0 (by omega) (fun y => absurd y z) (fun _ => ?_)))⟩
        rw [← hr1]
        refine k8 _ ?_
        rw [Int.add_assoc]
        exact h
