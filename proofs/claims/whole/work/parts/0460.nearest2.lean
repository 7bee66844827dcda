theorem lt_step {x Y p W : Int} (h : x < Y) (p1 : p < W) (W0 : 0 ≤ W) : x * W + p < Y * W := by
  have := Int.mul_le_mul_of_nonneg_right (show x + 1 ≤ Y by omega) W0
  rw [Int.add_mul, Int.one_mul] at this
  omega
theorem nxtI (Y p W : Int) : (Y + p) * W + W = (Y + (p + 1)) * W + 0 := by
  rw [Int.add_mul, Int.add_mul, Int.add_mul]
  omega
theorem skQ {U V W X a b p : Int} (W0 : 2 ≤ W) (W1 : W ≤ 12) (a0 : 0 ≤ a) (a1 : a < W) (b0 : 0 ≤ b) (b1 : b < W) (p0 : 0 ≤ p) (p1 : p < W) (hX : ((a * W + b) * W + p) * W + W ≤ X) (hX2 : X ≤ 20736) (hi : 0 ≤ ((a * W + b) * W + p) * W) (hd : a = b ∨ a = p ∨ b = p) : ∀ (m : Nat) (q : Int) (r : MM), 0 ≤ q → q + m = W → r 0 48 0 = W → ∃ r', (∀ f e : Nat, f ≠ 52 → r' f e = r f e) ∧ (∀ Q : Int → MM → Prop, (∃ f, wpX11_nearest_L95 Q f U V 2 X (((a * W + b) * W + p) * W + W) r') → ∃ f, wpX11_nearest_L95 Q f U V 2 X (((a * W + b) * W + p) * W + q) r) := by
  intro m
  induction m with
  | zero =>
    intro q r q0 hq r48
    have e : q = W := by omega
    rw [e]
    exact ⟨r, fun _ _ _ => rfl, fun Q h => h⟩
  | succ m ih =>
    intro q r q0 hq r48
    obtain ⟨r1, hr1⟩ : ∃ r1, r1 = ms (ms (ms (ms r 52 0 3 q) 52 0 2 p) 52 0 1 b) 52 0 0 a := ⟨_, rfl⟩
    have e52 : ∀ f e : Nat, f ≠ 52 → r1 f e = r f e := fun f e h => by
      rw [hr1, ms52 _ _ _ f e h, ms52 _ _ _ f e h, ms52 _ _ _ f e h, ms52 _ _ _ f e h]
    obtain ⟨r', g1, g2⟩ := ih (q + 1) r1 (by omega) (by omega) (by rw [e52 0 48 (by decide)]; exact r48)
    refine ⟨r', fun f e h => (g1 f e h).trans (e52 f e h), fun Q h => ?_⟩
    obtain ⟨f, h⟩ := g2 Q h
    refine ⟨f + 1, by omega, by omega, ite_n (by omega) (all_eq (dec2_ok r48 (by omega) W1 a0 a1 b0 b1 p0 p1 q0 (by omega) (fun _ => ?_) (fun y => by exfalso; omega)))⟩
    rw [← hr1, Int.add_assoc]
    exact h
theorem inD {U V W X : Int} {c0 r0 : MM} {G : GG} (U0 : 1 ≤ U) (U1 : U ≤ 10000) (V0 : 1 ≤ V) (V1 : V ≤ 10000) (W0 : 2 ≤ W) (W1 : W ≤ 12) (cW : c0 7 1 0 = W) (rW : r0 0 48 0 = W) (hT : ∀ w, 0 ≤ w → w < W → c0 17 0 w = r0 49 0 w ∧ 6 ≤ r0 49 0 w ∧ r0 49 0 w ≤ 200) {a b p : Int} (a0 : 0 ≤ a) (a1 : a < W) (b0 : 0 ≤ b) (b1 : b < W) (p0 : 0 ≤ p) (p1 : p < W) (hab : a ≠ b) (hap : p ≠ a) (hbp : p ≠ b) (hX : ((a * W + b) * W + p) * W + W ≤ X) (hX2 : X ≤ 20736) (hi : 0 ≤ ((a * W + b) * W + p) * W) : ∀ (m : Nat) (q : Int) (c r : MM), 0 ≤ q → q + m = W → GA 2 U V c0 r0 c r → ∃ c' r', GA 2 U V c0 r0 c' r' ∧ ((GSt 2 U V c r ∨ ∃ q', q ≤ q' ∧ q' < W ∧ q' ≠ a ∧ q' ≠ b ∧ q' ≠ p) → GSt 2 U V c' r') ∧ (∀ (k2 : Int → Int → Int → MM → Prop) (Q : Int → MM → Prop), k2 a b (p + 1) c' → ∃ f, wpX2_offerSecondPairs_L26 G k2 Q f a b p q c) ∧ (∀ Q : Int → MM → Prop, (∃ f, wpX11_nearest_L95 Q f U V 2 X (((a * W + b) * W + p) * W + W) r') → ∃ f, wpX11_nearest_L95 Q f U V 2 X (((a * W + b) * W + p) * W + q) r) := by
  intro m
  induction m with
  | zero =>
    intro q c r q0 hq hG
    have e : q = W := by omega
    have c71 : c 7 1 0 = W := by rw [hG.1 7 1 (by decide)]; exact cW
    refine ⟨c, r, hG, fun z => ?_, fun k2 Q h => ⟨1, by omega, ?_⟩, fun Q h => by rw [e]; exact h⟩
    · rcases z with z | ⟨b', u, v, _⟩
      · exact z
      · exfalso; omega
    · rw [c71]
      exact ⟨by omega, ite_p (by omega) h⟩
  | succ m ih =>
    intro q c r q0 hq hG
    have c71 : c 7 1 0 = W := by rw [hG.1 7 1 (by decide)]; exact cW
    have r48 : r 0 48 0 = W := by rw [hG.2.1 0 48 (by decide)]; exact rW
    obtain ⟨r1, hr1⟩ : ∃ r1, r1 = ms (ms (ms (ms r 52 0 3 q) 52 0 2 p) 52 0 1 b) 52 0 0 a := ⟨_, rfl⟩
    have e52 : ∀ f e : Nat, f ≠ 52 → r1 f e = r f e := fun f e h => by
      rw [hr1, ms52 _ _ _ f e h, ms52 _ _ _ f e h, ms52 _ _ _ f e h, ms52 _ _ _ f e h]
    have hG1 := hG.of52 e52
    by_cases z : q = a ∨ q = b ∨ q = p
    · obtain ⟨c', r', g1, g2, g3, g4⟩ := ih (q + 1) c r1 (by omega) (by omega) hG1
      refine ⟨c', r', g1, fun w => g2 ?_, fun k2 Q h => ?_, fun Q h => ?_⟩
      · rcases w with w | ⟨b', u, v, y⟩
        · exact Or.inl (w.of52 e52)
        · exact Or.inr ⟨b', by omega, v, y⟩
      · obtain ⟨f, h⟩ := g3 k2 Q h
        refine ⟨f + 1, by omega, ?_⟩
        rw [c71]
        exact ⟨by omega, ite_n (by omega) ⟨by omega, ite_i (fun _ => h) (fun y => ⟨by omega, ite_i (fun _ => h) (fun y2 => ⟨by omega, ite_p (by omega) h⟩)⟩)⟩⟩
      · obtain ⟨f, h⟩ := g4 Q h
        refine ⟨f + 1, by omega, by omega, ite_n (by omega) (all_eq (dec2_ok r48 (by omega) W1 a0 a1 b0 b1 p0 p1 q0 (by omega) (fun _ => ?_) (fun y => by exfalso; omega)))⟩
        rw [← hr1, Int.add_assoc]
        exact h
    · have ta := hT a a0 a1
      have tb := hT b b0 b1
      have tp := hT p p0 p1
      have tq := hT q q0 (by omega)
      obtain ⟨c1, r2, k1, k2, k3, k4, k5, k6, k7, k8⟩ := gear_ok (G := G) (Or.inr rfl) U0 U1 V0 V1 hG1.1 hG1.2.1 hG1.2.2.1 hG1.2.2.2.1 hG1.2.2.2.2 (a := a) (b := b) (p := p) (q := q) (tp := r0 49 0 p) (tq := r0 49 0 q) a0 (by omega) b0 (by omega) (Or.inr ⟨rfl, ⟨p0, by omega⟩, ⟨q0, by omega⟩, tp.1, tq.1, rfl, rfl, by rw [hr1]; rfl, by rw [hr1]; rfl⟩) ta.1 tb.1 rfl rfl (by rw [hr1]; exact ms_at _ _ _ _ _) (by rw [hr1]; rfl) (by omega) (by omega) (by omega) (by omega) rfl rfl
      obtain ⟨c', r', g1, g2, g3, g4⟩ := ih (q + 1) c1 r2 (by omega) (by omega) ⟨k1, k2, k3, k4, Or.inr k5⟩
      refine ⟨c', r', g1, fun _ => g2 (Or.inl k5), fun k2' Q h => ?_, fun Q h => ?_⟩
      · obtain ⟨f, h⟩ := g3 k2' Q h
        refine ⟨f + 1, by omega, ?_⟩
        rw [c71]
        exact ⟨by omega, ite_n (by omega) ⟨by omega, ite_n (by omega) ⟨by omega, ite_n (by omega) ⟨by omega, ite_n (by omega) (k7 _ h)⟩⟩⟩⟩
      · obtain ⟨f, h⟩ := g4 Q h
        refine ⟨f + 1, by omega, by omega, ite_n (by omega) (all_eq (dec2_ok r48 (by omega) W1 a0 a1 b0 b1 p0 p1 q0 (by omega) (fun y => by exfalso; omega) (fun _ => ?_)))⟩
        rw [← hr1]
        refine k8 _ ?_
        rw [Int.add_assoc]
        exact h
