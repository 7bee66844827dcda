theorem row_le {Y p W X : Int} (W0 : 0 ≤ W) (p1 : p < W) (h : (Y + W) * W ≤ X) : (Y + p) * W + W ≤ X := by
  have := Int.mul_le_mul_of_nonneg_right (show Y + p + 1 ≤ Y + W by omega) W0
  rw [Int.add_mul (Y + p), Int.one_mul] at this
  omega
theorem skP {U V W X a b : Int} (W0 : 2 ≤ W) (W1 : W ≤ 12) (a0 : 0 ≤ a) (a1 : a < W) (b0 : 0 ≤ b) (b1 : b < W) (hX : ((a * W + b) * W + W) * W ≤ X) (hX2 : X ≤ 20736) (hd : a = b) : ∀ (m : Nat) (p : Int) (r : MM), 0 ≤ p → p + m = W → r 0 48 0 = W → ∃ r', (∀ f e : Nat, f ≠ 52 → r' f e = r f e) ∧ (∀ Q : Int → MM → Prop, (∃ f, wpX11_nearest_L95 Q f U V 2 X (((a * W + b) * W + W) * W + 0) r') → ∃ f, wpX11_nearest_L95 Q f U V 2 X (((a * W + b) * W + p) * W + 0) r) := by
  intro m
  induction m with
  | zero =>
    intro p r p0 hp r48
    have e : p = W := by omega
    rw [e]
    exact ⟨r, fun _ _ _ => rfl, fun Q h => h⟩
  | succ m ih =>
    intro p r p0 hp r48
    have y0 : 0 ≤ (a * W + b) * W := Int.mul_nonneg (by have := Int.mul_nonneg a0 (show 0 ≤ W by omega); omega) (by omega)
    have y1 : 0 ≤ ((a * W + b) * W + p) * W := Int.mul_nonneg (by omega) (by omega)
    obtain ⟨r1, k1, k2⟩ := skQ (U := U) (V := V) W0 W1 a0 a1 b0 b1 p0 (by omega) (row_le (by omega) (by omega) hX) hX2 y1 (Or.inl hd) W.toNat 0 r (by decide) (by omega) r48
    obtain ⟨r', g1, g2⟩ := ih (p + 1) r1 (by omega) (by omega) (by rw [k1 0 48 (by decide)]; exact r48)
    refine ⟨r', fun f e h => (g1 f e h).trans (k1 f e h), fun Q h => k2 Q ?_⟩
    rw [nxtI]
    exact g2 Q h
theorem inP {U V W X : Int} {c0 r0 : MM} {G : GG} (U0 : 1 ≤ U) (U1 : U ≤ 10000) (V0 : 1 ≤ V) (V1 : V ≤ 10000) (W0 : 2 ≤ W) (W1 : W ≤ 12) (cW : c0 7 1 0 = W) (rW : r0 0 48 0 = W) (hT : ∀ w, 0 ≤ w → w < W → c0 17 0 w = r0 49 0 w ∧ 6 ≤ r0 49 0 w ∧ r0 49 0 w ≤ 200) {a b : Int} (a0 : 0 ≤ a) (a1 : a < W) (b0 : 0 ≤ b) (b1 : b < W) (hab : a ≠ b) (hX : ((a * W + b) * W + W) * W ≤ X) (hX2 : X ≤ 20736) : ∀ (m : Nat) (p : Int) (c r : MM), 0 ≤ p → p + m = W → GA 2 U V c0 r0 c r → ∃ c' r', GA 2 U V c0 r0 c' r' ∧ ((GSt 2 U V c r ∨ ∃ p' q', p ≤ p' ∧ p' < W ∧ p' ≠ a ∧ p' ≠ b ∧ 0 ≤ q' ∧ q' < W ∧ q' ≠ a ∧ q' ≠ b ∧ q' ≠ p') → GSt 2 U V c' r') ∧ (∀ Q : Int → MM → Prop, Q 0 c' → ∃ f, wpX2_offerSecondPairs_L2 G Q f a b p c) ∧ (∀ Q : Int → MM → Prop, (∃ f, wpX11_nearest_L95 Q f U V 2 X (((a * W + b) * W + W) * W + 0) r') → ∃ f, wpX11_nearest_L95 Q f U V 2 X (((a * W + b) * W + p) * W + 0) r) := by
  intro m
  induction m with
  | zero =>
    intro p c r p0 hp hG
    have e : p = W := by omega
    have c71 : c 7 1 0 = W := by rw [hG.1 7 1 (by decide)]; exact cW
    refine ⟨c, r, hG, fun z => ?_, fun Q h => ⟨1, by omega, ?_⟩, fun Q h => by rw [e]; exact h⟩
    · rcases z with z | ⟨p', q', u, v, _⟩
      · exact z
      · exfalso; omega
    · rw [c71]
      exact ⟨by omega, ite_p (by omega) h⟩
  | succ m ih =>
    intro p c r p0 hp hG
    have c71 : c 7 1 0 = W := by rw [hG.1 7 1 (by decide)]; exact cW
    have r48 : r 0 48 0 = W := by rw [hG.2.1 0 48 (by decide)]; exact rW
    have y0 : 0 ≤ (a * W + b) * W := Int.mul_nonneg (by have := Int.mul_nonneg a0 (show 0 ≤ W by omega); omega) (by omega)
    have y1 : 0 ≤ ((a * W + b) * W + p) * W := Int.mul_nonneg (by omega) (by omega)
    have hXp := row_le (p := p) (show 0 ≤ W by omega) (by omega) hX
    by_cases z : p = a ∨ p = b
    · obtain ⟨r1, k1, k2⟩ := skQ (U := U) (V := V) W0 W1 a0 a1 b0 b1 p0 (by omega) hXp hX2 y1 (by omega) W.toNat 0 r (by decide) (by omega) r48
      obtain ⟨c', r', g1, g2, g3, g4⟩ := ih (p + 1) c r1 (by omega) (by omega) (hG.of52 k1)
      refine ⟨c', r', g1, fun w => g2 ?_, fun Q h => ?_, fun Q h => k2 Q ?_⟩
      · rcases w with w | ⟨p', q', u, v⟩
        · exact Or.inl (w.of52 k1)
        · exact Or.inr ⟨p', q', by omega, v⟩
      · obtain ⟨f, h⟩ := g3 Q h
        refine ⟨f + 1, by omega, ?_⟩
        rw [c71]
        exact ⟨by omega, ite_n (by omega) ⟨by omega, ite_i (fun _ => h) (fun y => ⟨by omega, ite_p (by omega) h⟩)⟩⟩
      · rw [nxtI]
        exact g4 Q h
    · obtain ⟨c1, r1, k1, k2, k3, k4⟩ := inD (G := G) U0 U1 V0 V1 W0 W1 cW rW hT a0 a1 b0 b1 p0 (by omega) hab (by omega) (by omega) hXp hX2 y1 W.toNat 0 c r (by decide) (by omega) hG
      obtain ⟨c', r', g1, g2, g3, g4⟩ := ih (p + 1) c1 r1 (by omega) (by omega) k1
      refine ⟨c', r', g1, fun w => g2 ?_, fun Q h => ?_, fun Q h => k4 Q ?_⟩
      · rcases w with w | ⟨p', q', u, v, u2, u3, u4, u5, u6, u7, u8⟩
        · exact Or.inl (k2 (Or.inl w))
        · by_cases y : p' = p
          · subst y
            exact Or.inl (k2 (Or.inr ⟨q', u4, u5, u6, u7, u8⟩))
          · exact Or.inr ⟨p', q', by omega, v, u2, u3, u4, u5, u6, u7, u8⟩
      · obtain ⟨f, h⟩ := g3 Q h
        obtain ⟨f2, h2⟩ := k3 (fun x1' x2' x3' μ' => wpX2_offerSecondPairs_L2 G Q f x1' x2' x3' μ') Q h
        refine ⟨f + 1, by omega, ?_⟩
        rw [c71]
        exact ⟨by omega, ite_n (by omega) ⟨by omega, ite_n (by omega) ⟨by omega, ite_n (by omega) ⟨f2, h2⟩⟩⟩⟩
      · rw [nxtI]
        exact g4 Q h
