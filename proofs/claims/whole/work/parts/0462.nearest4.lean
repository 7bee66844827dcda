theorem inB {U V W X : Int} {c0 r0 : MM} {G : GG} (U0 : 1 ≤ U) (U1 : U ≤ 10000) (V0 : 1 ≤ V) (V1 : V ≤ 10000) (W0 : 2 ≤ W) (W1 : W ≤ 12) (cW : c0 7 1 0 = W) (rW : r0 0 48 0 = W) (hT : ∀ w, 0 ≤ w → w < W → c0 17 0 w = r0 49 0 w ∧ 6 ≤ r0 49 0 w ∧ r0 49 0 w ≤ 200) {a : Int} (a0 : 0 ≤ a) (a1 : a < W) (hX : ((a * W + W) * W) * W ≤ X) (hX2 : X ≤ 20736) : ∀ (m : Nat) (b : Int) (c r : MM), 0 ≤ b → b + m = W → GA 2 U V c0 r0 c r → ∃ c' r', GA 2 U V c0 r0 c' r' ∧ ((GSt 2 U V c r ∨ ∃ b' p' q', (b ≤ b' ∧ b' < W ∧ b' ≠ a) ∧ 0 ≤ p' ∧ p' < W ∧ p' ≠ a ∧ p' ≠ b' ∧ 0 ≤ q' ∧ q' < W ∧ q' ≠ a ∧ q' ≠ b' ∧ q' ≠ p') → GSt 2 U V c' r') ∧ (∀ (k20 : Int → Int → MM → Prop) (Q : Int → MM → Prop), k20 2 (a + 1) c' → ∃ f, wpX2_search_L32 G k20 Q f 2 a b c) ∧ (∀ Q : Int → MM → Prop, (∃ f, wpX11_nearest_L95 Q f U V 2 X (((a * W + W) * W + 0) * W + 0) r') → ∃ f, wpX11_nearest_L95 Q f U V 2 X (((a * W + b) * W + 0) * W + 0) r) := by
  intro m
  induction m with
  | zero =>
    intro b c r b0 hb hG
    have e : b = W := by omega
    have c71 : c 7 1 0 = W := by rw [hG.1 7 1 (by decide)]; exact cW
    refine ⟨c, r, hG, fun z => ?_, fun k20 Q h => ⟨1, by omega, ?_⟩, fun Q h => by rw [e]; exact h⟩
    · rcases z with z | ⟨b', p', q', u, _⟩
      · exact z
      · exfalso; omega
    · rw [c71]
      exact ⟨by omega, ite_p (by omega) h⟩
  | succ m ih =>
    intro b c r b0 hb hG
    have c71 : c 7 1 0 = W := by rw [hG.1 7 1 (by decide)]; exact cW
    have r48 : r 0 48 0 = W := by rw [hG.2.1 0 48 (by decide)]; exact rW
    have hXb : ((a * W + b) * W + W) * W ≤ X := by
      have q := row_le (Y := a * W) (p := b) (W := W) (X := (a * W + W) * W) (by omega) (by omega) (Int.le_refl _)
      have := Int.mul_le_mul_of_nonneg_right q (show 0 ≤ W by omega)
      omega
    by_cases z : a = b
    · obtain ⟨r1, k1, k2⟩ := skP (U := U) (V := V) W0 W1 a0 a1 b0 (by omega) hXb hX2 z W.toNat 0 r (by decide) (by omega) r48
      obtain ⟨c', r', g1, g2, g3, g4⟩ := ih (b + 1) c r1 (by omega) (by omega) (hG.of52 k1)
      refine ⟨c', r', g1, fun w => g2 ?_, fun k20 Q h => ?_, fun Q h => k2 Q ?_⟩
      · rcases w with w | ⟨b', p', q', u, v⟩
        · exact Or.inl (w.of52 k1)
        · exact Or.inr ⟨b', p', q', by omega, v⟩
      · obtain ⟨f, h⟩ := g3 k20 Q h
        refine ⟨f + 1, by omega, ?_⟩
        rw [c71]
        exact ⟨by omega, ite_n (by omega) ⟨by omega, ite_p z ⟨by omega, by omega, ite_p z h⟩⟩⟩
      · rw [nxtI (a * W) b W]
        exact g4 Q h
    · obtain ⟨c1, r1, k1, k2, k3, k4⟩ := inP (G := G) U0 U1 V0 V1 W0 W1 cW rW hT a0 a1 b0 (by omega) z hXb hX2 W.toNat 0 c r (by decide) (by omega) hG
      obtain ⟨c', r', g1, g2, g3, g4⟩ := ih (b + 1) c1 r1 (by omega) (by omega) k1
      refine ⟨c', r', g1, fun w => g2 ?_, fun k20 Q h => ?_, fun Q h => k4 Q ?_⟩
      · rcases w with w | ⟨b', p', q', u, v⟩
        · exact Or.inl (k2 (Or.inl w))
        · by_cases y : b' = b
          · subst y
            exact Or.inl (k2 (Or.inr ⟨p', q', v⟩))
          · exact Or.inr ⟨b', p', q', by omega, v⟩
      · obtain ⟨f, h⟩ := g3 k20 Q h
        obtain ⟨f2, h2⟩ := k3 (fun _ μ5 => wpX2_search_L32 G k20 Q f 2 a (b + 1) μ5) h
        refine ⟨f + 1, by omega, ?_⟩
        rw [c71]
        exact ⟨by omega, ite_n (by omega) ⟨by omega, ite_n z ⟨by decide, ite_n (by decide) ⟨by omega, by omega, ite_n z ⟨f2, h2⟩⟩⟩⟩⟩
      · rw [nxtI (a * W) b W]
        exact g4 Q h
theorem allA {n U V W X : Int} {c0 r0 : MM} {G : GG} {idx : Int → Int} (W0 : 2 ≤ W) (W1 : W ≤ 12) (cW : c0 7 1 0 = W) (st : ∀ a, 0 ≤ a → a < W → ∀ c r, GA n U V c0 r0 c r → ∃ c' r', GA n U V c0 r0 c' r' ∧ (GSt n U V c r ∨ a = 0 → GSt n U V c' r') ∧ (∀ (k20 : Int → Int → MM → Prop) (Q : Int → MM → Prop), k20 n (a + 1) c' → ∃ f, wpX2_search_L32 G k20 Q f n a 0 c) ∧ (∀ Q : Int → MM → Prop, (∃ f, wpX11_nearest_L95 Q f U V n X (idx (a + 1)) r') → ∃ f, wpX11_nearest_L95 Q f U V n X (idx a) r)) : ∀ (m : Nat) (a : Int) (c r : MM), 0 ≤ a → a + m = W → GA n U V c0 r0 c r → ∃ c' r', GA n U V c0 r0 c' r' ∧ (GSt n U V c r ∨ a = 0 → GSt n U V c' r') ∧ (∀ Q : Int → MM → Prop, wpX2_reduce G c' (fun _ μ5 => Q 0 μ5) → ∃ f, wpX2_search_L20 G Q f n a c) ∧ (∀ Q : Int → MM → Prop, (∃ f, wpX11_nearest_L95 Q f U V n X (idx W) r') → ∃ f, wpX11_nearest_L95 Q f U V n X (idx a) r) := by
  intro m
  induction m with
  | zero =>
    intro a c r a0 ha hG
    have e : a = W := by omega
    have c71 : c 7 1 0 = W := by rw [hG.1 7 1 (by decide)]; exact cW
    refine ⟨c, r, hG, fun z => ?_, fun Q h => ⟨1, by omega, ?_⟩, fun Q h => by rw [e]; exact h⟩
    · rcases z with z | z
      · exact z
      · exfalso; omega
    · rw [c71]
      exact ⟨by omega, ite_p (by omega) h⟩
  | succ m ih =>
    intro a c r a0 ha hG
    have c71 : c 7 1 0 = W := by rw [hG.1 7 1 (by decide)]; exact cW
    obtain ⟨c1, r1, k1, k2, k3, k4⟩ := st a a0 (by omega) c r hG
    obtain ⟨c', r', g1, g2, g3, g4⟩ := ih (a + 1) c1 r1 (by omega) (by omega) k1
    refine ⟨c', r', g1, fun w => g2 (Or.inl (k2 w)), fun Q h => ?_, fun Q h => k4 Q (g4 Q h)⟩
    obtain ⟨f, h⟩ := g3 Q h
    obtain ⟨f2, h2⟩ := k3 (fun x3' x4' μ' => wpX2_search_L20 G Q f x3' x4' μ') Q h
    refine ⟨f + 1, by omega, ?_⟩
    rw [c71]
    exact ⟨by omega, ite_n (by omega) ⟨f2, h2⟩⟩
