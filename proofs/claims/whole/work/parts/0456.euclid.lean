theorem euclid {k : Nat} : ∀ (a b i : Int), 0 ≤ b → b < a → a < 2 ^ k → a ≤ 40000 → 0 ≤ i → i + 2 * k ≤ 100 → ∃ g : Int, 1 ≤ g ∧ g ≤ 40000 ∧ (∀ (G : GG) (Q : Int → MM → Prop) (c : MM), wpX2_reduce_J42 G Q g c → ∃ f, wpX2_reduce_L13 G Q f a b i c) ∧ (∀ (Q : Int → MM → Prop) (r : MM) (X Y : Int), rl X → rl Y → Q 1 (ms (ms r 0 3 0 (Int.tdiv X g)) 0 4 0 (Int.tdiv Y g)) → ∃ f, wpX11_tell_L6 Q f X Y a b r) := by
  induction k with
  | zero =>
    intro a b i b0 ba ha _ _ _
    exfalso
    have : (2 : Int) ^ 0 = 1 := rfl
    omega
  | succ k ih =>
    intro a b i b0 ba ha h4 i0 hi
    have done : ∀ (a i : Int), 1 ≤ a → a ≤ 40000 → 0 ≤ i → i ≤ 100 → (∀ (G : GG) (Q : Int → MM → Prop) (c : MM), wpX2_reduce_J42 G Q a c → ∃ f, wpX2_reduce_L13 G Q f a 0 i c) ∧ (∀ (Q : Int → MM → Prop) (r : MM) (X Y : Int), rl X → rl Y → Q 1 (ms (ms r 0 3 0 (Int.tdiv X a)) 0 4 0 (Int.tdiv Y a)) → ∃ f, wpX11_tell_L6 Q f X Y a 0 r) := by
      intro a i a1 a4 i0 i1
      refine ⟨fun G Q c h => ⟨1, by omega, ite_i (fun _ => h) (fun _ => ⟨by omega, ite_p (by omega) h⟩)⟩, fun Q r X Y hX hY h => ⟨1, by omega, ite_p rfl ⟨hX, by omega, by omega, all_eq ⟨hY, all_eq h⟩⟩⟩⟩
    have step : ∀ (a b i : Int), 0 < b → 0 ≤ a → a ≤ 40000 → b ≤ 40000 → 0 ≤ i → i < 100 → (∃ g : Int, 1 ≤ g ∧ g ≤ 40000 ∧ (∀ (G : GG) (Q : Int → MM → Prop) (c : MM), wpX2_reduce_J42 G Q g c → ∃ f, wpX2_reduce_L13 G Q f b (a % b) (i + 1) c) ∧ (∀ (Q : Int → MM → Prop) (r : MM) (X Y : Int), rl X → rl Y → Q 1 (ms (ms r 0 3 0 (Int.tdiv X g)) 0 4 0 (Int.tdiv Y g)) → ∃ f, wpX11_tell_L6 Q f X Y b (a % b) r)) → ∃ g : Int, 1 ≤ g ∧ g ≤ 40000 ∧ (∀ (G : GG) (Q : Int → MM → Prop) (c : MM), wpX2_reduce_J42 G Q g c → ∃ f, wpX2_reduce_L13 G Q f a b i c) ∧ (∀ (Q : Int → MM → Prop) (r : MM) (X Y : Int), rl X → rl Y → Q 1 (ms (ms r 0 3 0 (Int.tdiv X g)) 0 4 0 (Int.tdiv Y g)) → ∃ f, wpX11_tell_L6 Q f X Y a b r) := by
      intro a b i b0 a0 a4 b4 i0 i1 h
      obtain ⟨g, g1, g2, g3, g4⟩ := h
      have em : Int.tmod a b = a % b := Int.tmod_eq_emod_of_nonneg a0
      refine ⟨g, g1, g2, fun G Q c h => ?_, fun Q r X Y hX hY h => ?_⟩
      · obtain ⟨f, h⟩ := g3 G Q c h
        refine ⟨f + 1, by omega, ite_n (by omega) ⟨by omega, ite_n (by omega) ⟨by omega, by omega, all_eq ?_⟩⟩⟩
        rw [em]
        exact h
      · obtain ⟨f, h⟩ := g4 Q r X Y hX hY h
        refine ⟨f + 1, by omega, ite_n (by omega) ⟨by omega, by omega, all_eq ?_⟩⟩
        rw [em]
        exact h
    by_cases z : b = 0
    · subst z
      obtain ⟨d1, d2⟩ := done a i (by omega) h4 i0 (by omega)
      exact ⟨a, by omega, h4, d1, d2⟩
    · have m0 := Int.emod_nonneg a z
      have m1 := Int.emod_lt_of_pos a (show 0 < b by omega)
      refine step a b i (by omega) (by omega) h4 (by omega) i0 (by omega) ?_
      by_cases z2 : a % b = 0
      · rw [z2]
        obtain ⟨d1, d2⟩ := done b (i + 1) (by omega) (by omega) (by omega) (by omega)
        exact ⟨b, by omega, by omega, d1, d2⟩
      · have n0 := Int.emod_nonneg b z2
        have n1 := Int.emod_lt_of_pos b (show 0 < a % b by omega)
        have half : 2 * (a % b) < a := by
          have e1 := Int.emod_def a b
          have e2 : 1 ≤ a / b := (Int.le_ediv_iff_mul_le (by omega)).mpr (by omega)
          have e3 : b * 1 ≤ b * (a / b) := Int.mul_le_mul_of_nonneg_left e2 (by omega)
          omega
        have p2 : (2 : Int) ^ (k + 1) = 2 * 2 ^ k := by rw [Int.pow_succ]; omega
        refine step b (a % b) (i + 1) (by omega) (by omega) (by omega) (by omega) (by omega) (by omega) ?_
        exact ih (a % b) (b % (a % b)) (i + 1 + 1) n0 n1 (by omega) (by omega) (by omega) (by omega)
theorem reduce_ok {U L : Int} (u0 : 1 ≤ U) (u1 : U ≤ 40000) (l0 : 1 ≤ L) (l1 : L ≤ 40000) : ∃ g : Int, 1 ≤ g ∧ g ≤ 40000 ∧ (∀ (G : GG) (Q : Int → MM → Prop) (c : MM), c 7 7 0 = U → c 7 8 0 = L → Q 0 (ms (ms c 7 7 0 (Int.tdiv U g)) 7 8 0 (Int.tdiv L g)) → wpX2_reduce G c Q) ∧ (∀ (Q : Int → MM → Prop) (r : MM), Q 1 (ms (ms r 0 3 0 (Int.tdiv U g)) 0 4 0 (Int.tdiv L g)) → wpX11_tell U L r Q) := by
  have m0 := Int.emod_nonneg U (show L ≠ 0 by omega)
  have m1 := Int.emod_lt_of_pos U (show 0 < L by omega)
  have em : Int.tmod U L = U % L := Int.tmod_eq_emod_of_nonneg (by omega)
  have p16 : (2 : Int) ^ 16 = 65536 := by decide
  obtain ⟨g, g1, g2, g3, g4⟩ := euclid (k := 16) L (U % L) 1 m0 m1 (by omega) l1 (by decide) (by decide)
  refine ⟨g, g1, g2, fun G Q c e7 e8 h => ?_, fun Q r h => ?_⟩
  · have j42 : wpX2_reduce_J42 G Q g c := by
      unfold wpX2_reduce_J42
      have e8' : ms c 7 7 0 (Int.tdiv U g) 7 8 0 = L := e8
      rw [e7]
      refine ⟨by omega, ite_n (by omega) ⟨by omega, by omega, all_eq ?_⟩⟩
      rw [e8']
      exact ⟨by omega, all_eq h⟩
    obtain ⟨f, k⟩ := g3 G Q c j42
    unfold wpX2_reduce
    rw [e7, e8]
    refine ⟨f + 1, by omega, ite_n (by omega) ⟨by omega, ite_n (by omega) ⟨by omega, by omega, all_eq ?_⟩⟩⟩
    rw [em]
    exact k
  · obtain ⟨f, k⟩ := g4 Q r U L (by omega) (by omega) h
    refine ⟨f + 1, by omega, ite_n (by omega) ⟨by omega, by omega, all_eq ?_⟩⟩
    rw [em]
    exact k
