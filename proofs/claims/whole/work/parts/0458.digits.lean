theorem dig_ok {k95 : Int → Int → Int → Int → Int → MM → Prop} {Q : Int → MM → Prop} {f : Nat} {u v n X x5 x6 x7 x8 x9 W : Int} {r : MM} (hW : r 0 48 0 = W) (W0 : 1 ≤ W) (W1 : W ≤ 12) (h9 : 0 ≤ x9) (h9' : x9 < 4) (h6 : 0 ≤ x6) (h6' : x6 ≤ 20735) (h7 : x7 = 0 ∨ x7 = 1) (h : wpX11_nearest_L119 k95 Q f u v n X x5 (x6 / W) (if x7 = 1 ∧ bitV x8 (x6 % W) = 0 then 1 else 0) (ior x8 (ishl 1 (x6 % W))) (x9 + (-1)) (ms r 52 0 x9 (x6 % W))) : wpX11_nearest_L119 k95 Q (f + 1) u v n X x5 x6 x7 x8 x9 r := by
  have m0 := Int.emod_nonneg x6 (show W ≠ 0 by omega)
  have m1 := Int.emod_lt_of_pos x6 (show 0 < W by omega)
  have em : Int.tmod x6 W = x6 % W := Int.tmod_eq_emod_of_nonneg h6
  have ed : Int.tdiv x6 W = x6 / W := Int.tdiv_eq_ediv_of_nonneg h6
  refine ⟨by omega, ite_n (by omega) ⟨by omega, ?_⟩⟩
  rw [hW, em]
  refine ⟨by omega, by omega, h9, h9', all_eq ?_⟩
  have e48 : ms r 52 0 x9 (x6 % W) 0 48 0 = W := hW
  have e52 : ms r 52 0 x9 (x6 % W) 52 0 x9 = x6 % W := ms_at _ _ _ _ _
  rw [e48, ed]
  refine ⟨by omega, by omega, all_eq ⟨by omega, ?_⟩⟩
  unfold wpX11_nearest_J171 wpX11_nearest_J172
  rw [e52]
  refine ite_i (fun z => ?_) (fun z => ⟨rg_iand _ _, ite_i (fun z2 => ?_) (fun z2 => ?_)⟩)
  · rw [if_neg (by omega)] at h
    exact ⟨h9, h9', all_eq h⟩
  · rw [if_pos ⟨by omega, z2⟩] at h
    exact ⟨h9, h9', all_eq h⟩
  · rw [if_neg (fun q => z2 q.2)] at h
    exact ⟨h9, h9', all_eq h⟩
theorem digE_ok {k95 : Int → Int → Int → Int → Int → MM → Prop} {Q : Int → MM → Prop} {u v n X x5 x6 x7 x8 : Int} {r : MM} (h7 : x7 = 0 ∨ x7 = 1) (h0 : x7 = 0 → k95 u v n X (x5 + 1) r) (h1 : x7 = 1 → wpX11_tryGears u v n r (fun _ μ6 => k95 u v n X (x5 + 1) μ6)) : wpX11_nearest_L119 k95 Q 1 u v n X x5 x6 x7 x8 (-1) r := by
  refine ⟨by decide, ite_p (by decide) ⟨by omega, ite_i (fun z => h0 z) (fun z => h1 (by omega))⟩⟩
theorem split_mul {a b W : Int} (b0 : 0 ≤ b) (b1 : b < W) : (a * W + b) % W = b ∧ (a * W + b) / W = a := by
  constructor
  · rw [Int.add_comm, Int.add_mul_emod_self_right]
    exact Int.emod_eq_of_lt b0 b1
  · rw [Int.add_comm, Int.add_mul_ediv_right _ _ (by omega), Int.ediv_eq_zero_of_lt b0 b1]
    omega
theorem dec1_ok {k95 : Int → Int → Int → Int → Int → MM → Prop} {Q : Int → MM → Prop} {u v X W a b : Int} {r : MM} (hW : r 0 48 0 = W) (W0 : 1 ≤ W) (W1 : W ≤ 12) (a0 : 0 ≤ a) (a1 : a < W) (b0 : 0 ≤ b) (b1 : b < W) (h0 : a = b → k95 u v 1 X (a * W + b + 1) (ms (ms r 52 0 1 b) 52 0 0 a)) (h1 : a ≠ b → wpX11_tryGears u v 1 (ms (ms r 52 0 1 b) 52 0 0 a) (fun _ μ6 => k95 u v 1 X (a * W + b + 1) μ6)) : ∃ f, wpX11_nearest_L119 k95 Q f u v 1 X (a * W + b) (a * W + b) 1 0 1 r := by
  obtain ⟨s1, s2⟩ := split_mul (a := a) b0 b1
  have mr := mul_rng a0 (show a ≤ 11 by omega) (show 0 ≤ W by omega) W1
  refine ⟨3, dig_ok hW W0 W1 (by decide) (by decide) (by omega) (by omega) (Or.inr rfl) ?_⟩
  rw [s1, s2, if_pos ⟨rfl, bitV_zero b0 (by omega)⟩]
  have ea : a % W = a := Int.emod_eq_of_lt a0 a1
  refine dig_ok (r := ms r 52 0 1 b) hW W0 W1 (by decide) (by decide) a0 (by omega) (Or.inr rfl) ?_
  rw [ea, bitV_or b0 (by omega) a0 (by omega), bitV_zero a0 (by omega)]
  by_cases z : a = b
  · rw [if_pos z, if_neg (by decide)]
    exact digE_ok (Or.inl rfl) (fun _ => h0 z) (fun q => by exfalso; omega)
  · rw [if_neg z, if_pos ⟨rfl, rfl⟩]
    exact digE_ok (Or.inr rfl) (fun q => by exfalso; omega) (fun _ => h1 z)
theorem dec2_ok {k95 : Int → Int → Int → Int → Int → MM → Prop} {Q : Int → MM → Prop} {u v X W a b p q : Int} {r : MM} (hW : r 0 48 0 = W) (W0 : 1 ≤ W) (W1 : W ≤ 12) (a0 : 0 ≤ a) (a1 : a < W) (b0 : 0 ≤ b) (b1 : b < W) (p0 : 0 ≤ p) (p1 : p < W) (q0 : 0 ≤ q) (q1 : q < W) (h0 : ¬ (p ≠ q ∧ (b ≠ p ∧ b ≠ q) ∧ (a ≠ b ∧ a ≠ p ∧ a ≠ q)) → k95 u v 2 X (((a * W + b) * W + p) * W + q + 1) (ms (ms (ms (ms r 52 0 3 q) 52 0 2 p) 52 0 1 b) 52 0 0 a)) (h1 : p ≠ q ∧ (b ≠ p ∧ b ≠ q) ∧ (a ≠ b ∧ a ≠ p ∧ a ≠ q) → wpX11_tryGears u v 2 (ms (ms (ms (ms r 52 0 3 q) 52 0 2 p) 52 0 1 b) 52 0 0 a) (fun _ μ6 => k95 u v 2 X (((a * W + b) * W + p) * W + q + 1) μ6)) : ∃ f, wpX11_nearest_L119 k95 Q f u v 2 X (((a * W + b) * W + p) * W + q) (((a * W + b) * W + p) * W + q) 1 0 3 r := by
  obtain ⟨s1, s2⟩ := split_mul (a := (a * W + b) * W + p) q0 q1
  obtain ⟨s3, s4⟩ := split_mul (a := a * W + b) p0 p1
  obtain ⟨s5, s6⟩ := split_mul (a := a) b0 b1
  have mr := mul_rng a0 (show a ≤ 11 by omega) (show 0 ≤ W by omega) W1
  have mr2 := mul_rng (show 0 ≤ a * W + b by omega) (show a * W + b ≤ 143 by omega) (show 0 ≤ W by omega) W1
  have mr3 := mul_rng (show 0 ≤ (a * W + b) * W + p by omega) (show (a * W + b) * W + p ≤ 1727 by omega) (show 0 ≤ W by omega) W1
  have ea : a % W = a := Int.emod_eq_of_lt a0 a1
  refine ⟨5, dig_ok hW W0 W1 (by decide) (by decide) (by omega) (by omega) (Or.inr rfl) ?_⟩
  rw [s1, s2, if_pos ⟨rfl, bitV_zero q0 (by omega)⟩]
  refine dig_ok (r := ms r 52 0 3 q) hW W0 W1 (by decide) (by decide) (by omega) (by omega) (Or.inr rfl) ?_
  rw [s3, s4, bitV_or q0 (by omega) p0 (by omega), bitV_zero p0 (by omega)]
  have g1 : ∀ t : Int, t = (if (1 : Int) = 1 ∧ (if p = q then (1 : Int) else 0) = 0 then (1 : Int) else 0) → (t = 1 ∧ p ≠ q) ∨ (t = 0 ∧ p = q) := by
    intro t ht
    by_cases z : p = q
    · rw [if_pos z, if_neg (by decide)] at ht
      exact Or.inr ⟨ht, z⟩
    · rw [if_neg z, if_pos ⟨rfl, rfl⟩] at ht
      exact Or.inl ⟨ht, z⟩
  generalize ht2 : (if (1 : Int) = 1 ∧ (if p = q then (1 : Int) else 0) = 0 then (1 : Int) else 0) = t2
  have c2 := g1 t2 ht2.symm
  refine dig_ok (r := ms (ms r 52 0 3 q) 52 0 2 p) hW W0 W1 (by decide) (by decide) (by omega) (by omega) (by omega) ?_
  rw [s5, s6, bitV_or p0 (by omega) b0 (by omega), bitV_or q0 (by omega) b0 (by omega), bitV_zero b0 (by omega)]
  have g2 : ∀ t : Int, t = (if t2 = 1 ∧ (if b = p then (1 : Int) else if b = q then 1 else 0) = 0 then (1 : Int) else 0) → (t = 1 ∧ t2 = 1 ∧ b ≠ p ∧ b ≠ q) ∨ (t = 0 ∧ ¬ (t2 = 1 ∧ b ≠ p ∧ b ≠ q)) := by
    intro t ht
    by_cases z : b = p
    · rw [if_pos z, if_neg (by omega)] at ht
      exact Or.inr ⟨ht, by omega⟩
    · by_cases z2 : b = q
      · rw [if_neg z, if_pos z2, if_neg (by omega)] at ht
        exact Or.inr ⟨ht, by omega⟩
      · rw [if_neg z, if_neg z2] at ht
        by_cases z3 : t2 = 1
        · rw [if_pos ⟨z3, rfl⟩] at ht
          exact Or.inl ⟨ht, z3, z, z2⟩
        · rw [if_neg (fun w => z3 w.1)] at ht
          exact Or.inr ⟨ht, fun w => z3 w.1⟩
  generalize ht1 : (if t2 = 1 ∧ (if b = p then (1 : Int) else if b = q then 1 else 0) = 0 then (1 : Int) else 0) = t1
  have c1 := g2 t1 ht1.symm
  refine dig_ok (r := ms (ms (ms r 52 0 3 q) 52 0 2 p) 52 0 1 b) hW W0 W1 (by decide) (by decide) a0 (by omega) (by omega) ?_
  rw [ea, bitV_or b0 (by omega) a0 (by omega), bitV_or p0 (by omega) a0 (by omega), bitV_or q0 (by omega) a0 (by omega), bitV_zero a0 (by omega)]
  have g3 : ∀ t : Int, t = (if t1 = 1 ∧ (if a = b then (1 : Int) else if a = p then 1 else if a = q then 1 else 0) = 0 then (1 : Int) else 0) → (t = 1 ∧ t1 = 1 ∧ a ≠ b ∧ a ≠ p ∧ a ≠ q) ∨ (t = 0 ∧ ¬ (t1 = 1 ∧ a ≠ b ∧ a ≠ p ∧ a ≠ q)) := by
    intro t ht
    by_cases z : a = b
    · rw [if_pos z, if_neg (by omega)] at ht
      exact Or.inr ⟨ht, by omega⟩
    · by_cases z2 : a = p
      · rw [if_neg z, if_pos z2, if_neg (by omega)] at ht
        exact Or.inr ⟨ht, by omega⟩
      · by_cases z4 : a = q
        · rw [if_neg z, if_neg z2, if_pos z4, if_neg (by omega)] at ht
          exact Or.inr ⟨ht, by omega⟩
        · rw [if_neg z, if_neg z2, if_neg z4] at ht
          by_cases z3 : t1 = 1
          · rw [if_pos ⟨z3, rfl⟩] at ht
            exact Or.inl ⟨ht, z3, z, z2, z4⟩
          · rw [if_neg (fun w => z3 w.1)] at ht
            exact Or.inr ⟨ht, fun w => z3 w.1⟩
  generalize ht0 : (if t1 = 1 ∧ (if a = b then (1 : Int) else if a = p then 1 else if a = q then 1 else 0) = 0 then (1 : Int) else 0) = tt
  have c0 := g3 tt ht0.symm
  exact digE_ok (by omega) (fun z => h0 (by omega)) (fun z => h1 (by omega))
