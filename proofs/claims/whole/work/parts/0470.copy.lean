/-! the reference's copy: first into `moving`, then into the target -/
def cpB (μ : MM) (o x : Int) (g : Int → Int) : MM := fun f e y => if f = 8 ∧ e = 0 ∧ o ≤ y ∧ y < o + x then g (y - o) else μ f e y
theorem cpB_zero (μ : MM) (o : Int) (g : Int → Int) : cpB μ o 0 g = μ := by
  funext f e y
  exact if_neg (by omega)
theorem cpB_succ (μ : MM) (o x : Int) (g : Int → Int) (hx : 0 ≤ x) : ms (cpB μ o x g) 8 0 (o + x) (g x) = cpB μ o (x + 1) g := by
  funext f e y
  unfold ms cpB
  by_cases h1 : f = 8 ∧ e = 0
  · obtain ⟨rfl, rfl⟩ := h1
    by_cases h2 : y = o + x
    · rw [if_pos ⟨rfl, rfl, h2⟩, if_pos ⟨rfl, rfl, by omega, by omega⟩]
      congr 1
      omega
    · rw [if_neg (fun q => h2 q.2.2)]
      by_cases h3 : o ≤ y ∧ y < o + x
      · rw [if_pos ⟨rfl, rfl, h3⟩, if_pos ⟨rfl, rfl, by omega, by omega⟩]
      · rw [if_neg (by omega), if_neg (by omega)]
  · rw [if_neg (fun q => h1 ⟨q.1, q.2.1⟩), if_neg (fun q => h1 ⟨q.1, q.2.1⟩), if_neg (fun q => h1 ⟨q.1, q.2.1⟩)]
theorem copyR2 {r : MM} {x3 x4 x5 : Int} (a0 : 0 ≤ x3) (a1 : x3 < 8) (b0 : 0 ≤ x4) (n0 : 0 ≤ x5) (h48 : x4 + x5 ≤ 48) (b : Int → Int) {Q : Int → MM → Prop} (h : Q 1 (cpB (ovM r 9 b) (48 * x3 + x4) x5 b)) : ∃ f, wpX11_copy_L141 Q f x3 x4 x5 0 (ovM r 9 b) := by
  have aux : ∀ (m : Nat) (x : Int), 0 ≤ x → x + m = x5 → wpX11_copy_L141 Q (m + 1) x3 x4 x5 x (cpB (ovM r 9 b) (48 * x3 + x4) x b) := by
    intro m
    induction m with
    | zero =>
      intro x hx he
      have e : x = x5 := by omega
      subst e
      exact ⟨by omega, by omega, ite_p (by omega) h⟩
    | succ m ih =>
      intro x hx he
      refine ⟨by omega, by omega, ite_n (by omega) ⟨hx, by omega, by omega, by omega, all_eq ?_⟩⟩
      have e9 : cpB (ovM r 9 b) (48 * x3 + x4) x b 9 0 x = b x := rfl
      rw [e9, cpB_succ _ _ _ _ hx]
      exact ih (x + 1) (by omega) (by omega)
  refine ⟨x5.toNat + 1, ?_⟩
  have := aux x5.toNat 0 (by decide) (by omega)
  rwa [cpB_zero] at this
theorem copyR1 {r : MM} {x1 x2 x3 x4 x5 : Int} (s0 : 0 ≤ x1) (s1 : x1 < 8) (t0 : 0 ≤ x2) (h48' : x2 + x5 ≤ 48) (a0 : 0 ≤ x3) (a1 : x3 < 8) (b0 : 0 ≤ x4) (n0 : 0 ≤ x5) (h48 : x4 + x5 ≤ 48) : ∃ b : Int → Int, (∀ j, 0 ≤ j → j < x5 → b j = r 8 0 (48 * x1 + x2 + j)) ∧ (∀ Q : Int → MM → Prop, Q 1 (cpB (ovM r 9 b) (48 * x3 + x4) x5 b) → ∃ f, wpX11_copy_L104 Q f x1 x2 x3 x4 x5 0 r) := by
  have aux : ∀ (m : Nat) (x : Int) (b : Int → Int), 0 ≤ x → x + m = x5 → (∀ j, 0 ≤ j → j < x → b j = r 8 0 (48 * x1 + x2 + j)) → ∃ b' : Int → Int, (∀ j, 0 ≤ j → j < x5 → b' j = r 8 0 (48 * x1 + x2 + j)) ∧ (∀ Q : Int → MM → Prop, Q 1 (cpB (ovM r 9 b') (48 * x3 + x4) x5 b') → ∃ f, wpX11_copy_L104 Q f x1 x2 x3 x4 x5 x (ovM r 9 b)) := by
    intro m
    induction m with
    | zero =>
      intro x b hx he hb
      have e : x = x5 := by omega
      subst e
      exact ⟨b, hb, fun Q h => ⟨1, by omega, by omega, ite_p (by omega) (copyR2 a0 a1 b0 n0 h48 b h)⟩⟩
    | succ m ih =>
      intro x b hx he hb
      obtain ⟨b', k1, k2⟩ := ih (x + 1) (upI b x (r 8 0 (48 * x1 + x2 + x))) (by omega) (by omega) (fun j u v => by
        by_cases y : j = x
        · subst y
          rw [upI_same]
        · rw [upI_ne _ y]
          exact hb j u (by omega))
      refine ⟨b', k1, fun Q h => ?_⟩
      obtain ⟨f, k⟩ := k2 Q h
      refine ⟨f + 1, by omega, by omega, ite_n (by omega) ⟨by omega, by omega, hx, by omega, all_eq ?_⟩⟩
      have e8 : ovM r 9 b 8 0 (48 * x1 + x2 + x) = r 8 0 (48 * x1 + x2 + x) := rfl
      rw [e8, ovM_ms]
      exact k
  obtain ⟨b', k1, k2⟩ := aux x5.toNat 0 (r 9 0) (by decide) (by omega) (fun j u v => by exfalso; omega)
  refine ⟨b', k1, fun Q h => ?_⟩
  have := k2 Q h
  rwa [ovM_self] at this
theorem Rel.copy {bd bs bw : Int} {G : GG} {c r : MM} (hR : Rel bd bs bw G c r) {x1 x2 x3 x4 x5 : Int} {b : Int → Int} (hb : ∀ j, 0 ≤ j → j < x5 → b j = r 8 0 (48 * x1 + x2 + j)) : Rel bd bs bw G (cpB c (48 * x3 + x4) x5 (fun j => c 8 0 (48 * x1 + x2 + j))) (cpB (ovM r 9 b) (48 * x3 + x4) x5 b) := by
  have R1 := hR.R1
  have R2 := hR.R2
  refine ⟨hR.K0, hR.S1, hR.S2, hR.S3, hR.S4, hR.S5, ?_, ?_, hR.R3, hR.T0, hR.T1, hR.T2, hR.T3, hR.E1, hR.E2, hR.E3, hR.E4, hR.E5, hR.E6, hR.E7, hR.E8, hR.E9, hR.E10, hR.E11, hR.I1, hR.I2, hR.I3, hR.I4, hR.I5, hR.I6, hR.I7, hR.I8, hR.I9, hR.I10, hR.I11, hR.I12, hR.I13, hR.I14, hR.W1, hR.W2, hR.W3, hR.W4, hR.W5, hR.W6, hR.W7, hR.W8, hR.W9, hR.J1, hR.J2, hR.J3, hR.J4, hR.J5, hR.J6, hR.J7, hR.H1, hR.H2, hR.H3, hR.H4, hR.L1, hR.L2, hR.A1, hR.A2, hR.F1, hR.F2, hR.F3, hR.Q1, hR.Q2, hR.Q3, hR.Q4, hR.Q5, hR.Q6, hR.Q7⟩
  · funext y
    show cpB c (48 * x3 + x4) x5 (fun j => c 8 0 (48 * x1 + x2 + j)) 8 0 y = cpB (ovM r 9 b) (48 * x3 + x4) x5 b 8 0 y
    unfold cpB
    by_cases h : 48 * x3 + x4 ≤ y ∧ y < 48 * x3 + x4 + x5
    · rw [if_pos ⟨rfl, rfl, h⟩, if_pos ⟨rfl, rfl, h⟩, hb _ (by omega) (by omega), R1]
    · rw [if_neg (fun q => h q.2.2), if_neg (fun q => h q.2.2)]
      exact congrFun R1 y
  · intro y
    show -128 ≤ cpB (ovM r 9 b) (48 * x3 + x4) x5 b 8 0 y ∧ cpB (ovM r 9 b) (48 * x3 + x4) x5 b 8 0 y ≤ 127
    unfold cpB
    by_cases h : 48 * x3 + x4 ≤ y ∧ y < 48 * x3 + x4 + x5
    · rw [if_pos ⟨rfl, rfl, h⟩, hb _ (by omega) (by omega)]
      exact R2 _
    · rw [if_neg (fun q => h q.2.2)]
      exact R2 y
