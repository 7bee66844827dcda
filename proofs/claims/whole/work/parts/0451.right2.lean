theorem after_ok {μ : MM} {Q : Int → MM → Prop} {p a : Int} (p0 : 0 ≤ p) (p1 : p < 144) (ha : 0 ≤ a ∧ a ≤ 2) (h : Q (aft a p) μ) : wpX11_after p a μ Q := by
  unfold wpX11_after
  have d1 : Int.tdiv p 12 = p / 12 := Int.tdiv_eq_ediv_of_nonneg p0
  have d2 : Int.tmod p 12 = p % 12 := Int.tmod_eq_emod_of_nonneg p0
  have d3 : Int.tmod (p / 12 + 1) 12 = (p / 12 + 1) % 12 := Int.tmod_eq_emod_of_nonneg (by omega)
  have d4 : Int.tmod (p % 12 + 1) 12 = (p % 12 + 1) % 12 := Int.tmod_eq_emod_of_nonneg (by omega)
  have d5 : Int.tmod (p % 12 + 11) 12 = (p % 12 + 11) % 12 := Int.tmod_eq_emod_of_nonneg (by omega)
  rw [d1, d2]
  refine ⟨by omega, all_eq (all_eq ⟨by omega, ?_⟩)⟩
  rw [d3, d4, d5]
  unfold aft at h
  refine ite_i (fun z => ⟨by omega, ?_⟩) (fun z => ite_i (fun z2 => ⟨by omega, by omega, ?_⟩) (fun z2 => ⟨by omega, ?_⟩))
  · rw [if_pos z] at h
    exact h
  · rw [if_neg z, if_pos z2] at h
    exact h
  · rw [if_neg z, if_neg z2] at h
    exact h
theorem cost_ok {μ : MM} {Q : Int → MM → Prop} {n p a : Int} {s : Int → Int} (n0 : 0 ≤ n) (n1 : n < 16) (p0 : 0 ≤ p) (p1 : p < 144) (ha : 0 ≤ a ∧ a ≤ 2) (hs : ∀ i, s i = μ 13 0 (24 * n + i)) (h : Q (cst s a p) μ) : wpX11_costOf n p a μ Q := by
  unfold wpX11_costOf
  have d1 : Int.tdiv p 12 = p / 12 := Int.tdiv_eq_ediv_of_nonneg p0
  rw [d1]
  unfold cst at h
  refine ⟨by omega, ite_i (fun z => ?_) (fun z => ⟨by omega, by omega, by omega, ?_⟩)⟩
  · rw [if_pos z] at h
    exact h
  · rw [if_neg z, hs] at h
    exact h
def InvB (s : Int → Int) (h : Int) (b : Int → Int) : Prop := (∀ p, 0 ≤ p → p < 144 → Dp s h p ≤ b p ∧ b p ≤ 100000000) ∧ b (13 * h) = 0
theorem relax3 {s : Int → Int} (hs : ∀ i, 0 ≤ i → i < 12 → 1 ≤ s i ∧ s i ≤ 24) {h : Int} (h0 : 0 ≤ h) (h1 : h < 12) {r : MM} {n t p : Int} (n0 : 0 ≤ n) (n1 : n < 16) (hr : ∀ i, s i = r 13 0 (24 * n + i)) (p0 : 0 ≤ p) (p1 : p < 144) : ∀ (m : Nat) (a x6 : Int) (b : Int → Int), 0 ≤ a → a + m = 3 → (x6 = 0 ∨ x6 = 1) → InvB s h b → ∃ b' x6', InvB s h b' ∧ (x6' = 0 ∨ x6' = 1) ∧ (x6' = 0 → b' = b ∧ x6 = 0 ∧ ∀ a', a ≤ a' → a' ≤ 2 → b p ≤ cst s a' p + b (aft a' p)) ∧ sumF b' 0 144 ≤ sumF b 0 144 ∧ (x6' = x6 ∨ sumF b' 0 144 < sumF b 0 144) ∧ (∀ (k113 : Int → Int → Int → Int → MM → Prop) (k102 : Int → Int → Int → MM → Prop) (Q : Int → MM → Prop), k113 t n x6' (p + 1) (ovM r 39 b') → ∃ f, wpX11_putRight_L124 k113 k102 Q f t n x6 p a (ovM r 39 b)) := by
  intro m
  induction m with
  | zero =>
    intro a x6 b a0 ha hx hI
    exact ⟨b, x6, hI, hx, fun z => ⟨rfl, z, fun a' u v => by exfalso; omega⟩, Int.le_refl _, Or.inl rfl, fun k113 k102 Q k => ⟨1, by omega, ite_p (by omega) k⟩⟩
  | succ m ih =>
    intro a x6 b a0 ha hx hI
    have ar := aft_rng (a := a) p0 p1
    have cr := cst_rng hs (a := a) p0 p1
    have dl := D_le hs h0 h1 (a := a) (by omega) p0 p1
    have b1 := hI.1 p p0 p1
    have b2 := hI.1 (aft a p) ar.1 ar.2
    have d0 := Dp_rng hs (h := h) p
    have d1 := Dp_rng hs (h := h) (aft a p)
    have pre : ∀ (k113 : Int → Int → Int → Int → MM → Prop) (k102 : Int → Int → Int → MM → Prop) (Q : Int → MM → Prop) (f : Nat), (if b p ≤ b (aft a p) + cst s a p then wpX11_putRight_L124 k113 k102 Q f t n x6 p (a + 1) (ovM r 39 b) else wpX11_putRight_L124 k113 k102 Q f t n 1 p (a + 1) (ovM r 39 (upI b p (b (aft a p) + cst s a p)))) → wpX11_putRight_L124 k113 k102 Q (f + 1) t n x6 p a (ovM r 39 b) := by
      intro k113 k102 Q f k
      refine ⟨by omega, ite_n (by omega) (after_ok p0 p1 (by omega) ⟨ar.1, ar.2, cost_ok n0 n1 p0 p1 (by omega) hr (all_eq ⟨p0, p1, ?_⟩)⟩)⟩
      rw [ovM_at, ovM_at]
      refine ⟨by omega, by omega, ?_⟩
      by_cases z : b p ≤ b (aft a p) + cst s a p
      · rw [if_pos z] at k
        exact ite_p z k
      · rw [if_neg z] at k
        refine ite_n z (all_eq ?_)
        rw [ovM_ms]
        exact k
    by_cases z : b p ≤ b (aft a p) + cst s a p
    · obtain ⟨b', x6', e1, e2, e3, e4, e5, e6⟩ := ih (a + 1) x6 b (by omega) (by omega) hx hI
      refine ⟨b', x6', e1, e2, fun w => ⟨(e3 w).1, (e3 w).2.1, fun a' u v => ?_⟩, e4, e5, fun k113 k102 Q k => ?_⟩
      · by_cases y : a' = a
        · subst y
          omega
        · exact (e3 w).2.2 a' (by omega) v
      · obtain ⟨f, k⟩ := e6 k113 k102 Q k
        exact ⟨f + 1, pre k113 k102 Q f (by rw [if_pos z]; exact k)⟩
    · have pg : p ≠ 13 * h := by
        intro e
        have := hI.2
        rw [← e] at this
        omega
      have hI' : InvB s h (upI b p (b (aft a p) + cst s a p)) := by
        refine ⟨fun q q0 q1 => ?_, ?_⟩
        · by_cases y : q = p
          · subst y
            rw [upI_same]
            omega
          · rw [upI_ne _ y]
            exact hI.1 q q0 q1
        · rw [upI_ne _ (fun e => pg e.symm)]
          exact hI.2
      have hsum : sumF (upI b p (b (aft a p) + cst s a p)) 0 144 < sumF b 0 144 := by
        rw [sumF_one (f := upI b p (b (aft a p) + cst s a p)) (g := b) (b := 0) (s := p) 144 (fun i u v ne => upI_ne _ (by omega)) p0, if_pos (by omega), Int.zero_add, upI_same]
        omega
      obtain ⟨b', x6', e1, e2, e3, e4, e5, e6⟩ := ih (a + 1) 1 (upI b p (b (aft a p) + cst s a p)) (by omega) (by omega) (Or.inr rfl) hI'
      refine ⟨b', x6', e1, e2, fun w => ?_, by omega, Or.inr (by omega), fun k113 k102 Q k => ?_⟩
      · exfalso
        have := (e3 w).2.1
        omega
      · obtain ⟨f, k⟩ := e6 k113 k102 Q k
        exact ⟨f + 1, pre k113 k102 Q f (by rw [if_neg z]; exact k)⟩
theorem relaxP {s : Int → Int} (hs : ∀ i, 0 ≤ i → i < 12 → 1 ≤ s i ∧ s i ≤ 24) {h : Int} (h0 : 0 ≤ h) (h1 : h < 12) {r : MM} {n t : Int} (n0 : 0 ≤ n) (n1 : n < 16) (hr : ∀ i, s i = r 13 0 (24 * n + i)) : ∀ (m : Nat) (p x6 : Int) (b : Int → Int), 0 ≤ p → p + m = 144 → (x6 = 0 ∨ x6 = 1) → InvB s h b → ∃ b' x6', InvB s h b' ∧ (x6' = 0 ∨ x6' = 1) ∧ (x6' = 0 → b' = b ∧ x6 = 0 ∧ ∀ q a', p ≤ q → q < 144 → 0 ≤ a' → a' ≤ 2 → b q ≤ cst s a' q + b (aft a' q)) ∧ sumF b' 0 144 ≤ sumF b 0 144 ∧ (x6' = x6 ∨ sumF b' 0 144 < sumF b 0 144) ∧ (∀ (k102 : Int → Int → Int → MM → Prop) (Q : Int → MM → Prop), k102 t n x6' (ovM r 39 b') → ∃ f, wpX11_putRight_L113 k102 Q f t n x6 p (ovM r 39 b)) := by
  intro m
  induction m with
  | zero =>
    intro p x6 b p0 hp hx hI
    exact ⟨b, x6, hI, hx, fun z => ⟨rfl, z, fun q a' u v => by exfalso; omega⟩, Int.le_refl _, Or.inl rfl, fun k102 Q k => ⟨1, by omega, ite_p (by omega) k⟩⟩
  | succ m ih =>
    intro p x6 b p0 hp hx hI
    obtain ⟨b1, y6, e1, e2, e3, e4, e5, e6⟩ := relax3 hs h0 h1 (t := t) n0 n1 hr p0 (by omega) 3 0 x6 b (by decide) (by decide) hx hI
    obtain ⟨b', x6', g1, g2, g3, g4, g5, g6⟩ := ih (p + 1) y6 b1 (by omega) (by omega) e2 e1
    refine ⟨b', x6', g1, g2, fun w => ?_, by omega, ?_, fun k102 Q k => ?_⟩
    · obtain ⟨u1, u2, u3⟩ := g3 w
      obtain ⟨v1, v2, v3⟩ := e3 u2
      subst v1
      refine ⟨u1, v2, fun q a' q0 q1 a0 a2 => ?_⟩
      by_cases y : q = p
      · subst y
        exact v3 a' a0 a2
      · exact u3 q a' (by omega) q1 a0 a2
    · rcases g5 with g5 | g5
      · rcases e5 with e5 | e5
        · exact Or.inl (g5.trans e5)
        · exact Or.inr (by omega)
      · exact Or.inr (by omega)
    · obtain ⟨f, k⟩ := g6 k102 Q k
      exact ⟨f + 1, by omega, ite_n (by omega) (e6 _ k102 Q k)⟩
theorem relaxA {s : Int → Int} (hs : ∀ i, 0 ≤ i → i < 12 → 1 ≤ s i ∧ s i ≤ 24) {h : Int} (h0 : 0 ≤ h) (h1 : h < 12) {r : MM} {n t : Int} (n0 : 0 ≤ n) (n1 : n < 16) (hr : ∀ i, s i = r 13 0 (24 * n + i)) : ∀ (m : Nat) (b : Int → Int), InvB s h b → sumF b 0 144 ≤ m → ∃ b', (∀ p, 0 ≤ p → p < 144 → b' p = Dp s h p) ∧ (∀ Q : Int → MM → Prop, (∃ f, wpX11_putRight_L102 Q f t n 0 (ovM r 39 b')) → ∃ f, wpX11_putRight_L102 Q f t n 1 (ovM r 39 b)) := by
  have go : ∀ (b : Int → Int), InvB s h b → ∃ b' x6', InvB s h b' ∧ (x6' = 0 → b' = b ∧ ∀ p, 0 ≤ p → p < 144 → b' p = Dp s h p) ∧ (x6' = 1 → sumF b' 0 144 < sumF b 0 144) ∧ (x6' = 0 ∨ x6' = 1) ∧ (∀ Q : Int → MM → Prop, (∃ f, wpX11_putRight_L102 Q f t n x6' (ovM r 39 b')) → ∃ f, wpX11_putRight_L102 Q f t n 1 (ovM r 39 b)) := by
    intro b hI
    obtain ⟨b', x6', g1, g2, g3, g4, g5, g6⟩ := relaxP hs h0 h1 (t := t) n0 n1 hr 144 0 0 b (by decide) (by decide) (Or.inl rfl) hI
    refine ⟨b', x6', g1, fun w => ?_, fun w => ?_, g2, fun Q k => ?_⟩
    · obtain ⟨u1, u2, u3⟩ := g3 w
      subst u1
      exact ⟨rfl, fix_D hs h0 h1 (fun p a b => (g1.1 p a b).1) g1.2 (fun p a p0 p1 a0 a2 => u3 p a p0 p1 a0 a2)⟩
    · rcases g5 with g5 | g5
      · exfalso; omega
      · exact g5
    · obtain ⟨f, k⟩ := k
      exact ⟨f + 1, by omega, ite_n (by decide) (g6 (fun x1' x4' x6' μ' => wpX11_putRight_L102 Q f x1' x4' x6' μ') Q k)⟩
  intro m
  induction m with
  | zero =>
    intro b hI hm
    obtain ⟨b', x6', g1, g2, g3, g4, g5⟩ := go b hI
    rcases g4 with z | z
    · subst z
      exact ⟨b', (g2 rfl).2, g5⟩
    · exfalso
      have lt := g3 z
      have := sumF_rng (f := b') (b := 0) (lo := 0) (hi := 100000000) 144 (fun i u v => by
        have k := g1.1 (0 + i) (by omega) (by omega)
        have d := Dp_rng hs (h := h) (0 + i)
        omega)
      omega
  | succ m ih =>
    intro b hI hm
    obtain ⟨b', x6', g1, g2, g3, g4, g5⟩ := go b hI
    rcases g4 with z | z
    · subst z
      exact ⟨b', (g2 rfl).2, g5⟩
    · subst z
      have lt := g3 rfl
      obtain ⟨b2, k1, k2⟩ := ih b' g1 (by omega)
      exact ⟨b2, k1, fun Q k => g5 Q (k2 Q k)⟩
theorem fillB {r : MM} {n t g : Int} (hg : rg g) : ∀ (m : Nat) (p : Int) (b : Int → Int), 0 ≤ p → p + m = 144 → (∀ q, 0 ≤ q → q < p → b q = if q = g then 0 else 100000000) → ∃ b', (∀ q, 0 ≤ q → q < 144 → b' q = if q = g then 0 else 100000000) ∧ (∀ Q : Int → MM → Prop, (∃ f, wpX11_putRight_L102 Q f t n 1 (ovM r 39 b')) → ∃ f, wpX11_putRight_L64 Q f t n g p (ovM r 39 b)) := by
  intro m
  induction m with
  | zero =>
    intro p b p0 hp hb
    exact ⟨b, fun q a c => hb q a (by omega), fun Q k => ⟨1, by omega, ite_p (by omega) k⟩⟩
  | succ m ih =>
    intro p b p0 hp hb
    obtain ⟨b', k1, k2⟩ := ih (p + 1) (upI b p (if p = g then 0 else 100000000)) (by omega) (by omega) (fun q a c => by
      by_cases y : q = p
      · subst y
        rw [upI_same]
      · rw [upI_ne _ y]
        exact hb q a (by omega))
    refine ⟨b', k1, fun Q k => ?_⟩
    obtain ⟨f, k⟩ := k2 Q k
    rw [← ovM_ms] at k
    refine ⟨f + 1, by omega, ite_n (by omega) ⟨hg, ite_i (fun z => ⟨by omega, by omega, all_eq ?_⟩) (fun z => ⟨by omega, by omega, all_eq ?_⟩)⟩⟩
    · rw [if_pos z] at k
      exact k
    · rw [if_neg z] at k
      exact k
