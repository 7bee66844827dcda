theorem iand_bytes : ∀ n : Fin 256, iand (((n : Nat) : Int) - 128) (-1) = ((n : Nat) : Int) - 128 ∧ 0 ≤ iand (((n : Nat) : Int) - 128) 255 ∧ iand (((n : Nat) : Int) - 128) 255 ≤ 255 := by decide +kernel
theorem iand_b {b : Int} (h : -128 ≤ b ∧ b ≤ 127) : iand b (-1) = b ∧ 0 ≤ iand b 255 ∧ iand b 255 ≤ 255 := by
  have q := iand_bytes ⟨(b + 128).toNat, by omega⟩
  have e : (((b + 128).toNat : Nat) : Int) - 128 = b := by omega
  simp only at q
  rwa [e] at q
def goodN (b : Int → Int) (s : Int) : Prop := (1 ≤ s ∧ s ≤ 24) ∧ ∀ j, 0 ≤ j → j < s → 1 ≤ b j ∧ b j ≤ 24
theorem isStrokes_ok {G : GG} {i : Int} {c : MM} {Q : Int → MM → Prop} (h0 : 0 ≤ c 1 1 i) (h48 : c 1 1 i ≤ 48) (hb : ∀ j, -128 ≤ c 8 0 j ∧ c 8 0 j ≤ 127) (hy : goodN (fun j => c 8 0 (48 * i + j)) (c 1 1 i) → Q 1 c) (hn : ¬ goodN (fun j => c 8 0 (48 * i + j)) (c 1 1 i) → Q 0 c) : wpX6_isStrokes G i c Q := by
  unfold wpX6_isStrokes
  refine ⟨⟨by omega, by omega⟩, ite_i (fun q => hn (fun g => by have := g.1; omega)) (fun q => ite_i (fun q2 => ?_) (fun q2 => hn (fun g => by have := g.1; omega)))⟩
  have aux : ∀ (m : Nat) (x : Int), 0 ≤ x → x + m = c 1 1 i → (∀ j, 0 ≤ j → j < x → 1 ≤ c 8 0 (48 * i + j) ∧ c 8 0 (48 * i + j) ≤ 24) → wpX6_isStrokes_L21 G Q (m + 1) i x c := by
    intro m
    induction m with
    | zero =>
      intro x hx he hg
      exact ⟨⟨by omega, by omega⟩, ⟨by omega, by omega⟩, ite_p (by omega) (hy ⟨by omega, fun j a b => hg j a (by omega)⟩)⟩
    | succ m ih =>
      intro x hx he hg
      have b := hb (48 * i + x)
      refine ⟨⟨by omega, by omega⟩, ⟨by omega, by omega⟩, ite_n (by omega) (at_ok ⟨by omega, by omega⟩ hx (by omega) h48 ⟨⟨by omega, by omega⟩, ite_i (fun z => hn (fun g => ?_)) (fun z => at_ok ⟨by omega, by omega⟩ hx (by omega) h48 ⟨⟨by omega, by omega⟩, ite_i (fun z2 => ?_) (fun z2 => hn (fun g => ?_))⟩)⟩)⟩
      · have := g.2 x hx (by omega)
        dsimp only at this
        omega
      · refine ih (x + 1) (by omega) (by omega) (fun j u v => ?_)
        by_cases e : j = x
        · subst e
          omega
        · exact hg j u (by omega)
      · have := g.2 x hx (by omega)
        dsimp only at this
        omega
  exact ⟨(c 1 1 i).toNat + 1, aux _ 0 (by decide) (by omega) (fun j u v => by exfalso; omega)⟩
theorem areNotches_ok {x1 : Int} {r : MM} {Q : Int → MM → Prop} (a : 0 ≤ x1) (b : x1 < 8) (h0 : 0 ≤ r 7 0 x1) (h48 : r 7 0 x1 ≤ 48) (hb : ∀ j, -128 ≤ r 8 0 j ∧ r 8 0 j ≤ 127) (hy : goodN (fun j => r 8 0 (48 * x1 + j)) (r 7 0 x1) → Q 1 r) (hn : ¬ goodN (fun j => r 8 0 (48 * x1 + j)) (r 7 0 x1) → Q 0 r) : wpX11_areNotches x1 r Q := by
  unfold wpX11_areNotches
  have aux : ∀ (m : Nat) (x g : Int), 0 ≤ x → x + m = r 7 0 x1 → (g = 1 ∧ (1 ≤ r 7 0 x1 ∧ r 7 0 x1 ≤ 24) ∧ ∀ j, 0 ≤ j → j < x → 1 ≤ r 8 0 (48 * x1 + j) ∧ r 8 0 (48 * x1 + j) ≤ 24) ∨ (g = 0 ∧ ¬ goodN (fun j => r 8 0 (48 * x1 + j)) (r 7 0 x1)) → wpX11_areNotches_L15 Q (m + 1) x1 g x r := by
    intro m
    induction m with
    | zero =>
      intro x g hx he hg
      refine ⟨a, b, ⟨by omega, by omega⟩, ⟨by omega, by omega⟩, ite_p (by omega) ⟨by omega, ?_⟩⟩
      rcases hg with ⟨e, s1, s2⟩ | ⟨e, s⟩
      · subst e
        exact hy ⟨s1, fun j u v => s2 j u (by omega)⟩
      · subst e
        exact hn s
    | succ m ih =>
      intro x g hx he hg
      have bb := hb (48 * x1 + x)
      refine ⟨a, b, ⟨by omega, by omega⟩, ⟨by omega, by omega⟩, ite_n (by omega) ⟨⟨by omega, by omega⟩, ?_⟩⟩
      rcases hg with ⟨e, s1, s2⟩ | ⟨e, s⟩
      · subst e
        refine ite_n (by decide) ⟨by omega, by omega, inn_ok ⟨by omega, by omega⟩ (by decide) (by decide) (fun z => ?_) (fun z1 z2 => ?_)⟩
        · refine ite_p rfl ?_
          refine ih (x + 1) 0 (by omega) (by omega) (Or.inr ⟨rfl, fun gg => ?_⟩)
          have := gg.2 x hx (by omega)
          dsimp only at this
          omega
        · refine ite_n (by decide) ?_
          refine ih (x + 1) 1 (by omega) (by omega) (Or.inl ⟨rfl, s1, fun j u v => ?_⟩)
          by_cases e : j = x
          · subst e
            omega
          · exact s2 j u (by omega)
      · subst e
        refine ite_p rfl ?_
        exact ih (x + 1) 0 (by omega) (by omega) (Or.inr ⟨rfl, s⟩)
  refine ⟨a, b, inn_ok ⟨by omega, by omega⟩ (by decide) (by decide) (fun z => ?_) (fun z1 z2 => ?_)⟩
  · exact ⟨(r 7 0 x1).toNat + 1, aux _ 0 0 (by decide) (by omega) (Or.inr ⟨rfl, fun g => by have := g.1; omega⟩)⟩
  · exact ⟨(r 7 0 x1).toNat + 1, aux _ 0 1 (by decide) (by omega) (Or.inl ⟨rfl, ⟨z1, z2⟩, fun j u v => by exfalso; omega⟩)⟩
/-- what the class answers before it makes a train of rows -/
theorem refusalN_ok {bd bs bw : Int} {G : GG} {c r : MM} (hR : Rel bd bs bw G c r) {x1 x2 : Int} (h1 : rg x1) (h2 : rg x2) {Q : Int → MM → Prop} (k1 : x1 < 0 ∨ 8 ≤ x1 ∨ x2 < 0 ∨ 8 ≤ x2 → Q (-1) c) (k2 : (0 ≤ x1 ∧ x1 < 8) ∧ 0 ≤ x2 ∧ x2 < 8 → r 0 10 0 = 16 → Q (-2) c) (k3 : (0 ≤ x1 ∧ x1 < 8) ∧ 0 ≤ x2 ∧ x2 < 8 → r 0 10 0 < 16 → r 7 0 x1 < 0 ∨ r 7 0 x2 < 0 → Q (-3) (fC 1 c)) (k4 : (0 ≤ x1 ∧ x1 < 8) ∧ 0 ≤ x2 ∧ x2 < 8 → r 0 10 0 < 16 → (c 1 1 x1 = r 7 0 x1 ∧ 0 ≤ r 7 0 x1 ∧ r 7 0 x1 ≤ 48) → (c 1 1 x2 = r 7 0 x2 ∧ 0 ≤ r 7 0 x2 ∧ r 7 0 x2 ≤ 48) → ¬ goodN (fun j => r 8 0 (48 * x1 + j)) (r 7 0 x1) ∨ r 7 0 x2 = 0 → Q (-3) (fC 5 c)) (k5 : (0 ≤ x1 ∧ x1 < 8) ∧ 0 ≤ x2 ∧ x2 < 8 → r 0 10 0 < 16 → (c 1 1 x1 = r 7 0 x1 ∧ 0 ≤ r 7 0 x1 ∧ r 7 0 x1 ≤ 48) → (c 1 1 x2 = r 7 0 x2 ∧ 0 ≤ r 7 0 x2 ∧ r 7 0 x2 ≤ 48) → goodN (fun j => r 8 0 (48 * x1 + j)) (r 7 0 x1) → 1 ≤ r 7 0 x2 → Q 0 c) : wpX10_refusalOfStrokes G x1 x2 c Q := by
  have T0 := hR.T0
  have R1 := hR.R1
  have R2 := hR.R2
  have R3 := hR.R3
  unfold wpX10_refusalOfStrokes
  refine rowOf_ok h1 (fun q => rowOf_ok h2 (fun _ => ite_p (by decide) (k1 (by omega))) (fun a b => ite_p (by decide) (k1 (by omega)))) (fun a1 b1 => rowOf_ok h2 (fun q => ite_n (by omega) ⟨b1, ite_p (by decide) (k1 (by omega))⟩) (fun a2 b2 => ite_n (by omega) ⟨b1, ite_n (by omega) ⟨b2, ⟨by omega, by omega⟩, ite_i (fun z => ?_) (fun z => k2 ⟨⟨a1, b1⟩, a2, b2⟩ (by omega))⟩⟩))
  have s1 := R3 x1 a1 b1
  have s2 := R3 x2 a2 b2
  have V : (0 ≤ x1 ∧ x1 < 8) ∧ 0 ≤ x2 ∧ x2 < 8 := ⟨⟨a1, b1⟩, a2, b2⟩
  refine isThere_ok ⟨by omega, by omega⟩ (fun q => ite_p rfl ?_) (fun q => ite_n (by decide) (isThere_ok ⟨by omega, by omega⟩ (fun q2 => ite_p rfl ?_) (fun q2 => ite_n (by decide) ?_)))
  · exact found_ok (by decide) (by decide) (k3 V (by omega) (by omega))
  · exact found_ok (by decide) (by decide) (k3 V (by omega) (by omega))
  · have t1 : c 1 1 x1 = r 7 0 x1 ∧ 0 ≤ r 7 0 x1 ∧ r 7 0 x1 ≤ 48 := by omega
    have t2 : c 1 1 x2 = r 7 0 x2 ∧ 0 ≤ r 7 0 x2 ∧ r 7 0 x2 ≤ 48 := by omega
    have e : goodN (fun j => c 8 0 (48 * x1 + j)) (c 1 1 x1) ↔ goodN (fun j => r 8 0 (48 * x1 + j)) (r 7 0 x1) := by rw [R1, t1.1]
    refine isStrokes_ok (by omega) (by omega) (by rw [R1]; exact R2) (fun g => ite_n (by decide) ⟨⟨by omega, by omega⟩, ite_i (fun w => ?_) (fun w => ?_)⟩) (fun g => ite_p rfl ?_)
    · exact found_ok (by decide) (by decide) (k4 V (by omega) t1 t2 (Or.inr (by omega)))
    · exact k5 V (by omega) t1 t2 (e.mp g) (by omega)
    · exact found_ok (by decide) (by decide) (k4 V (by omega) t1 t2 (Or.inl (fun w => g (e.mpr w))))
theorem plateOf_ok {bd bs bw : Int} {G : GG} {c r : MM} (hR : Rel bd bs bw G c r) {x1 kd : Int} (h1 : rg x1) {Q : Int → MM → Prop} (k1 : x1 < 0 ∨ 8 ≤ x1 → Q (-1) r) (k2 : 0 ≤ x1 ∧ x1 < 8 → r 0 10 0 = 16 → Q (-2) r) (k3 : 0 ≤ x1 ∧ x1 < 8 → r 0 10 0 < 16 → r 7 0 x1 < 0 → Q (-3) (fR 1 r)) (k4 : 0 ≤ x1 ∧ x1 < 8 → r 0 10 0 < 16 → 0 ≤ r 7 0 x1 → ¬ goodN (fun j => r 8 0 (48 * x1 + j)) (r 7 0 x1) → Q (-3) (fR 5 r)) (k5 : 0 ≤ x1 ∧ x1 < 8 → r 0 10 0 < 16 → 0 ≤ r 7 0 x1 → goodN (fun j => r 8 0 (48 * x1 + j)) (r 7 0 x1) → wpX11_cutOf x1 kd r (fun v u => Q v u)) : wpX11_plateOf x1 kd r Q := by
  have T0 := hR.T0
  have R2 := hR.R2
  have R3 := hR.R3
  unfold wpX11_plateOf
  refine isRow_ok h1 (fun q => ite_p rfl (k1 q)) (fun a b => ite_n (by decide) ⟨⟨by omega, by omega⟩, ite_i (fun z => k2 ⟨a, b⟩ z) (fun z => ⟨a, b, ?_⟩)⟩)
  have s1 := R3 x1 a b
  refine ⟨⟨by omega, by omega⟩, ite_i (fun w => areNotches_ok a b w (by omega) R2 (fun g => ite_n (by decide) (k5 ⟨a, b⟩ (by omega) w g)) (fun g => ite_p rfl (meets_ok (by decide) (by decide) (k4 ⟨a, b⟩ (by omega) w g)))) (fun w => meets_ok (by decide) (by decide) (k3 ⟨a, b⟩ (by omega) (by omega)))⟩
