theorem copyX_ok {bd bs bw : Int} {G : GG} {c r : MM} (hR : Rel bd bs bw G c r) {x1 x2 x3 x4 x5 : Int} (h1 : rg x1) (h2 : rg x2) (h3 : rg x3) (h4 : rg x4) (h5 : rg x5) {Q : Int → MM → Prop} (k1 : x1 < 0 ∨ 8 ≤ x1 ∨ x3 < 0 ∨ 8 ≤ x3 → Q (-1) r) (k2 : (0 ≤ x1 ∧ x1 < 8) ∧ 0 ≤ x3 ∧ x3 < 8 → x5 < 0 → Q (-3) (fR 5 r)) (k3 : (0 ≤ x1 ∧ x1 < 8) ∧ 0 ≤ x3 ∧ x3 < 8 → 0 ≤ x5 → r 7 0 x1 < 0 ∨ r 7 0 x3 < 0 → Q (-3) (fR 1 r)) (k4 : (0 ≤ x1 ∧ x1 < 8) ∧ 0 ≤ x3 ∧ x3 < 8 → 0 ≤ x5 → 0 ≤ r 7 0 x1 → 0 ≤ r 7 0 x3 → x2 < 0 ∨ x4 < 0 ∨ r 7 0 x1 < x2 + x5 ∨ r 7 0 x3 < x4 + x5 → Q (-3) (fR 2 r)) (k5 : (0 ≤ x1 ∧ x1 < 8) ∧ 0 ≤ x3 ∧ x3 < 8 → 0 ≤ x5 → 0 ≤ r 7 0 x1 → 0 ≤ r 7 0 x3 → 0 ≤ x2 → 0 ≤ x4 → x2 + x5 ≤ r 7 0 x1 → x4 + x5 ≤ r 7 0 x3 → ∃ n, wpX11_copy_L104 Q n x1 x2 x3 x4 x5 0 r) : wpX11_copy x1 x2 x3 x4 x5 r Q := by
  have R3 := hR.R3
  unfold wpX11_copy
  refine isRow_ok h1 (fun q => ite_p rfl (k1 (by omega))) (fun a1 b1 => ite_n (by decide) (isRow_ok h3 (fun q => ite_p rfl (k1 (by omega))) (fun a3 b3 => ite_n (by decide) ⟨h5, ite_i (fun z => ⟨a1, b1, ?_⟩) (fun z => meets_ok (by decide) (by decide) (k2 ⟨⟨a1, b1⟩, a3, b3⟩ (by omega)))⟩)))
  have V : (0 ≤ x1 ∧ x1 < 8) ∧ 0 ≤ x3 ∧ x3 < 8 := ⟨⟨a1, b1⟩, a3, b3⟩
  have s1 := R3 x1 a1 b1
  have s3 := R3 x3 a3 b3
  refine ⟨⟨by omega, by omega⟩, ite_i (fun w => meets_ok (by decide) (by decide) (k3 V z (Or.inl w))) (fun w => ⟨a3, b3, ⟨by omega, by omega⟩, ite_i (fun w3 => ?_) (fun w3 => meets_ok (by decide) (by decide) (k3 V z (by omega)))⟩)⟩
  refine ⟨h2, ite_i (fun y => meets_ok (by decide) (by decide) (k4 V z (by omega) w3 (Or.inl y))) (fun y => ⟨h4, ite_i (fun y4 => meets_ok (by decide) (by decide) (k4 V z (by omega) w3 (Or.inr (Or.inl y4)))) (fun y4 => ?_)⟩)⟩
  have u2 := h2
  have u4 := h4
  have u5 := h5
  unfold rg at u2 u4 u5
  refine ⟨⟨by omega, by omega⟩, ⟨by omega, by omega⟩, ite_i (fun m => meets_ok (by decide) (by decide) (k4 V z (by omega) w3 (Or.inr (Or.inr (Or.inl m))))) (fun m => ⟨⟨by omega, by omega⟩, ⟨by omega, by omega⟩, ite_i (fun m2 => k5 V z (by omega) w3 (by omega) (by omega) (by omega) m2) (fun m2 => meets_ok (by decide) (by decide) (k4 V z (by omega) w3 (Or.inr (Or.inr (Or.inr (by omega))))))⟩)⟩
theorem rel_copy {k : Int} {G : GG} {c r : MM} (h : RelK k G c r) (hk : k < 512) (x1 : Int) (h1 : rg x1) (x2 : Int) (h2 : rg x2) (x3 : Int) (h3 : rg x3) (x4 : Int) (h4 : rg x4) (x5 : Int) (h5 : rg x5) : wpX10_copy G x1 x2 x3 x4 x5 c (fun v c' => wpX11_copy x1 x2 x3 x4 x5 r (fun v' r' => Lf v v' (RelK (k + 1) G c' r'))) := by
  have hR := h.2
  have R1 := hR.R1
  have R2 := hR.R2
  have R3 := hR.R3
  unfold wpX10_copy
  refine rowOf_ok h1 (fun q => rowOf_ok h3 (fun _ => ite_p (by decide) ?_) (fun a b => ite_p (by decide) ?_)) (fun a1 b1 => rowOf_ok h3 (fun q => ite_n (by omega) ⟨b1, ite_p (by decide) ?_⟩) (fun a3 b3 => ite_n (by omega) ⟨b1, ite_n (by omega) ⟨b3, h5, ?_⟩⟩))
  · exact copyX_ok hR h1 h2 h3 h4 h5 (fun _ => Lf.mk rfl (h.up hk)) (fun z => by exfalso; omega) (fun z => by exfalso; omega) (fun z => by exfalso; omega) (fun z => by exfalso; omega)
  · exact copyX_ok hR h1 h2 h3 h4 h5 (fun _ => Lf.mk rfl (h.up hk)) (fun z => by exfalso; omega) (fun z => by exfalso; omega) (fun z => by exfalso; omega) (fun z => by exfalso; omega)
  · exact copyX_ok hR h1 h2 h3 h4 h5 (fun _ => Lf.mk rfl (h.up hk)) (fun z => by exfalso; omega) (fun z => by exfalso; omega) (fun z => by exfalso; omega) (fun z => by exfalso; omega)
  · have s1 := R3 x1 a1 b1
    have s3 := R3 x3 a3 b3
    have u2 := h2
    have u4 := h4
    have u5 := h5
    unfold rg at u2 u4 u5
    have X1 : 0 ≤ x5 → r 7 0 x1 < 0 ∨ r 7 0 x3 < 0 → wpX11_copy x1 x2 x3 x4 x5 r (fun v' r' => Lf (-3) v' (RelK (k + 1) G (fC 1 c) r')) := fun y5 y => copyX_ok hR h1 h2 h3 h4 h5 (fun z => by exfalso; omega) (fun _ z => by exfalso; omega) (fun _ _ _ => Lf.mk rfl (h.f hk 1)) (fun _ _ z z2 => by exfalso; omega) (fun _ _ z z2 => by exfalso; omega)
    have X2 : 0 ≤ x5 → 0 ≤ r 7 0 x1 → 0 ≤ r 7 0 x3 → x2 < 0 ∨ x4 < 0 ∨ r 7 0 x1 < x2 + x5 ∨ r 7 0 x3 < x4 + x5 → wpX11_copy x1 x2 x3 x4 x5 r (fun v' r' => Lf (-3) v' (RelK (k + 1) G (fC 2 c) r')) := fun y5 y1 y3 y => copyX_ok hR h1 h2 h3 h4 h5 (fun z => by exfalso; omega) (fun _ z => by exfalso; omega) (fun _ _ z => by exfalso; omega) (fun _ _ _ _ _ => Lf.mk rfl (h.f hk 2)) (fun _ _ _ _ z1 z2 z3 z4 => by exfalso; omega)
    refine ite_i (fun z => ?_) (fun z => found_ok (by decide) (by decide) (copyX_ok hR h1 h2 h3 h4 h5 (fun z => by exfalso; omega) (fun _ _ => Lf.mk rfl (h.f hk 5)) (fun _ z => by exfalso; omega) (fun _ z => by exfalso; omega) (fun _ z => by exfalso; omega)))
    refine isThere_ok ⟨by omega, by omega⟩ (fun q => ite_p rfl (found_ok (by decide) (by decide) (X1 z (by omega)))) (fun q => ite_n (by decide) (isThere_ok ⟨by omega, by omega⟩ (fun q2 => ite_p rfl (found_ok (by decide) (by decide) (X1 z (by omega)))) (fun q2 => ite_n (by decide) ?_)))
    refine hasRun_ok h2 h5 z (by omega) (by omega) (fun y => ite_p rfl (found_ok (by decide) (by decide) (X2 z (by omega) (by omega) (by omega)))) (fun y1 y2 => ite_n (by decide) (hasRun_ok h4 h5 z (by omega) (by omega) (fun y => ite_p rfl (found_ok (by decide) (by decide) (X2 z (by omega) (by omega) (by omega)))) (fun y3 y4 => ite_n (by decide) ⟨y1, y3, z, by omega, by omega, ?_, all_eq ?_⟩)))
    · intro j a b
      rw [R1]
      exact R2 _
    · refine copyX_ok hR h1 h2 h3 h4 h5 (fun z => by exfalso; omega) (fun _ z => by exfalso; omega) (fun _ _ z => by exfalso; omega) (fun _ _ _ _ z => by exfalso; omega) (fun _ _ _ _ _ _ _ _ => ?_)
      obtain ⟨b, e1, e2⟩ := copyR1 (r := r) (x1 := x1) (x2 := x2) (x3 := x3) (x4 := x4) (x5 := x5) a1 b1 y1 (by omega) a3 b3 y3 z (by omega)
      exact e2 _ (Lf.mk rfl (h.of hk (hR.copy e1)))
