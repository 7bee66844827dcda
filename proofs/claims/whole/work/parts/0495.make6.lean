theorem RelK.mk {k : Int} {G G' : GG} {c c' r r' : MM} (h : RelK k G c r) (hk : k < 512) (h' : Rel (2000000 * k) (90000 + 3600 * k) (100000 * k + 100000) G' c' r') : RelK (k + 1) G' c' r' := RelK.up ⟨h.1, h'⟩ hk
/-- a train of notches is cut, on both sides -/
theorem cut_ok {k : Int} {G : GG} {c r : MM} (h : RelK k G c r) (hk : k < 512) {kd N P x1 : Int} {pv : Int → Int} {r0 : MM} (hx : 0 ≤ x1 ∧ x1 < 8) (hn : r 0 10 0 < 16) (hkd : 1 ≤ kd ∧ kd ≤ 3) (eN : r 7 0 x1 = N) (hg : goodN (fun j => r 8 0 (48 * x1 + j)) N) (hP : (kd = 3 → 1 ≤ P ∧ P ≤ 48) ∧ (kd ≠ 3 → P = 0)) (hpv : ∀ j, 0 ≤ j → j < P → 0 ≤ pv j ∧ pv j ≤ 255)
    (hr : ∀ f e : Nat, ¬ (f = 15 ∨ f = 16) → r0 f e = r f e) (r15 : ∀ j, r0 15 0 j = if j = r 0 10 0 then P else r 15 0 j) (r16 : ∀ j, r0 16 0 j = if 48 * r 0 10 0 ≤ j ∧ j < 48 * r 0 10 0 + P then pv (j - 48 * r 0 10 0) else r 16 0 j) {Q : Int → MM → Prop} :
    mkOK G kd N P c ∧ ((∀ r', RelK (k + 1) (mkG G kd N P) (kpM (G 0 0) N P (fun j => iand (c 8 0 (48 * x1 + j)) (-1)) pv c) r' → Q (G 0 0) r') → wpX11_cutOf x1 kd r0 (fun v u => Q v u)) := by
  have hR := h.2
  have T0 := hR.T0
  have R1 := hR.R1
  have R2 := hR.R2
  obtain ⟨n, en⟩ : ∃ z, z = r 0 10 0 := ⟨_, rfl⟩
  have n0 : 0 ≤ n := by omega
  have eG : G 0 0 = n := by omega
  have g1 := hg.1
  have key := hR.makeC (n := n) (kd := kd) (N := N) (P := P) (sv := fun j => iand (c 8 0 (48 * x1 + j)) (-1)) (pv := pv) (r' := ms (ms (ms (ms (ms (ms (cutM (ms r0 12 0 n N) (24 * n) N (fun j => r0 8 0 (48 * x1 + j))) 11 0 n kd) 18 0 n 30) 19 0 n 1000) 20 0 n 1000) 22 0 n (-9)) 0 10 0 (n + 1)) en.symm (by omega) (by have := h.1; omega) (by omega) ⟨by omega, fun _ => g1⟩ hP (fun j a b => ?_) hpv (fun f e q => ?_) (fun j => ?_) (fun j => ?_) (fun j => ?_) (fun j => ?_) (fun j => ?_) (fun j => ?_) (fun j => ?_) ?_ (fun j => ?_) (fun j => ?_)
  · rw [eG]
    refine ⟨key.1, fun hq => ?_⟩
    refine cutOf_ok hx.1 hx.2 (n := n) (N := N) (by rw [hr 0 10 (by decide)]; exact en.symm) n0 (by omega) (by rw [hr 7 0 (by decide)]; exact eN) (by omega) (by omega) ?_
    refine makes_ok (n := n) ?_ n0 (by omega) (hq _ (h.mk hk key.2))
    show r0 0 10 0 = n
    rw [hr 0 10 (by decide)]
    exact en.symm
  · have := hg.2 j a b
    dsimp only at this
    rw [R1, (iand_b (R2 (48 * x1 + j))).1]
    exact this
  · have e1 : r0 f e = r f e := hr f e (by omega)
    funext j
    unfold ms cutM
    rw [if_neg (by omega), if_neg (by omega), if_neg (by omega), if_neg (by omega), if_neg (by omega), if_neg (by omega), if_neg (by omega)]
    show (if f = 12 ∧ e = 0 ∧ j = n then N else r0 f e j) = r f e j
    rw [if_neg (by omega), e1]
  · have e1 : r0 11 0 = r 11 0 := hr 11 0 (by decide)
    simp [ms, cutM, e1]
  · have e1 : r0 12 0 = r 12 0 := hr 12 0 (by decide)
    simp [ms, cutM, e1]
  · simp [ms, cutM, r15, en]
  · have e1 : r0 18 0 = r 18 0 := hr 18 0 (by decide)
    simp [ms, cutM, e1]
  · have e1 : r0 19 0 = r 19 0 := hr 19 0 (by decide)
    simp [ms, cutM, e1]
  · have e1 : r0 20 0 = r 20 0 := hr 20 0 (by decide)
    simp [ms, cutM, e1]
  · have e1 : r0 22 0 = r 22 0 := hr 22 0 (by decide)
    simp [ms, cutM, e1]
  · simp [ms]
  · have e1 : r0 13 0 = r 13 0 := hr 13 0 (by decide)
    have e2 : r0 8 0 = r 8 0 := hr 8 0 (by decide)
    have e3 := (iand_b (R2 (48 * x1 + (j - 24 * n)))).1
    simp [ms, cutM, e1, e2, R1, e3]
  · simp [ms, cutM, r16, en]
theorem rel_train {k : Int} {G : GG} {c r : MM} (h : RelK k G c r) (hk : k < 512) : wpX10_train G (KMk G 0 0 0 (fun _ => 0) (fun _ => 0) (fun v u G' => wpX11_train r (fun v' r' => Lf v v' (RelK (k + 1) G' u r')))) c (fun v u => wpX11_train r (fun v' r' => Lf v v' (RelK (k + 1) G u r'))) := by
  have hR := h.2
  have T0 := hR.T0
  have I13 := hR.I13
  unfold wpX10_train
  refine ⟨⟨by omega, by omega⟩, ite_i (fun q => ?_) (fun q => ?_)⟩
  · obtain ⟨n, en⟩ : ∃ z, z = r 0 10 0 := ⟨_, rfl⟩
    have n0 : 0 ≤ n := by omega
    have eG : G 0 0 = n := by omega
    have z := I13 n (by omega)
    have key := hR.makeC (n := n) (kd := 0) (N := 0) (P := 0) (sv := fun _ => 0) (pv := fun _ => 0) (r' := ms (ms (ms (ms (ms (ms r 11 0 n 0) 18 0 n 30) 19 0 n 1000) 20 0 n 1000) 22 0 n (-9)) 0 10 0 (n + 1)) en.symm (by omega) (by have := h.1; omega) (by omega) ⟨fun _ => rfl, by omega⟩ ⟨by omega, fun _ => rfl⟩ (fun j a b => by exfalso; omega) (fun j a b => by exfalso; omega) (fun f e q => ?_) (fun j => ?_) (fun j => ?_) (fun j => ?_) (fun j => ?_) (fun j => ?_) (fun j => ?_) (fun j => ?_) ?_ (fun j => ?_) (fun j => ?_)
    · refine ⟨key.1, ?_⟩
      rw [eG]
      show wpX11_train r _
      unfold wpX11_train
      refine ⟨⟨by omega, by omega⟩, ite_n (by omega) (makes_ok en.symm n0 (by omega) (Lf.mk rfl (h.mk hk key.2)))⟩
    · funext j
      unfold ms
      rw [if_neg (by omega), if_neg (by omega), if_neg (by omega), if_neg (by omega), if_neg (by omega), if_neg (by omega)]
    · simp [ms]
    · by_cases e : j = n
      · simp [ms, e, z]
      · simp [ms, e]
    · by_cases e : j = n
      · simp [ms, e, z]
      · simp [ms, e]
    · simp [ms]
    · simp [ms]
    · simp [ms]
    · simp [ms]
    · simp [ms]
    · rw [if_neg (by omega)]
      simp [ms]
    · rw [if_neg (by omega)]
      simp [ms]
  · unfold wpX11_train
    exact ⟨⟨by omega, by omega⟩, ite_p (by omega) (Lf.mk rfl (h.up hk))⟩
theorem plates_ok {k : Int} {G : GG} {c r : MM} (h : RelK k G c r) (hk : k < 512) (x1 kd : Int) (h1 : rg x1) (hkd : kd = 1 ∨ kd = 2) : wpX10_refusalOfStrokes G x1 x1 c (fun v1 μ2 => wpX10_rowOf G x1 μ2 (fun v3 μ4 => rg v1 ∧ (if v1 = 0 then (if v3 < 0 then (wpX11_plateOf x1 kd r (fun v' r' => Lf v1 v' (RelK (k + 1) G μ4 r'))) else (v3 < 8 ∧ ((0 ≤ μ4 1 1 v3 ∧ μ4 1 1 v3 ≤ 24) ∧ KMk G kd (μ4 1 1 v3) 0 (fun j => iand (μ4 8 0 (48 * v3 + j)) (-1)) (fun _ => 0) (fun v u G' => wpX11_plateOf x1 kd r (fun v' r' => Lf v v' (RelK (k + 1) G' u r'))) μ4))) else (wpX11_plateOf x1 kd r (fun v' r' => Lf v1 v' (RelK (k + 1) G μ4 r')))))) := by
  have hR := h.2
  have rr : ∀ {c' : MM} {v : Int} {X : MM → Prop}, v ≠ 0 → rg v → X c' → wpX10_rowOf G x1 c' (fun v3 μ4 => rg v ∧ (if v = 0 then (if v3 < 0 then X μ4 else (v3 < 8 ∧ ((0 ≤ μ4 1 1 v3 ∧ μ4 1 1 v3 ≤ 24) ∧ KMk G kd (μ4 1 1 v3) 0 (fun j => iand (μ4 8 0 (48 * v3 + j)) (-1)) (fun _ => 0) (fun v u G' => wpX11_plateOf x1 kd r (fun v' r' => Lf v v' (RelK (k + 1) G' u r'))) μ4))) else X μ4)) := fun hv hg hX => rowOf_ok h1 (fun _ => ⟨hg, ite_n hv hX⟩) (fun _ _ => ⟨hg, ite_n hv hX⟩)
  refine refusalN_ok hR h1 h1 (fun q => rr (by decide) (by decide) ?_) (fun V q => rr (by decide) (by decide) ?_) (fun V q w => rr (by decide) (by decide) ?_) (fun V q t1 t2 w => rr (by decide) (by decide) ?_) (fun V q t1 t2 g w => rowOf_ok h1 (fun z => by exfalso; omega) (fun a b => ⟨by decide, ite_p rfl (ite_n (by omega) ⟨b, ?_⟩)⟩))
  · exact plateOf_ok hR h1 (fun _ => Lf.mk rfl (h.up hk)) (fun z => by exfalso; omega) (fun z => by exfalso; omega) (fun z => by exfalso; omega) (fun z => by exfalso; omega)
  · exact plateOf_ok hR h1 (fun z => by exfalso; omega) (fun _ _ => Lf.mk rfl (h.up hk)) (fun _ z => by exfalso; omega) (fun _ z => by exfalso; omega) (fun _ z => by exfalso; omega)
  · exact plateOf_ok hR h1 (fun z => by exfalso; omega) (fun _ z => by exfalso; omega) (fun _ _ _ => Lf.mk rfl (h.f hk 1)) (fun _ _ z => by exfalso; omega) (fun _ _ z => by exfalso; omega)
  · have w' : ¬ goodN (fun j => r 8 0 (48 * x1 + j)) (r 7 0 x1) := by
      rcases w with w | w
      · exact w
      · intro g
        have := g.1
        omega
    exact plateOf_ok hR h1 (fun z => by exfalso; omega) (fun _ z => by exfalso; omega) (fun _ _ z => by exfalso; omega) (fun _ _ _ _ => Lf.mk rfl (h.f hk 5)) (fun _ _ _ z => absurd z w')
  · have g1 := g.1
    refine ⟨by omega, ?_⟩
    rw [t1.1]
    have key := cut_ok h hk (kd := kd) (N := r 7 0 x1) (P := 0) (pv := fun _ => 0) (r0 := r) (Q := fun v' r' => Lf (G 0 0) v' (RelK (k + 1) (mkG G kd (r 7 0 x1) 0) (kpM (G 0 0) (r 7 0 x1) 0 (fun j => iand (c 8 0 (48 * x1 + j)) (-1)) (fun _ => 0) c) r')) V.1 q (by omega) rfl g ⟨by omega, fun _ => rfl⟩ (fun j a b => by exfalso; omega) (fun f e _ => rfl) (fun j => ?_) (fun j => by rw [if_neg (by omega)])
    · exact ⟨key.1, plateOf_ok hR h1 (fun z => by exfalso; omega) (fun _ z => by exfalso; omega) (fun _ _ z => by exfalso; omega) (fun _ _ _ z => absurd g z) (fun _ _ _ _ => key.2 (fun r' hr' => Lf.mk rfl hr'))⟩
    · by_cases e : j = r 0 10 0
      · rw [if_pos e, e]
        exact (hR.I13 _ (Int.le_refl _)).2.2.1
      · rw [if_neg e]
theorem rel_plate {k : Int} {G : GG} {c r : MM} (h : RelK k G c r) (hk : k < 512) (x1 : Int) (h1 : rg x1) : wpX10_plate G (fun x3 μ => (0 ≤ μ 1 1 x3 ∧ μ 1 1 x3 ≤ 24) ∧ KMk G 1 (μ 1 1 x3) 0 (fun j => iand (μ 8 0 (48 * x3 + j)) (-1)) (fun _ => 0) (fun v u G' => wpX11_plate x1 r (fun v' r' => Lf v v' (RelK (k + 1) G' u r'))) μ) x1 c (fun v u => wpX11_plate x1 r (fun v' r' => Lf v v' (RelK (k + 1) G u r'))) := plates_ok h hk x1 1 h1 (Or.inl rfl)
theorem rel_snail {k : Int} {G : GG} {c r : MM} (h : RelK k G c r) (hk : k < 512) (x1 : Int) (h1 : rg x1) : wpX10_snail G (fun x3 μ => (0 ≤ μ 1 1 x3 ∧ μ 1 1 x3 ≤ 24) ∧ KMk G 2 (μ 1 1 x3) 0 (fun j => iand (μ 8 0 (48 * x3 + j)) (-1)) (fun _ => 0) (fun v u G' => wpX11_snail x1 r (fun v' r' => Lf v v' (RelK (k + 1) G' u r'))) μ) x1 c (fun v u => wpX11_snail x1 r (fun v' r' => Lf v v' (RelK (k + 1) G u r'))) := plates_ok h hk x1 2 h1 (Or.inr rfl)
/-- the reference's barrel -/
theorem barrelR_ok {bd bs bw : Int} {G : GG} {c r : MM} (hR : Rel bd bs bw G c r) {x1 x2 : Int} (h1 : rg x1) (h2 : rg x2) {Q : Int → MM → Prop} (k1 : x1 < 0 ∨ 8 ≤ x1 ∨ x2 < 0 ∨ 8 ≤ x2 → Q (-1) r) (k2 : (0 ≤ x1 ∧ x1 < 8) ∧ 0 ≤ x2 ∧ x2 < 8 → r 0 10 0 = 16 → Q (-2) r) (k3 : (0 ≤ x1 ∧ x1 < 8) ∧ 0 ≤ x2 ∧ x2 < 8 → r 0 10 0 < 16 → r 7 0 x1 < 0 ∨ r 7 0 x2 < 0 → Q (-3) (fR 1 r)) (k4 : (0 ≤ x1 ∧ x1 < 8) ∧ 0 ≤ x2 ∧ x2 < 8 → r 0 10 0 < 16 → 0 ≤ r 7 0 x1 → 0 ≤ r 7 0 x2 → ¬ goodN (fun j => r 8 0 (48 * x1 + j)) (r 7 0 x1) ∨ r 7 0 x2 = 0 → Q (-3) (fR 5 r)) (k5 : (0 ≤ x1 ∧ x1 < 8) ∧ 0 ≤ x2 ∧ x2 < 8 → r 0 10 0 < 16 → goodN (fun j => r 8 0 (48 * x1 + j)) (r 7 0 x1) → 1 ≤ r 7 0 x2 → wpX11_cutOf x1 3 (pinM (ms r 15 0 (r 0 10 0) (r 7 0 x2)) (48 * r 0 10 0) (r 7 0 x2) (fun j => iand (r 8 0 (48 * x2 + j)) 255)) (fun v u => Q v u)) : wpX11_barrel x1 x2 r Q := by
  have T0 := hR.T0
  have R2 := hR.R2
  have R3 := hR.R3
  unfold wpX11_barrel
  refine isRow_ok h1 (fun q => ite_p rfl (k1 (by omega))) (fun a1 b1 => ite_n (by decide) (isRow_ok h2 (fun q => ite_p rfl (k1 (by omega))) (fun a2 b2 => ite_n (by decide) ⟨⟨by omega, by omega⟩, ite_i (fun z => k2 ⟨⟨a1, b1⟩, a2, b2⟩ z) (fun z => ⟨a1, b1, ?_⟩)⟩)))
  have V : (0 ≤ x1 ∧ x1 < 8) ∧ 0 ≤ x2 ∧ x2 < 8 := ⟨⟨a1, b1⟩, a2, b2⟩
  have s1 := R3 x1 a1 b1
  have s2 := R3 x2 a2 b2
  refine ⟨⟨by omega, by omega⟩, ite_i (fun w => meets_ok (by decide) (by decide) (k3 V (by omega) (Or.inl w))) (fun w => ⟨a2, b2, ⟨by omega, by omega⟩, ite_i (fun w2 => ?_) (fun w2 => meets_ok (by decide) (by decide) (k3 V (by omega) (by omega)))⟩)⟩
  refine areNotches_ok a1 b1 (by omega) (by omega) R2 (fun g => ite_n (by decide) ⟨⟨by omega, by omega⟩, ite_i (fun y => meets_ok (by decide) (by decide) (k4 V (by omega) (by omega) w2 (Or.inr y))) (fun y => ⟨by omega, by omega, all_eq ?_⟩)⟩) (fun g => ite_p rfl (meets_ok (by decide) (by decide) (k4 V (by omega) (by omega) w2 (Or.inl g))))
  exact pinsOf_ok (r := ms r 15 0 (r 0 10 0) (r 7 0 x2)) a2 b2 (n := r 0 10 0) (P := r 7 0 x2) rfl (by omega) (by omega) rfl w2 (by omega) (k5 V (by omega) g (by omega))
theorem rel_barrel {k : Int} {G : GG} {c r : MM} (h : RelK k G c r) (hk : k < 512) (x1 : Int) (h1 : rg x1) (x2 : Int) (h2 : rg x2) : wpX10_barrel G (fun x4 x5 μ => ((0 ≤ μ 1 1 x4 ∧ μ 1 1 x4 ≤ 24) ∧ 0 ≤ μ 1 1 x5 ∧ μ 1 1 x5 ≤ 48) ∧ KMk G 3 (μ 1 1 x4) (μ 1 1 x5) (fun j => iand (μ 8 0 (48 * x4 + j)) (-1)) (fun j => iand (μ 8 0 (48 * x5 + j)) 255) (fun v u G' => wpX11_barrel x1 x2 r (fun v' r' => Lf v v' (RelK (k + 1) G' u r'))) μ) x1 x2 c (fun v u => wpX11_barrel x1 x2 r (fun v' r' => Lf v v' (RelK (k + 1) G u r'))) := by
  have hR := h.2
  have R1 := hR.R1
  have R2 := hR.R2
  unfold wpX10_barrel
  refine refusalN_ok hR h1 h2 (fun q => ?_) (fun V q => ?_) (fun V q w => ?_) (fun V q t1 t2 w => ?_) (fun V q t1 t2 g w => rowOf_ok h1 (fun z => by exfalso; omega) (fun a b => rowOf_ok h2 (fun z => by exfalso; omega) (fun a2 b2 => ⟨by decide, ite_p rfl (ite_n (by omega) ⟨b, ite_n (by omega) ⟨b2, ?_⟩⟩)⟩)))
  · have X : wpX11_barrel x1 x2 r (fun v' r' => Lf (-1) v' (RelK (k + 1) G c r')) := barrelR_ok hR h1 h2 (fun _ => Lf.mk rfl (h.up hk)) (fun z => by exfalso; omega) (fun z => by exfalso; omega) (fun z => by exfalso; omega) (fun z => by exfalso; omega)
    exact rowOf_ok h1 (fun _ => rowOf_ok h2 (fun _ => ⟨by decide, ite_n (by decide) X⟩) (fun _ _ => ⟨by decide, ite_n (by decide) X⟩)) (fun _ _ => rowOf_ok h2 (fun _ => ⟨by decide, ite_n (by decide) X⟩) (fun _ _ => ⟨by decide, ite_n (by decide) X⟩))
  · have X : wpX11_barrel x1 x2 r (fun v' r' => Lf (-2) v' (RelK (k + 1) G c r')) := barrelR_ok hR h1 h2 (fun z => by exfalso; omega) (fun _ _ => Lf.mk rfl (h.up hk)) (fun _ z => by exfalso; omega) (fun _ z => by exfalso; omega) (fun _ z => by exfalso; omega)
    exact rowOf_ok h1 (fun _ => rowOf_ok h2 (fun _ => ⟨by decide, ite_n (by decide) X⟩) (fun _ _ => ⟨by decide, ite_n (by decide) X⟩)) (fun _ _ => rowOf_ok h2 (fun _ => ⟨by decide, ite_n (by decide) X⟩) (fun _ _ => ⟨by decide, ite_n (by decide) X⟩))
  · have X : wpX11_barrel x1 x2 r (fun v' r' => Lf (-3) v' (RelK (k + 1) G (fC 1 c) r')) := barrelR_ok hR h1 h2 (fun z => by exfalso; omega) (fun _ z => by exfalso; omega) (fun _ _ _ => Lf.mk rfl (h.f hk 1)) (fun _ _ z z2 => by exfalso; omega) (fun _ _ z z2 => by have := z.1; exfalso; omega)
    exact rowOf_ok h1 (fun _ => rowOf_ok h2 (fun _ => ⟨by decide, ite_n (by decide) X⟩) (fun _ _ => ⟨by decide, ite_n (by decide) X⟩)) (fun _ _ => rowOf_ok h2 (fun _ => ⟨by decide, ite_n (by decide) X⟩) (fun _ _ => ⟨by decide, ite_n (by decide) X⟩))
  · have X : wpX11_barrel x1 x2 r (fun v' r' => Lf (-3) v' (RelK (k + 1) G (fC 5 c) r')) := barrelR_ok hR h1 h2 (fun z => by exfalso; omega) (fun _ z => by exfalso; omega) (fun _ _ z => by exfalso; omega) (fun _ _ _ _ _ => Lf.mk rfl (h.f hk 5)) (fun _ _ z z2 => by
      exfalso
      rcases w with w | w
      · exact w z
      · omega)
    exact rowOf_ok h1 (fun _ => rowOf_ok h2 (fun _ => ⟨by decide, ite_n (by decide) X⟩) (fun _ _ => ⟨by decide, ite_n (by decide) X⟩)) (fun _ _ => rowOf_ok h2 (fun _ => ⟨by decide, ite_n (by decide) X⟩) (fun _ _ => ⟨by decide, ite_n (by decide) X⟩))
  · have g1 := g.1
    refine ⟨by omega, ?_⟩
    rw [t1.1, t2.1]
    have key := cut_ok h hk (kd := 3) (N := r 7 0 x1) (P := r 7 0 x2) (pv := fun j => iand (c 8 0 (48 * x2 + j)) 255) (r0 := pinM (ms r 15 0 (r 0 10 0) (r 7 0 x2)) (48 * r 0 10 0) (r 7 0 x2) (fun j => iand (r 8 0 (48 * x2 + j)) 255)) (Q := fun v' r' => Lf (G 0 0) v' (RelK (k + 1) (mkG G 3 (r 7 0 x1) (r 7 0 x2)) (kpM (G 0 0) (r 7 0 x1) (r 7 0 x2) (fun j => iand (c 8 0 (48 * x1 + j)) (-1)) (fun j => iand (c 8 0 (48 * x2 + j)) 255) c) r')) V.1 q (by omega) rfl g ⟨fun _ => by omega, by omega⟩ (fun j a b => by rw [R1]; exact (iand_b (R2 _)).2) (fun f e z => ?_) (fun j => ?_) (fun j => ?_)
    · exact ⟨key.1, barrelR_ok hR h1 h2 (fun z => by exfalso; omega) (fun _ z => by exfalso; omega) (fun _ _ z => by exfalso; omega) (fun _ _ _ _ z => by exfalso; rcases z with z | z; exact z g; omega) (fun _ _ _ _ => key.2 (fun r' hr' => Lf.mk rfl hr'))⟩
    · funext j
      unfold pinM ms
      rw [if_neg (by omega), if_neg (by omega)]
    · simp [pinM, ms]
    · simp [pinM, ms, R1]
