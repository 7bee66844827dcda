/-! a run of cells set to one value -/
def fillM (μ : MM) (k : Nat) (b n v : Int) : MM := fun f e j => if f = k ∧ e = 0 ∧ b ≤ j ∧ j < b + n then v else μ f e j
theorem fillM_zero (μ : MM) (k : Nat) (b v : Int) : fillM μ k b 0 v = μ := by
  funext f e j
  exact if_neg (by omega)
theorem fillM_succ (μ : MM) (k : Nat) (b n v : Int) (hn : 0 ≤ n) : ms (fillM μ k b n v) k 0 (b + n) v = fillM μ k b (n + 1) v := by
  funext f e j
  unfold ms fillM
  by_cases h1 : f = k ∧ e = 0
  · obtain ⟨rfl, rfl⟩ := h1
    by_cases h2 : j = b + n
    · rw [if_pos ⟨rfl, rfl, h2⟩, if_pos ⟨rfl, rfl, by omega, by omega⟩]
    · rw [if_neg (fun q => h2 q.2.2)]
      by_cases h3 : b ≤ j ∧ j < b + n
      · rw [if_pos ⟨rfl, rfl, h3⟩, if_pos ⟨rfl, rfl, by omega, by omega⟩]
      · rw [if_neg (by omega), if_neg (by omega)]
  · rw [if_neg (fun q => h1 ⟨q.1, q.2.1⟩), if_neg (fun q => h1 ⟨q.1, q.2.1⟩), if_neg (fun q => h1 ⟨q.1, q.2.1⟩)]
theorem fillC_ok {G : GG} {i : Int} {c : MM} {Q : Int → MM → Prop} (h : Q 0 (fillM c 8 (48 * i) 48 0)) : wpJ7_fill_031fb G i 0 c Q := by
  have aux : ∀ (n : Nat) (x : Int), 0 ≤ x → x + n = 48 → wpJ7_fill_031fb_L5 G Q (n + 1) i 0 x 48 (fillM c 8 (48 * i) x 0) := by
    intro n
    induction n with
    | zero =>
      intro x hx he
      have : x = 48 := by omega
      subst this
      exact ⟨by omega, by omega, ite_p (by omega) h⟩
    | succ n ih =>
      intro x hx he
      refine ⟨by omega, by omega, ite_n (by omega) ⟨hx, by omega, all_eq ?_⟩⟩
      have e0 : i2b 0 = 0 := i2b_id (by decide) (by decide)
      rw [e0, fillM_succ _ _ _ _ _ hx]
      exact ih (x + 1) (by omega) (by omega)
  refine ⟨49, ?_⟩
  have := aux 48 0 (by decide) (by decide)
  rwa [fillM_zero] at this
theorem fillR_ok {x1 x2 : Int} {r : MM} {Q : Int → MM → Prop} (a : 0 ≤ x1) (b : x1 < 8) (h : Q x2 (fillM r 8 (48 * x1) 48 0)) : ∃ n : Nat, wpX11_row_L34 Q n x1 x2 0 r := by
  have aux : ∀ (n : Nat) (x : Int), 0 ≤ x → x + n = 48 → wpX11_row_L34 Q (n + 1) x1 x2 x (fillM r 8 (48 * x1) x 0) := by
    intro n
    induction n with
    | zero =>
      intro x hx he
      have : x = 48 := by omega
      subst this
      exact ⟨by omega, ite_p (by omega) h⟩
    | succ n ih =>
      intro x hx he
      refine ⟨by omega, ite_n (by omega) ⟨by omega, by omega, all_eq ?_⟩⟩
      rw [fillM_succ _ _ _ _ _ hx]
      exact ih (x + 1) (by omega) (by omega)
  refine ⟨49, ?_⟩
  have := aux 48 0 (by decide) (by decide)
  rwa [fillM_zero] at this
theorem rel_row {k : Int} {G : GG} {c r : MM} (h : RelK k G c r) (hk : k < 512) (x1 : Int) (h1 : rg x1) (x2 : Int) (h2 : rg x2) : wpX10_row G x1 x2 c (fun v c' => wpX11_row x1 x2 r (fun v' r' => Lf v v' (RelK (k + 1) G c' r'))) := by
  have hR := h.2
  unfold wpX10_row wpX11_row
  refine rowOf_ok h1 (fun hx => ?_) (fun a b => ?_)
  · repeat' (first | (with_reducible refine ⟨by omega, ?_⟩) | (with_reducible refine ite_p (by omega) ?_) | (with_reducible refine ite_n (by omega) ?_) | (with_reducible refine isRow_ok (by omega) (fun _ => ?_) (fun _ _ => by exfalso; omega)) | (with_reducible refine isRow_ok (by omega) (fun _ => by exfalso; omega) (fun _ _ => ?_)) | (with_reducible refine isRow_ok (by omega) (fun _ => ?_) (fun _ _ => ?_)) | (with_reducible refine trainOf_ok hR (by omega) (fun _ => ?_) (fun _ _ => by exfalso; omega)) | (with_reducible refine trainOf_ok hR (by omega) (fun _ => by exfalso; omega) (fun _ _ => ?_)) | (with_reducible refine trainOf_ok hR (by omega) (fun _ => ?_) (fun _ _ => ?_)) | (with_reducible refine isTrain_ok hR (by omega) (fun _ => ?_) (fun _ _ => by exfalso; omega)) | (with_reducible refine isTrain_ok hR (by omega) (fun _ => by exfalso; omega) (fun _ _ => ?_)) | (with_reducible refine isTrain_ok hR (by omega) (fun _ => ?_) (fun _ _ => ?_)) | (with_reducible refine rowOf_ok (by omega) (fun _ => ?_) (fun _ _ => by exfalso; omega)) | (with_reducible refine rowOf_ok (by omega) (fun _ => by exfalso; omega) (fun _ _ => ?_)) | (with_reducible refine rowOf_ok (by omega) (fun _ => ?_) (fun _ _ => ?_)) | (with_reducible refine towerOf_ok (by omega) (fun _ => ?_) (fun _ _ => by exfalso; omega)) | (with_reducible refine towerOf_ok (by omega) (fun _ => by exfalso; omega) (fun _ _ => ?_)) | (with_reducible refine towerOf_ok (by omega) (fun _ => ?_) (fun _ _ => ?_)) | (with_reducible refine looked_ok hR (by omega) (fun _ => ?_) (fun _ _ _ _ => by exfalso; omega) (fun _ _ _ _ _ => by exfalso; omega)) | (with_reducible refine looked_ok hR (by omega) (fun _ => by exfalso; omega) (fun _ _ _ _ => ?_) (fun _ _ _ _ _ => by exfalso; omega)) | (with_reducible refine looked_ok hR (by omega) (fun _ => by exfalso; omega) (fun _ _ _ _ => by exfalso; omega) (fun _ _ _ _ _ => ?_)) | (with_reducible refine looked_ok hR (by omega) (fun _ => ?_) (fun _ _ _ _ => ?_) (fun _ _ _ _ _ => ?_)) | (with_reducible refine askedFor_ok hR (by omega) (fun _ => ?_) (fun _ _ _ => by exfalso; omega) (fun _ _ _ => by exfalso; omega)) | (with_reducible refine askedFor_ok hR (by omega) (fun _ => by exfalso; omega) (fun _ _ _ => ?_) (fun _ _ _ => by exfalso; omega)) | (with_reducible refine askedFor_ok hR (by omega) (fun _ => by exfalso; omega) (fun _ _ _ => by exfalso; omega) (fun _ _ _ => ?_)) | (with_reducible refine askedFor_ok hR (by omega) (fun _ => ?_) (fun _ _ _ => ?_) (fun _ _ _ => ?_)) | (with_reducible refine inn_ok (by omega) (by omega) (by omega) (fun _ => ?_) (fun _ _ => by exfalso; omega)) | (with_reducible refine inn_ok (by omega) (by omega) (by omega) (fun _ => by exfalso; omega) (fun _ _ => ?_)) | (with_reducible refine inn_ok (by omega) (by omega) (by omega) (fun _ => ?_) (fun _ _ => ?_)) | (with_reducible refine isPlate_ok (by omega) (by omega) (by omega) (fun _ => ?_) (fun _ => by exfalso; omega)) | (with_reducible refine isPlate_ok (by omega) (by omega) (by omega) (fun _ => by exfalso; omega) (fun _ => ?_)) | (with_reducible refine isPlate_ok (by omega) (by omega) (by omega) (fun _ => ?_) (fun _ => ?_)) | (with_reducible refine hasPlace_ok (by omega) (by omega) (fun _ => ?_) (fun _ _ => by exfalso; omega)) | (with_reducible refine hasPlace_ok (by omega) (by omega) (fun _ => by exfalso; omega) (fun _ _ => ?_)) | (with_reducible refine hasPlace_ok (by omega) (by omega) (fun _ => ?_) (fun _ _ => ?_)) | (with_reducible refine isThere_ok (by omega) (fun _ => ?_) (fun _ => by exfalso; omega)) | (with_reducible refine isThere_ok (by omega) (fun _ => by exfalso; omega) (fun _ => ?_)) | (with_reducible refine isThere_ok (by omega) (fun _ => ?_) (fun _ => ?_)) | (with_reducible refine isDayHour_ok (by omega) (fun _ => ?_) (fun _ _ => by exfalso; omega)) | (with_reducible refine isDayHour_ok (by omega) (fun _ => by exfalso; omega) (fun _ _ => ?_)) | (with_reducible refine isDayHour_ok (by omega) (fun _ => ?_) (fun _ _ => ?_)) | (with_reducible refine isHour_ok (by omega) (fun _ => ?_) (fun _ _ => by exfalso; omega)) | (with_reducible refine isHour_ok (by omega) (fun _ => by exfalso; omega) (fun _ _ => ?_)) | (with_reducible refine isHour_ok (by omega) (fun _ => ?_) (fun _ _ => ?_)) | (with_reducible refine trainIn_ok (by omega) (fun _ => ?_) (fun _ => by exfalso; omega)) | (with_reducible refine trainIn_ok (by omega) (fun _ => by exfalso; omega) (fun _ => ?_)) | (with_reducible refine trainIn_ok (by omega) (fun _ => ?_) (fun _ => ?_)) | (with_reducible refine found_ok (by decide) (by decide) ?_) | (with_reducible refine meets_ok (by decide) (by decide) ?_) | (with_reducible refine ite_i (fun _ => ?_) (fun _ => ?_)) | (with_reducible refine all_eq ?_))
    all_goals (first | exact Lf.mk rfl (h.up hk) | exact Lf.mk rfl (h.f hk _) | exact Lf.mk (by omega) (h.up hk) | skip)
  · have R1 := hR.R1
    have R2 := hR.R2
    have R3 := hR.R3
    repeat' (first | (with_reducible refine ⟨by omega, ?_⟩) | (with_reducible refine ite_p (by omega) ?_) | (with_reducible refine ite_n (by omega) ?_) | (with_reducible refine isRow_ok (by omega) (fun _ => ?_) (fun _ _ => by exfalso; omega)) | (with_reducible refine isRow_ok (by omega) (fun _ => by exfalso; omega) (fun _ _ => ?_)) | (with_reducible refine isRow_ok (by omega) (fun _ => ?_) (fun _ _ => ?_)) | (with_reducible refine fillC_ok ?_) | (with_reducible refine fillR_ok (by omega) (by omega) ?_) | (with_reducible refine trainOf_ok hR (by omega) (fun _ => ?_) (fun _ _ => by exfalso; omega)) | (with_reducible refine trainOf_ok hR (by omega) (fun _ => by exfalso; omega) (fun _ _ => ?_)) | (with_reducible refine trainOf_ok hR (by omega) (fun _ => ?_) (fun _ _ => ?_)) | (with_reducible refine isTrain_ok hR (by omega) (fun _ => ?_) (fun _ _ => by exfalso; omega)) | (with_reducible refine isTrain_ok hR (by omega) (fun _ => by exfalso; omega) (fun _ _ => ?_)) | (with_reducible refine isTrain_ok hR (by omega) (fun _ => ?_) (fun _ _ => ?_)) | (with_reducible refine rowOf_ok (by omega) (fun _ => ?_) (fun _ _ => by exfalso; omega)) | (with_reducible refine rowOf_ok (by omega) (fun _ => by exfalso; omega) (fun _ _ => ?_)) | (with_reducible refine rowOf_ok (by omega) (fun _ => ?_) (fun _ _ => ?_)) | (with_reducible refine towerOf_ok (by omega) (fun _ => ?_) (fun _ _ => by exfalso; omega)) | (with_reducible refine towerOf_ok (by omega) (fun _ => by exfalso; omega) (fun _ _ => ?_)) | (with_reducible refine towerOf_ok (by omega) (fun _ => ?_) (fun _ _ => ?_)) | (with_reducible refine looked_ok hR (by omega) (fun _ => ?_) (fun _ _ _ _ => by exfalso; omega) (fun _ _ _ _ _ => by exfalso; omega)) | (with_reducible refine looked_ok hR (by omega) (fun _ => by exfalso; omega) (fun _ _ _ _ => ?_) (fun _ _ _ _ _ => by exfalso; omega)) | (with_reducible refine looked_ok hR (by omega) (fun _ => by exfalso; omega) (fun _ _ _ _ => by exfalso; omega) (fun _ _ _ _ _ => ?_)) | (with_reducible refine looked_ok hR (by omega) (fun _ => ?_) (fun _ _ _ _ => ?_) (fun _ _ _ _ _ => ?_)) | (with_reducible refine askedFor_ok hR (by omega) (fun _ => ?_) (fun _ _ _ => by exfalso; omega) (fun _ _ _ => by exfalso; omega)) | (with_reducible refine askedFor_ok hR (by omega) (fun _ => by exfalso; omega) (fun _ _ _ => ?_) (fun _ _ _ => by exfalso; omega)) | (with_reducible refine askedFor_ok hR (by omega) (fun _ => by exfalso; omega) (fun _ _ _ => by exfalso; omega) (fun _ _ _ => ?_)) | (with_reducible refine askedFor_ok hR (by omega) (fun _ => ?_) (fun _ _ _ => ?_) (fun _ _ _ => ?_)) | (with_reducible refine inn_ok (by omega) (by omega) (by omega) (fun _ => ?_) (fun _ _ => by exfalso; omega)) | (with_reducible refine inn_ok (by omega) (by omega) (by omega) (fun _ => by exfalso; omega) (fun _ _ => ?_)) | (with_reducible refine inn_ok (by omega) (by omega) (by omega) (fun _ => ?_) (fun _ _ => ?_)) | (with_reducible refine isPlate_ok (by omega) (by omega) (by omega) (fun _ => ?_) (fun _ => by exfalso; omega)) | (with_reducible refine isPlate_ok (by omega) (by omega) (by omega) (fun _ => by exfalso; omega) (fun _ => ?_)) | (with_reducible refine isPlate_ok (by omega) (by omega) (by omega) (fun _ => ?_) (fun _ => ?_)) | (with_reducible refine hasPlace_ok (by omega) (by omega) (fun _ => ?_) (fun _ _ => by exfalso; omega)) | (with_reducible refine hasPlace_ok (by omega) (by omega) (fun _ => by exfalso; omega) (fun _ _ => ?_)) | (with_reducible refine hasPlace_ok (by omega) (by omega) (fun _ => ?_) (fun _ _ => ?_)) | (with_reducible refine isThere_ok (by omega) (fun _ => ?_) (fun _ => by exfalso; omega)) | (with_reducible refine isThere_ok (by omega) (fun _ => by exfalso; omega) (fun _ => ?_)) | (with_reducible refine isThere_ok (by omega) (fun _ => ?_) (fun _ => ?_)) | (with_reducible refine isDayHour_ok (by omega) (fun _ => ?_) (fun _ _ => by exfalso; omega)) | (with_reducible refine isDayHour_ok (by omega) (fun _ => by exfalso; omega) (fun _ _ => ?_)) | (with_reducible refine isDayHour_ok (by omega) (fun _ => ?_) (fun _ _ => ?_)) | (with_reducible refine isHour_ok (by omega) (fun _ => ?_) (fun _ _ => by exfalso; omega)) | (with_reducible refine isHour_ok (by omega) (fun _ => by exfalso; omega) (fun _ _ => ?_)) | (with_reducible refine isHour_ok (by omega) (fun _ => ?_) (fun _ _ => ?_)) | (with_reducible refine trainIn_ok (by omega) (fun _ => ?_) (fun _ => by exfalso; omega)) | (with_reducible refine trainIn_ok (by omega) (fun _ => by exfalso; omega) (fun _ => ?_)) | (with_reducible refine trainIn_ok (by omega) (fun _ => ?_) (fun _ => ?_)) | (with_reducible refine found_ok (by decide) (by decide) ?_) | (with_reducible refine meets_ok (by decide) (by decide) ?_) | (with_reducible refine ite_i (fun _ => ?_) (fun _ => ?_)) | (with_reducible refine all_eq ?_) | unfold wpX6_begin)
    all_goals (first | exact Lf.mk rfl (h.up hk) | exact Lf.mk rfl (h.f hk _) | exact Lf.mk (by omega) (h.up hk) | skip)
    refine Lf.mk rfl (h.of hk ?_)
    refine ⟨hR.K0, hR.S1, hR.S2, hR.S3, hR.S4, hR.S5, ?_, ?_, ?_, hR.T0, hR.T1, hR.T2, hR.T3, hR.E1, hR.E2, hR.E3, hR.E4, hR.E5, hR.E6, hR.E7, hR.E8, hR.E9, hR.E10, hR.E11, hR.I1, hR.I2, hR.I3, hR.I4, hR.I5, hR.I6, hR.I7, hR.I8, hR.I9, hR.I10, hR.I11, hR.I12, hR.I13, hR.I14, hR.W1, hR.W2, hR.W3, hR.W4, hR.W5, hR.W6, hR.W7, hR.W8, hR.W9, hR.J1, hR.J2, hR.J3, hR.J4, hR.J5, hR.J6, hR.J7, hR.H1, hR.H2, hR.H3, hR.H4, hR.L1, hR.L2, hR.A1, hR.A2, hR.F1, hR.F2, hR.F3, hR.Q1, hR.Q2, hR.Q3, hR.Q4, hR.Q5, hR.Q6, hR.Q7⟩
    · funext z
      have := congrFun R1 z
      show fillM c 8 (48 * x1) 48 0 8 0 z = fillM (ms r 7 0 x1 x2) 8 (48 * x1) 48 0 8 0 z
      unfold fillM
      split
      · rfl
      · exact this
    · intro z
      show -128 ≤ fillM (ms r 7 0 x1 x2) 8 (48 * x1) 48 0 8 0 z ∧ fillM (ms r 7 0 x1 x2) 8 (48 * x1) 48 0 8 0 z ≤ 127
      unfold fillM
      split
      · decide
      · exact R2 z
    · intro z a3 b3
      show (ms c 1 1 x1 x2 1 1 z = ms r 7 0 x1 x2 7 0 z ∧ 0 ≤ ms r 7 0 x1 x2 7 0 z ∧ ms r 7 0 x1 x2 7 0 z ≤ 48) ∨ (ms c 1 1 x1 x2 1 1 z = -1 ∧ ms r 7 0 x1 x2 7 0 z = -9)
      have q := R3 z a3 b3
      by_cases e : z = x1
      · subst e
        simp [ms] <;> omega
      · simp [ms, e] <;> omega
theorem ms_self {μ : MM} {k e : Nat} {j v : Int} (h : μ k e j = v) : ms μ k e j v = μ := by
  funext f g x
  unfold ms
  split
  · next q => obtain ⟨rfl, rfl, rfl⟩ := q; exact h.symm
  · rfl
theorem ms_comm (μ : MM) {k k' : Nat} (h : k ≠ k') (e e' : Nat) (j j' v v' : Int) : ms (ms μ k e j v) k' e' j' v' = ms (ms μ k' e' j' v') k e j v := by
  funext f g x
  unfold ms
  by_cases h1 : f = k ∧ g = e ∧ x = j
  · have h2 : ¬ (f = k' ∧ g = e' ∧ x = j') := fun q => h (h1.1.symm.trans q.1)
    simp only [if_neg h2, if_pos h1]
  · simp only [if_neg h1]
def freR (r : MM) (p : Int) : MM := if r 35 0 p < 0 then ms (ms r 35 0 p (-9)) 36 0 p 0 else ms (ms (ms r 22 0 (r 35 0 p) (-9)) 35 0 p (-9)) 36 0 p 0
def relC (c : MM) (kk : Nat) (t m : Int) : MM := if m < 0 then c else ms (ms c 2 9 m (-9)) 3 kk t (-1)
theorem freR_ms (r : MM) (p : Int) {k : Nat} (h1 : k ≠ 22) (h2 : k ≠ 35) (h3 : k ≠ 36) (e : Nat) (j v : Int) : freR (ms r k e j v) p = ms (freR r p) k e j v := by
  have e0 : ms r k e j v 35 0 p = r 35 0 p := if_neg (fun q => h2 q.1.symm)
  unfold freR
  rw [e0]
  split
  · rw [ms_comm r h2, ms_comm _ h3]
  · rw [ms_comm r h1, ms_comm _ h2, ms_comm _ h3]
theorem free_ok {p : Int} {r : MM} {Q : Int → MM → Prop} (h0 : 0 ≤ p) (h1 : p < 8) (h2 : -9 ≤ r 35 0 p) (h3 : r 35 0 p < 16) (h : Q 0 (freR r p)) : wpX11_free p r Q := by
  unfold wpX11_free wpX11_free_J22
  refine ⟨h0, h1, by omega, ite_i (fun q => ⟨h0, h1, all_eq (all_eq ?_)⟩) (fun q => ⟨by omega, h3, all_eq ⟨h0, h1, all_eq (all_eq ?_)⟩⟩)⟩
  · unfold freR at h
    rwa [if_pos q] at h
  · unfold freR at h
    rwa [if_neg q] at h
theorem release_ok {bd bs bw : Int} {G : GG} {t q : Int} {c r : MM} {Q : Int → MM → Prop} (hR : Rel bd bs bw G c r) (h0 : 0 ≤ t) (h4 : t < 4) (hq : q = 0 ∨ q = 1) (hQ0 : q = 0 → Q (r 35 0 (2 * t)) (relC c 6 t (r 35 0 (2 * t)))) (hQ1 : q = 1 → Q (r 35 0 (2 * t + 1)) (relC c 7 t (r 35 0 (2 * t + 1)))) : wpX8_release G t q c Q := by
  have H1 := hR.H1
  have H2 := hR.H2
  have T0 := hR.T0
  have k1 := H1 t h0 h4
  have k2 := H2 (2 * t) (by omega) (by omega)
  have k3 := H2 (2 * t + 1) (by omega) (by omega)
  unfold wpX8_release wpX8_take
  refine trainIn_ok hq (fun e => ?_) (fun e => ?_)
  · have Hq := hQ0 e
    unfold relC at Hq
    refine ite_i (fun e2 => ?_) (fun e2 => ?_)
    · rw [if_pos (by omega)] at Hq
      have e3 : r 35 0 (2 * t) = -9 := by omega
      rwa [e3] at Hq
    · rw [if_neg (by omega)] at Hq
      have e3 : c 3 6 t = r 35 0 (2 * t) := by omega
      rw [e3]
      exact ⟨by omega, all_eq ⟨by omega, ite_p e (all_eq Hq)⟩⟩
  · have Hq := hQ1 e
    unfold relC at Hq
    refine ite_i (fun e2 => ?_) (fun e2 => ?_)
    · rw [if_pos (by omega)] at Hq
      have e3 : r 35 0 (2 * t + 1) = -9 := by omega
      rwa [e3] at Hq
    · rw [if_neg (by omega)] at Hq
      have e3 : c 3 7 t = r 35 0 (2 * t + 1) := by omega
      rw [e3]
      exact ⟨by omega, all_eq ⟨by omega, ite_n (by omega) (all_eq Hq)⟩⟩
theorem Rel.free {bd bs bw : Int} {G : GG} {t p : Int} {kk : Nat} {c r : MM} (hR : Rel bd bs bw G c r) (h0 : 0 ≤ t) (h4 : t < 4) (hp : (kk = 6 ∧ p = 2 * t) ∨ (kk = 7 ∧ p = 2 * t + 1)) : Rel bd bs bw G (relC c kk t (r 35 0 p)) (freR r p) := by
  have H1 := hR.H1
  have H2 := hR.H2
  have H3 := hR.H3
  have H4 := hR.H4
  have p0 : 0 ≤ p := by omega
  have p8 : p < 8 := by omega
  have k2 := H2 p p0 p8
  have k4 := H4 p p0 p8
  by_cases hm : r 35 0 p < 0
  · have e1 : freR r p = r := by
      unfold freR
      rw [if_pos hm, ms_self (show r 35 0 p = -9 by omega), ms_self (k4.2.2 hm)]
    have e2 : relC c kk t (r 35 0 p) = c := if_pos hm
    rw [e1, e2]
    exact hR
  · have e1 : freR r p = ms (ms (ms r 22 0 (r 35 0 p) (-9)) 35 0 p (-9)) 36 0 p 0 := if_neg hm
    have e2 : relC c kk t (r 35 0 p) = ms (ms c 2 9 (r 35 0 p) (-9)) 3 kk t (-1) := if_neg hm
    rw [e1, e2]
    generalize hM : r 35 0 p = m at *
    have km : m < r 0 10 0 ∧ r 22 0 m = p := by omega
    have hH2 : ∀ q, 0 ≤ q → q < 8 → (0 ≤ ms (ms (ms r 22 0 m (-9)) 35 0 p (-9)) 36 0 p 0 35 0 q ∧ ms (ms (ms r 22 0 m (-9)) 35 0 p (-9)) 36 0 p 0 35 0 q < r 0 10 0 ∧ ms (ms (ms r 22 0 m (-9)) 35 0 p (-9)) 36 0 p 0 22 0 (ms (ms (ms r 22 0 m (-9)) 35 0 p (-9)) 36 0 p 0 35 0 q) = q) ∨ ms (ms (ms r 22 0 m (-9)) 35 0 p (-9)) 36 0 p 0 35 0 q = -9 := by
      intro q a b
      have k := H2 q a b
      by_cases e : q = p
      · subst e
        exact Or.inr (by simp [ms])
      · have e3 : ms (ms (ms r 22 0 m (-9)) 35 0 p (-9)) 36 0 p 0 35 0 q = r 35 0 q := by simp [ms, e]
        rw [e3]
        rcases k with ⟨k1, k2', k3⟩ | k
        · refine Or.inl ⟨k1, k2', ?_⟩
          have e4 : r 35 0 q ≠ m := fun e5 => e (by rw [← k3, e5]; exact km.2)
          simp [ms, e4]
          exact k3
        · exact Or.inr k
    have hH3 : ∀ n, 0 ≤ n → n < r 0 10 0 → (ms (ms (ms r 22 0 m (-9)) 35 0 p (-9)) 36 0 p 0 22 0 n = -9 ∧ ms (ms c 2 9 m (-9)) 3 kk t (-1) 2 9 n = -9) ∨ (0 ≤ ms (ms (ms r 22 0 m (-9)) 35 0 p (-9)) 36 0 p 0 22 0 n ∧ ms (ms (ms r 22 0 m (-9)) 35 0 p (-9)) 36 0 p 0 22 0 n < 8 ∧ ms (ms (ms r 22 0 m (-9)) 35 0 p (-9)) 36 0 p 0 35 0 (ms (ms (ms r 22 0 m (-9)) 35 0 p (-9)) 36 0 p 0 22 0 n) = n ∧ ms (ms c 2 9 m (-9)) 3 kk t (-1) 2 9 n = ms (ms (ms r 22 0 m (-9)) 35 0 p (-9)) 36 0 p 0 22 0 n / 2) := by
      intro n a b
      have k := H3 n a b
      by_cases e : n = m
      · subst e
        exact Or.inl ⟨by simp [ms], by simp [ms]⟩
      · have e3 : ms (ms (ms r 22 0 m (-9)) 35 0 p (-9)) 36 0 p 0 22 0 n = r 22 0 n := by simp [ms, e]
        have e4 : ms (ms c 2 9 m (-9)) 3 kk t (-1) 2 9 n = c 2 9 n := by simp [ms, e]
        rw [e3, e4]
        rcases k with k | ⟨k1, k2', k3, k4'⟩
        · exact Or.inl k
        · refine Or.inr ⟨k1, k2', ?_, k4'⟩
          have e5 : r 22 0 n ≠ p := fun e6 => e (by rw [← k3, e6]; exact hM)
          simp [ms, e5]
          exact k3
    have hH4 : ∀ q, 0 ≤ q → q < 8 → (ms (ms (ms r 22 0 m (-9)) 35 0 p (-9)) 36 0 p 0 36 0 q = 0 ∨ ms (ms (ms r 22 0 m (-9)) 35 0 p (-9)) 36 0 p 0 36 0 q = 1) ∧ (0 ≤ ms (ms (ms r 22 0 m (-9)) 35 0 p (-9)) 36 0 p 0 35 0 q → ms (ms c 2 9 m (-9)) 3 kk t (-1) 2 10 (ms (ms (ms r 22 0 m (-9)) 35 0 p (-9)) 36 0 p 0 35 0 q) = ms (ms (ms r 22 0 m (-9)) 35 0 p (-9)) 36 0 p 0 36 0 q) ∧ (ms (ms (ms r 22 0 m (-9)) 35 0 p (-9)) 36 0 p 0 35 0 q < 0 → ms (ms (ms r 22 0 m (-9)) 35 0 p (-9)) 36 0 p 0 36 0 q = 0) := by
      intro q a b
      have k := H4 q a b
      by_cases e : q = p
      · subst e
        simp [ms]
      · have e3 : ms (ms (ms r 22 0 m (-9)) 35 0 p (-9)) 36 0 p 0 35 0 q = r 35 0 q := by simp [ms, e]
        have e4 : ms (ms (ms r 22 0 m (-9)) 35 0 p (-9)) 36 0 p 0 36 0 q = r 36 0 q := by simp [ms, e]
        rw [e3, e4]
        exact k
    rcases hp with ⟨rfl, rfl⟩ | ⟨rfl, rfl⟩
    · refine ⟨hR.K0, hR.S1, hR.S2, hR.S3, hR.S4, hR.S5, hR.R1, hR.R2, hR.R3, hR.T0, hR.T1, hR.T2, hR.T3, hR.E1, hR.E2, hR.E3, hR.E4, hR.E5, hR.E6, hR.E7, hR.E8, hR.E9, hR.E10, hR.E11, hR.I1, hR.I2, hR.I3, hR.I4, hR.I5, hR.I6, hR.I7, hR.I8, hR.I9, hR.I10, hR.I11, hR.I12, hR.I13, hR.I14, hR.W1, hR.W2, hR.W3, hR.W4, hR.W5, hR.W6, hR.W7, hR.W8, hR.W9, hR.J1, hR.J2, hR.J3, hR.J4, hR.J5, hR.J6, hR.J7, ?_, hH2, hH3, hH4, hR.L1, hR.L2, hR.A1, hR.A2, hR.F1, hR.F2, hR.F3, hR.Q1, hR.Q2, hR.Q3, hR.Q4, hR.Q5, hR.Q6, hR.Q7⟩
      intro t' a b
      have q := H1 t' a b
      have e1 : ¬ (2 * t' + 1 = 2 * t) := by omega
      by_cases e : t' = t
      · subst e
        simp [ms, e1] <;> omega
      · have e2 : ¬ (2 * t' = 2 * t) := by omega
        simp [ms, e1, e] <;> omega
    · refine ⟨hR.K0, hR.S1, hR.S2, hR.S3, hR.S4, hR.S5, hR.R1, hR.R2, hR.R3, hR.T0, hR.T1, hR.T2, hR.T3, hR.E1, hR.E2, hR.E3, hR.E4, hR.E5, hR.E6, hR.E7, hR.E8, hR.E9, hR.E10, hR.E11, hR.I1, hR.I2, hR.I3, hR.I4, hR.I5, hR.I6, hR.I7, hR.I8, hR.I9, hR.I10, hR.I11, hR.I12, hR.I13, hR.I14, hR.W1, hR.W2, hR.W3, hR.W4, hR.W5, hR.W6, hR.W7, hR.W8, hR.W9, hR.J1, hR.J2, hR.J3, hR.J4, hR.J5, hR.J6, hR.J7, ?_, hH2, hH3, hH4, hR.L1, hR.L2, hR.A1, hR.A2, hR.F1, hR.F2, hR.F3, hR.Q1, hR.Q2, hR.Q3, hR.Q4, hR.Q5, hR.Q6, hR.Q7⟩
      intro t' a b
      have q := H1 t' a b
      have e1 : ¬ (2 * t' = 2 * t + 1) := by omega
      by_cases e : t' = t
      · subst e
        simp [ms, e1] <;> omega
      · have e2 : ¬ (2 * t' + 1 = 2 * t + 1) := by omega
        simp [ms, e1, e] <;> omega
