def isF (s a b : Int) : Prop := s = 0 ∨ (s = 1 ∧ 1 ≤ a ∧ a < 12 ∧ 0 ≤ b ∧ b < 48) ∨ (s = 2 ∧ 1 ≤ a ∧ a ≤ 12 ∧ 0 ≤ b ∧ b ≤ 24) ∨ (s = 3 ∧ 1 ≤ a ∧ a < 12) ∨ (s = 4 ∧ 0 ≤ a ∧ a ≤ b ∧ b < 48)
theorem isFC_ok {G : GG} {s a b : Int} {c : MM} {Q : Int → MM → Prop} (hs : rg s) (ha : rg a) (hb : rg b) (h1 : isF s a b → Q 1 c) (h0 : ¬ isF s a b → Q 0 c) : wpX1_isFault G s a b c Q := by
  unfold isF at h1 h0
  unfold wpX1_isFault
  refine ⟨hs, ite_i (fun e => h1 (by omega)) (fun e => ite_i (fun e1 => ⟨ha, ite_i (fun z => h0 (by omega)) (fun z => ite_i (fun z2 => h0 (by omega)) (fun z2 => ⟨hb, ite_i (fun z3 => h0 (by omega)) (fun z3 => ite_i (fun z4 => h0 (by omega)) (fun z4 => h1 (by omega)))⟩))⟩) (fun e1 => ite_i (fun e2 => isHour_ok ha (fun z => ite_p rfl (h0 (by omega))) (fun z z' => ite_n (by decide) ⟨hb, ite_i (fun z3 => h0 (by omega)) (fun z3 => ite_i (fun z4 => h0 (by omega)) (fun z4 => h1 (by omega)))⟩)) (fun e2 => ite_i (fun e3 => ⟨ha, ite_i (fun z => h0 (by omega)) (fun z => ite_i (fun z2 => h0 (by omega)) (fun z2 => h1 (by omega)))⟩) (fun e3 => ite_i (fun e4 => ⟨ha, ite_i (fun z => h0 (by omega)) (fun z => ⟨hb, ite_i (fun z2 => h0 (by omega)) (fun z2 => ite_i (fun z3 => h0 (by omega)) (fun z3 => h1 (by omega)))⟩)⟩) (fun e4 => h0 (by omega))))))⟩
theorem isFR_ok {s a b : Int} {r : MM} {Q : Int → MM → Prop} (hs : rg s) (ha : rg a) (hb : rg b) (h1 : isF s a b → Q 1 r) (h0 : ¬ isF s a b → Q 0 r) : wpX11_isFault s a b r Q := by
  unfold isF at h1 h0
  unfold wpX11_isFault
  refine ⟨hs, ite_i (fun e => h1 (by omega)) (fun e => ite_i (fun e1 => inn_ok ha (by omega) (by omega) (fun z => ite_p rfl (h0 (by omega))) (fun z z' => ite_n (by decide) (inn_ok hb (by omega) (by omega) (fun z2 => ite_p rfl (h0 (by omega))) (fun z2 z3 => ite_n (by decide) (h1 (by omega)))))) (fun e1 => ite_i (fun e2 => inn_ok ha (by omega) (by omega) (fun z => ite_p rfl (h0 (by omega))) (fun z z' => ite_n (by decide) (inn_ok hb (by omega) (by omega) (fun z2 => ite_p rfl (h0 (by omega))) (fun z2 z3 => ite_n (by decide) (h1 (by omega)))))) (fun e2 => ite_i (fun e3 => inn_ok ha (by omega) (by omega) (fun z => h0 (by omega)) (fun z z' => h1 (by omega))) (fun e3 => ite_i (fun e4 => inn_ok ha (by omega) (by omega) (fun z => ite_p rfl (h0 (by omega))) (fun z z' => ite_n (by decide) (inn_ok hb (by omega) (by omega) (fun z2 => ite_p rfl (h0 (by omega))) (fun z2 z3 => ite_n (by decide) (h1 (by omega)))))) (fun e4 => h0 (by omega))))))⟩
def hrV (hr i : Int) : Int := (hr - 1 + i) % 12 + 1
def dueV (hr i s a b : Int) : Int := if s = 1 then (if b ≤ i then (hrV hr i - 1 + a) % 12 + 1 else hrV hr i) else if s = 2 then (if hrV hr i = a then b else hrV hr i) else if s = 3 then (if hrV hr i ≤ a then 0 else hrV hr i - a) else if s = 4 then (if a ≤ i ∧ i ≤ b then 0 else hrV hr i) else hrV hr i
theorem hrV_rng (hr i : Int) : 1 ≤ hrV hr i ∧ hrV hr i ≤ 12 := by
  unfold hrV
  omega
theorem dueV_rng {hr i s a b : Int} (h : isF s a b) : 0 ≤ dueV hr i s a b ∧ dueV hr i s a b ≤ 24 := by
  have k := hrV_rng hr i
  unfold isF at h
  unfold dueV
  split
  · split <;> omega
  · split
    · split <;> omega
    · split
      · split <;> omega
      · split
        · split <;> omega
        · omega
theorem dueC_ok {G : GG} {hr i s a b : Int} {c : MM} {Q : Int → MM → Prop} (h1 : 1 ≤ hr) (h2 : hr ≤ 12) (i0 : 0 ≤ i) (i1 : i < 48) (hs : rg s) (ha : rg a) (hb : rg b) (hf : isF s a b) (h : Q (dueV hr i s a b) c) : wpX1_dueAt G hr i s a b c Q := by
  have k := hrV_rng hr i
  have e : Int.tmod (hr - 1 + i) 12 + 1 = hrV hr i := by
    unfold hrV
    rw [Int.tmod_eq_emod_of_nonneg (by omega)]
  unfold wpX1_dueAt
  rw [e]
  unfold dueV at h
  unfold isF at hf
  refine ⟨by omega, all_eq ⟨hs, ite_i (fun e1 => ?_) (fun e1 => ite_i (fun e2 => ?_) (fun e2 => ite_i (fun e3 => ?_) (fun e3 => ite_i (fun e4 => ?_) (fun e4 => ?_))))⟩⟩
  · rw [if_pos e1] at h
    refine ⟨by omega, hb, ite_i (fun z => ⟨by omega, ?_⟩) (fun z => ?_)⟩
    · rw [if_pos z] at h
      rw [Int.tmod_eq_emod_of_nonneg (by omega)]
      exact h
    · rw [if_neg z] at h
      exact h
  · rw [if_neg e1, if_pos e2] at h
    refine ⟨by omega, ha, ite_i (fun z => ?_) (fun z => ?_)⟩
    · rw [if_pos z] at h
      exact h
    · rw [if_neg z] at h
      exact h
  · rw [if_neg e1, if_neg e2, if_pos e3] at h
    refine max_ok (by omega) (by omega) ?_
    by_cases z : hrV hr i ≤ a
    · rw [if_pos z] at h
      have e5 : (if hrV hr i - a < 0 then 0 else hrV hr i - a) = 0 := by split <;> omega
      rw [e5]
      exact h
    · rw [if_neg z] at h
      rw [if_neg (by omega)]
      exact h
  · rw [if_neg e1, if_neg e2, if_neg e3, if_pos e4] at h
    refine ⟨by omega, ha, ite_i (fun z => ?_) (fun z => ⟨hb, ite_i (fun z2 => ?_) (fun z2 => ?_)⟩)⟩
    · rw [if_neg (by omega)] at h
      exact h
    · rw [if_neg (by omega)] at h
      exact h
    · rw [if_pos (by omega)] at h
      exact h
  · rw [if_neg e1, if_neg e2, if_neg e3, if_neg e4] at h
    exact h
theorem dueR_ok {hr i s a b : Int} {r : MM} {Q : Int → MM → Prop} (h1 : 1 ≤ hr) (h2 : hr ≤ 12) (i0 : 0 ≤ i) (i1 : i < 48) (hs : rg s) (ha : rg a) (hb : rg b) (hf : isF s a b) (h : Q (dueV hr i s a b) r) : wpX11_dueAt hr i s a b r Q := by
  have k := hrV_rng hr i
  have e : Int.tmod (hr - 1 + i) 12 + 1 = hrV hr i := by
    unfold hrV
    rw [Int.tmod_eq_emod_of_nonneg (by omega)]
  unfold wpX11_dueAt
  rw [e]
  unfold dueV at h
  unfold isF at hf
  refine ⟨by omega, all_eq ⟨hs, ite_i (fun e1 => ?_) (fun e1 => ite_i (fun e2 => ?_) (fun e2 => ite_i (fun e3 => ?_) (fun e3 => ite_i (fun e4 => ?_) (fun e4 => ?_))))⟩⟩
  · rw [if_pos e1] at h
    refine ⟨by omega, hb, ite_i (fun z => ⟨by omega, ?_⟩) (fun z => ?_)⟩
    · rw [if_pos z] at h
      rw [Int.tmod_eq_emod_of_nonneg (by omega)]
      exact h
    · rw [if_neg z] at h
      exact h
  · rw [if_neg e1, if_pos e2] at h
    refine ⟨by omega, ha, ite_i (fun z => ?_) (fun z => ?_)⟩
    · rw [if_pos z] at h
      exact h
    · rw [if_neg z] at h
      exact h
  · rw [if_neg e1, if_neg e2, if_pos e3] at h
    refine ⟨by omega, ha, ite_i (fun z => ?_) (fun z => ?_)⟩
    · rw [if_pos z] at h
      exact h
    · rw [if_neg z] at h
      exact h
  · rw [if_neg e1, if_neg e2, if_neg e3, if_pos e4] at h
    refine inn_ok (by omega) ha hb (fun z => ite_p rfl ?_) (fun z z2 => ite_n (by decide) ?_)
    · rw [if_neg (by omega)] at h
      exact h
    · rw [if_pos (by omega)] at h
      exact h
  · rw [if_neg e1, if_neg e2, if_neg e3, if_neg e4] at h
    exact h
theorem rel_due {k : Int} {G : GG} {c r : MM} (h : RelK k G c r) (hk : k < 512) (x1 : Int) (h1 : rg x1) (x2 : Int) (h2 : rg x2) (x3 : Int) (h3 : rg x3) (x4 : Int) (h4 : rg x4) (x5 : Int) (h5 : rg x5) : wpX10_due G x1 x2 x3 x4 x5 c (fun v c' => wpX11_due x1 x2 x3 x4 x5 r (fun v' r' => Lf v v' (RelK (k + 1) G c' r'))) := by
  have hR := h.2
  unfold wpX10_due wpX11_due
  refine isHour_ok h1 (fun z => ite_p rfl ?_) (fun z z2 => ite_n (by decide) ⟨h2, ite_i (fun y => ?_) (fun y => ite_i (fun y2 => ?_) (fun y2 => isFC_ok h3 h4 h5 (fun f => ite_n (by decide) ?_) (fun f => ite_p rfl ?_)))⟩)
  · exact inn_ok h1 (by omega) (by omega) (fun _ => ite_p rfl (Lf.mk rfl (h.up hk))) (fun _ _ => by exfalso; omega)
  · exact inn_ok h1 (by omega) (by omega) (fun _ => by exfalso; omega) (fun _ _ => ite_n (by decide) (inn_ok h2 (by omega) (by omega) (fun _ => ite_p rfl (Lf.mk rfl (h.up hk))) (fun _ _ => by exfalso; omega)))
  · exact inn_ok h1 (by omega) (by omega) (fun _ => by exfalso; omega) (fun _ _ => ite_n (by decide) (inn_ok h2 (by omega) (by omega) (fun _ => ite_p rfl (Lf.mk rfl (h.up hk))) (fun _ _ => by exfalso; omega)))
  · exact dueC_ok z z2 (by omega) (by omega) h3 h4 h5 f (inn_ok h1 (by omega) (by omega) (fun _ => by exfalso; omega) (fun _ _ => ite_n (by decide) (inn_ok h2 (by omega) (by omega) (fun _ => by exfalso; omega) (fun _ _ => ite_n (by decide) (isFR_ok h3 h4 h5 (fun _ => ite_n (by decide) (dueR_ok z z2 (by omega) (by omega) h3 h4 h5 f (Lf.mk rfl (h.up hk)))) (fun g => absurd f g))))))
  · exact inn_ok h1 (by omega) (by omega) (fun _ => by exfalso; omega) (fun _ _ => ite_n (by decide) (inn_ok h2 (by omega) (by omega) (fun _ => by exfalso; omega) (fun _ _ => ite_n (by decide) (isFR_ok h3 h4 h5 (fun g => absurd g f) (fun _ => ite_p rfl (Lf.mk rfl (h.up hk)))))))
def hv (r : MM) (x j : Int) : Int := if j < r 7 0 x then r 8 0 (48 * x + j) else -1
theorem Rel.six {bd bs bw : Int} {G : GG} {c r : MM} (hR : Rel bd bs bw G c r) (e : Nat) (v : Int) : Rel bd bs bw G (ms c 6 e 0 v) r := by
  refine ⟨hR.K0, hR.S1, hR.S2, hR.S3, hR.S4, hR.S5, hR.R1, hR.R2, hR.R3, hR.T0, hR.T1, hR.T2, hR.T3, hR.E1, hR.E2, hR.E3, hR.E4, hR.E5, hR.E6, hR.E7, hR.E8, hR.E9, hR.E10, hR.E11, hR.I1, hR.I2, hR.I3, hR.I4, hR.I5, hR.I6, hR.I7, hR.I8, hR.I9, hR.I10, hR.I11, hR.I12, hR.I13, hR.I14, hR.W1, hR.W2, hR.W3, hR.W4, hR.W5, hR.W6, hR.W7, hR.W8, hR.W9, hR.J1, hR.J2, hR.J3, hR.J4, hR.J5, hR.J6, hR.J7, hR.H1, hR.H2, hR.H3, hR.H4, hR.L1, hR.L2, hR.A1, hR.A2, hR.F1, hR.F2, hR.F3, hR.Q1, hR.Q2, hR.Q3, hR.Q4, hR.Q5, hR.Q6, hR.Q7⟩
theorem Rel.six16 {bd bs bw : Int} {G : GG} {c r : MM} (hR : Rel bd bs bw G c r) (j v : Int) : Rel bd bs bw G (ms c 16 0 j v) r := by
  refine ⟨hR.K0, hR.S1, hR.S2, hR.S3, hR.S4, hR.S5, hR.R1, hR.R2, hR.R3, hR.T0, hR.T1, hR.T2, hR.T3, hR.E1, hR.E2, hR.E3, hR.E4, hR.E5, hR.E6, hR.E7, hR.E8, hR.E9, hR.E10, hR.E11, hR.I1, hR.I2, hR.I3, hR.I4, hR.I5, hR.I6, hR.I7, hR.I8, hR.I9, hR.I10, hR.I11, hR.I12, hR.I13, hR.I14, hR.W1, hR.W2, hR.W3, hR.W4, hR.W5, hR.W6, hR.W7, hR.W8, hR.W9, hR.J1, hR.J2, hR.J3, hR.J4, hR.J5, hR.J6, hR.J7, hR.H1, hR.H2, hR.H3, hR.H4, hR.L1, hR.L2, hR.A1, hR.A2, hR.F1, hR.F2, hR.F3, hR.Q1, hR.Q2, hR.Q3, hR.Q4, hR.Q5, hR.Q6, hR.Q7⟩
theorem listen_ok {bd bs bw : Int} {G : GG} {c r : MM} (hR : Rel bd bs bw G c r) {x hr : Int} (x0 : 0 ≤ x) (x8 : x < 8) (hz : 0 ≤ r 7 0 x) : ∃ c', Rel bd bs bw G c' r ∧ c' 6 1 0 = hr ∧ (∀ j, 0 ≤ j → j < 48 → c' 16 0 j = hv r x j) ∧ (∀ Q : Int → MM → Prop, Q 0 c' → wpX1_listen G x hr c Q) := by
  have aux : ∀ (m y : Nat) (c : MM), (y : Int) + m = 48 → Rel bd bs bw G c r → c 6 1 0 = hr → (∀ j : Int, 0 ≤ j → j < y → c 16 0 j = hv r x j) → ∃ c', Rel bd bs bw G c' r ∧ c' 6 1 0 = hr ∧ (∀ j, 0 ≤ j → j < 48 → c' 16 0 j = hv r x j) ∧ (∀ Q : Int → MM → Prop, Q 0 c' → wpX1_listen_L7 G Q (m + 1) x y c) := by
    intro m
    induction m with
    | zero =>
      intro y c hy hR h6 hj
      exact ⟨c, hR, h6, fun j a b => hj j a (by omega), fun Q h => ⟨by omega, ite_p (by omega) h⟩⟩
    | succ m ih =>
      intro y c hy hR h6 hj
      have r3 := hR.R3 x x0 x8
      have r1 := congrFun hR.R1 (48 * x + y)
      obtain ⟨c', a1, a2, a3, a4⟩ := ih (y + 1) (ms c 16 0 y (hv r x y)) (by omega) (hR.six16 _ _) h6 (fun j a b => by
        by_cases e : j = y
        · rw [e]
          exact ms_at _ _ _ _ _
        · rw [ms_nj _ _ _ e]
          exact hj j a (by omega))
      refine ⟨c', a1, a2, a3, fun Q h => ⟨by omega, ite_n (by omega) (ite_n (by omega) ⟨x8, by omega, ite_i (fun z => ?_) (fun z => ?_)⟩)⟩⟩
      · have k := a4 Q h
        unfold hv at k
        rw [if_neg (by omega)] at k
        exact ⟨by omega, by omega, all_eq k⟩
      · have k := a4 Q h
        unfold hv at k
        rw [if_pos (by omega), ← r1] at k
        exact at_ok (by omega) (by omega) (by omega) (by omega) ⟨by omega, by omega, all_eq k⟩
  obtain ⟨c', a1, a2, a3, a4⟩ := aux 48 0 (ms c 6 1 0 hr) (by decide) (hR.six 1 hr) (ms_at _ _ _ _ _) (fun j a b => by exfalso; omega)
  exact ⟨c', a1, a2, a3, fun Q h => all_eq ⟨49, a4 Q h⟩⟩
def mfV (r : MM) (x hr s a b j : Int) : Int := if hv r x j < 0 then 0 else if hv r x j = dueV hr j s a b then 0 else 1
def MF (r : MM) (x hr s a b : Int) : Int := sumF (fun j => mfV r x hr s a b j) 0 48
theorem hv_rng {bd bs bw : Int} {G : GG} {c r : MM} (hR : Rel bd bs bw G c r) (x j : Int) : -128 ≤ hv r x j ∧ hv r x j ≤ 127 := by
  have k := hR.R2 (48 * x + j)
  unfold hv
  split <;> omega
theorem misfit_ok {bd bs bw : Int} {G : GG} {c r : MM} {Q : Int → MM → Prop} (hR : Rel bd bs bw G c r) {x j d : Int} (j0 : 0 ≤ j) (j1 : j < 48) (hd : rg d) (h16 : c 16 0 j = hv r x j) (h : Q (if hv r x j < 0 then 0 else if hv r x j = d then 0 else 1) c) : wpX1_misfit G j d c Q := by
  have k := hv_rng hR x j
  unfold wpX1_misfit
  rw [h16]
  refine ⟨by omega, ite_n (by omega) (ite_p j1 ⟨j0, j1, by omega, ite_i (fun z => ?_) (fun z => ⟨hd, ite_i (fun z2 => ?_) (fun z2 => ?_)⟩)⟩)⟩
  · rw [if_pos z] at h
    exact h
  · rw [if_neg z, if_pos z2] at h
    exact h
  · rw [if_neg z, if_neg z2] at h
    exact h
theorem misfitsC_ok {bd bs bw : Int} {G : GG} {c r : MM} {Q : Int → MM → Prop} (hR : Rel bd bs bw G c r) {x hr s a b : Int} (hr1 : 1 ≤ hr) (hr2 : hr ≤ 12) (h6 : c 6 1 0 = hr) (h16 : ∀ j, 0 ≤ j → j < 48 → c 16 0 j = hv r x j) (hs : rg s) (ha : rg a) (hb : rg b) (hf : isF s a b) (h : Q (MF r x hr s a b) c) : wpX1_misfitsOf G s a b c Q := by
  have aux : ∀ (m y : Nat), y + m = 48 → wpX1_misfitsOf_L6 G Q (m + 1) s a b (sumF (fun j => mfV r x hr s a b j) 0 y) y c := by
    intro m
    induction m with
    | zero =>
      intro y hy
      have e : y = 48 := by omega
      subst e
      exact ⟨by omega, ite_p (by omega) h⟩
    | succ m ih =>
      intro y hy
      have k := ih (y + 1) (by omega)
      rw [sumF_succ, Int.zero_add] at k
      have d := dueV_rng (hr := hr) (i := y) hf
      refine ⟨by omega, ite_n (by omega) ?_⟩
      rw [h6]
      exact dueC_ok hr1 hr2 (by omega) (by omega) hs ha hb hf (misfit_ok hR (by omega) (by omega) (by omega) (h16 y (by omega) (by omega)) k)
  exact ⟨49, aux 48 0 rfl⟩
theorem sumF_zero {f : Int → Int} {b : Int} : ∀ n : Nat, (∀ i : Int, 0 ≤ i → i < n → f (b + i) = 0) → sumF f b n = 0 := by
  intro n
  induction n with
  | zero => intro _; rfl
  | succ n ih =>
    intro h
    rw [sumF_succ, ih (fun i a b => h i a (by omega)), h n (by omega) (by omega)]
    rfl
theorem MF_size {bd bs bw : Int} {G : GG} {c r : MM} (hR : Rel bd bs bw G c r) {x hr s a b : Int} (x0 : 0 ≤ x) (x8 : x < 8) (hz : 0 ≤ r 7 0 x) : sumF (fun j => mfV r x hr s a b j) 0 (r 7 0 x).toNat = MF r x hr s a b := by
  have r3 := hR.R3 x x0 x8
  unfold MF
  have e : 48 = (r 7 0 x).toNat + (48 - r 7 0 x).toNat := by omega
  rw [e, sumF_split, sumF_zero (b := 0 + ((r 7 0 x).toNat : Int)) (48 - r 7 0 x).toNat (fun i a b => by
    show mfV r x hr s _ _ (0 + ((r 7 0 x).toNat : Int) + i) = 0
    unfold mfV hv
    rw [if_neg (show ¬ (0 + ((r 7 0 x).toNat : Int) + i < r 7 0 x) by omega)]
    rfl)]
  omega
theorem misfitsR_ok {bd bs bw : Int} {G : GG} {c r r' : MM} {Q : Int → MM → Prop} (hR : Rel bd bs bw G c r) {x hr s a b : Int} (x0 : 0 ≤ x) (x8 : x < 8) (hz : 0 ≤ r 7 0 x) (e7 : r' 7 0 = r 7 0) (e8 : r' 8 0 = r 8 0) (hr1 : 1 ≤ hr) (hr2 : hr ≤ 12) (hs : rg s) (ha : rg a) (hb : rg b) (hf : isF s a b) (h : Q (MF r x hr s a b) r') : wpX11_misfitsOf x hr s a b r' Q := by
  have r3 := hR.R3 x x0 x8
  rw [← MF_size hR x0 x8 hz] at h
  have aux : ∀ (m y : Nat), (y : Int) + m = r 7 0 x → wpX11_misfitsOf_L6 Q (m + 1) x hr s a b (sumF (fun j => mfV r x hr s a b j) 0 y) y r' := by
    intro m
    induction m with
    | zero =>
      intro y hy
      have e : y = (r 7 0 x).toNat := by omega
      subst e
      rw [wpX11_misfitsOf_L6, e7]
      exact ⟨x0, x8, by omega, by omega, ite_p (by omega) h⟩
    | succ m ih =>
      intro y hy
      have k := ih (y + 1) (by omega)
      rw [sumF_succ, Int.zero_add] at k
      unfold mfV hv at k
      rw [if_pos (show (y : Int) < r 7 0 x by omega)] at k
      have d := dueV_rng (hr := hr) (i := y) hf
      have b2 := hR.R2 (48 * x + y)
      rw [wpX11_misfitsOf_L6, e7, e8]
      refine ⟨x0, x8, by omega, by omega, ite_n (by omega) ⟨by omega, by omega, all_eq ⟨by omega, ite_i (fun z => ?_) (fun z => dueR_ok hr1 hr2 (by omega) (by omega) hs ha hb hf ⟨by omega, ite_i (fun z2 => ?_) (fun z2 => ?_)⟩)⟩⟩⟩
      · rw [if_pos z] at k
        exact k
      · rw [if_neg z, if_pos z2] at k
        exact k
      · rw [if_neg z, if_neg z2] at k
        exact k
  exact ⟨_, aux (r 7 0 x).toNat 0 (by omega)⟩
theorem refusal_ok {bd bs bw : Int} {G : GG} {c r : MM} {Q : Int → MM → Prop} (hR : Rel bd bs bw G c r) {x hr f : Int} (hx : rg x) (hh : rg hr) (hf : f = 0 ∨ f = 1) (h1 : (x < 0 ∨ 8 ≤ x) ∨ (hr < 1 ∨ 12 < hr) ∨ f = 0 → Q (-1) c) (h2 : 0 ≤ x → x < 8 → 1 ≤ hr → hr ≤ 12 → f = 1 → r 7 0 x = -9 → Q (-3) (fC 1 c)) (h3 : 0 ≤ x → x < 8 → 1 ≤ hr → hr ≤ 12 → f = 1 → 0 ≤ r 7 0 x → Q 0 c) : wpX10_refusalOfHeard G x hr f c Q := by
  unfold wpX10_refusalOfHeard
  refine rowOf_ok hx (fun z => ite_p (by omega) (h1 (Or.inl z))) (fun a b => ite_n (by omega) ⟨b, isHour_ok hh (fun z => ite_p rfl (h1 (Or.inr (Or.inl z)))) (fun z z2 => ite_n (by decide) ⟨by omega, ite_i (fun y => h1 (Or.inr (Or.inr y))) (fun y => ?_)⟩)⟩)
  have r3 := hR.R3 x a b
  exact isThere_ok (by omega) (fun w => ite_p rfl (found_ok (by decide) (by decide) (h2 a b z z2 (by omega) (by omega)))) (fun w => ite_n (by decide) (h3 a b z z2 (by omega) (by omega)))
theorem rel_misfits {k : Int} {G : GG} {c r : MM} (h : RelK k G c r) (hk : k < 512) (x1 : Int) (h1 : rg x1) (x2 : Int) (h2 : rg x2) (x3 : Int) (h3 : rg x3) (x4 : Int) (h4 : rg x4) (x5 : Int) (h5 : rg x5) : wpX10_misfits G x1 x2 x3 x4 x5 c (fun v c' => wpX11_misfits x1 x2 x3 x4 x5 r (fun v' r' => Lf v v' (RelK (k + 1) G c' r'))) := by
  have hR := h.2
  unfold wpX10_misfits
  have no : ∀ f : Int, (x1 < 0 ∨ 8 ≤ x1) ∨ (x2 < 1 ∨ 12 < x2) ∨ ¬ isF x3 x4 x5 → wpX11_misfits x1 x2 x3 x4 x5 r (fun v' r' => Lf (-1) v' (RelK (k + 1) G c r')) := by
    intro _ z
    unfold wpX11_misfits
    refine inn_ok h2 (by omega) (by omega) (fun _ => ite_p rfl (Lf.mk rfl (h.up hk))) (fun _ _ => ite_n (by decide) (isFR_ok h3 h4 h5 (fun f => ite_n (by decide) (looked_ok hR h1 (fun _ => ⟨by omega, ite_n (by omega) (Lf.mk rfl (h.up hk))⟩) (fun _ _ _ _ => ?_) (fun _ _ _ _ _ => ?_))) (fun f => ite_p rfl (Lf.mk rfl (h.up hk)))))
    · exfalso
      rcases z with z | z | z
      · omega
      · omega
      · exact z f
    · exfalso
      rcases z with z | z | z
      · omega
      · omega
      · exact z f
  have main : ∀ f : Int, (f = 0 ∨ f = 1) → (f = 1 → isF x3 x4 x5) → (f = 0 → ¬ isF x3 x4 x5) → wpX10_refusalOfHeard G x1 x2 f c (fun v4 μ5 => rg v4 ∧ (if v4 = 0 then (wpX10_rowOf G x1 μ5 (fun v8 μ9 => wpX1_listen G v8 x2 μ9 (fun v10 μ11 => wpX1_misfitsOf G x3 x4 x5 μ11 (fun v12 μ13 => wpX11_misfits x1 x2 x3 x4 x5 r (fun v' r' => Lf v12 v' (RelK (k + 1) G μ13 r')))))) else (wpX11_misfits x1 x2 x3 x4 x5 r (fun v' r' => Lf v4 v' (RelK (k + 1) G μ5 r'))))) := by
    intro f hf f1 f0
    refine refusal_ok hR h1 h2 hf (fun z => ⟨by omega, ite_n (by omega) (no f ?_)⟩) (fun a b z z2 hf1 hm => ⟨by omega, ite_n (by omega) ?_⟩) (fun a b z z2 hf1 hm => ⟨by omega, ite_p rfl ?_⟩)
    · rcases z with z | z | z
      · exact Or.inl z
      · exact Or.inr (Or.inl z)
      · exact Or.inr (Or.inr (f0 z))
    · unfold wpX11_misfits
      exact inn_ok h2 (by omega) (by omega) (fun _ => by exfalso; omega) (fun _ _ => ite_n (by decide) (isFR_ok h3 h4 h5 (fun _ => ite_n (by decide) (looked_ok hR h1 (fun _ => by exfalso; omega) (fun _ _ _ _ => ⟨by omega, ite_n (by omega) (Lf.mk rfl (h.f hk _))⟩) (fun _ _ _ _ _ => by exfalso; omega))) (fun g => absurd (f1 hf1) g)))
    · refine rowOf_ok h1 (fun _ => by exfalso; omega) (fun _ _ => ?_)
      obtain ⟨c', a1, a2, a3, a4⟩ := listen_ok hR (hr := x2) a b hm
      refine a4 _ (misfitsC_ok a1 z z2 a2 a3 h3 h4 h5 (f1 hf1) ?_)
      unfold wpX11_misfits
      exact inn_ok h2 (by omega) (by omega) (fun _ => by exfalso; omega) (fun _ _ => ite_n (by decide) (isFR_ok h3 h4 h5 (fun _ => ite_n (by decide) (looked_ok hR h1 (fun _ => by exfalso; omega) (fun _ _ _ _ => by exfalso; omega) (fun _ _ _ _ _ => ⟨by omega, ite_p (by omega) (misfitsR_ok hR a b hm rfl rfl z z2 h3 h4 h5 (f1 hf1) (Lf.mk rfl (h.of hk a1)))⟩))) (fun g => absurd (f1 hf1) g)))
  exact isFC_ok h3 h4 h5 (fun f => main 1 (Or.inr rfl) (fun _ => f) (fun z => by exfalso; omega)) (fun f => main 0 (Or.inl rfl) (fun z => by exfalso; omega) (fun _ => f))
theorem firstC_ok {bd bs bw : Int} {G : GG} {c r : MM} (hR : Rel bd bs bw G c r) {x hr s a b : Int} (hr1 : 1 ≤ hr) (hr2 : hr ≤ 12) (h6 : c 6 1 0 = hr) (h16 : ∀ j, 0 ≤ j → j < 48 → c 16 0 j = hv r x j) (x0 : 0 ≤ x) (x8 : x < 8) (hz : 0 ≤ r 7 0 x) (hs : rg s) (ha : rg a) (hb : rg b) (hf : isF s a b) : ∀ (m y : Nat), (y : Int) + m = r 7 0 x → ∃ v : Int, (v = -9 ∨ (0 ≤ v ∧ v < 48)) ∧ (∃ fu, ∀ Q : Int → MM → Prop, Q v c → wpX1_firstWithMore_L3 G Q fu s a b y c) ∧ (∀ Q : Int → MM → Prop, (v = -9 → Q 1 r) → (v ≠ -9 → Q 0 (ms r 0 2 0 v)) → wpX11_windy_L41 Q (m + 1) x hr s a b y r) := by
  have r3 := hR.R3 x x0 x8
  intro m
  induction m with
  | zero =>
    intro y hy
    have tail : ∀ (n z : Nat), (z : Int) + n = 48 → r 7 0 x ≤ z → ∀ Q : Int → MM → Prop, Q (-9) c → wpX1_firstWithMore_L3 G Q (n + 1) s a b z c := by
      intro n
      induction n with
      | zero =>
        intro z hz1 hz2 Q h
        exact ⟨by omega, ite_p (by omega) h⟩
      | succ n ih =>
        intro z hz1 hz2 Q h
        have d := dueV_rng (hr := hr) (i := z) hf
        have e := h16 z (by omega) (by omega)
        unfold hv at e
        rw [if_neg (by omega)] at e
        refine ⟨by omega, ite_n (by omega) ⟨by omega, by omega, ?_⟩⟩
        rw [h6, e]
        exact dueC_ok hr1 hr2 (by omega) (by omega) hs ha hb hf ⟨by omega, by omega, ite_p (by omega) (ih (z + 1) (by omega) (by omega) Q h)⟩
    exact ⟨-9, Or.inl rfl, ⟨_, tail (48 - y) y (by omega) (by omega)⟩, fun Q q1 q2 => ⟨x0, x8, by omega, by omega, ite_p (by omega) (q1 rfl)⟩⟩
  | succ m ih =>
    intro y hy
    have d := dueV_rng (hr := hr) (i := y) hf
    have e := h16 y (by omega) (by omega)
    unfold hv at e
    rw [if_pos (by omega)] at e
    have b2 := hR.R2 (48 * x + y)
    by_cases z : r 8 0 (48 * x + y) ≤ dueV hr y s a b
    · obtain ⟨v, a1, ⟨fu, a2⟩, a3⟩ := ih (y + 1) (by omega)
      refine ⟨v, a1, ⟨fu + 1, fun Q h => ⟨by omega, ite_n (by omega) ⟨by omega, by omega, ?_⟩⟩⟩, fun Q q1 q2 => ⟨x0, x8, by omega, by omega, ite_n (by omega) ⟨by omega, by omega, dueR_ok hr1 hr2 (by omega) (by omega) hs ha hb hf ⟨by omega, by omega, ite_p z (a3 Q q1 q2)⟩⟩⟩⟩
      rw [h6, e]
      exact dueC_ok hr1 hr2 (by omega) (by omega) hs ha hb hf ⟨by omega, by omega, ite_p z (a2 Q h)⟩
    · refine ⟨y, Or.inr (by omega), ⟨1, fun Q h => ⟨by omega, ite_n (by omega) ⟨by omega, by omega, ?_⟩⟩⟩, fun Q q1 q2 => ⟨x0, x8, by omega, by omega, ite_n (by omega) ⟨by omega, by omega, dueR_ok hr1 hr2 (by omega) (by omega) hs ha hb hf ⟨by omega, by omega, ite_n z (all_eq (q2 (by omega)))⟩⟩⟩⟩
      rw [h6, e]
      exact dueC_ok hr1 hr2 (by omega) (by omega) hs ha hb hf ⟨by omega, by omega, ite_n z h⟩
theorem Rel.asked {bd bs bw : Int} {G : GG} {c r : MM} (hR : Rel bd bs bw G c r) (v : Int) : Rel bd bs bw G (ms c 0 11 0 v) (ms r 0 2 0 v) := by
  refine ⟨hR.K0, hR.S1, hR.S2, rfl, hR.S4, hR.S5, hR.R1, hR.R2, hR.R3, hR.T0, hR.T1, hR.T2, hR.T3, hR.E1, hR.E2, hR.E3, hR.E4, hR.E5, hR.E6, hR.E7, hR.E8, hR.E9, hR.E10, hR.E11, hR.I1, hR.I2, hR.I3, hR.I4, hR.I5, hR.I6, hR.I7, hR.I8, hR.I9, hR.I10, hR.I11, hR.I12, hR.I13, hR.I14, hR.W1, hR.W2, hR.W3, hR.W4, hR.W5, hR.W6, hR.W7, hR.W8, hR.W9, hR.J1, hR.J2, hR.J3, hR.J4, hR.J5, hR.J6, hR.J7, hR.H1, hR.H2, hR.H3, hR.H4, hR.L1, hR.L2, hR.A1, hR.A2, hR.F1, hR.F2, hR.F3, hR.Q1, hR.Q2, hR.Q3, hR.Q4, hR.Q5, hR.Q6, hR.Q7⟩
theorem rel_windy {k : Int} {G : GG} {c r : MM} (h : RelK k G c r) (hk : k < 512) (x1 : Int) (h1 : rg x1) (x2 : Int) (h2 : rg x2) (x3 : Int) (h3 : rg x3) (x4 : Int) (h4 : rg x4) (x5 : Int) (h5 : rg x5) : wpX10_windy G x1 x2 x3 x4 x5 c (fun v c' => wpX11_windy x1 x2 x3 x4 x5 r (fun v' r' => Lf v v' (RelK (k + 1) G c' r'))) := by
  have hR := h.2
  unfold wpX10_windy
  have no : (x1 < 0 ∨ 8 ≤ x1) ∨ (x2 < 1 ∨ 12 < x2) ∨ ¬ isF x3 x4 x5 → wpX11_windy x1 x2 x3 x4 x5 r (fun v' r' => Lf (-1) v' (RelK (k + 1) G c r')) := by
    intro z
    unfold wpX11_windy
    refine inn_ok h2 (by omega) (by omega) (fun _ => ite_p rfl (Lf.mk rfl (h.up hk))) (fun _ _ => ite_n (by decide) (isFR_ok h3 h4 h5 (fun f => ite_n (by decide) (looked_ok hR h1 (fun _ => ⟨by omega, ite_n (by omega) (Lf.mk rfl (h.up hk))⟩) (fun _ _ _ _ => ?_) (fun _ _ _ _ _ => ?_))) (fun f => ite_p rfl (Lf.mk rfl (h.up hk)))))
    · exfalso
      rcases z with z | z | z
      · omega
      · omega
      · exact z f
    · exfalso
      rcases z with z | z | z
      · omega
      · omega
      · exact z f
  have main : ∀ f : Int, (f = 0 ∨ f = 1) → (f = 1 → isF x3 x4 x5) → (f = 0 → ¬ isF x3 x4 x5) → wpX10_refusalOfHeard G x1 x2 f c (fun v4 μ5 => rg v4 ∧ (if v4 = 0 then (wpX10_rowOf G x1 μ5 (fun v8 μ9 => wpX1_listen G v8 x2 μ9 (fun v10 μ11 => wpX1_firstWithMore G x3 x4 x5 μ11 (fun v12 μ13 => rg v12 ∧ (if v12 = (-9) then (wpX11_windy x1 x2 x3 x4 x5 r (fun v' r' => Lf 1 v' (RelK (k + 1) G μ13 r'))) else (∀ μ16 : MM, μ16 = ms μ13 0 11 0 v12 → (wpX11_windy x1 x2 x3 x4 x5 r (fun v' r' => Lf 0 v' (RelK (k + 1) G μ16 r'))))))))) else (wpX11_windy x1 x2 x3 x4 x5 r (fun v' r' => Lf v4 v' (RelK (k + 1) G μ5 r'))))) := by
    intro f hf f1 f0
    refine refusal_ok hR h1 h2 hf (fun z => ⟨by omega, ite_n (by omega) (no ?_)⟩) (fun a b z z2 hf1 hm => ⟨by omega, ite_n (by omega) ?_⟩) (fun a b z z2 hf1 hm => ⟨by omega, ite_p rfl ?_⟩)
    · rcases z with z | z | z
      · exact Or.inl z
      · exact Or.inr (Or.inl z)
      · exact Or.inr (Or.inr (f0 z))
    · unfold wpX11_windy
      exact inn_ok h2 (by omega) (by omega) (fun _ => by exfalso; omega) (fun _ _ => ite_n (by decide) (isFR_ok h3 h4 h5 (fun _ => ite_n (by decide) (looked_ok hR h1 (fun _ => by exfalso; omega) (fun _ _ _ _ => ⟨by omega, ite_n (by omega) (Lf.mk rfl (h.f hk _))⟩) (fun _ _ _ _ _ => by exfalso; omega))) (fun g => absurd (f1 hf1) g)))
    · refine rowOf_ok h1 (fun _ => by exfalso; omega) (fun _ _ => ?_)
      obtain ⟨c', a1, a2, a3, a4⟩ := listen_ok hR (hr := x2) a b hm
      obtain ⟨v, b1, ⟨fu, b2⟩, b3⟩ := firstC_ok a1 z z2 a2 a3 a b hm h3 h4 h5 (f1 hf1) (r 7 0 x1).toNat 0 (by omega)
      have ref : ∀ Q : Int → MM → Prop, (v = -9 → Q 1 r) → (v ≠ -9 → Q 0 (ms r 0 2 0 v)) → wpX11_windy x1 x2 x3 x4 x5 r Q := by
        intro Q q1 q2
        unfold wpX11_windy
        exact inn_ok h2 (by omega) (by omega) (fun _ => by exfalso; omega) (fun _ _ => ite_n (by decide) (isFR_ok h3 h4 h5 (fun _ => ite_n (by decide) (looked_ok hR h1 (fun _ => by exfalso; omega) (fun _ _ _ _ => by exfalso; omega) (fun _ _ _ _ _ => ⟨by omega, ite_p (by omega) ⟨_, b3 Q q1 q2⟩⟩))) (fun g => absurd (f1 hf1) g)))
      refine a4 _ ⟨fu, b2 _ ⟨by omega, ite_i (fun y => ref _ (fun _ => Lf.mk rfl (h.of hk a1)) (fun y2 => absurd y y2)) (fun y => all_eq (ref _ (fun y2 => absurd y2 y) (fun _ => Lf.mk rfl (h.of hk (a1.asked v)))))⟩⟩
  exact isFC_ok h3 h4 h5 (fun f => main 1 (Or.inr rfl) (fun _ => f) (fun z => by exfalso; omega)) (fun f => main 0 (Or.inl rfl) (fun z => by exfalso; omega) (fun _ => f))
