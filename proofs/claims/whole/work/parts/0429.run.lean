theorem ior_zero {x : Int} (hx : rg x) : ior x 0 = x := by
  unfold ior
  have e : iI 0 = 0 := rfl
  rw [e, Int32.or_zero, iI_toInt hx]
theorem rg_ior (a b : Int) : rg (ior a b) := rg_of _
theorem rg_iand (a b : Int) : rg (iand a b) := rg_of _
def pinN (r : MM) (n : Int) : Int := if r 11 0 n = 3 then (r 17 0 n + 1) % r 15 0 n else 0
def hamN (r : MM) (n : Int) : Int := if r 11 0 n = 3 then r 16 0 (48 * n + r 17 0 n) else 1
theorem pinN_rng {bd bs bw : Int} {G : GG} {c r : MM} (hR : Rel bd bs bw G c r) {n : Int} (n0 : 0 ≤ n) (n1 : n < r 0 10 0) : 0 ≤ pinN r n ∧ (r 11 0 n = 3 → pinN r n < r 15 0 n) ∧ (r 11 0 n ≠ 3 → pinN r n = 0) := by
  have i9 := hR.I9 n n0 n1
  unfold pinN
  split
  · next z =>
    have m0 := Int.emod_nonneg (r 17 0 n + 1) (show r 15 0 n ≠ 0 by omega)
    have m1 := Int.emod_lt_of_pos (r 17 0 n + 1) (show 0 < r 15 0 n by omega)
    omega
  · omega
theorem lift_ok {bd bs bw : Int} {G : GG} {c r : MM} (hR : Rel bd bs bw G c r) {n : Int} (n0 : 0 ≤ n) (n1 : n < r 0 10 0) {c' : MM} {Q : Int → MM → Prop} (e16 : c' 2 16 n = r 17 0 n) (e10 : c' 10 0 = r 16 0) (h : Q (hamN r n) (ms c' 2 16 n (pinN r n))) : wpD_lift G n c' Q := by
  have T1 := hR.T1
  have I1 := hR.I1
  have I9 := hR.I9
  have I10 := hR.I10
  have g := T1 n n0 n1
  have i1 := I1 n n0 n1
  have i9 := I9 n n0 n1
  have i10 := I10 n n0 n1
  unfold wpD_lift
  unfold hamN pinN at h
  by_cases e : r 11 0 n = 3
  · rw [if_neg (by omega), if_neg (by omega), if_neg (by omega)]
    rw [if_pos e, if_pos e] at h
    unfold wpX0_lift
    refine ⟨by omega, ite_n (by omega) ⟨by omega, ite_p (by omega) ⟨by omega, by omega, all_eq ⟨by omega, ite_i (fun z => all_eq ?_) (fun z => all_eq ?_)⟩⟩⟩⟩
    · have e3 : (r 17 0 n + 1) % r 15 0 n = 0 := by
        have : r 17 0 n + 1 = r 15 0 n := by omega
        rw [this, Int.emod_self]
      rw [e3] at h
      rw [e16, e10]
      exact h
    · have e3 : (r 17 0 n + 1) % r 15 0 n = r 17 0 n + 1 := Int.emod_eq_of_lt (by omega) (by omega)
      rw [e3] at h
      rw [e16, e10]
      exact h
  · rw [if_neg e, if_neg e, ms_self (show c' 2 16 n = 0 by omega)] at h
    unfold wpX9_lift
    exact ite_i (fun _ => h) (fun _ => ite_i (fun _ => h) (fun _ => ite_i (fun _ => h) (fun _ => by exfalso; omega)))
def itC (c r : MM) (n : Int) : MM := ms (ms (ms c 2 7 n (r 21 0 n - 1)) 2 5 n (r 20 0 n - 1)) 2 16 n (pinN r n)
def itR (r : MM) (n : Int) : MM := ms (ms (ms r 17 0 n (pinN r n)) 21 0 n (r 21 0 n - 1)) 20 0 n (r 20 0 n - 1)
theorem Rel.it {bd bs bw : Int} {G : GG} {c r : MM} (hR : Rel bd bs bw G c r) {n : Int} (n0 : 0 ≤ n) (n1 : n < r 0 10 0) (d0 : 0 < r 21 0 n) (w0 : 0 < r 20 0 n) : Rel bd bs bw G (itC c r n) (itR r n) := by
  have pr := pinN_rng hR n0 n1
  have E4 := hR.E4
  have E7 := hR.E7
  have E8 := hR.E8
  have I6 := hR.I6
  have I10 := hR.I10
  have I12 := hR.I12
  have I13 := hR.I13
  have i6 := I6 n n0 n1
  have i12 := I12 n n0 n1
  unfold itC itR
  generalize pinN r n = p at *
  refine ⟨hR.K0, hR.S1, hR.S2, hR.S3, hR.S4, hR.S5, hR.R1, hR.R2, hR.R3, hR.T0, hR.T1, hR.T2, hR.T3, hR.E1, hR.E2, hR.E3, msEq E4 _ _, hR.E5, hR.E6, msEq E7 _ _, msEq E8 _ _, hR.E9, hR.E10, hR.E11, hR.I1, hR.I2, hR.I3, hR.I4, hR.I5, ?_, hR.I7, hR.I8, hR.I9, ?_, hR.I11, ?_, ?_, hR.I14, hR.W1, hR.W2, hR.W3, hR.W4, hR.W5, hR.W6, hR.W7, hR.W8, hR.W9, hR.J1, hR.J2, hR.J3, hR.J4, hR.J5, hR.J6, hR.J7, hR.H1, hR.H2, hR.H3, hR.H4, hR.L1, hR.L2, hR.A1, hR.A2, hR.F1, hR.F2, hR.F3, hR.Q1, hR.Q2, hR.Q3, hR.Q4, hR.Q5, hR.Q6, hR.Q7⟩
  · intro m a b
    have q := I6 m a b
    by_cases e : m = n
    · subst e
      simp [ms] <;> omega
    · simp [ms, e] <;> omega
  · intro m a b
    have q := I10 m a b
    by_cases e : m = n
    · subst e
      simp [ms] <;> omega
    · simp [ms, e] <;> omega
  · intro m a b
    have q := I12 m a b
    by_cases e : m = n
    · subst e
      simp [ms] <;> omega
    · simp [ms, e] <;> omega
  · intro m h1
    have q2 := I13 m h1
    have e : m ≠ n := fun e => by subst e; exact absurd n1 (Int.not_lt.mpr h1)
    simp [ms, e] <;> omega
theorem Rel.heard {bd bs bw : Int} {G : GG} {c r : MM} (hR : Rel bd bs bw G c r) (n a b : Int) : Rel bd bs bw G (ms (ms c 2 12 n a) 2 13 n b) r := by
  refine ⟨hR.K0, hR.S1, hR.S2, hR.S3, hR.S4, hR.S5, hR.R1, hR.R2, hR.R3, hR.T0, hR.T1, hR.T2, hR.T3, hR.E1, hR.E2, hR.E3, hR.E4, hR.E5, hR.E6, hR.E7, hR.E8, hR.E9, hR.E10, hR.E11, hR.I1, hR.I2, hR.I3, hR.I4, hR.I5, hR.I6, hR.I7, hR.I8, hR.I9, hR.I10, hR.I11, hR.I12, hR.I13, hR.I14, hR.W1, hR.W2, hR.W3, hR.W4, hR.W5, hR.W6, hR.W7, hR.W8, hR.W9, hR.J1, hR.J2, hR.J3, hR.J4, hR.J5, hR.J6, hR.J7, hR.H1, hR.H2, hR.H3, hR.H4, hR.L1, hR.L2, hR.A1, hR.A2, hR.F1, hR.F2, hR.F3, hR.Q1, hR.Q2, hR.Q3, hR.Q4, hR.Q5, hR.Q6, hR.Q7⟩
theorem itR_fr {t n : Int} {r : MM} (hnt : 0 ≤ r 22 0 n ∧ r 22 0 n / 2 = t) : Fr t 0 r (itR r n) := by
  refine ⟨rfl, rfl, rfl, rfl, rfl, rfl, rfl, fun m hh => ?_, fun m => ?_⟩
  · have e : m ≠ n := fun e => by subst e; omega
    simp [itR, ms, e]
  · by_cases e : m = n
    · subst e
      simp [itR, ms]
      omega
    · simp [itR, ms, e]
theorem strikes_ok {bd bs bw : Int} {G : GG} {t q n mC mR mute : Int} (hC : rg mC) (hM : rg mR) (hmu : mute = 0 ∨ mute = 1) (n0 : 0 ≤ n) : ∀ (m : Nat) (x6 x7 x8 : Int) (c r : MM), Rel bd bs bw G c r → n < r 0 10 0 → 0 ≤ r 22 0 n ∧ r 22 0 n / 2 = t → r 21 0 n ≤ m → 0 ≤ x6 → 0 ≤ x7 → x7 ≤ x6 → x6 + r 21 0 n ≤ bd → rg x8 → c 2 12 n = x7 → c 2 13 n = x8 → (mC = mR ∨ (x6 + r 21 0 n ≤ mC ∧ x6 + r 21 0 n ≤ mR)) →
    ∃ c' r' y6 y7 y8, Rel bd bs bw G c' r' ∧ c' 2 12 n = y7 ∧ c' 2 13 n = y8 ∧ (0 ≤ y7 ∧ y7 ≤ y6 ∧ x6 ≤ y6 ∧ rg y8) ∧ (r' 20 0 n = r 20 0 n - (y6 - x6) ∧ r' 21 0 n = r 21 0 n - (y6 - x6)) ∧ (r' 24 0 = r 24 0 ∧ r' 0 6 0 = r 0 6 0) ∧ Fr t 0 r r' ∧
    (∀ Q : Int → MM → Prop, wpX9_strike_J100 G Q n y6 c' → wpX9_strike_L12 G Q (m + 1) n mC mute x6 c) ∧ (∀ Q : Int → MM → Prop, wpX11_runs_J210 Q t q n y6 y7 y8 r' → wpX11_runs_L37 Q (m + 1) t q mR n mute x6 x7 x8 r) := by
  intro m
  induction m with
  | zero =>
    intro x6 x7 x8 c r hR n1 hnt hm h6 h7 h76 hb h8 e12 e13 hmost
    have E8 := hR.E8
    have I12 := hR.I12
    have T0 := hR.T0
    have K0 := hR.K0
    have e8 := congrFun E8 n
    have i12 := I12 n n0 n1
    refine ⟨c, r, x6, x7, x8, hR, e12, e13, ⟨h7, h76, by omega, h8⟩, ⟨by omega, by omega⟩, ⟨rfl, rfl⟩, Fr.refl t (by decide) r, fun Q h => ⟨by omega, by omega, ite_i (fun _ => h) (fun _ => ⟨by omega, ite_p (by omega) h⟩)⟩, fun Q h => ⟨by omega, by omega, by omega, ite_p (by omega) h⟩⟩
  | succ m ih =>
    intro x6 x7 x8 c r hR n1 hnt hm h6 h7 h76 hb h8 e12 e13 hmost
    have E2 := hR.E2
    have E4 := hR.E4
    have E7 := hR.E7
    have E8 := hR.E8
    have E9 := hR.E9
    have I6 := hR.I6
    have I7 := hR.I7
    have I9 := hR.I9
    have I10 := hR.I10
    have I11 := hR.I11
    have I12 := hR.I12
    have I1 := hR.I1
    have T0 := hR.T0
    have K0 := hR.K0
    have e2 := E2
    have e4 := congrFun E4 n
    have e7 := congrFun E7 n
    have e8 := congrFun E8 n
    have e9 := congrFun E9 n
    have i1 := I1 n n0 n1
    have i6 := I6 n n0 n1
    have i7 := I7 n n0 n1
    have i9 := I9 n n0 n1
    have i10 := I10 n n0 n1
    have i12 := I12 n n0 n1
    by_cases hstop : r 21 0 n ≤ 0 ∨ r 20 0 n ≤ 0 ∨ mR ≤ x6
    · refine ⟨c, r, x6, x7, x8, hR, e12, e13, ⟨h7, h76, by omega, h8⟩, ⟨by omega, by omega⟩, ⟨rfl, rfl⟩, Fr.refl t (by decide) r, fun Q h => ⟨by omega, by omega, ite_i (fun _ => h) (fun _ => ⟨by omega, ite_i (fun _ => h) (fun _ => ⟨by omega, ite_p (by omega) h⟩)⟩)⟩, fun Q h => ⟨by omega, by omega, by omega, ite_i (fun _ => h) (fun _ => ⟨by omega, ite_i (fun _ => h) (fun _ => ⟨by omega, by omega, ite_p (by omega) h⟩)⟩)⟩⟩
    · have d0 : 0 < r 21 0 n := by omega
      have w0 : 0 < r 20 0 n := by omega
      have hIt := hR.it n0 n1 d0 w0
      have fr := itR_fr (r := r) hnt
      have pr := pinN_rng hR n0 n1
      have f21 : itR r n 21 0 n = r 21 0 n - 1 := by simp [itR, ms]
      have f20 : itR r n 20 0 n = r 20 0 n - 1 := by simp [itR, ms]
      have f12 : itC c r n 2 12 n = x7 := e12
      have f13 : itC c r n 2 13 n = x8 := e13
      have g6 : itC c r n 2 6 n = r 23 0 n := e9
      -- the class's turn
      have cls : ∀ (Q : Int → MM → Prop), (∀ y : Int, y = iand (hamN r n) (ixor (r 23 0 n) (-1)) → (if y = 0 then wpX9_strike_L12 G Q (m + 1) n mC mute (x6 + 1) (itC c r n) else (if mute = 0 then wpX9_strike_L12 G Q (m + 1) n mC mute (x6 + 1) (ms (ms (itC c r n) 2 12 n (x7 + 1)) 2 13 n (ior x8 y)) else wpX9_strike_L12 G Q (m + 1) n mC mute (x6 + 1) (itC c r n)))) → wpX9_strike_L12 G Q (m + 1 + 1) n mC mute x6 c := by
        intro Q h
        refine ⟨by omega, by omega, ite_n (by omega) ⟨by omega, ite_n (by omega) ⟨by omega, ite_n (by omega) (all_eq (all_eq ?_))⟩⟩⟩
        have k5 : ms c 2 7 n (c 2 7 n - 1) 2 5 n = r 20 0 n := e7
        rw [k5, e8]
        refine lift_ok hR n0 n1 e4 e2 (all_eq ⟨rg_iand _ _, ?_⟩)
        have h' := h _ rfl
        rw [← g6] at h'
        by_cases z : iand (hamN r n) (ixor (itC c r n 2 6 n) (-1)) = 0
        · rw [if_pos z] at h'
          exact ite_p z h'
        · rw [if_neg z] at h'
          refine ite_n z ⟨by omega, ?_⟩
          by_cases z2 : mute = 0
          · rw [if_pos z2] at h'
            refine ite_p z2 (all_eq (all_eq ?_))
            rw [← f12] at h'
            rw [← f13] at h'
            exact h'
          · rw [if_neg z2] at h'
            exact ite_n z2 h'
      -- the reference's turn
      have rfm : ∀ (Q : Int → MM → Prop) (y : Int), y = (if mute = 0 then iand (hamN r n) (ixor (r 23 0 n) (-1)) else 0) → wpX11_runs_L37 Q (m + 1) t q mR n mute (x6 + 1) (x7 + (if y = 0 then 0 else 1)) (ior x8 y) (itR r n) → wpX11_runs_L37 Q (m + 1 + 1) t q mR n mute x6 x7 x8 r := by
        intro Q y hy h
        have j158 : ∀ μ3 : MM, μ3 = ms r 17 0 n (pinN r n) → wpX11_runs_J158 (fun x1' x2' x3' x4' x5' x6' x7' x8' μ' => wpX11_runs_L37 Q (m + 1) x1' x2' x3' x4' x5' x6' x7' x8' μ') Q t q mR n mute x6 x7 x8 y μ3 := by
          intro μ3 e3
          subst e3
          unfold wpX11_runs_J158 wpX11_runs_J172
          refine ⟨by rw [hy]; split <;> first | exact rg_iand _ _ | omega, ?_⟩
          by_cases z : y = 0
          · rw [if_pos z] at h
            exact ite_p z ⟨n0, by omega, all_eq (all_eq h)⟩
          · rw [if_neg z] at h
            exact ite_n z ⟨n0, by omega, all_eq (all_eq h)⟩
        have j136 : ∀ h9 : Int, h9 = hamN r n → wpX11_runs_J136 (fun x1' x2' x3' x4' x5' x6' x7' x8' μ' => wpX11_runs_L37 Q (m + 1) x1' x2' x3' x4' x5' x6' x7' x8' μ') Q t q mR n mute x6 x7 x8 h9 n (pinN r n) r := by
          intro h9 e9'
          unfold wpX11_runs_J136
          refine ⟨n0, by omega, all_eq ⟨by omega, ite_i (fun z => ⟨n0, by omega, ?_⟩) (fun z => ?_)⟩⟩
          · rw [if_pos z, ← e9'] at hy
            show wpX11_runs_J158 _ Q t q mR n mute x6 x7 x8 (iand h9 (ixor (r 23 0 n) (-1))) _
            rw [← hy]
            exact j158 _ rfl
          · rw [if_neg z] at hy
            rw [← hy]
            exact j158 _ rfl
        have j96 : ∀ h9 : Int, h9 = hamN r n → wpX11_runs_J96 (fun x1' x2' x3' x4' x5' x6' x7' x8' μ' => wpX11_runs_L37 Q (m + 1) x1' x2' x3' x4' x5' x6' x7' x8' μ') Q t q mR n mute x6 x7 x8 h9 r := by
          intro h9 e9'
          have k := j136 h9 e9'
          unfold pinN at k
          refine ⟨n0, by omega, by omega, ite_i (fun z => ⟨by omega, by omega, by omega, ?_⟩) (fun z => ?_)⟩
          · rw [if_pos z] at k
            rw [Int.tmod_eq_emod_of_nonneg (by omega)]
            exact k
          · rw [if_neg z] at k
            exact k
        refine ⟨n0, by omega, by omega, ite_n (by omega) ⟨by omega, ite_n (by omega) ⟨by omega, by omega, ite_n (by omega) ⟨by omega, ite_i (fun z => ⟨by omega, by omega, j96 _ ?_⟩) (fun z => j96 _ ?_)⟩⟩⟩⟩
        · unfold hamN
          rw [if_pos z]
        · unfold hamN
          rw [if_neg z]
      by_cases hz : iand (hamN r n) (ixor (r 23 0 n) (-1)) = 0 ∨ mute ≠ 0
      · obtain ⟨c', r', y6, y7, y8, a1, a2, a3, a4, a5, a6, a7, a8, a9⟩ := ih (x6 + 1) x7 x8 (itC c r n) (itR r n) hIt n1 hnt (by omega) (by omega) h7 (by omega) (by omega) h8 f12 f13 (by omega)
        refine ⟨c', r', y6, y7, y8, a1, a2, a3, by omega, by omega, a6, (fr.trans a7).mono (by omega), fun Q h => cls Q (fun y hy => ?_), fun Q h => rfm Q 0 ?_ ?_⟩
        · rcases hz with z | z
          · exact ite_p (hy.trans z) (a8 Q h)
          · exact ite_i (fun _ => a8 Q h) (fun _ => ite_n z (a8 Q h))
        · rcases hz with z | z
          · rw [z]
            split <;> rfl
          · rw [if_neg z]
        · rw [if_pos rfl, Int.add_zero, ior_zero h8]
          exact a9 Q h
      · have z1 : ¬ iand (hamN r n) (ixor (r 23 0 n) (-1)) = 0 := fun z => hz (Or.inl z)
        have z2 : mute = 0 := by omega
        obtain ⟨c', r', y6, y7, y8, a1, a2, a3, a4, a5, a6, a7, a8, a9⟩ := ih (x6 + 1) (x7 + 1) (ior x8 (iand (hamN r n) (ixor (r 23 0 n) (-1)))) (ms (ms (itC c r n) 2 12 n (x7 + 1)) 2 13 n (ior x8 (iand (hamN r n) (ixor (r 23 0 n) (-1))))) (itR r n) (hIt.heard n _ _) n1 hnt (by omega) (by omega) (by omega) (by omega) (by omega) (rg_ior _ _) (ms_at _ _ _ _ _) (ms_at _ _ _ _ _) (by omega)
        refine ⟨c', r', y6, y7, y8, a1, a2, a3, by omega, by omega, a6, (fr.trans a7).mono (by omega), fun Q h => cls Q (fun y hy => ?_), fun Q h => rfm Q _ rfl ?_⟩
        · subst hy
          exact ite_n z1 (ite_p z2 (a8 Q h))
        · rw [if_pos z2, if_neg z1]
          exact a9 Q h
