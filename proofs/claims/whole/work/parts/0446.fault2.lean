theorem Rel.r45 {bd bs bw : Int} {G : GG} {c r : MM} (hR : Rel bd bs bw G c r) (v : Int) : Rel bd bs bw G c (ms r 0 45 0 v) := by
  refine ⟨hR.K0, hR.S1, hR.S2, hR.S3, hR.S4, hR.S5, hR.R1, hR.R2, hR.R3, hR.T0, hR.T1, hR.T2, hR.T3, hR.E1, hR.E2, hR.E3, hR.E4, hR.E5, hR.E6, hR.E7, hR.E8, hR.E9, hR.E10, hR.E11, hR.I1, hR.I2, hR.I3, hR.I4, hR.I5, hR.I6, hR.I7, hR.I8, hR.I9, hR.I10, hR.I11, hR.I12, hR.I13, hR.I14, hR.W1, hR.W2, hR.W3, hR.W4, hR.W5, hR.W6, hR.W7, hR.W8, hR.W9, hR.J1, hR.J2, hR.J3, hR.J4, hR.J5, hR.J6, hR.J7, hR.H1, hR.H2, hR.H3, hR.H4, hR.L1, hR.L2, hR.A1, hR.A2, hR.F1, hR.F2, hR.F3, hR.Q1, hR.Q2, hR.Q3, hR.Q4, hR.Q5, hR.Q6, hR.Q7⟩
theorem Rel.r46 {bd bs bw : Int} {G : GG} {c r : MM} (hR : Rel bd bs bw G c r) (v : Int) : Rel bd bs bw G c (ms r 0 46 0 v) := by
  refine ⟨hR.K0, hR.S1, hR.S2, hR.S3, hR.S4, hR.S5, hR.R1, hR.R2, hR.R3, hR.T0, hR.T1, hR.T2, hR.T3, hR.E1, hR.E2, hR.E3, hR.E4, hR.E5, hR.E6, hR.E7, hR.E8, hR.E9, hR.E10, hR.E11, hR.I1, hR.I2, hR.I3, hR.I4, hR.I5, hR.I6, hR.I7, hR.I8, hR.I9, hR.I10, hR.I11, hR.I12, hR.I13, hR.I14, hR.W1, hR.W2, hR.W3, hR.W4, hR.W5, hR.W6, hR.W7, hR.W8, hR.W9, hR.J1, hR.J2, hR.J3, hR.J4, hR.J5, hR.J6, hR.J7, hR.H1, hR.H2, hR.H3, hR.H4, hR.L1, hR.L2, hR.A1, hR.A2, hR.F1, hR.F2, hR.F3, hR.Q1, hR.Q2, hR.Q3, hR.Q4, hR.Q5, hR.Q6, hR.Q7⟩
theorem Rel.r47 {bd bs bw : Int} {G : GG} {c r : MM} (hR : Rel bd bs bw G c r) (j v : Int) : Rel bd bs bw G c (ms r 47 0 j v) := by
  refine ⟨hR.K0, hR.S1, hR.S2, hR.S3, hR.S4, hR.S5, hR.R1, hR.R2, hR.R3, hR.T0, hR.T1, hR.T2, hR.T3, hR.E1, hR.E2, hR.E3, hR.E4, hR.E5, hR.E6, hR.E7, hR.E8, hR.E9, hR.E10, hR.E11, hR.I1, hR.I2, hR.I3, hR.I4, hR.I5, hR.I6, hR.I7, hR.I8, hR.I9, hR.I10, hR.I11, hR.I12, hR.I13, hR.I14, hR.W1, hR.W2, hR.W3, hR.W4, hR.W5, hR.W6, hR.W7, hR.W8, hR.W9, hR.J1, hR.J2, hR.J3, hR.J4, hR.J5, hR.J6, hR.J7, hR.H1, hR.H2, hR.H3, hR.H4, hR.L1, hR.L2, hR.A1, hR.A2, hR.F1, hR.F2, hR.F3, hR.Q1, hR.Q2, hR.Q3, hR.Q4, hR.Q5, hR.Q6, hR.Q7⟩
def SB (bd bs bw : Int) (G : GG) (r0 : MM) (x hr : Int) (c r : MM) : Prop := Rel bd bs bw G c r ∧ c 6 1 0 = hr ∧ (∀ j : Int, 0 ≤ j → j < 48 → c 16 0 j = hv r0 x j) ∧ r 7 0 = r0 7 0 ∧ r 8 0 = r0 8 0 ∧ r 0 46 0 = c 6 6 0
def SR (bd bs bw : Int) (G : GG) (r0 : MM) (x hr : Int) (c r : MM) : Prop := SB bd bs bw G r0 x hr c r ∧ (0 ≤ r 0 45 0 ∧ r 0 45 0 ≤ 48) ∧ c 6 5 0 = r 0 45 0 ∧ (0 ≤ c 6 2 0 ∧ c 6 2 0 ≤ 4) ∧ r 47 0 0 = c 6 2 0 ∧ r 47 0 1 = (if c 6 2 0 = 0 then -9 else c 6 3 0) ∧ r 47 0 2 = (if c 6 2 0 = 0 ∨ c 6 2 0 = 3 then -9 else c 6 4 0)
theorem mfV_rng (r : MM) (x hr s a b j : Int) : 0 ≤ mfV r x hr s a b j ∧ mfV r x hr s a b j ≤ 1 := by
  unfold mfV
  split
  · omega
  · split <;> omega
theorem MF_rng (r : MM) (x hr s a b : Int) : 0 ≤ MF r x hr s a b ∧ MF r x hr s a b ≤ 48 := by
  have := sumF_rng (f := fun j => mfV r x hr s a b j) (b := 0) (lo := 0) (hi := 1) 48 (fun i _ _ => mfV_rng r x hr s a b _)
  unfold MF
  omega
section
variable {bd bs bw : Int} {G : GG} {r0 : MM} {x hr : Int}
theorem offer_ok {c0 : MM} (hR0 : Rel bd bs bw G c0 r0) (x0 : 0 ≤ x) (x8 : x < 8) (hz : 0 ≤ r0 7 0 x) (hr1 : 1 ≤ hr) (hr2 : hr ≤ 12) {c r : MM} (hB : SB bd bs bw G r0 x hr c r) (hst : (r 0 45 0 = -9 ∧ c 6 5 0 = 49) ∨ SR bd bs bw G r0 x hr c r) {s a b : Int} (hs : rg s) (ha : rg a) (hb : rg b) (hf : isF s a b) (hs4 : 0 ≤ s ∧ s ≤ 4) : ∃ c' r', SR bd bs bw G r0 x hr c' r' ∧ (∀ Q : Int → MM → Prop, Q 0 c' → wpX1_offer G s a b (MF r0 x hr s a b) c Q) ∧ (∀ Q : Int → MM → Prop, Q 0 r' → wpX11_tryFault x hr s a b r Q) := by
  have mr := MF_rng r0 x hr s a b
  obtain ⟨hR, h6, h16, e7, e8, e46⟩ := hB
  have ref0 : ∀ Q : Int → MM → Prop, (∀ d : Int, d = (if MF r0 x hr s a b = 0 then 1 else 0) → wpX11_tryFault_J28 Q s a b (MF r0 x hr s a b) (r 0 46 0) d r) → wpX11_tryFault x hr s a b r Q := by
    intro Q h
    unfold wpX11_tryFault
    refine misfitsR_ok hR0 x0 x8 hz e7 e8 hr1 hr2 hs ha hb hf ⟨by omega, ite_i (fun z => h 1 ?_) (fun z => h 0 ?_)⟩
    · rw [if_pos z]
    · rw [if_neg z]
  generalize MF r0 x hr s a b = M at *
  -- the count of those that fit
  have cls0 : ∀ Q : Int → MM → Prop, (∀ d : Int, d = (if M = 0 then 1 else 0) → wpX1_offer_J15 G Q s a b M (ms c 6 6 0 (c 6 6 0 + d))) → wpX1_offer G s a b M c Q := by
    intro Q h
    unfold wpX1_offer
    refine ⟨by omega, ite_i (fun z => all_eq (h 1 ?_)) (fun z => ?_)⟩
    · rw [if_pos z]
    · have k := h 0 (by rw [if_neg z])
      rw [Int.add_zero, ms_self rfl] at k
      exact k
  obtain ⟨d, hd⟩ : ∃ d : Int, d = (if M = 0 then 1 else 0) := ⟨_, rfl⟩
  by_cases take : r 0 45 0 < 0 ∨ M < r 0 45 0
  · refine ⟨ms (ms (ms (ms (ms c 6 6 0 (c 6 6 0 + d)) 6 5 0 M) 6 2 0 s) 6 3 0 a) 6 4 0 b, ms (ms (ms (ms (ms r 0 46 0 (r 0 46 0 + d)) 0 45 0 M) 47 0 0 s) 47 0 1 (if s = 0 then -9 else a)) 47 0 2 (if s = 0 ∨ s = 3 then -9 else b), ?_, fun Q h => cls0 Q (fun d' hd' => ?_), fun Q h => ref0 Q (fun d' hd' => ?_)⟩
    · refine ⟨⟨?_, h6, h16, e7, e8, ?_⟩, mr, rfl, hs4, rfl, rfl, ?_⟩
      · exact (((((((((hR.six 6 _).six 5 _).six 2 _).six 3 _).six 4 _).r46 _).r45 _).r47 0 _).r47 1 _).r47 2 _
      · show r 0 46 0 + d = c 6 6 0 + d
        rw [e46]
      · rfl
    · rw [← hd] at hd'
      subst hd'
      refine ⟨by omega, ?_, ite_n ?_ (all_eq (all_eq (all_eq (all_eq h))))⟩
      · show rg (c 6 5 0)
        rcases hst with z | z
        · omega
        · have := z.2.1
          have := z.2.2.1
          omega
      · show ¬ c 6 5 0 ≤ M
        rcases hst with z | z
        · omega
        · have := z.2.1
          have := z.2.2.1
          omega
    · rw [← hd] at hd'
      subst hd'
      have j48 : wpX11_tryFault_J48 Q s a b M (ms r 0 46 0 (r 0 46 0 + d')) := by
        unfold wpX11_tryFault_J48 wpX11_tryFault_J77 wpX11_tryFault_J92
        refine all_eq (all_eq ⟨hs, ite_i (fun z => ⟨by omega, by omega, all_eq ⟨hs, ite_p z ⟨by omega, by omega, all_eq ?_⟩⟩⟩) (fun z => ⟨by omega, by omega, all_eq ⟨hs, ite_n z (ite_i (fun z3 => ⟨by omega, by omega, all_eq ?_⟩) (fun z3 => all_eq ?_))⟩⟩)⟩)
        · rw [if_pos z, if_pos (Or.inl z)] at h
          exact h
        · rw [if_neg z, if_pos (Or.inr z3)] at h
          exact h
        · rw [if_neg z, if_neg (by omega)] at h
          exact h
      refine all_eq ⟨?_, ite_i (fun z => j48) (fun z => ⟨by omega, ite_n ?_ j48⟩)⟩
      · show rg (r 0 45 0)
        rcases hst with z | z
        · omega
        · have := z.2.1
          omega
      · have z : ¬ r 0 45 0 < 0 := z
        show ¬ r 0 45 0 ≤ M
        omega
  · have hS : SR bd bs bw G r0 x hr c r := by
      rcases hst with z | z
      · exfalso; omega
      · exact z
    obtain ⟨_, s1, s2, s3, s4, s5, s6⟩ := hS
    refine ⟨ms c 6 6 0 (c 6 6 0 + d), ms r 0 46 0 (r 0 46 0 + d), ⟨⟨(hR.six 6 _).r46 _, h6, h16, e7, e8, ?_⟩, s1, s2, s3, s4, s5, s6⟩, fun Q h => cls0 Q (fun d' hd' => ?_), fun Q h => ref0 Q (fun d' hd' => ?_)⟩
    · show r 0 46 0 + d = c 6 6 0 + d
      rw [e46]
    · rw [← hd] at hd'
      subst hd'
      exact ⟨by omega, (show rg (c 6 5 0) by omega), ite_p (show c 6 5 0 ≤ M by omega) h⟩
    · rw [← hd] at hd'
      subst hd'
      exact all_eq ⟨(show rg (r 0 45 0) by omega), ite_n (show ¬ r 0 45 0 < 0 by omega) ⟨by omega, ite_p (show r 0 45 0 ≤ M by omega) h⟩⟩
end
/-! the reference's loop over b: a place that is tried, places that are passed over -/
theorem refTry {k21 : Int → Int → Int → Int → MM → Prop} {k13 : Int → Int → Int → MM → Prop} {Q : Int → MM → Prop} {x hr s a b : Int} {r r' : MM} (hs : rg s) (ha : rg a) (hb : rg b) (hf : isF s a b) (h0 : s = 0 → a = 0) (hB : b < (if s = 0 ∨ s = 3 then 1 else 48)) (s0 : 0 ≤ s) (ht : ∀ Q : Int → MM → Prop, Q 0 r' → wpX11_tryFault x hr s a b r Q) (h : ∃ f, wpX11_tryAll_L31 k21 k13 Q f x hr s a (b + 1) r') : ∃ f, wpX11_tryAll_L31 k21 k13 Q f x hr s a b r := by
  obtain ⟨f, h⟩ := h
  have go : ∀ B : Int, rg B → b < B → wpX11_tryAll_J48 (fun x1' x2' x3' x4' x5' μ' => wpX11_tryAll_L31 k21 k13 Q f x1' x2' x3' x4' x5' μ') k21 k13 Q x hr s a b b B r := by
    intro B hB1 hB2
    have t := ht (fun _ μ2 => wpX11_tryAll_J82 (fun x1' x2' x3' x4' x5' μ' => wpX11_tryAll_L31 k21 k13 Q f x1' x2' x3' x4' x5' μ') k21 k13 Q x hr s a b μ2) h
    refine ⟨hb, hB1, ite_n (by omega) (isFR_ok hs ha hb (fun _ => ite_n (by decide) ⟨hs, ite_i (fun _ => t) (fun z => ⟨ha, ite_p (h0 (by omega)) t⟩)⟩) (fun g => absurd hf g))⟩
  refine ⟨f + 1, hs, ite_i (fun z => ?_) (fun z => ite_i (fun z3 => ?_) (fun z3 => ?_))⟩
  · rw [if_pos (Or.inl z)] at hB
    exact go 1 (by omega) hB
  · rw [if_pos (Or.inr z3)] at hB
    exact go 1 (by omega) hB
  · rw [if_neg (by omega)] at hB
    exact go 48 (by omega) hB
theorem refSkip {k21 : Int → Int → Int → Int → MM → Prop} {k13 : Int → Int → Int → MM → Prop} {Q : Int → MM → Prop} {x hr s a : Int} {r : MM} (hs : rg s) (ha : rg a) (s0 : 0 ≤ s) : ∀ (m : Nat) (b : Int), 0 ≤ b → b + m ≤ 48 → (∀ b', b ≤ b' → b' < b + m → ¬ isF s a b' ∨ (s = 0 ∧ a ≠ 0)) → (b + m ≤ (if s = 0 ∨ s = 3 then 1 else 48)) → (∃ f, wpX11_tryAll_L31 k21 k13 Q f x hr s a (b + m) r) → ∃ f, wpX11_tryAll_L31 k21 k13 Q f x hr s a b r := by
  intro m
  induction m with
  | zero =>
    intro b b0 b1 hsk hB h
    rw [show b + ((0 : Nat) : Int) = b by omega] at h
    exact h
  | succ m ih =>
    intro b b0 b1 hsk hB h
    obtain ⟨f, h⟩ := ih (b + 1) (by omega) (by omega) (fun b' p q => hsk b' (by omega) (by omega)) (by rw [show b + 1 + (m : Int) = b + ((m + 1 : Nat) : Int) by omega]; exact hB) (by rw [show b + 1 + (m : Int) = b + ((m + 1 : Nat) : Int) by omega]; exact h)
    have k := hsk b (by omega) (by omega)
    have go : ∀ B : Int, rg B → b < B → wpX11_tryAll_J48 (fun x1' x2' x3' x4' x5' μ' => wpX11_tryAll_L31 k21 k13 Q f x1' x2' x3' x4' x5' μ') k21 k13 Q x hr s a b b B r := by
      intro B hB1 hB2
      refine ⟨by omega, hB1, ite_n (by omega) (isFR_ok hs ha (by omega) (fun g => ite_n (by decide) ⟨hs, ?_⟩) (fun g => ite_p rfl h))⟩
      rcases k with k | k
      · exact absurd g k
      · exact ite_n (by omega) ⟨ha, ite_n k.2 h⟩
    refine ⟨f + 1, hs, ite_i (fun z => ?_) (fun z => ite_i (fun z3 => ?_) (fun z3 => ?_))⟩
    · rw [if_pos (Or.inl z)] at hB
      exact go 1 (by omega) (by omega)
    · rw [if_pos (Or.inr z3)] at hB
      exact go 1 (by omega) (by omega)
    · rw [if_neg (by omega)] at hB
      exact go 48 (by omega) (by omega)
theorem refEnd {k21 : Int → Int → Int → Int → MM → Prop} {k13 : Int → Int → Int → MM → Prop} {Q : Int → MM → Prop} {x hr s a b : Int} {r : MM} (hs : rg s) (hb : b = (if s = 0 ∨ s = 3 then 1 else 48)) (h : k21 x hr s (a + 1) r) : ∃ f, wpX11_tryAll_L31 k21 k13 Q f x hr s a b r := by
  refine ⟨1, hs, ite_i (fun z => ?_) (fun z => ite_i (fun z3 => ?_) (fun z3 => ?_))⟩
  · rw [if_pos (Or.inl z)] at hb
    exact ⟨by omega, by omega, ite_p (by omega) h⟩
  · rw [if_pos (Or.inr z3)] at hb
    exact ⟨by omega, by omega, ite_p (by omega) h⟩
  · rw [if_neg (by omega)] at hb
    exact ⟨by omega, by omega, ite_p (by omega) h⟩
/-! all of one a passed over -/
theorem refSkipA {k13 : Int → Int → Int → MM → Prop} {Q : Int → MM → Prop} {x hr s : Int} {r : MM} (hs : rg s) (s0 : 0 ≤ s) : ∀ (m : Nat) (a : Int), 0 ≤ a → a + m ≤ 48 → (∀ a' b', a ≤ a' → a' < a + m → 0 ≤ b' → b' < 48 → ¬ isF s a' b' ∨ (s = 0 ∧ a' ≠ 0)) → (∃ f, wpX11_tryAll_L21 k13 Q f x hr s (a + m) r) → ∃ f, wpX11_tryAll_L21 k13 Q f x hr s a r := by
  intro m
  induction m with
  | zero =>
    intro a a0 a1 hsk h
    rw [show a + ((0 : Nat) : Int) = a by omega] at h
    exact h
  | succ m ih =>
    intro a a0 a1 hsk h
    obtain ⟨f, h⟩ := ih (a + 1) (by omega) (by omega) (fun a' b' p q => hsk a' b' (by omega) (by omega)) (by rw [show a + 1 + (m : Int) = a + ((m + 1 : Nat) : Int) by omega]; exact h)
    refine ⟨f + 1, by omega, ite_n (by omega) ?_⟩
    by_cases z : s = 0 ∨ s = 3
    · refine refSkip hs (by omega) s0 1 0 (by omega) (by omega) (fun b' p q => hsk a b' (by omega) (by omega) (by omega) (by omega)) (by rw [if_pos z]; omega) (refEnd hs (by rw [if_pos z]; rfl) h)
    · refine refSkip hs (by omega) s0 48 0 (by omega) (by omega) (fun b' p q => hsk a b' (by omega) (by omega) (by omega) (by omega)) (by rw [if_neg z]; omega) (refEnd hs (by rw [if_neg z]; rfl) h)
