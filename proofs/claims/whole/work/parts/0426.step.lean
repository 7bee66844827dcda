/-! what a step or a run at tower t leaves as it was, and how far what is due may grow -/
def Fr (t e : Int) (r r' : MM) : Prop := r' 22 0 = r 22 0 ∧ r' 35 0 = r 35 0 ∧ r' 26 0 = r 26 0 ∧ r' 0 10 0 = r 0 10 0 ∧ r' 0 5 0 = r 0 5 0 ∧ r' 29 0 = r 29 0 ∧ r' 30 0 = r 30 0 ∧ (∀ m, r 22 0 m < 0 ∨ r 22 0 m / 2 ≠ t → r' 21 0 m = r 21 0 m) ∧ (∀ m, r' 21 0 m ≤ r 21 0 m + e)
theorem Fr.refl (t : Int) {e : Int} (he : 0 ≤ e) (r : MM) : Fr t e r r := ⟨rfl, rfl, rfl, rfl, rfl, rfl, rfl, fun _ _ => rfl, fun _ => by omega⟩
theorem Fr.trans {t e e' : Int} {r r1 r2 : MM} (h : Fr t e r r1) (h' : Fr t e' r1 r2) : Fr t (e + e') r r2 := by
  obtain ⟨a1, a2, a3, a4, a5, a6, a7, a8, a9⟩ := h
  obtain ⟨b1, b2, b3, b4, b5, b6, b7, b8, b9⟩ := h'
  refine ⟨b1.trans a1, b2.trans a2, b3.trans a3, b4.trans a4, b5.trans a5, b6.trans a6, b7.trans a7, fun m hm => ?_, fun m => ?_⟩
  · rw [b8 m (by rw [a1]; exact hm), a8 m hm]
  · have := a9 m
    have := b9 m
    omega
theorem Fr.mono {t e e' : Int} {r r' : MM} (h : Fr t e r r') (he : e ≤ e') : Fr t e' r r' := by
  obtain ⟨a1, a2, a3, a4, a5, a6, a7, a8, a9⟩ := h
  exact ⟨a1, a2, a3, a4, a5, a6, a7, a8, fun m => by have := a9 m; omega⟩
theorem Fr.letOff {t n x q : Int} {r : MM} (d : lgD r n x ≤ r 21 0 n + 24) (hm : 0 ≤ r 22 0 n ∧ r 22 0 n / 2 = t) : Fr t 24 r (lgR r n (lgD r n x) (lgL r n x q) (lgA r n)) := by
  refine ⟨rfl, rfl, rfl, rfl, rfl, rfl, rfl, fun m hh => ?_, fun m => ?_⟩
  · have e : m ≠ n := fun e => by subst e; omega
    simp [lgR, ms, e]
  · by_cases e : m = n
    · subst e
      simp [lgR, ms]
      omega
    · simp [lgR, ms, e]
      omega
/-! the two memories after a step of the hands: only the hands and the warning are written, or a train goes -/
theorem Rel.hand {bd bs bw : Int} {G : GG} {c r : MM} (hR : Rel bd bs bw G c r) {t v : Int} (v0 : 0 ≤ v) (v1 : v ≤ 1439) : Rel bd bs bw G (ms c 3 1 t v) (ms r 27 0 t v) := by
  have W2 := hR.W2
  have J2 := hR.J2
  refine ⟨hR.K0, hR.S1, hR.S2, hR.S3, hR.S4, hR.S5, hR.R1, hR.R2, hR.R3, hR.T0, hR.T1, hR.T2, hR.T3, hR.E1, hR.E2, hR.E3, hR.E4, hR.E5, hR.E6, hR.E7, hR.E8, hR.E9, hR.E10, hR.E11, hR.I1, hR.I2, hR.I3, hR.I4, hR.I5, hR.I6, hR.I7, hR.I8, hR.I9, hR.I10, hR.I11, hR.I12, hR.I13, hR.I14, hR.W1, msEq W2 _ _, hR.W3, hR.W4, hR.W5, hR.W6, hR.W7, hR.W8, hR.W9, hR.J1, ?_, hR.J3, hR.J4, hR.J5, hR.J6, hR.J7, hR.H1, hR.H2, hR.H3, hR.H4, hR.L1, hR.L2, hR.A1, hR.A2, hR.F1, hR.F2, hR.F3, hR.Q1, hR.Q2, hR.Q3, hR.Q4, hR.Q5, hR.Q6, hR.Q7⟩
  · intro z a b
    have q := J2 z a b
    by_cases e : z = t
    · subst e
      simp [ms] <;> omega
    · simp [ms, e] <;> omega
theorem Rel.warn {bd bs bw : Int} {G : GG} {c r : MM} (hR : Rel bd bs bw G c r) {p n w : Int} (p0 : 0 ≤ p) (p8 : p < 8) (hn : r 35 0 p = n) (n0 : 0 ≤ n) (hw : w = 0 ∨ w = 1) : Rel bd bs bw G (ms c 2 10 n w) (ms r 36 0 p w) := by
  have H2 := hR.H2
  have H4 := hR.H4
  refine ⟨hR.K0, hR.S1, hR.S2, hR.S3, hR.S4, hR.S5, hR.R1, hR.R2, hR.R3, hR.T0, hR.T1, hR.T2, hR.T3, hR.E1, hR.E2, hR.E3, hR.E4, hR.E5, hR.E6, hR.E7, hR.E8, hR.E9, hR.E10, hR.E11, hR.I1, hR.I2, hR.I3, hR.I4, hR.I5, hR.I6, hR.I7, hR.I8, hR.I9, hR.I10, hR.I11, hR.I12, hR.I13, hR.I14, hR.W1, hR.W2, hR.W3, hR.W4, hR.W5, hR.W6, hR.W7, hR.W8, hR.W9, hR.J1, hR.J2, hR.J3, hR.J4, hR.J5, hR.J6, hR.J7, hR.H1, hR.H2, hR.H3, ?_, hR.L1, hR.L2, hR.A1, hR.A2, hR.F1, hR.F2, hR.F3, hR.Q1, hR.Q2, hR.Q3, hR.Q4, hR.Q5, hR.Q6, hR.Q7⟩
  · intro q a b
    have k := H4 q a b
    have k2 := H2 q a b
    have k3 := H2 p p0 p8
    show (ms r 36 0 p w 36 0 q = 0 ∨ ms r 36 0 p w 36 0 q = 1) ∧ (0 ≤ r 35 0 q → ms c 2 10 n w 2 10 (r 35 0 q) = ms r 36 0 p w 36 0 q) ∧ (r 35 0 q < 0 → ms r 36 0 p w 36 0 q = 0)
    by_cases e : q = p
    · subst e
      rw [hn]
      simp [ms] <;> omega
    · have e2 : 0 ≤ r 35 0 q → r 35 0 q ≠ n := fun z z2 => by
        rw [hn] at k3
        rw [z2] at k2
        omega
      have e3 : ms r 36 0 p w 36 0 q = r 36 0 q := by simp [ms, e]
      rw [e3]
      refine ⟨k.1, fun z => ?_, k.2.2⟩
      have e4 : ms c 2 10 n w 2 10 (r 35 0 q) = c 2 10 (r 35 0 q) := by simp [ms, e2 z]
      rw [e4]
      exact k.2.1 z
theorem silR_warn {t p w : Int} (r : MM) : silR t (ms r 36 0 p w) = silR t r := rfl
theorem wg_ok {bd bs bw : Int} {G : GG} {c r : MM} (hR : Rel bd bs bw G c r) {t n q : Int} (t0 : 0 ≤ t) (t4 : t < 4) (hq : q = 0 ∨ q = 1) (hn : r 35 0 (2 * t + q) = n) (n0 : 0 ≤ n) (hd : r 21 0 n + 24 ≤ bd) : ∃ c' r', Rel bd bs bw G c' r' ∧ Fr t 24 r r' ∧ (∀ Q : Int → MM → Prop, Q 0 c' → wpX8_warnOrLetOff_J9 G Q t n q 1 c) ∧ (∀ Q : Int → MM → Prop, Q 0 r' → wpX11_warnedGoes t q r Q) := by
  have H2 := hR.H2
  have H4 := hR.H4
  have J2 := hR.J2
  have h2 := H2 (2 * t + q) (by omega) (by omega)
  have h4 := H4 (2 * t + q) (by omega) (by omega)
  have j := J2 t t0 t4
  rw [hn] at h2 h4
  have n1 : n < r 0 10 0 := by omega
  have hw := h4.2.1 n0
  have sg := silR_rng hR t0 t4
  unfold wpX8_warnOrLetOff_J9 wpX11_warnedGoes
  by_cases e : r 36 0 (2 * t + q) = 0
  · refine ⟨c, r, hR, Fr.refl t (by decide) r, fun Q h => ⟨by omega, ite_n (by decide) ⟨by omega, ite_p (by omega) h⟩⟩, fun Q h => placeOf_ok hq ⟨by omega, by omega, by omega, ite_p e h⟩⟩
  · by_cases e2 : silR t r = 2
    · refine ⟨c, r, hR, Fr.refl t (by decide) r, fun Q h => ⟨by omega, ite_n (by decide) ⟨by omega, ite_n (by omega) (silenceNow_ok hR t0 t4 ⟨by omega, ite_p e2 h⟩)⟩⟩, fun Q h => placeOf_ok hq ⟨by omega, by omega, by omega, ite_n e (silenceOf_ok hR t0 t4 ⟨by omega, ite_p e2 h⟩)⟩⟩
    · have sr := stepQ_rng r t q j.1 j.2
      have hL := hR.letOff n0 n1 (stepQ r t q) q sr.1 hd
      have hW := hL.warn (p := 2 * t + q) (n := n) (w := 0) (by omega) (by omega) hn n0 (Or.inl rfl)
      have hW2 := hR.warn (p := 2 * t + q) (n := n) (w := 0) (by omega) (by omega) hn n0 (Or.inl rfl)
      refine ⟨ms (loC c r t n q) 2 10 n 0, ms (loR r t n q) 36 0 (2 * t + q) 0, hW, ?_, fun Q h => ⟨by omega, ite_n (by decide) ⟨by omega, ite_n (by omega) (silenceNow_ok hR t0 t4 ⟨by omega, ite_n e2 (byHands_ok hR t0 t4 hq n0 n1 (all_eq h))⟩)⟩⟩, fun Q h => placeOf_ok hq ⟨by omega, by omega, by omega, ite_n e (silenceOf_ok hR t0 t4 ⟨by omega, ite_n e2 (placeOf_ok hq ⟨by omega, by omega, all_eq (offGoes_ok hW2 t0 t4 hq hn n0 ?_)⟩)⟩)⟩⟩
      · have hF := Fr.letOff (t := t) (n := n) (x := stepQ r t q) (q := q) (r := r) (lgD_rng hR n0 n1 _ sr.1).2 (by omega)
        exact ⟨hF.1, hF.2.1, hF.2.2.1, hF.2.2.2.1, hF.2.2.2.2.1, hF.2.2.2.2.2.1, hF.2.2.2.2.2.2.1, hF.2.2.2.2.2.2.2.1, hF.2.2.2.2.2.2.2.2⟩
      · have e3 : loR (ms r 36 0 (2 * t + q) 0) t n q = ms (loR r t n q) 36 0 (2 * t + q) 0 := by
          show ms (ms (ms (ms r 36 0 (2 * t + q) 0) 25 0 n _) 21 0 n _) 14 0 n _ = ms (ms (ms (ms r 25 0 n _) 21 0 n _) 14 0 n _) 36 0 (2 * t + q) 0
          rw [ms_comm r (show (36 : Nat) ≠ 25 by decide), ms_comm _ (show (36 : Nat) ≠ 21 by decide), ms_comm _ (show (36 : Nat) ≠ 14 by decide)]
          rfl
        rw [e3]
        exact h
theorem wol_w {G : GG} {t n q : Int} {c : MM} {Q : Int → MM → Prop} (h : Q 0 (ms c 2 10 n 1)) : wpX8_warnOrLetOff G t n q 1 0 c Q := ⟨by omega, ite_n (by decide) (all_eq ⟨by omega, ite_p rfl h⟩)⟩
theorem wol_l {G : GG} {t n q : Int} {c : MM} {Q : Int → MM → Prop} (h : wpX8_warnOrLetOff_J9 G Q t n q 1 c) : wpX8_warnOrLetOff G t n q 0 1 c Q := ⟨by omega, ite_p rfl h⟩
theorem wol_0 {G : GG} {t n q : Int} {c : MM} {Q : Int → MM → Prop} (h : Q 0 c) : wpX8_warnOrLetOff G t n q 0 0 c Q := ⟨by omega, ite_p rfl ⟨by omega, ite_p rfl h⟩⟩
theorem J162_no {Q : Int → MM → Prop} {t y x4 : Int} {r : MM} (hy : rg y) (h4 : x4 = 0 ∨ x4 = 1) (hn : y = 0 → x4 = 0) (h : Q 0 r) : wpX11_stepOn_J162 Q t y x4 r := ⟨hy, ite_i (fun e => ⟨by omega, ite_p (hn e) h⟩) (fun _ => h)⟩
theorem J67_warn {Q : Int → MM → Prop} {t y x3 x4 : Int} {r : MM} (t0 : 0 ≤ t) (t4 : t < 4) (y0 : 0 ≤ y) (y1 : y < 60) (h10 : y % 15 = 10) (hx3 : x3 = 0 ∨ x3 = 1) (hx4 : x4 = 0 ∨ x4 = 1) (ha : r 36 0 (2 * t + 1) = 0 ∨ r 36 0 (2 * t + 1) = 1) (hb : r 36 0 (2 * t) = 0 ∨ r 36 0 (2 * t) = 1) (hQ : Q 0 (ms (ms r 36 0 (2 * t + 1) (if x3 = 0 then r 36 0 (2 * t + 1) else 1)) 36 0 (2 * t) (if x4 = 1 ∧ y = 55 then 1 else r 36 0 (2 * t)))) : wpX11_stepOn_J67 Q t y x3 x4 r := by
  have d : Int.tmod y 15 = y % 15 := Int.tmod_eq_emod_of_nonneg y0
  have fin : ∀ μ : MM, Q 0 μ → wpX11_stepOn_J145 Q t y x3 x4 μ := fun μ h => by
    unfold wpX11_stepOn_J145
    rw [d]
    exact ⟨by omega, by omega, ite_n (by omega) (J162_no (by omega) hx4 (fun e => by omega) h)⟩
  have two : ∀ v : Int, (v = 0 ∨ v = 1) → v = (if x3 = 0 then r 36 0 (2 * t + 1) else 1) → wpX11_stepOn_J109 Q t y x3 x4 (2 * t + 1) v r := fun v hv ev => by
    unfold wpX11_stepOn_J109 wpX11_stepOn_J139 wpX11_stepOn_J143 wpX11_stepOn_J144
    rw [← ev] at hQ
    have e1 : ms r 36 0 (2 * t + 1) v 36 0 (2 * t) = r 36 0 (2 * t) := ms_nj _ _ _ (by omega) _ _
    refine ⟨by omega, by omega, hv, all_eq ⟨by omega, by omega, by omega, ite_i (fun z => ⟨by omega, ite_i (fun z2 => ?_) (fun z2 => ⟨by omega, ite_i (fun z3 => ?_) (fun z3 => ?_)⟩)⟩) (fun z => ?_)⟩⟩
    · rw [if_neg (by omega)] at hQ
      refine ⟨by omega, by omega, by omega, all_eq (fin _ ?_)⟩
      rw [← e1, z] at hQ
      exact hQ
    · rw [if_pos (by omega)] at hQ
      exact ⟨by omega, by omega, by omega, all_eq (fin _ hQ)⟩
    · rw [if_neg (by omega)] at hQ
      refine ⟨by omega, by omega, by omega, all_eq (fin _ ?_)⟩
      rw [← e1, z] at hQ
      exact hQ
    · have z1 : r 36 0 (2 * t) = 1 := by omega
      have z2 : (if x4 = 1 ∧ y = 55 then 1 else r 36 0 (2 * t)) = 1 := by split <;> omega
      rw [z2] at hQ
      exact ⟨by omega, by omega, by omega, all_eq (fin _ hQ)⟩
  unfold wpX11_stepOn_J67 wpX11_stepOn_J104
  rw [d]
  refine ⟨by omega, by omega, ite_p h10 ⟨by omega, by omega, by omega, ite_i (fun z => ⟨by omega, ite_i (fun z2 => two 0 (by omega) ?_) (fun z2 => two 1 (by omega) ?_)⟩) (fun z => two 1 (by omega) ?_)⟩⟩
  · rw [if_pos z2, z]
  · rw [if_neg z2]
  · split <;> omega
theorem J67_off {Q : Int → MM → Prop} {t y x3 x4 : Int} {r : MM} (y0 : 0 ≤ y) (y1 : y < 60) (h10 : ¬ y % 15 = 10) (hx3 : x3 = 0 ∨ x3 = 1) (hx4 : x4 = 0 ∨ x4 = 1) (hx : x3 = 1 → x4 = 0) (hQ0 : (x3 = 0 ∨ ¬ y % 15 = 0) → (x4 = 0 ∨ ¬ y = 0) → Q 0 r) (hQ1 : x3 = 1 → y % 15 = 0 → wpX11_warnedGoes t 1 r Q) (hQ2 : x4 = 1 → y = 0 → wpX11_warnedGoes t 0 r Q) : wpX11_stepOn_J67 Q t y x3 x4 r := by
  have d : Int.tmod y 15 = y % 15 := Int.tmod_eq_emod_of_nonneg y0
  unfold wpX11_stepOn_J67 wpX11_stepOn_J145
  rw [d]
  refine ⟨by omega, by omega, ite_n h10 ⟨by omega, by omega, ite_i (fun z => ⟨by omega, ite_i (fun z2 => ?_) (fun z2 => ?_)⟩) (fun z => ?_)⟩⟩
  · unfold wpX11_stepOn_J162
    exact ⟨by omega, ite_i (fun z3 => ⟨by omega, ite_i (fun z4 => hQ0 (Or.inl z2) (Or.inl z4)) (fun z4 => hQ2 (by omega) z3)⟩) (fun z3 => hQ0 (Or.inl z2) (Or.inr z3))⟩
  · have hx1 : x3 = 1 := by omega
    have w := hQ1 hx1 z
    have e : (fun (_ : Int) (μ7 : MM) => wpX11_stepOn_J162 Q t y x4 μ7) = fun (_ : Int) μ7 => Q 0 μ7 := by
      funext v μ
      unfold wpX11_stepOn_J162
      have := hx hx1
      apply propext
      constructor
      · rintro ⟨_, k⟩
        by_cases e : y = 0
        · rw [if_pos e, if_pos this] at k
          exact k.2
        · rw [if_neg e] at k
          exact k
      · intro k
        exact ⟨by omega, ite_i (fun _ => ⟨by omega, ite_p this k⟩) (fun _ => k)⟩
    rw [e]
    exact w
  · unfold wpX11_stepOn_J162
    exact ⟨by omega, ite_i (fun z3 => ⟨by omega, ite_i (fun z4 => hQ0 (Or.inr z) (Or.inl z4)) (fun z4 => hQ2 (by omega) z3)⟩) (fun z3 => hQ0 (Or.inr z) (Or.inr z3))⟩
