/-! what a step or a run at tower t leaves as it was, and how far what is due may grow -/
def Fr (t e : Int) (r r' : MM) : Prop := r' 22 0 = r 22 0 ∧ r' 35 0 = r 35 0 ∧ r' 26 0 = r 26 0 ∧ r' 0 10 0 = r 0 10 0 ∧ r' 0 5 0 = r 0 5 0 ∧ r' 29 0 = r 29 0 ∧ r' 30 0 = r 30 0 ∧ (∀ m, r 22 0 m < 0 ∨ r 22 0 m / 2 ≠ t → r' 21 0 m = r 21 0 m) ∧ (∀ m, r' 21 0 m ≤ r 21 0 m + e)
theorem Fr.refl (t : Int) {e : Int} (he : 0 ≤ e) (r : MM) : Fr t e r r := ⟨rfl, rfl, rfl, rfl, rfl, rfl, rfl, fun _ _ => rfl, fun _ => by omega⟩
theorem Fr.trans {t e e' : Int} {r r1 r2 : MM} (h : Fr t e r r1) (h' : Fr t e' r1 r2) : Fr t (e + e') r r2 := by
  obtain ⟨a1, a2, a3, a4, a5, a6, a7, a8, a9⟩ := h
  obtain ⟨b1, b2, b3, b4, b5, b6, b7, b8, b9⟩ := h'
  refine ⟨b1.trans a1, b2.trans a2, b3.trans a3, b4.trans a4, b5.trans a5, b6.trans a6, b7.trans a7, fun m hm => ?_, fun m => ?_⟩
  · rw [b8 m (by rw [a1]; exact hm), a8 m hm]
  · have := a9 m
    have := b9 m
    omega
theorem Fr.mono {t e e' : Int} {r r' : MM} (h : Fr t e r r') (he : e ≤ e') : Fr t e' r r' := by
  obtain ⟨a1, a2, a3, a4, a5, a6, a7, a8, a9⟩ := h
  exact ⟨a1, a2, a3, a4, a5, a6, a7, a8, fun m => by have := a9 m; omega⟩
theorem Fr.letOff {t n x q : Int} {r : MM} (d : lgD r n x ≤ r 21 0 n + 24) (hm : 0 ≤ r 22 0 n ∧ r 22 0 n / 2 = t) : Fr t 24 r (lgR r n (lgD r n x) (lgL r n x q) (lgA r n)) := by
  refine ⟨rfl, rfl, rfl, rfl, rfl, rfl, rfl, fun m hh => ?_, fun m => ?_⟩
  · have e : m ≠ n := fun e => by subst e; omega
    simp [lgR, ms, e]
  · by_cases e : m = n
    · subst e
      simp [lgR, ms]
      omega
    · simp [lgR, ms, e]
      omega
/-! the two memories after a step of the hands: only the hands and the warning are written, or a train goes -/
theorem Rel.hand {bd bs bw : Int} {G : GG} {c r : MM} (hR : Rel bd bs bw G c r) {t v : Int} (v0 : 0 ≤ v) (v1 : v ≤ 1439) : Rel bd bs bw G (ms c 3 1 t v) (ms r 27 0 t v) := by
  have W2 := hR.W2
  have J2 := hR.J2
  refine ⟨hR.K0, hR.S1, hR.S2, hR.S3, hR.S4, hR.S5, hR.R1, hR.R2, hR.R3, hR.T0, hR.T1, hR.T2, hR.E1, hR.E2, hR.E3, hR.E4, hR.E5, hR.E6, hR.E7, hR.E8, hR.E9, hR.E10, hR.E11, hR.I1, hR.I2, hR.I3, hR.I4, hR.I5, hR.I6, hR.I7, hR.I8, hR.I9, hR.I10, hR.I11, hR.I12, hR.I13, hR.I14, hR.W1, msEq W2 _ _, hR.W3, hR.W4, hR.W5, hR.W6, hR.W7, hR.W8, hR.W9, hR.J1, ?_, hR.J3, hR.J4, hR.J5, hR.J6, hR.J7, hR.H1, hR.H2, hR.H3, hR.H4, hR.L1, hR.L2, hR.A1, hR.A2, hR.F1, hR.F2, hR.F3, hR.Q1, hR.Q2, hR.Q3, hR.Q4, hR.Q5, hR.Q6, hR.Q7⟩
  · intro z a b
    have q := J2 z a b
    by_cases e : z = t
    · subst e
      simp [ms] <;> omega
    · simp [ms, e] <;> omega
theorem Rel.warn {bd bs bw : Int} {G : GG} {c r : MM} (hR : Rel bd bs bw G c r) {p n w : Int} (p0 : 0 ≤ p) (p8 : p < 8) (hn : r 35 0 p = n) (n0 : 0 ≤ n) (hw : w = 0 ∨ w = 1) : Rel bd bs bw G (ms c 2 10 n w) (ms r 36 0 p w) := by
  have H2 := hR.H2
  have H4 := hR.H4
  refine ⟨hR.K0, hR.S1, hR.S2, hR.S3, hR.S4, hR.S5, hR.R1, hR.R2, hR.R3, hR.T0, hR.T1, hR.T2, hR.E1, hR.E2, hR.E3, hR.E4, hR.E5, hR.E6, hR.E7, hR.E8, hR.E9, hR.E10, hR.E11, hR.I1, hR.I2, hR.I3, hR.I4, hR.I5, hR.I6, hR.I7, hR.I8, hR.I9, hR.I10, hR.I11, hR.I12, hR.I13, hR.I14, hR.W1, hR.W2, hR.W3, hR.W4, hR.W5, hR.W6, hR.W7, hR.W8, hR.W9, hR.J1, hR.J2, hR.J3, hR.J4, hR.J5, hR.J6, hR.J7, hR.H1, hR.H2, hR.H3, ?_, hR.L1, hR.L2, hR.A1, hR.A2, hR.F1, hR.F2, hR.F3, hR.Q1, hR.Q2, hR.Q3, hR.Q4, hR.Q5, hR.Q6, hR.Q7⟩
  · intro q a b
    have k := H4 q a b
    have k2 := H2 q a b
    have k3 := H2 p p0 p8
    show (ms r 36 0 p w 36 0 q = 0 ∨ ms r 36 0 p w 36 0 q = 1) ∧ (0 ≤ r 35 0 q → ms c 2 10 n w 2 10 (r 35 0 q) = ms r 36 0 p w 36 0 q) ∧ (r 35 0 q < 0 → ms r 36 0 p w 36 0 q = 0)
    by_cases e : q = p
    · subst e
      rw [hn]
      simp [ms] <;> omega
    · have e2 : 0 ≤ r 35 0 q → r 35 0 q ≠ n := fun z z2 => by
        rw [hn] at k3
        rw [z2] at k2
        omega
      have e3 : ms r 36 0 p w 36 0 q = r 36 0 q := by simp [ms, e]
      rw [e3]
      refine ⟨k.1, fun z => ?_, k.2.2⟩
      have e4 : ms c 2 10 n w 2 10 (r 35 0 q) = c 2 10 (r 35 0 q) := by simp [ms, e2 z]
      rw [e4]
      exact k.2.1 z
theorem silR_warn {t p w : Int} (r : MM) : silR t (ms r 36 0 p w) = silR t r := rfl
theorem warned_ok {bd bs bw : Int} {G : GG} {c r : MM} (hR : Rel bd bs bw G c r) {t n q w l : Int} {Qc Qr : Int → MM → Prop} (t0 : 0 ≤ t) (t4 : t < 4) (hq : q = 0 ∨ q = 1) (hn : r 35 0 (2 * t + q) = n) (n0 : 0 ≤ n) (hd : r 21 0 n + 24 ≤ bd) (hl : l = 0 ∨ l = 1) (hr : (l = 0 → Qr 0 r) ∧ (l = 1 → wpX11_warnedGoes t q r Qr) → True) : True := trivial
