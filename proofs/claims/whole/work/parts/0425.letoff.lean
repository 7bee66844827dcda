def stepQ (r : MM) (t q : Int) : Int := if q = 0 then (r 27 0 t / 60 + 11) % 12 else (r 27 0 t % 60 / 15 + 3) % 4
def lgD (r : MM) (n x : Int) : Int := if r 11 0 n = 0 then r 21 0 n + 1 else if r 11 0 n = 2 then r 13 0 (24 * n + x % r 12 0 n) else r 21 0 n + r 13 0 (24 * n + r 14 0 n)
def lgL (r : MM) (n x q : Int) : Int := if r 11 0 n = 1 ∨ r 11 0 n = 3 then (if r 14 0 n = r 12 0 n - 1 then 1 else 0) else (if q ≠ 0 ∧ x = 3 then 1 else 0)
def lgA (r : MM) (n : Int) : Int := if r 11 0 n = 1 ∨ r 11 0 n = 3 then (if r 14 0 n = r 12 0 n - 1 then 0 else r 14 0 n + 1) else r 14 0 n
def lgC (c : MM) (n d l a : Int) : MM := ms (ms (ms c 2 7 n d) 2 11 n l) 2 14 n a
def lgR (r : MM) (n d l a : Int) : MM := ms (ms (ms r 25 0 n l) 21 0 n d) 14 0 n a
def loC (c r : MM) (t n q : Int) : MM := lgC c n (lgD r n (stepQ r t q)) (lgL r n (stepQ r t q) q) (lgA r n)
def loR (r : MM) (t n q : Int) : MM := lgR r n (lgD r n (stepQ r t q)) (lgL r n (stepQ r t q) q) (lgA r n)
theorem stepQ_rng (r : MM) (t q : Int) (h : 0 ≤ r 27 0 t) (h2 : r 27 0 t ≤ 1439) : 0 ≤ stepQ r t q ∧ stepQ r t q < 12 := by
  unfold stepQ
  split <;> omega
theorem lgD_rng {bd bs bw : Int} {G : GG} {c r : MM} (hR : Rel bd bs bw G c r) {n : Int} (n0 : 0 ≤ n) (n1 : n < r 0 10 0) (x : Int) (hx : 0 ≤ x) : 0 ≤ lgD r n x ∧ lgD r n x ≤ r 21 0 n + 24 := by
  have I1 := hR.I1
  have I2 := hR.I2
  have I3 := hR.I3
  have I12 := hR.I12
  have i1 := I1 n n0 n1
  have i2 := I2 n n0 n1
  have i12 := I12 n n0 n1
  unfold lgD
  split
  · omega
  · split
    · have m0 := Int.emod_nonneg x (show r 12 0 n ≠ 0 by omega)
      have m1 := Int.emod_lt_of_pos x (show 0 < r 12 0 n by omega)
      have i3 := I3 n (x % r 12 0 n) n0 n1 m0 m1
      omega
    · have i3 := I3 n (r 14 0 n) n0 n1 (by omega) (by omega)
      omega
theorem Rel.letOff {bd bs bw : Int} {G : GG} {c r : MM} (hR : Rel bd bs bw G c r) {n : Int} (n0 : 0 ≤ n) (n1 : n < r 0 10 0) (x q : Int) (hx : 0 ≤ x) (hd : r 21 0 n + 24 ≤ bd) : Rel bd bs bw G (lgC c n (lgD r n x) (lgL r n x q) (lgA r n)) (lgR r n (lgD r n x) (lgL r n x q) (lgA r n)) := by
  have d1 := lgD_rng hR n0 n1 x hx
  have E8 := hR.E8
  have E11 := hR.E11
  have E3 := hR.E3
  have I2 := hR.I2
  have I8 := hR.I8
  have I12 := hR.I12
  have I13 := hR.I13
  have I1 := hR.I1
  have i1 := I1 n n0 n1
  have i2 := I2 n n0 n1
  have l1 : lgL r n x q = 0 ∨ lgL r n x q = 1 := by
    unfold lgL
    split <;> split <;> omega
  have a1 : 0 ≤ lgA r n ∧ (r 11 0 n = 1 ∨ r 11 0 n = 3 → lgA r n < r 12 0 n) ∧ (r 11 0 n = 0 ∨ r 11 0 n = 2 → lgA r n = 0) := by
    unfold lgA
    split
    · split <;> omega
    · omega
  generalize lgD r n x = d at *
  generalize lgL r n x q = l at *
  generalize lgA r n = a at *
  unfold lgC lgR
  refine ⟨hR.K0, hR.S1, hR.S2, hR.S3, hR.S4, hR.S5, hR.R1, hR.R2, hR.R3, hR.T0, hR.T1, hR.T2, hR.T3, hR.E1, hR.E2, msEq E3 _ _, hR.E4, hR.E5, hR.E6, hR.E7, msEq E8 _ _, hR.E9, hR.E10, msEq E11 _ _, hR.I1, ?_, hR.I3, hR.I4, hR.I5, hR.I6, hR.I7, ?_, hR.I9, hR.I10, hR.I11, ?_, ?_, hR.I14, hR.W1, hR.W2, hR.W3, hR.W4, hR.W5, hR.W6, hR.W7, hR.W8, hR.W9, hR.J1, hR.J2, hR.J3, hR.J4, hR.J5, hR.J6, hR.J7, hR.H1, hR.H2, hR.H3, hR.H4, hR.L1, hR.L2, hR.A1, hR.A2, hR.F1, hR.F2, hR.F3, hR.Q1, hR.Q2, hR.Q3, hR.Q4, hR.Q5, hR.Q6, hR.Q7⟩
  · intro m h1 h2
    have q2 := I2 m h1 h2
    by_cases e : m = n
    · subst e
      simp [ms] <;> omega
    · simp [ms, e] <;> omega
  · intro m a b
    have q := I8 m a b
    by_cases e : m = n
    · subst e
      simp [ms] <;> omega
    · simp [ms, e] <;> omega
  · intro m a b
    have q := I12 m a b
    by_cases e : m = n
    · subst e
      simp [ms] <;> omega
    · simp [ms, e] <;> omega
  · intro m h1
    have q2 := I13 m h1
    have e : m ≠ n := fun e => by subst e; exact absurd n1 (Int.not_lt.mpr h1)
    simp [ms, e] <;> omega
theorem strokesRound_ok {G : GG} {i x : Int} {c : MM} {Q : Int → MM → Prop} (hx : rg x) (h0 : 0 ≤ x) (hg : 1 ≤ G 2 i) (hg2 : G 2 i ≤ 24) (h : Q (c 9 0 (24 * i + x % G 2 i)) c) : wpX9_strokesRound G i x c Q := by
  unfold wpX9_strokesRound
  have m0 := Int.emod_nonneg x (show G 2 i ≠ 0 by omega)
  have m1 := Int.emod_lt_of_pos x (show 0 < G 2 i by omega)
  have m2 : x.tmod (G 2 i) = x % G 2 i := Int.tmod_eq_emod_of_nonneg h0
  rw [← m2] at h m0 m1
  generalize x.tmod (G 2 i) = y at *
  repeat' (first | (with_reducible refine ⟨by omega, ?_⟩) | (with_reducible refine ite_p (by omega) ?_) | (with_reducible refine ite_n (by omega) ?_) | (with_reducible refine ite_i (fun _ => ?_) (fun _ => ?_)) | (with_reducible refine all_eq ?_))
  all_goals exact h
theorem letGo_ok {bd bs bw : Int} {G : GG} {c r : MM} {Q : Int → MM → Prop} (hR : Rel bd bs bw G c r) {n : Int} (n0 : 0 ≤ n) (n1 : n < r 0 10 0) (x q f : Int) (hx : 0 ≤ x) (hx2 : x < 12) (hf : f = if q ≠ 0 ∧ x = 3 then 1 else 0) (hQ : Q 0 (lgC c n (lgD r n x) (lgL r n x q) (lgA r n))) : wpD_letGo G n x f c Q := by
  have T1 := hR.T1
  have E1 := hR.E1
  have E3 := hR.E3
  have E8 := hR.E8
  have I1 := hR.I1
  have I2 := hR.I2
  have g := T1 n n0 n1
  have i1 := I1 n n0 n1
  have i2 := I2 n n0 n1
  have e3 := congrFun E3 n
  have e8 := congrFun E8 n
  have f01 : f = 0 ∨ f = 1 := by
    rw [hf]
    split <;> omega
  unfold wpD_letGo
  unfold lgC lgD lgL lgA at hQ
  rcases (show r 11 0 n = 0 ∨ r 11 0 n = 1 ∨ r 11 0 n = 2 ∨ r 11 0 n = 3 by omega) with e | e | e | e
  · rw [if_pos (show G 1 n = 0 by omega)]
    unfold wpX9_letGo
    refine all_eq ⟨f01, all_eq ?_⟩
    rw [if_pos e, if_neg (show ¬ (r 11 0 n = 1 ∨ r 11 0 n = 3) by omega), if_neg (show ¬ (r 11 0 n = 1 ∨ r 11 0 n = 3) by omega), ← hf, ms_self (show ms (ms c 2 7 n (r 21 0 n + 1)) 2 11 n f 2 14 n = r 14 0 n from e3), ← e8] at hQ
    exact hQ
  · rw [if_neg (show ¬ G 1 n = 0 by omega), if_pos (show G 1 n = 1 by omega)]
    unfold wpX4_letGo wpX4_letGo_J19
    have e9 := congrFun E1 (24 * n + r 14 0 n)
    have em : c 2 14 n % G 2 n = r 14 0 n := by rw [e3]; exact Int.emod_eq_of_lt (by omega) (by omega)
    rw [if_neg (by omega), if_neg (by omega), if_pos (Or.inl e), if_pos (Or.inl e)] at hQ
    refine ⟨by omega, by omega, ite_i (fun k => ?_) (fun k => ?_)⟩
    · rw [if_neg (by omega), if_neg (by omega)] at hQ
      refine strokesRound_ok (by omega) (by omega) (by omega) (by omega) (all_eq ⟨by omega, all_eq ⟨by omega, ite_p rfl (all_eq ?_)⟩⟩)
      rw [em, e9, e8]
      show Q 0 (ms _ 2 14 n (c 2 14 n + 1))
      rw [e3]
      exact hQ
    · rw [if_pos (by omega), if_pos (by omega)] at hQ
      refine strokesRound_ok (by omega) (by omega) (by omega) (by omega) (all_eq ⟨by omega, all_eq ⟨by omega, ite_n (by decide) (all_eq ?_)⟩⟩)
      rw [em, e9, e8]
      exact hQ
  · rw [if_neg (show ¬ G 1 n = 0 by omega), if_neg (show ¬ G 1 n = 1 by omega), if_pos (show G 1 n = 2 by omega)]
    unfold wpX7_letGo
    have e9 := congrFun E1 (24 * n + x % r 12 0 n)
    rw [if_neg (show ¬ r 11 0 n = 0 by omega), if_pos e, if_neg (show ¬ (r 11 0 n = 1 ∨ r 11 0 n = 3) by omega), if_neg (show ¬ (r 11 0 n = 1 ∨ r 11 0 n = 3) by omega), ← hf, ms_self (show ms (ms c 2 7 n (r 13 0 (24 * n + x % r 12 0 n))) 2 11 n f 2 14 n = r 14 0 n from e3)] at hQ
    refine strokesRound_ok (by omega) (by omega) (by omega) (by omega) (all_eq ⟨f01, all_eq ?_⟩)
    rw [g.2.1, e9]
    exact hQ
  · rw [if_neg (show ¬ G 1 n = 0 by omega), if_neg (show ¬ G 1 n = 1 by omega), if_neg (show ¬ G 1 n = 2 by omega)]
    unfold wpX4_letGo wpX4_letGo_J19
    have e9 := congrFun E1 (24 * n + r 14 0 n)
    have em : c 2 14 n % G 2 n = r 14 0 n := by rw [e3]; exact Int.emod_eq_of_lt (by omega) (by omega)
    rw [if_neg (by omega), if_neg (by omega), if_pos (Or.inr e), if_pos (Or.inr e)] at hQ
    refine ⟨by omega, by omega, ite_i (fun k => ?_) (fun k => ?_)⟩
    · rw [if_neg (by omega), if_neg (by omega)] at hQ
      refine strokesRound_ok (by omega) (by omega) (by omega) (by omega) (all_eq ⟨by omega, all_eq ⟨by omega, ite_p rfl (all_eq ?_)⟩⟩)
      rw [em, e9, e8]
      show Q 0 (ms _ 2 14 n (c 2 14 n + 1))
      rw [e3]
      exact hQ
    · rw [if_pos (by omega), if_pos (by omega)] at hQ
      refine strokesRound_ok (by omega) (by omega) (by omega) (by omega) (all_eq ⟨by omega, all_eq ⟨by omega, ite_n (by decide) (all_eq ?_)⟩⟩)
      rw [em, e9, e8]
      exact hQ
theorem byHands_ok {bd bs bw : Int} {G : GG} {c r : MM} {Q : Int → MM → Prop} (hR : Rel bd bs bw G c r) {t n q : Int} (t0 : 0 ≤ t) (t4 : t < 4) (hq : q = 0 ∨ q = 1) (n0 : 0 ≤ n) (n1 : n < r 0 10 0) (hQ : Q 0 (loC c r t n q)) : wpX8_letOffByHands G t n q c Q := by
  have W2 := hR.W2
  have J2 := hR.J2
  have w := congrFun W2 t
  have j := J2 t t0 t4
  have sr := stepQ_rng r t q j.1 j.2
  have key : ∀ f : Int, (f = if q ≠ 0 ∧ stepQ r t q = 3 then 1 else 0) → wpD_letGo G n (stepQ r t q) f c Q := fun f hf => letGo_ok hR n0 n1 (stepQ r t q) q f sr.1 sr.2 hf hQ
  have d1 : Int.tdiv (c 3 1 t) 60 = r 27 0 t / 60 := by rw [w]; exact Int.tdiv_eq_ediv_of_nonneg j.1
  have d2 : Int.tmod (c 3 1 t) 60 = r 27 0 t % 60 := by rw [w]; exact Int.tmod_eq_emod_of_nonneg j.1
  have d3 : Int.tmod (r 27 0 t / 60) 12 = r 27 0 t / 60 % 12 := Int.tmod_eq_emod_of_nonneg (by omega)
  have d4 : Int.tdiv (r 27 0 t % 60) 15 = r 27 0 t % 60 / 15 := Int.tdiv_eq_ediv_of_nonneg (by omega)
  have s1 : Int.tmod (r 27 0 t / 60 % 12 + 12 - 1) 12 = (r 27 0 t / 60 % 12 + 12 - 1) % 12 := Int.tmod_eq_emod_of_nonneg (by omega)
  have s2 : Int.tmod (r 27 0 t % 60 / 15 + 4 - 1) 4 = (r 27 0 t % 60 / 15 + 4 - 1) % 4 := Int.tmod_eq_emod_of_nonneg (by omega)
  unfold wpX8_letOffByHands wpX8_letOffByHands_J10 wpX8_nextPlace wpX8_letOffByHands_J41 wpX8_letOffByHands_J42
  rw [d1, d2, d3, d4]
  rcases hq with rfl | rfl
  · have e : (r 27 0 t / 60 % 12 + 12 - 1) % 12 = stepQ r t 0 := by
      unfold stepQ
      rw [if_pos rfl]
      omega
    refine ⟨by omega, ite_p rfl ⟨by omega, ite_p rfl ⟨by omega, by omega, by omega, by omega, by omega, all_eq ⟨by omega, ite_p rfl ?_⟩⟩⟩⟩
    rw [s1, e]
    exact key 0 (by simp)
  · have e : (r 27 0 t % 60 / 15 + 4 - 1) % 4 = stepQ r t 1 := by
      unfold stepQ
      rw [if_neg (by decide)]
      omega
    refine ⟨by omega, ite_n (by decide) ⟨by omega, ite_n (by decide) ⟨by omega, by omega, by omega, by omega, by omega, all_eq ⟨by omega, ite_n (by decide) ?_⟩⟩⟩⟩
    rw [s2, e]
    refine ⟨by omega, ite_i (fun k => key 1 ?_) (fun k => key 0 ?_)⟩
    · rw [if_pos ⟨by decide, k⟩]
    · rw [if_neg (fun z => k z.2)]
theorem offGoes_ok {bd bs bw : Int} {G : GG} {c r : MM} {Q : Int → MM → Prop} (hR : Rel bd bs bw G c r) {t n q : Int} (t0 : 0 ≤ t) (t4 : t < 4) (hq : q = 0 ∨ q = 1) (hn : r 35 0 (2 * t + q) = n) (n0 : 0 ≤ n) (hQ : Q 0 (loR r t n q)) : wpX11_offGoes t q r Q := by
  have J2 := hR.J2
  have H2 := hR.H2
  have T0 := hR.T0
  have I1 := hR.I1
  have I2 := hR.I2
  have h2 := H2 (2 * t + q) (by omega) (by omega)
  rw [hn] at h2
  have n1 : n < r 0 10 0 := by omega
  have j := J2 t t0 t4
  have i1 := I1 n n0 n1
  have i2 := I2 n n0 n1
  have sr := stepQ_rng r t q j.1 j.2
  have J83 : ∀ f : Int, f = lgL r n (stepQ r t q) q → wpX11_offGoes_J83 Q n (stepQ r t q + 1) n f r := by
    intro f hf
    unfold wpX11_offGoes_J83
    have l1 : f = 0 ∨ f = 1 := by
      rw [hf]
      unfold lgL
      split <;> split <;> omega
    unfold loR lgR at hQ
    rw [← hf] at hQ
    unfold lgD lgA at hQ
    have k11 : ms r 25 0 n f 11 0 n = r 11 0 n := rfl
    have k12 : ms r 25 0 n f 12 0 n = r 12 0 n := rfl
    have k14 : ms r 25 0 n f 14 0 n = r 14 0 n := rfl
    refine ⟨n0, by omega, l1, all_eq ⟨n0, by omega, by omega, ite_i (fun e => all_eq ?_) (fun e => ite_i (fun e2 => ?_) (fun e2 => ?_))⟩⟩
    · rw [if_pos (show r 11 0 n = 0 by omega), if_neg (by omega), ms_self (show ms (ms r 25 0 n f) 21 0 n (r 21 0 n + 1) 14 0 n = r 14 0 n from rfl)] at hQ
      exact hQ
    · rw [if_neg (by omega), if_pos (by omega), if_neg (by omega), ms_self (show ms (ms r 25 0 n f) 21 0 n (r 13 0 (24 * n + stepQ r t q % r 12 0 n)) 14 0 n = r 14 0 n from rfl)] at hQ
      have m0 := Int.emod_nonneg (stepQ r t q) (show r 12 0 n ≠ 0 by omega)
      have m1 := Int.emod_lt_of_pos (stepQ r t q) (show 0 < r 12 0 n by omega)
      have e3 : stepQ r t q + 1 - 1 = stepQ r t q := by omega
      have m2 : Int.tmod (stepQ r t q) (r 12 0 n) = stepQ r t q % r 12 0 n := Int.tmod_eq_emod_of_nonneg sr.1
      rw [e3, k12, m2]
      exact ⟨by omega, by omega, by omega, by omega, by omega, all_eq hQ⟩
    · rw [if_neg (by omega), if_neg (by omega), if_pos (by omega)] at hQ
      refine ⟨by omega, by omega, all_eq ⟨show rg (r 14 0 n + 1) by omega, show rg (r 12 0 n) by omega, show r 12 0 n ≠ 0 by omega, all_eq ?_⟩⟩
      have e4 : Int.tmod (r 14 0 n + 1) (r 12 0 n) = if r 14 0 n = r 12 0 n - 1 then 0 else r 14 0 n + 1 := by
        rw [Int.tmod_eq_emod_of_nonneg (by omega)]
        split
        · next z => rw [z, show r 12 0 n - 1 + 1 = r 12 0 n by omega, Int.emod_self]
        · next z => exact Int.emod_eq_of_lt (by omega) (by omega)
      rw [← e4] at hQ
      exact hQ
  have J28 : wpX11_offGoes_J28 Q q n (stepQ r t q + 1) r := by
    unfold wpX11_offGoes_J28 wpX11_offGoes_J82
    refine isPlate_ok n0 (by omega) (by omega) (fun e => ite_n (by decide) ⟨n0, by omega, by omega, by omega, ite_i (fun e2 => J83 1 ?_) (fun e2 => J83 0 ?_)⟩) (fun e => ite_p rfl ⟨by omega, ite_i (fun e2 => J83 0 ?_) (fun e2 => ⟨by omega, ite_i (fun e3 => J83 1 ?_) (fun e3 => J83 0 ?_)⟩)⟩)
    · unfold lgL
      rw [if_pos e, if_pos e2]
    · unfold lgL
      rw [if_pos e, if_neg e2]
    · unfold lgL
      rw [if_neg e, if_neg (fun z => z.1 e2)]
    · unfold lgL
      rw [if_neg e, if_pos ⟨e2, by omega⟩]
    · unfold lgL
      rw [if_neg e, if_neg (fun z => e3 (by omega))]
  unfold wpX11_offGoes wpX11_hourNow wpX11_hourOf wpX11_quarterNow
  refine placeOf_ok hq ⟨by omega, by omega, by omega, ?_⟩
  have d1 : Int.tdiv (r 27 0 t) 60 = r 27 0 t / 60 := Int.tdiv_eq_ediv_of_nonneg j.1
  have d2 : Int.tmod (r 27 0 t) 60 = r 27 0 t % 60 := Int.tmod_eq_emod_of_nonneg j.1
  have d4 : Int.tdiv (r 27 0 t % 60) 15 = r 27 0 t % 60 / 15 := Int.tdiv_eq_ediv_of_nonneg (by omega)
  have s1 : Int.tmod (r 27 0 t / 60 + 11) 12 = (r 27 0 t / 60 + 11) % 12 := Int.tmod_eq_emod_of_nonneg (by omega)
  rw [d1, d2, d4, s1, hn]
  rcases hq with rfl | rfl
  · refine ite_p rfl ⟨t0, t4, by omega, by omega, ?_⟩
    unfold stepQ at J28
    rw [if_pos rfl] at J28
    exact J28
  · refine ite_n (by decide) ⟨t0, t4, by omega, by omega, all_eq ⟨by omega, ?_⟩⟩
    unfold stepQ at J28
    rw [if_neg (by decide)] at J28
    refine ite_i (fun e => ?_) (fun e => ?_)
    · rw [e] at J28
      exact J28
    · have e2 : (r 27 0 t % 60 / 15 + 3) % 4 + 1 = r 27 0 t % 60 / 15 := by omega
      rw [e2] at J28
      exact J28
