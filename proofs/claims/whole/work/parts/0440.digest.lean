def hF (h : Int) (f : Int → Int) (b : Int) : Nat → Int
  | 0 => h
  | n + 1 => 31 * hF h f b n + f (b + n)
theorem hF_succ (h : Int) (f : Int → Int) (b : Int) (n : Nat) : hF h f b (n + 1) = 31 * hF h f b n + f (b + n) := rfl
theorem hF_congr {h : Int} {f g : Int → Int} {b d : Int} : ∀ n : Nat, (∀ i : Int, 0 ≤ i → i < n → f (b + i) = g (d + i)) → hF h f b n = hF h g d n := by
  intro n
  induction n with
  | zero => intro _; rfl
  | succ n ih =>
    intro hh
    rw [hF_succ, hF_succ, ih (fun i a b => hh i a (by omega)), hh n (by omega) (by omega)]
theorem told_v {bd bs bw : Int} {G : GG} {c r : MM} (hR : Rel bd bs bw G c r) {n : Int} (n0 : 0 ≤ n) (n1 : n < r 0 10 0) (w : Int) (w0 : 0 ≤ w) (w7 : w ≤ 7) : ∃ v, rg v ∧ (∀ Q : Int → MM → Prop, Q v c → wpX10_told G n w c Q) ∧ (∀ Q : Int → MM → Prop, Q v r → wpX11_trainTells n w r Q) := by
  have T0 := hR.T0
  have T1 := hR.T1
  have I1 := hR.I1
  have I2 := hR.I2
  have I4 := hR.I4
  have I6 := hR.I6
  have I12 := hR.I12
  have E3 := hR.E3
  have E5 := hR.E5
  have E7 := hR.E7
  have E8 := hR.E8
  have E10 := hR.E10
  have H3 := hR.H3
  have K0 := hR.K0
  have e3_n := congrFun E3 n
  have e5_n := congrFun E5 n
  have e7_n := congrFun E7 n
  have e8_n := congrFun E8 n
  have e10_n := congrFun E10 n
  have t1 := T1 n n0 n1
  have i1 := I1 n n0 n1
  have i2 := I2 n n0 n1
  have i4 := I4 n n0 n1
  have i6 := I6 n n0 n1
  have i12 := I12 n n0 n1
  have h3 := H3 n n0 n1
  have td : 0 ≤ r 22 0 n → Int.tdiv (r 22 0 n) 2 = c 2 9 n := fun z => by
    rw [Int.tdiv_eq_ediv_of_nonneg z]
    omega
  have hx : rg n := by omega
  unfold wpX10_told wpX11_trainTells
  rcases (show w = 0 ∨ w = 1 ∨ w = 2 ∨ w = 3 ∨ w = 4 ∨ w = 5 ∨ w = 6 ∨ w = 7 by omega) with rfl | rfl | rfl | rfl | rfl | rfl | rfl | rfl
  · refine ⟨r 11 0 n, by omega, fun Q h => trainOf_ok hR hx (fun _ => by exfalso; omega) (fun _ _ => ite_n (by omega) ⟨by omega, by omega, ite_p rfl (?_)⟩), fun Q h => ⟨by omega, ite_p rfl (⟨n0, by omega, h⟩)⟩⟩
    rw [t1.1]
    exact h
  · refine ⟨r 12 0 n, by omega, fun Q h => trainOf_ok hR hx (fun _ => by exfalso; omega) (fun _ _ => ite_n (by omega) ⟨by omega, by omega, ite_n (by decide) (ite_p rfl (?_))⟩), fun Q h => ⟨by omega, ite_n (by decide) (ite_p rfl (⟨n0, by omega, h⟩))⟩⟩
    rw [t1.2.1]
    exact h
  · by_cases z : r 11 0 n = 1 ∨ r 11 0 n = 3
    · refine ⟨r 14 0 n, by omega, fun Q h => trainOf_ok hR hx (fun _ => by exfalso; omega) (fun _ _ => ite_n (by omega) ⟨by omega, by omega, ite_n (by decide) (ite_n (by decide) (ite_p rfl (?_)))⟩), fun Q h => ⟨by omega, ite_n (by decide) (ite_n (by decide) (ite_p rfl (?_)))⟩⟩
      · unfold wpD_stand wpX9_stand wpX4_stand
        rw [← e3_n] at h
        exact ite_n (by omega) (ite_i (fun _ => h) (fun _ => ite_n (by omega) h))
      · exact isPlate_ok n0 (by omega) (by omega) (fun _ => ite_n (by decide) ⟨n0, by omega, h⟩) (fun y => absurd z y)
    · refine ⟨-9, by omega, fun Q h => trainOf_ok hR hx (fun _ => by exfalso; omega) (fun _ _ => ite_n (by omega) ⟨by omega, by omega, ite_n (by decide) (ite_n (by decide) (ite_p rfl (?_)))⟩), fun Q h => ⟨by omega, ite_n (by decide) (ite_n (by decide) (ite_p rfl (?_)))⟩⟩
      · unfold wpD_stand wpX9_stand wpX4_stand
        exact ite_i (fun _ => h) (fun _ => ite_n (by omega) (ite_p (by omega) h))
      · exact isPlate_ok n0 (by omega) (by omega) (fun y => absurd y z) (fun _ => ite_p rfl h)
  · refine ⟨r 18 0 n, by omega, fun Q h => trainOf_ok hR hx (fun _ => by exfalso; omega) (fun _ _ => ite_n (by omega) ⟨by omega, by omega, ite_n (by decide) (ite_n (by decide) (ite_n (by decide) (ite_p rfl (?_))))⟩), fun Q h => ⟨by omega, ite_n (by decide) (ite_n (by decide) (ite_n (by decide) (ite_p rfl (⟨n0, by omega, h⟩))))⟩⟩
    rw [e5_n]
    exact h
  · refine ⟨r 20 0 n, by omega, fun Q h => trainOf_ok hR hx (fun _ => by exfalso; omega) (fun _ _ => ite_n (by omega) ⟨by omega, by omega, ite_n (by decide) (ite_n (by decide) (ite_n (by decide) (ite_n (by decide) (ite_p rfl (?_)))))⟩), fun Q h => ⟨by omega, ite_n (by decide) (ite_n (by decide) (ite_n (by decide) (ite_n (by decide) (ite_p rfl (⟨n0, by omega, h⟩)))))⟩⟩
    rw [e7_n]
    exact h
  · refine ⟨r 21 0 n, by omega, fun Q h => trainOf_ok hR hx (fun _ => by exfalso; omega) (fun _ _ => ite_n (by omega) ⟨by omega, by omega, ite_n (by decide) (ite_n (by decide) (ite_n (by decide) (ite_n (by decide) (ite_n (by decide) (ite_p rfl (?_))))))⟩), fun Q h => ⟨by omega, ite_n (by decide) (ite_n (by decide) (ite_n (by decide) (ite_n (by decide) (ite_n (by decide) (ite_p rfl (⟨n0, by omega, h⟩))))))⟩⟩
    rw [e8_n]
    exact h
  · refine ⟨c 2 9 n, by omega, fun Q h => trainOf_ok hR hx (fun _ => by exfalso; omega) (fun _ _ => ite_n (by omega) ⟨by omega, by omega, ite_n (by decide) (ite_n (by decide) (ite_n (by decide) (ite_n (by decide) (ite_n (by decide) (ite_n (by decide) (ite_p rfl (h)))))))⟩), fun Q h => ⟨by omega, ite_n (by decide) (ite_n (by decide) (ite_n (by decide) (ite_n (by decide) (ite_n (by decide) (ite_n (by decide) (ite_p rfl (⟨n0, by omega, by omega, ?_⟩)))))))⟩⟩
    refine ite_i (fun z => ?_) (fun z => ?_)
    · rw [td z]
      exact h
    · have e9 : c 2 9 n = -9 := by omega
      rw [e9] at h
      exact h
  · refine ⟨r 24 0 n, by omega, fun Q h => trainOf_ok hR hx (fun _ => by exfalso; omega) (fun _ _ => ite_n (by omega) ⟨by omega, by omega, ite_n (by decide) (ite_n (by decide) (ite_n (by decide) (ite_n (by decide) (ite_n (by decide) (ite_n (by decide) (ite_n (by decide) (ite_p rfl ?_)))))))⟩), fun Q h => ⟨by omega, ite_n (by decide) (ite_n (by decide) (ite_n (by decide) (ite_n (by decide) (ite_n (by decide) (ite_n (by decide) (ite_n (by decide) (⟨n0, by omega, h⟩)))))))⟩⟩
    rw [e10_n]
    exact h
theorem tells_v {bd bs bw : Int} {G : GG} {c r : MM} (hR : Rel bd bs bw G c r) {t : Int} (t0 : 0 ≤ t) (t4 : t < 4) (ht : r 26 0 t ≠ 0) (w : Int) (w0 : 0 ≤ w) (w8 : w ≤ 8) : ∃ v, rg v ∧ (∀ Q : Int → MM → Prop, Q v c → wpX10_tells G t w c Q) ∧ (∀ Q : Int → MM → Prop, Q v r → wpX11_towerTells t w r Q) := by
  have W1 := hR.W1
  have J1 := hR.J1
  have W2 := hR.W2
  have W4 := hR.W4
  have W5 := hR.W5
  have W6 := hR.W6
  have J2 := hR.J2
  have J4 := hR.J4
  have J5 := hR.J5
  have J6 := hR.J6
  have H1 := hR.H1
  have H2 := hR.H2
  have H4 := hR.H4
  have T0 := hR.T0
  have K0 := hR.K0
  have w1_t := congrFun W1 t
  have w2_t := congrFun W2 t
  have w4_t := congrFun W4 t
  have w5_t := congrFun W5 t
  have w6_t := congrFun W6 t
  have j1 := J1 t t0 t4
  have j2 := J2 t t0 t4
  have j4 := J4 t t0 t4
  have j5 := J5 t t0 t4
  have j6 := J6 t t0 t4
  have k1 := H1 t t0 t4
  have k2 := H2 (2 * t) (by omega) (by omega)
  have k3 := H2 (2 * t + 1) (by omega) (by omega)
  have k4 := H4 (2 * t) (by omega) (by omega)
  have k5 := H4 (2 * t + 1) (by omega) (by omega)
  have sg := silR_rng hR t0 t4
  have hx : rg t := by omega
  have cls : ∀ Q : Int → MM → Prop, (if w = 0 then (Q (c 3 1 t) c) else (if w = 1 then (Q (c 3 3 t) c) else (if w = 2 then (Q (c 3 4 t) c) else (if w = 3 then (rg (c 3 5 t) ∧ (if (c 3 5 t) = 0 then (Q 0 c) else (Q 1 c))) else (if w = 4 then (wpX8_numberIn G t 0 c (fun v18 μ19 => Q v18 μ19)) else (if w = 5 then (wpX8_numberIn G t 1 c (fun v21 μ22 => Q v21 μ22)) else (if w = 6 then (wpX8_isWarned G t 0 c (fun v24 μ25 => if v24 = 0 then (Q 0 μ25) else (Q 1 μ25))) else (if w = 7 then (wpX8_isWarned G t 1 c (fun v29 μ30 => if v29 = 0 then (Q 0 μ30) else (Q 1 μ30))) else (wpX8_silenceNow G t c (fun v33 μ34 => Q v33 μ34)))))))))) → wpX10_tells G t w c Q := fun Q h => by
    unfold wpX10_tells
    exact towerOf_ok hx (fun _ => by exfalso; omega) (fun _ _ => ite_n (by omega) ⟨t4, by omega, ite_n (by omega) (ite_p (by omega) ⟨by omega, ite_n (by omega) h⟩)⟩)
  unfold wpX11_towerTells
  rcases (show w = 0 ∨ w = 1 ∨ w = 2 ∨ w = 3 ∨ w = 4 ∨ w = 5 ∨ w = 6 ∨ w = 7 ∨ w = 8 by omega) with rfl | rfl | rfl | rfl | rfl | rfl | rfl | rfl | rfl
  · refine ⟨r 27 0 t, by omega, fun Q h => cls Q (ite_p rfl (?_)), fun Q h => ⟨by omega, ite_p rfl (⟨t0, t4, h⟩)⟩⟩
    rw [w2_t]
    exact h
  · refine ⟨r 30 0 t, by omega, fun Q h => cls Q (ite_n (by decide) (ite_p rfl (?_))), fun Q h => ⟨by omega, ite_n (by decide) (ite_p rfl (⟨t0, t4, h⟩))⟩⟩
    rw [w5_t]
    exact h
  · refine ⟨r 29 0 t, by omega, fun Q h => cls Q (ite_n (by decide) (ite_n (by decide) (ite_p rfl (?_)))), fun Q h => ⟨by omega, ite_n (by decide) (ite_n (by decide) (ite_p rfl (⟨t0, t4, h⟩)))⟩⟩
    rw [w4_t]
    exact h
  · refine ⟨r 31 0 t, by omega, fun Q h => cls Q (ite_n (by decide) (ite_n (by decide) (ite_n (by decide) (ite_p rfl (?_))))), fun Q h => ⟨by omega, ite_n (by decide) (ite_n (by decide) (ite_n (by decide) (ite_p rfl (?_))))⟩⟩
    · refine ⟨by omega, ite_i (fun z => ?_) (fun z => ?_)⟩
      · rw [show r 31 0 t = 0 by omega] at h
        exact h
      · rw [show r 31 0 t = 1 by omega] at h
        exact h
    · refine ⟨t0, t4, by omega, ite_i (fun z => ?_) (fun z => ?_)⟩
      · rw [z] at h
        exact h
      · rw [show r 31 0 t = 1 by omega] at h
        exact h
  · refine ⟨r 35 0 (2 * t), by omega, fun Q h => cls Q (ite_n (by decide) (ite_n (by decide) (ite_n (by decide) (ite_n (by decide) (ite_p rfl (?_)))))), fun Q h => ⟨by omega, ite_n (by decide) (ite_n (by decide) (ite_n (by decide) (ite_n (by decide) (ite_p rfl (⟨by omega, by omega, h⟩)))))⟩⟩
    unfold wpX8_numberIn
    refine trainIn_ok (by omega) (fun _ => ?_) (fun z => by exfalso; omega)
    refine ite_i (fun z => ?_) (fun z => ⟨by omega, ?_⟩)
    · rw [show r 35 0 (2 * t) = -9 by omega] at h
      exact h
    · rw [show c 3 6 t = r 35 0 (2 * t) by omega]
      exact h
  · refine ⟨r 35 0 (2 * t + 1), by omega, fun Q h => cls Q (ite_n (by decide) (ite_n (by decide) (ite_n (by decide) (ite_n (by decide) (ite_n (by decide) (ite_p rfl (?_))))))), fun Q h => ⟨by omega, ite_n (by decide) (ite_n (by decide) (ite_n (by decide) (ite_n (by decide) (ite_n (by decide) (ite_p rfl (⟨by omega, by omega, h⟩))))))⟩⟩
    unfold wpX8_numberIn
    refine trainIn_ok (by omega) (fun z => by exfalso; omega) (fun _ => ?_)
    refine ite_i (fun z => ?_) (fun z => ⟨by omega, ?_⟩)
    · rw [show r 35 0 (2 * t + 1) = -9 by omega] at h
      exact h
    · rw [show c 3 7 t = r 35 0 (2 * t + 1) by omega]
      exact h
  · refine ⟨r 36 0 (2 * t), by omega, fun Q h => cls Q (ite_n (by decide) (ite_n (by decide) (ite_n (by decide) (ite_n (by decide) (ite_n (by decide) (ite_n (by decide) (ite_p rfl (?_)))))))), fun Q h => ⟨by omega, ite_n (by decide) (ite_n (by decide) (ite_n (by decide) (ite_n (by decide) (ite_n (by decide) (ite_n (by decide) (ite_p rfl (?_)))))))⟩⟩
    · unfold wpX8_isWarned
      refine trainIn_ok (by omega) (fun _ => ?_) (fun z => by exfalso; omega)
      refine ite_i (fun z => ite_p rfl ?_) (fun z => ?_)
      · rw [k4.2.2 (by omega)] at h
        exact h
      · have e1 : c 3 6 t = r 35 0 (2 * t) := by omega
        have e2 := k4.2.1 (by omega)
        rw [e1, e2]
        refine ⟨by omega, by omega, ite_i (fun y => ite_p rfl ?_) (fun y => ite_n (by decide) ?_)⟩
        · rw [y] at h
          exact h
        · rw [show r 36 0 (2 * t) = 1 by omega] at h
          exact h
    · refine ⟨by omega, by omega, by omega, ite_i (fun y => ?_) (fun y => ?_)⟩
      · rw [y] at h
        exact h
      · rw [show r 36 0 (2 * t) = 1 by omega] at h
        exact h
  · refine ⟨r 36 0 (2 * t + 1), by omega, fun Q h => cls Q (ite_n (by decide) (ite_n (by decide) (ite_n (by decide) (ite_n (by decide) (ite_n (by decide) (ite_n (by decide) (ite_n (by decide) (ite_p rfl (?_))))))))), fun Q h => ⟨by omega, ite_n (by decide) (ite_n (by decide) (ite_n (by decide) (ite_n (by decide) (ite_n (by decide) (ite_n (by decide) (ite_n (by decide) (ite_p rfl (?_))))))))⟩⟩
    · unfold wpX8_isWarned
      refine trainIn_ok (by omega) (fun z => by exfalso; omega) (fun _ => ?_)
      refine ite_i (fun z => ite_p rfl ?_) (fun z => ?_)
      · rw [k5.2.2 (by omega)] at h
        exact h
      · have e1 : c 3 7 t = r 35 0 (2 * t + 1) := by omega
        have e2 := k5.2.1 (by omega)
        rw [e1, e2]
        refine ⟨by omega, by omega, ite_i (fun y => ite_p rfl ?_) (fun y => ite_n (by decide) ?_)⟩
        · rw [y] at h
          exact h
        · rw [show r 36 0 (2 * t + 1) = 1 by omega] at h
          exact h
    · refine ⟨by omega, by omega, by omega, ite_i (fun y => ?_) (fun y => ?_)⟩
      · rw [y] at h
        exact h
      · rw [show r 36 0 (2 * t + 1) = 1 by omega] at h
        exact h
  · exact ⟨silR t r, by omega, fun Q h => cls Q (ite_n (by decide) (ite_n (by decide) (ite_n (by decide) (ite_n (by decide) (ite_n (by decide) (ite_n (by decide) (ite_n (by decide) (ite_n (by decide) (silenceNow_ok hR t0 t4 h))))))))), fun Q h => ⟨by omega, ite_n (by decide) (ite_n (by decide) (ite_n (by decide) (ite_n (by decide) (ite_n (by decide) (ite_n (by decide) (ite_n (by decide) (ite_n (by decide) (silenceOf_ok hR t0 t4 h))))))))⟩⟩
