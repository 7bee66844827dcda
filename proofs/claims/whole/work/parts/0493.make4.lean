theorem Rel.make {bd bs bw : Int} {G : GG} {c r c' r' : MM} (hR : Rel bd bs bw G c r) {n kd N P : Int} {sv pv : Int → Int} (en : r 0 10 0 = n) (hn : n < 16) (hbw : 1000 ≤ bw) (hkd : 0 ≤ kd ∧ kd ≤ 3) (hN : (kd = 0 → N = 0) ∧ (kd ≠ 0 → 1 ≤ N ∧ N ≤ 24)) (hP : (kd = 3 → 1 ≤ P ∧ P ≤ 48) ∧ (kd ≠ 3 → P = 0)) (hsv : ∀ j, 0 ≤ j → j < N → 1 ≤ sv j ∧ sv j ≤ 24) (hpv : ∀ j, 0 ≤ j → j < P → 0 ≤ pv j ∧ pv j ≤ 255)
    (hc : ∀ f e : Nat, ¬ (f = 2 ∨ f = 9 ∨ f = 10 ∨ f = 21 ∨ (f = 0 ∧ e = 2)) → c' f e = c f e) (hr : ∀ f e : Nat, ¬ (f = 11 ∨ f = 12 ∨ f = 13 ∨ f = 15 ∨ f = 16 ∨ f = 18 ∨ f = 19 ∨ f = 20 ∨ f = 22 ∨ (f = 0 ∧ e = 10)) → r' f e = r f e)
    (c2 : ∀ (e : Nat) (j : Int), c' 2 e j = if j = n then mkT e else c 2 e j) (c9 : ∀ j, c' 9 0 j = if 24 * n ≤ j ∧ j < 24 * n + N then sv (j - 24 * n) else c 9 0 j) (c10 : ∀ j, c' 10 0 j = if 48 * n ≤ j ∧ j < 48 * n + P then pv (j - 48 * n) else c 10 0 j) (c21 : ∀ j, c' 21 0 j = if j = n then n else c 21 0 j) (c02 : c' 0 2 0 = n + 1)
    (r11 : ∀ j, r' 11 0 j = if j = n then kd else r 11 0 j) (r12 : ∀ j, r' 12 0 j = if j = n then N else r 12 0 j) (r15 : ∀ j, r' 15 0 j = if j = n then P else r 15 0 j) (r18 : ∀ j, r' 18 0 j = if j = n then 30 else r 18 0 j) (r19 : ∀ j, r' 19 0 j = if j = n then 1000 else r 19 0 j) (r20 : ∀ j, r' 20 0 j = if j = n then 1000 else r 20 0 j) (r22 : ∀ j, r' 22 0 j = if j = n then -9 else r 22 0 j) (r10 : r' 0 10 0 = n + 1) (r13 : ∀ j, r' 13 0 j = if 24 * n ≤ j ∧ j < 24 * n + N then sv (j - 24 * n) else r 13 0 j) (r16 : ∀ j, r' 16 0 j = if 48 * n ≤ j ∧ j < 48 * n + P then pv (j - 48 * n) else r 16 0 j) :
    Rel bd bs bw (mkG G kd N P) c' r' := by
  have T0 := hR.T0
  have T1 := hR.T1
  have T2 := hR.T2
  have T3 := hR.T3
  have E1 := hR.E1
  have E2 := hR.E2
  have E3 := hR.E3
  have E4 := hR.E4
  have E5 := hR.E5
  have E6 := hR.E6
  have E7 := hR.E7
  have E8 := hR.E8
  have E9 := hR.E9
  have E10 := hR.E10
  have E11 := hR.E11
  have I1 := hR.I1
  have I2 := hR.I2
  have I3 := hR.I3
  have I4 := hR.I4
  have I5 := hR.I5
  have I6 := hR.I6
  have I7 := hR.I7
  have I8 := hR.I8
  have I9 := hR.I9
  have I10 := hR.I10
  have I11 := hR.I11
  have I12 := hR.I12
  have I13 := hR.I13
  have I14 := hR.I14
  have H2 := hR.H2
  have H3 := hR.H3
  have H4 := hR.H4
  have n0 : 0 ≤ n := by rw [← en]; exact T0.2.2.1
  have eG : G 0 0 = n := by rw [← en]; exact T0.1
  have z := I13 n (by omega)
  have u14 : r' 14 0 = r 14 0 := hr 14 0 (by decide)
  have u17 : r' 17 0 = r 17 0 := hr 17 0 (by decide)
  have u21 : r' 21 0 = r 21 0 := hr 21 0 (by decide)
  have u23 : r' 23 0 = r 23 0 := hr 23 0 (by decide)
  have u24 : r' 24 0 = r 24 0 := hr 24 0 (by decide)
  have u25 : r' 25 0 = r 25 0 := hr 25 0 (by decide)
  have u35 : r' 35 0 = r 35 0 := hr 35 0 (by decide)
  have u36 : r' 36 0 = r 36 0 := hr 36 0 (by decide)
  have u06 : r' 0 6 = r 0 6 := hr 0 6 (by decide)
  refine ⟨hR.K0, (by rw [hc 0 12 (by decide), hr 0 0 (by decide)]; exact hR.S1), (by rw [hc 19 0 (by decide), hr 1 0 (by decide)]; exact hR.S2), (by rw [hc 0 11 (by decide), hr 0 2 (by decide)]; exact hR.S3), (by rw [hc 0 4 (by decide), hr 0 5 (by decide)]; exact hR.S4), (by rw [hr 0 5 (by decide)]; exact hR.S5), (by rw [hc 8 0 (by decide), hr 8 0 (by decide)]; exact hR.R1), (by rw [hr 8 0 (by decide)]; exact hR.R2), (by rw [hc 1 1 (by decide), hr 7 0 (by decide)]; exact hR.R3), ?_, ?_, ?_, ?_, ?_, ?_, ?_, ?_, ?_, ?_, ?_, ?_, ?_, ?_, ?_, ?_, ?_, ?_, ?_, ?_, ?_, ?_, ?_, ?_, ?_, ?_, ?_, ?_, ?_, (by rw [hc 3 0 (by decide), hr 26 0 (by decide)]; exact hR.W1), (by rw [hc 3 1 (by decide), hr 27 0 (by decide)]; exact hR.W2), (by rw [hc 3 2 (by decide), hr 28 0 (by decide)]; exact hR.W3), (by rw [hc 3 4 (by decide), hr 29 0 (by decide)]; exact hR.W4), (by rw [hc 3 3 (by decide), hr 30 0 (by decide)]; exact hR.W5), (by rw [hc 3 5 (by decide), hr 31 0 (by decide)]; exact hR.W6), (by rw [hc 3 8 (by decide), hr 32 0 (by decide)]; exact hR.W7), (by rw [hc 3 9 (by decide), hr 33 0 (by decide)]; exact hR.W8), (by rw [hc 3 10 (by decide), hr 32 0 (by decide), hr 33 0 (by decide), hr 34 0 (by decide)]; exact hR.W9), (by rw [hr 26 0 (by decide)]; exact hR.J1), (by rw [hr 27 0 (by decide)]; exact hR.J2), (by rw [hr 28 0 (by decide)]; exact hR.J3), (by rw [hr 29 0 (by decide)]; exact hR.J4), (by rw [hr 30 0 (by decide)]; exact hR.J5), (by rw [hr 31 0 (by decide)]; exact hR.J6), (by rw [hr 32 0 (by decide), hr 33 0 (by decide), hr 34 0 (by decide)]; exact hR.J7), (by rw [hc 3 6 (by decide), hc 3 7 (by decide), hr 35 0 (by decide)]; exact hR.H1), ?_, ?_, ?_, (by rw [hc 4 4 (by decide), hc 4 5 (by decide), hr 37 0 (by decide)]; exact hR.L1), (by rw [hc 4 4 (by decide), hc 11 0 (by decide), hc 12 0 (by decide), hc 13 0 (by decide), hc 14 0 (by decide), hr 37 0 (by decide), hr 38 0 (by decide)]; exact hR.L2), (by rw [hc 5 1 (by decide), hr 0 40 (by decide)]; exact hR.A1), (by rw [hc 5 1 (by decide), hc 15 0 (by decide), hr 41 0 (by decide)]; exact hR.A2), (by rw [hc 0 7 (by decide)]; exact hR.F1), (by rw [hc 0 7 (by decide), hc 0 8 (by decide), hr 0 43 (by decide)]; exact hR.F2), (by rw [hc 0 7 (by decide), hc 0 9 (by decide), hr 0 44 (by decide)]; exact hR.F3), (by rw [hc 7 1 (by decide), hr 0 48 (by decide)]; exact hR.Q1), (by rw [hc 17 0 (by decide), hr 49 0 (by decide)]; exact hR.Q2), (by rw [hr 0 48 (by decide), hr 49 0 (by decide)]; exact hR.Q3), (by rw [hc 7 7 (by decide), hr 0 3 (by decide)]; exact hR.Q4), (by rw [hc 7 8 (by decide), hr 0 4 (by decide)]; exact hR.Q5), (by rw [hc 7 3 (by decide), hr 0 50 (by decide)]; exact hR.Q6), (by rw [hc 18 0 (by decide), hr 0 50 (by decide), hr 51 0 (by decide)]; exact hR.Q7)⟩
  · rw [mkG_0, r10, c02, eG]
    omega
  · intro m a b
    rw [r10] at b
    rw [r11, r12, r15]
    by_cases e : m = n
    · subst e
      rw [if_pos rfl, if_pos rfl, if_pos rfl, ← eG, mkG_1, mkG_2, mkG_3]
      exact ⟨rfl, rfl, rfl⟩
    · rw [if_neg e, if_neg e, if_neg e, mkG_i (by decide) (by rw [eG]; exact e), mkG_i (by decide) (by rw [eG]; exact e), mkG_i (by decide) (by rw [eG]; exact e)]
      exact T1 m a (by omega)
  · intro m a b
    rw [r10] at b
    rw [c21]
    by_cases e : m = n
    · rw [if_pos e, e]
    · rw [if_neg e]
      exact T2 m a (by omega)
  · intro m a
    rw [r10] at a
    rw [c21, if_neg (by omega)]
    exact T3 m (by omega)
  · funext j
    rw [c9, r13, congrFun E1 j]
  · funext j
    rw [c10, r16, congrFun E2 j]
  · rw [u14]
    funext j
    rw [c2]
    by_cases e : j = n
    · rw [if_pos e, e]
      show (0 : Int) = _
      omega
    · rw [if_neg e]
      exact congrFun E3 j
  · rw [u17]
    funext j
    rw [c2]
    by_cases e : j = n
    · rw [if_pos e, e]
      show (0 : Int) = _
      omega
    · rw [if_neg e]
      exact congrFun E4 j
  · funext j
    rw [c2, r18, congrFun E5 j]
    rfl
  · funext j
    rw [c2, r19, congrFun E6 j]
    rfl
  · funext j
    rw [c2, r20, congrFun E7 j]
    rfl
  · rw [u21]
    funext j
    rw [c2]
    by_cases e : j = n
    · rw [if_pos e, e]
      show (0 : Int) = _
      omega
    · rw [if_neg e]
      exact congrFun E8 j
  · rw [u23]
    funext j
    rw [c2]
    by_cases e : j = n
    · rw [if_pos e, e]
      show (0 : Int) = _
      omega
    · rw [if_neg e]
      exact congrFun E9 j
  · rw [u24]
    funext j
    rw [c2]
    by_cases e : j = n
    · rw [if_pos e, e]
      show (0 : Int) = _
      omega
    · rw [if_neg e]
      exact congrFun E10 j
  · rw [u25]
    funext j
    rw [c2]
    by_cases e : j = n
    · rw [if_pos e, e]
      show (0 : Int) = _
      omega
    · rw [if_neg e]
      exact congrFun E11 j
  · intro m a b
    rw [r10] at b
    rw [r11, r12]
    by_cases e : m = n
    · subst e
      rw [if_pos rfl, if_pos rfl]
      exact ⟨hkd, hN.1, hN.2⟩
    · rw [if_neg e, if_neg e]
      exact I1 m a (by omega)
  · intro m a b
    rw [r10] at b
    rw [r11, r12, u14]
    by_cases e : m = n
    · subst e
      rw [if_pos rfl, if_pos rfl]
      refine ⟨by omega, fun q => ?_, fun q => by omega⟩
      have := hN.2 (by omega)
      omega
    · rw [if_neg e, if_neg e]
      exact I2 m a (by omega)
  · intro m j a b x y
    rw [r10] at b
    rw [r12] at y
    rw [r13]
    by_cases e : m = n
    · subst e
      rw [if_pos rfl] at y
      rw [if_pos (by omega)]
      have := hsv (24 * m + j - 24 * m) (by omega) (by omega)
      exact this
    · rw [if_neg e] at y
      have q := I1 m a (by omega)
      have q2 := I3 m j a (by omega) x y
      have q3 : r 12 0 m ≤ 24 := by
        by_cases z0 : r 11 0 m = 0
        · have := q.2.1 z0
          omega
        · exact (q.2.2 z0).2
      rw [if_neg (by omega)]
      exact q2
  · intro m a b
    rw [r10] at b
    rw [r18]
    by_cases e : m = n
    · subst e
      rw [if_pos rfl]
      omega
    · rw [if_neg e]
      exact I4 m a (by omega)
  · intro m a b
    rw [r10] at b
    rw [r19]
    by_cases e : m = n
    · subst e
      rw [if_pos rfl]
      omega
    · rw [if_neg e]
      exact I5 m a (by omega)
  · intro m a b
    rw [r10] at b
    rw [r20, u24]
    by_cases e : m = n
    · subst e
      rw [if_pos rfl]
      omega
    · rw [if_neg e]
      exact I6 m a (by omega)
  · intro m a b
    rw [r10] at b
    rw [u23]
    by_cases e : m = n
    · subst e
      have k0 := hR.K0
      omega
    · exact I7 m a (by omega)
  · intro m a b
    rw [r10] at b
    rw [u25]
    by_cases e : m = n
    · subst e
      have k0 := hR.K0
      omega
    · exact I8 m a (by omega)
  · intro m a b
    rw [r10] at b
    rw [r11, r15]
    by_cases e : m = n
    · subst e
      rw [if_pos rfl, if_pos rfl]
      exact hP
    · rw [if_neg e, if_neg e]
      exact I9 m a (by omega)
  · intro m a b
    rw [r10] at b
    rw [r11, r15, u17]
    by_cases e : m = n
    · subst e
      rw [if_pos rfl, if_pos rfl]
      refine ⟨by omega, fun q => ?_, fun q => by omega⟩
      have := hP.1 q
      omega
    · rw [if_neg e, if_neg e]
      exact I10 m a (by omega)
  · intro j
    rw [r16]
    by_cases e : 48 * n ≤ j ∧ j < 48 * n + P
    · rw [if_pos e]
      exact hpv _ (by omega) (by omega)
    · rw [if_neg e]
      exact I11 j
  · intro m a b
    rw [r10] at b
    rw [u21]
    by_cases e : m = n
    · subst e
      have k0 := hR.K0
      omega
    · exact I12 m a (by omega)
  · intro m a
    rw [r10] at a
    have q := I13 m (by omega)
    rw [r12, r15, u14, u17, u21, u23, u24, u25, if_neg (by omega), if_neg (by omega)]
    exact q
  · rw [r10, u24, u06, I14, en, show (n + 1).toNat = n.toNat + 1 by omega]
    show _ = sumI (r 24 0) n.toNat + r 24 0 (n.toNat : Int)
    rw [show ((n.toNat : Nat) : Int) = n by omega]
    omega
  · intro q a b
    rw [u35, r10, r22]
    rcases H2 q a b with h | h
    · exact Or.inl ⟨h.1, by omega, by rw [if_neg (by omega)]; exact h.2.2⟩
    · exact Or.inr h
  · intro m a b
    rw [r10] at b
    rw [r22, u35, c2]
    by_cases e : m = n
    · subst e
      rw [if_pos rfl, if_pos rfl]
      exact Or.inl ⟨rfl, rfl⟩
    · rw [if_neg e, if_neg e]
      exact H3 m a (by omega)
  · intro q a b
    rw [u35, u36, c2]
    have h := H4 q a b
    refine ⟨h.1, fun g => ?_, h.2.2⟩
    rcases H2 q a b with g2 | g2
    · rw [if_neg (by omega)]
      exact h.2.1 g
    · omega
def kpM (n N P : Int) (sv pv : Int → Int) (c : MM) : MM := ms (ms (mkM n N P sv pv c) 21 0 n n) 0 2 0 (n + 1)
theorem Rel.makeC {bd bs bw : Int} {G : GG} {c r r' : MM} (hR : Rel bd bs bw G c r) {n kd N P : Int} {sv pv : Int → Int} (en : r 0 10 0 = n) (hn : n < 16) (hbw : 1000 ≤ bw) (hkd : 0 ≤ kd ∧ kd ≤ 3) (hN : (kd = 0 → N = 0) ∧ (kd ≠ 0 → 1 ≤ N ∧ N ≤ 24)) (hP : (kd = 3 → 1 ≤ P ∧ P ≤ 48) ∧ (kd ≠ 3 → P = 0)) (hsv : ∀ j, 0 ≤ j → j < N → 1 ≤ sv j ∧ sv j ≤ 24) (hpv : ∀ j, 0 ≤ j → j < P → 0 ≤ pv j ∧ pv j ≤ 255)
    (hr : ∀ f e : Nat, ¬ (f = 11 ∨ f = 12 ∨ f = 13 ∨ f = 15 ∨ f = 16 ∨ f = 18 ∨ f = 19 ∨ f = 20 ∨ f = 22 ∨ (f = 0 ∧ e = 10)) → r' f e = r f e)
    (r11 : ∀ j, r' 11 0 j = if j = n then kd else r 11 0 j) (r12 : ∀ j, r' 12 0 j = if j = n then N else r 12 0 j) (r15 : ∀ j, r' 15 0 j = if j = n then P else r 15 0 j) (r18 : ∀ j, r' 18 0 j = if j = n then 30 else r 18 0 j) (r19 : ∀ j, r' 19 0 j = if j = n then 1000 else r 19 0 j) (r20 : ∀ j, r' 20 0 j = if j = n then 1000 else r 20 0 j) (r22 : ∀ j, r' 22 0 j = if j = n then -9 else r 22 0 j) (r10 : r' 0 10 0 = n + 1) (r13 : ∀ j, r' 13 0 j = if 24 * n ≤ j ∧ j < 24 * n + N then sv (j - 24 * n) else r 13 0 j) (r16 : ∀ j, r' 16 0 j = if 48 * n ≤ j ∧ j < 48 * n + P then pv (j - 48 * n) else r 16 0 j) :
    mkOK G kd N P c ∧ Rel bd bs bw (mkG G kd N P) (kpM n N P sv pv c) r' := by
  refine ⟨?_, hR.make en hn hbw hkd hN hP hsv hpv (fun f e h => ?_) hr (fun e j => ?_) (fun j => ?_) (fun j => ?_) (fun j => ?_) ?_ r11 r12 r15 r18 r19 r20 r22 r10 r13 r16⟩
  · have T0 := hR.T0
    have T2 := hR.T2
    have T3 := hR.T3
    have H1 := hR.H1
    have H2 := hR.H2
    have n0 : 0 ≤ n := by rw [← en]; exact T0.2.2.1
    have eG : G 0 0 = n := by rw [← en]; exact T0.1
    unfold mkOK
    rw [eG]
    refine ⟨⟨by omega, n0, hn⟩, hkd, ?_, ?_, fun j a => ?_, fun t a b => ?_⟩
    · by_cases q : kd = 0
      · have := hN.1 q
        omega
      · have := hN.2 q
        omega
    · by_cases q : kd = 3
      · have := hP.1 q
        omega
      · have := hP.2 q
        omega
    · by_cases q : j < n
      · rw [T2 j a (by omega)]
        exact q
      · rw [T3 j (by omega)]
        omega
    · have q := H1 t a b
      have q2 := H2 (2 * t) (by omega) (by omega)
      have q3 := H2 (2 * t + 1) (by omega) (by omega)
      omega
  · have h2 : ¬ (f = 0 ∧ e = 2) := by omega
    have h3 : ¬ f = 21 := by omega
    funext j
    show ms (ms (mkM n N P sv pv c) 21 0 n n) 0 2 0 (n + 1) f e j = c f e j
    unfold ms
    rw [if_neg (fun q => h2 ⟨q.1, q.2.1⟩), if_neg (fun q => h3 q.1)]
    unfold mkM
    rw [if_neg (by omega), if_neg (by omega), if_neg (by omega)]
  · show ms (ms (mkM n N P sv pv c) 21 0 n n) 0 2 0 (n + 1) 2 e j = _
    rw [ms_ne (by decide), ms_ne (by decide)]
    rfl
  · show ms (ms (mkM n N P sv pv c) 21 0 n n) 0 2 0 (n + 1) 9 0 j = _
    rw [ms_ne (by decide), ms_ne (by decide)]
    simp [mkM]
  · show ms (ms (mkM n N P sv pv c) 21 0 n n) 0 2 0 (n + 1) 10 0 j = _
    rw [ms_ne (by decide), ms_ne (by decide)]
    simp [mkM]
  · show ms (ms (mkM n N P sv pv c) 21 0 n n) 0 2 0 (n + 1) 21 0 j = _
    rw [ms_ne (by decide)]
    unfold ms
    by_cases e : j = n
    · rw [if_pos ⟨rfl, rfl, e⟩, if_pos e]
    · rw [if_neg (fun q => e q.2.2), if_neg e, mkM_o (by decide)]
  · exact ms_at _ _ _ _ _
theorem makes_ok {kd n : Int} {r : MM} {Q : Int → MM → Prop} (en : r 0 10 0 = n) (n0 : 0 ≤ n) (hn : n < 16) (h : Q n (ms (ms (ms (ms (ms (ms r 11 0 n kd) 18 0 n 30) 19 0 n 1000) 20 0 n 1000) 22 0 n (-9)) 0 10 0 (n + 1))) : wpX11_makes kd r Q := by
  unfold wpX11_makes
  subst en
  refine ⟨n0, hn, all_eq ⟨n0, hn, all_eq ⟨n0, hn, all_eq ⟨n0, hn, all_eq ⟨n0, hn, all_eq (all_eq ?_)⟩⟩⟩⟩⟩
  rw [ms_at, show ms (ms (ms (ms (ms r 11 0 (r 0 10 0) kd) 18 0 (ms r 11 0 (r 0 10 0) kd 0 10 0) 30) 19 0 (ms (ms r 11 0 (r 0 10 0) kd) 18 0 (ms r 11 0 (r 0 10 0) kd 0 10 0) 30 0 10 0) 1000) 20 0 (ms (ms (ms r 11 0 (r 0 10 0) kd) 18 0 (ms r 11 0 (r 0 10 0) kd 0 10 0) 30) 19 0 (ms (ms r 11 0 (r 0 10 0) kd) 18 0 (ms r 11 0 (r 0 10 0) kd 0 10 0) 30 0 10 0) 1000 0 10 0) 1000) 22 0 (ms (ms (ms (ms r 11 0 (r 0 10 0) kd) 18 0 (ms r 11 0 (r 0 10 0) kd 0 10 0) 30) 19 0 (ms (ms r 11 0 (r 0 10 0) kd) 18 0 (ms r 11 0 (r 0 10 0) kd 0 10 0) 30 0 10 0) 1000) 20 0 (ms (ms (ms r 11 0 (r 0 10 0) kd) 18 0 (ms r 11 0 (r 0 10 0) kd 0 10 0) 30) 19 0 (ms (ms r 11 0 (r 0 10 0) kd) 18 0 (ms r 11 0 (r 0 10 0) kd 0 10 0) 30 0 10 0) 1000 0 10 0) 1000 0 10 0) (-9) 0 10 0 = r 0 10 0 from rfl]
  have e : r 0 10 0 + 1 - 1 = r 0 10 0 := by omega
  rw [e]
  exact h
/-- notches of a row into a train -/
def cutM (r : MM) (o x : Int) (g : Int → Int) : MM := fun f e y => if f = 13 ∧ e = 0 ∧ o ≤ y ∧ y < o + x then g (y - o) else r f e y
theorem cutM_zero (r : MM) (o : Int) (g : Int → Int) : cutM r o 0 g = r := by
  funext f e y
  exact if_neg (by omega)
theorem cutM_succ (r : MM) (o x : Int) (g : Int → Int) (hx : 0 ≤ x) : ms (cutM r o x g) 13 0 (o + x) (g x) = cutM r o (x + 1) g := by
  funext f e y
  unfold ms cutM
  by_cases h1 : f = 13 ∧ e = 0
  · obtain ⟨rfl, rfl⟩ := h1
    by_cases h2 : y = o + x
    · rw [if_pos ⟨rfl, rfl, h2⟩, if_pos ⟨rfl, rfl, by omega, by omega⟩]
      congr 1
      omega
    · rw [if_neg (fun q => h2 q.2.2)]
      by_cases h3 : o ≤ y ∧ y < o + x
      · rw [if_pos ⟨rfl, rfl, h3⟩, if_pos ⟨rfl, rfl, by omega, by omega⟩]
      · rw [if_neg (by omega), if_neg (by omega)]
  · rw [if_neg (fun q => h1 ⟨q.1, q.2.1⟩), if_neg (fun q => h1 ⟨q.1, q.2.1⟩), if_neg (fun q => h1 ⟨q.1, q.2.1⟩)]
theorem cutOf_ok {x1 kd n N : Int} {r : MM} {Q : Int → MM → Prop} (a : 0 ≤ x1) (b : x1 < 8) (en : r 0 10 0 = n) (n0 : 0 ≤ n) (hn : n < 16) (eN : r 7 0 x1 = N) (N0 : 0 ≤ N) (N24 : N ≤ 24) (h : wpX11_makes kd (cutM (ms r 12 0 n N) (24 * n) N (fun j => r 8 0 (48 * x1 + j))) Q) : wpX11_cutOf x1 kd r Q := by
  unfold wpX11_cutOf
  refine ⟨a, b, by omega, by omega, all_eq ?_⟩
  rw [en, eN]
  have aux : ∀ (m : Nat) (x : Int), 0 ≤ x → x + m = N → wpX11_cutOf_L17 Q (m + 1) x1 kd x (cutM (ms r 12 0 n N) (24 * n) x (fun j => r 8 0 (48 * x1 + j))) := by
    intro m
    induction m with
    | zero =>
      intro x hx he
      have e : x = N := by omega
      subst e
      have e7 : cutM (ms r 12 0 n x) (24 * n) x (fun j => r 8 0 (48 * x1 + j)) 7 0 x1 = x := eN
      exact ⟨a, b, ⟨by omega, by omega⟩, by rw [e7]; exact ⟨by omega, by omega⟩, ite_p (by rw [e7]; omega) h⟩
    | succ m ih =>
      intro x hx he
      have e7 : cutM (ms r 12 0 n N) (24 * n) x (fun j => r 8 0 (48 * x1 + j)) 7 0 x1 = N := eN
      have e10 : cutM (ms r 12 0 n N) (24 * n) x (fun j => r 8 0 (48 * x1 + j)) 0 10 0 = n := en
      have e8 : cutM (ms r 12 0 n N) (24 * n) x (fun j => r 8 0 (48 * x1 + j)) 8 0 (48 * x1 + x) = r 8 0 (48 * x1 + x) := rfl
      refine ⟨a, b, ⟨by omega, by omega⟩, by rw [e7]; exact ⟨by omega, by omega⟩, ite_n (by rw [e7]; omega) ⟨by omega, by omega, by rw [e10]; omega, by rw [e10]; omega, all_eq ?_⟩⟩
      rw [e10, e8, cutM_succ _ _ _ (fun j => r 8 0 (48 * x1 + j)) hx]
      exact ih (x + 1) (by omega) (by omega)
  refine ⟨N.toNat + 1, ?_⟩
  have := aux N.toNat 0 (by decide) (by omega)
  rwa [cutM_zero] at this
def pinM (r : MM) (o x : Int) (g : Int → Int) : MM := fun f e y => if f = 16 ∧ e = 0 ∧ o ≤ y ∧ y < o + x then g (y - o) else r f e y
theorem pinM_zero (r : MM) (o : Int) (g : Int → Int) : pinM r o 0 g = r := by
  funext f e y
  exact if_neg (by omega)
theorem pinM_succ (r : MM) (o x : Int) (g : Int → Int) (hx : 0 ≤ x) : ms (pinM r o x g) 16 0 (o + x) (g x) = pinM r o (x + 1) g := by
  funext f e y
  unfold ms pinM
  by_cases h1 : f = 16 ∧ e = 0
  · obtain ⟨rfl, rfl⟩ := h1
    by_cases h2 : y = o + x
    · rw [if_pos ⟨rfl, rfl, h2⟩, if_pos ⟨rfl, rfl, by omega, by omega⟩]
      congr 1
      omega
    · rw [if_neg (fun q => h2 q.2.2)]
      by_cases h3 : o ≤ y ∧ y < o + x
      · rw [if_pos ⟨rfl, rfl, h3⟩, if_pos ⟨rfl, rfl, by omega, by omega⟩]
      · rw [if_neg (by omega), if_neg (by omega)]
  · rw [if_neg (fun q => h1 ⟨q.1, q.2.1⟩), if_neg (fun q => h1 ⟨q.1, q.2.1⟩), if_neg (fun q => h1 ⟨q.1, q.2.1⟩)]
theorem pinsOf_ok {x1 x2 n P : Int} {r : MM} {Q : Int → MM → Prop} (a : 0 ≤ x2) (b : x2 < 8) (en : r 0 10 0 = n) (n0 : 0 ≤ n) (hn : n < 16) (eP : r 7 0 x2 = P) (P0 : 0 ≤ P) (P48 : P ≤ 48) (h : wpX11_cutOf x1 3 (pinM r (48 * n) P (fun j => iand (r 8 0 (48 * x2 + j)) 255)) (fun v u => Q v u)) : ∃ f, wpX11_barrel_L92 Q f x1 x2 0 r := by
  have aux : ∀ (m : Nat) (x : Int), 0 ≤ x → x + m = P → wpX11_barrel_L92 Q (m + 1) x1 x2 x (pinM r (48 * n) x (fun j => iand (r 8 0 (48 * x2 + j)) 255)) := by
    intro m
    induction m with
    | zero =>
      intro x hx he
      have e : x = P := by omega
      subst e
      have e7 : pinM r (48 * n) x (fun j => iand (r 8 0 (48 * x2 + j)) 255) 7 0 x2 = x := eP
      exact ⟨a, b, ⟨by omega, by omega⟩, by rw [e7]; exact ⟨by omega, by omega⟩, ite_p (by rw [e7]; omega) h⟩
    | succ m ih =>
      intro x hx he
      have e7 : pinM r (48 * n) x (fun j => iand (r 8 0 (48 * x2 + j)) 255) 7 0 x2 = P := eP
      have e10 : pinM r (48 * n) x (fun j => iand (r 8 0 (48 * x2 + j)) 255) 0 10 0 = n := en
      have e8 : pinM r (48 * n) x (fun j => iand (r 8 0 (48 * x2 + j)) 255) 8 0 (48 * x2 + x) = r 8 0 (48 * x2 + x) := rfl
      refine ⟨a, b, ⟨by omega, by omega⟩, by rw [e7]; exact ⟨by omega, by omega⟩, ite_n (by rw [e7]; omega) ⟨by omega, by omega, by rw [e10]; omega, by rw [e10]; omega, all_eq ?_⟩⟩
      rw [e10, e8, pinM_succ _ _ _ (fun j => iand (r 8 0 (48 * x2 + j)) 255) hx]
      exact ih (x + 1) (by omega) (by omega)
  refine ⟨P.toNat + 1, ?_⟩
  have := aux P.toNat 0 (by decide) (by omega)
  rwa [pinM_zero] at this
