theorem ms_other (μ : MM) {k e' f e : Nat} (h : ¬ (f = k ∧ e = e')) (j v : Int) : ms μ k e' j v f e = μ f e := funext fun _ => if_neg (fun q => h ⟨q.1, q.2.1⟩)
def GC (c0 c : MM) : Prop := ∀ f e : Nat, ¬ (f = 18 ∨ (f = 7 ∧ e ≠ 1)) → c f e = c0 f e
def GR (r0 r : MM) : Prop := ∀ f e : Nat, ¬ (f = 51 ∨ f = 52 ∨ (f = 0 ∧ (e = 53 ∨ e = 54 ∨ e = 55))) → r f e = r0 f e
theorem GC.set {c0 c : MM} (h : GC c0 c) {k e' : Nat} (hk : k = 18 ∨ (k = 7 ∧ e' ≠ 1)) (j v : Int) : GC c0 (ms c k e' j v) := by
  intro f e hf
  rw [ms_other _ (fun q => hf (by rw [q.1, q.2]; exact hk))]
  exact h f e hf
theorem GR.set {r0 r : MM} (h : GR r0 r) {k e' : Nat} (hk : k = 51 ∨ k = 52 ∨ (k = 0 ∧ (e' = 53 ∨ e' = 54 ∨ e' = 55))) (j v : Int) : GR r0 (ms r k e' j v) := by
  intro f e hf
  rw [ms_other _ (fun q => hf (by rw [q.1, q.2]; exact hk))]
  exact h f e hf
def absI (x : Int) : Int := if 0 ≤ x then x else -x
def GSt (n U V : Int) (c r : MM) : Prop := r 0 55 0 = 1 ∧ c 7 3 0 = 2 * n ∧ r 0 53 0 = c 7 7 0 ∧ r 0 54 0 = c 7 8 0 ∧ (1 ≤ c 7 7 0 ∧ c 7 7 0 ≤ 40000) ∧ (1 ≤ c 7 8 0 ∧ c 7 8 0 ≤ 40000) ∧ c 7 6 0 = absI (c 7 7 0 * V - U * c 7 8 0) ∧ (∀ i, 0 ≤ i → i < 2 * n → c 18 0 i = r 51 0 i)
theorem mul_rng {x y X Y : Int} (x0 : 0 ≤ x) (x1 : x ≤ X) (y0 : 0 ≤ y) (y1 : y ≤ Y) : 0 ≤ x * y ∧ x * y ≤ X * Y := ⟨Int.mul_nonneg x0 y0, Int.mul_le_mul x1 y1 y0 (by omega)⟩
theorem absI_rng {x X : Int} (h0 : -X ≤ x) (h1 : x ≤ X) : 0 ≤ absI x ∧ absI x ≤ X := by
  unfold absI
  split <;> omega
theorem differs_ok {a b U V : Int} {r : MM} {Q : Int → MM → Prop} (h : rl (a * V - U * b)) (hQ : Q (absI (a * V - U * b)) r) : wpX11_differs a b U V r Q := by
  unfold wpX11_differs
  unfold absI at hQ
  refine all_eq ⟨h, ite_i (fun z => ?_) (fun z => ?_)⟩
  · rw [if_pos z] at hQ
    exact hQ
  · rw [if_neg z] at hQ
    exact hQ
theorem gap_rng {up lo U V : Int} (u0 : 1 ≤ up) (u1 : up ≤ 40000) (l0 : 1 ≤ lo) (l1 : lo ≤ 40000) (U0 : 1 ≤ U) (U1 : U ≤ 10000) (V0 : 1 ≤ V) (V1 : V ≤ 10000) : -400000000 ≤ up * V - U * lo ∧ up * V - U * lo ≤ 400000000 ∧ 0 ≤ absI (up * V - U * lo) ∧ absI (up * V - U * lo) ≤ 400000000 := by
  have a := mul_rng (show 0 ≤ up by omega) u1 (show 0 ≤ V by omega) V1
  have b := mul_rng (show 0 ≤ U by omega) U1 (show 0 ≤ lo by omega) l1
  have c := absI_rng (x := up * V - U * lo) (X := 400000000) (by omega) (by omega)
  omega
/-! one offer of gears: a over b, and where n = 2 also p over q -/
theorem gear_ok {n U V : Int} {c0 r0 c r : MM} {G : GG} (hn : n = 1 ∨ n = 2) (U0 : 1 ≤ U) (U1 : U ≤ 10000) (V0 : 1 ≤ V) (V1 : V ≤ 10000) (hc : GC c0 c) (hr : GR r0 r) (h4 : c 7 4 0 = U) (h5 : c 7 5 0 = V) (hst : (r 0 55 0 = 0 ∧ c 7 3 0 = 0) ∨ GSt n U V c r) {a b p q : Int} {up lo ta tb tp tq : Int} (a0 : 0 ≤ a) (a1 : a < 12) (b0 : 0 ≤ b) (b1 : b < 12) (hpq : (n = 1 ∧ p = -9 ∧ q = -9 ∧ tp = 1 ∧ tq = 1) ∨ (n = 2 ∧ (0 ≤ p ∧ p < 12) ∧ (0 ≤ q ∧ q < 12) ∧ c0 17 0 p = tp ∧ c0 17 0 q = tq ∧ r0 49 0 p = tp ∧ r0 49 0 q = tq ∧ r 52 0 2 = p ∧ r 52 0 3 = q)) (cta : c0 17 0 a = ta) (ctb : c0 17 0 b = tb) (rta : r0 49 0 a = ta) (rtb : r0 49 0 b = tb) (ra : r 52 0 0 = a) (rb : r 52 0 1 = b) (ta0 : 1 ≤ ta ∧ ta ≤ 200) (tb0 : 1 ≤ tb ∧ tb ≤ 200) (tp0 : 1 ≤ tp ∧ tp ≤ 200) (tq0 : 1 ≤ tq ∧ tq ≤ 200) (eup : up = ta * tp) (elo : lo = tb * tq) : ∃ c' r', GC c0 c' ∧ GR r0 r' ∧ c' 7 4 0 = U ∧ c' 7 5 0 = V ∧ GSt n U V c' r' ∧ r' 52 0 = r 52 0 ∧ (∀ Q : Int → MM → Prop, Q 0 c' → wpX2_offer G a b p q c Q) ∧ (∀ Q : Int → MM → Prop, Q 0 r' → wpX11_tryGears U V n r Q) := by
  have m1 := mul_rng (show 0 ≤ ta by omega) ta0.2 (show 0 ≤ tp by omega) tp0.2
  have m2 := mul_rng (show 0 ≤ tb by omega) tb0.2 (show 0 ≤ tq by omega) tq0.2
  have m1' : 1 ≤ ta * tp := by
    have := Int.mul_le_mul (show (1 : Int) ≤ ta by omega) (show (1 : Int) ≤ tp by omega) (by decide) (by omega)
    omega
  have m2' : 1 ≤ tb * tq := by
    have := Int.mul_le_mul (show (1 : Int) ≤ tb by omega) (show (1 : Int) ≤ tq by omega) (by decide) (by omega)
    omega
  have up0 : 1 ≤ up ∧ up ≤ 40000 := by omega
  have lo0 : 1 ≤ lo ∧ lo ≤ 40000 := by omega
  have gr := gap_rng up0.1 up0.2 lo0.1 lo0.2 U0 U1 V0 V1
  have h17 : c 17 0 = c0 17 0 := hc 17 0 (by decide)
  have h49 : r 49 0 = r0 49 0 := hr 49 0 (by decide)
  have tooth : ∀ (w tw : Int) (Q : Int → MM → Prop), ((w = -9 ∧ tw = 1) ∨ (0 ≤ w ∧ w < 12 ∧ c0 17 0 w = tw)) → Q tw c → wpX2_teethOr1 G w c Q := by
    intro w tw Q hw k
    unfold wpX2_teethOr1
    rcases hw with ⟨z, z2⟩ | ⟨z, z2, z3⟩
    · subst z2
      exact ⟨by omega, ite_p (by omega) k⟩
    · refine ⟨by omega, ite_n (by omega) (ite_n (by omega) ⟨z, z2, ?_⟩)⟩
      rw [h17, z3]
      exact k
  -- the class reads its numbers
  have cls : ∀ Q : Int → MM → Prop, (rg (c 7 3 0) ∧ (if (c 7 3 0) ≤ 0 then (wpX2_offer_J77 G Q a b p q up lo (absI (up * V - U * lo)) c) else (rl (absI (up * V - U * lo) * (c 7 8 0)) ∧ (rl ((c 7 6 0) * lo) ∧ (if (absI (up * V - U * lo) * (c 7 8 0)) < ((c 7 6 0) * lo) then (wpX2_offer_J77 G Q a b p q up lo (absI (up * V - U * lo)) c) else (Q 0 c)))))) → wpX2_offer G a b p q c Q := by
    intro Q k
    unfold wpX2_offer
    refine tooth a ta _ (Or.inr ⟨a0, a1, cta⟩) ⟨by omega, tooth p tp _ (by omega) ⟨by omega, tooth b tb _ (Or.inr ⟨b0, b1, ctb⟩) ⟨by omega, tooth q tq _ (by omega) ⟨by omega, ?_⟩⟩⟩⟩
    rw [h4, h5, ← eup, ← elo]
    unfold wpJ9_abs_067f4
    unfold absI at k
    refine ⟨by omega, ite_i (fun z => ?_) (fun z => ?_)⟩
    · rw [if_pos z] at k
      exact k
    · rw [if_neg z] at k
      exact k
  -- the reference's numbers
  have ref : ∀ Q : Int → MM → Prop, (rg (r 0 55 0) ∧ (if (r 0 55 0) = 0 then (wpX11_tryGears_J108 Q up lo r) else (rg U ∧ (rg V ∧ (wpX11_differs up lo U V r (fun v8 μ9 => wpX11_differs (μ9 0 53 0) (μ9 0 54 0) U V μ9 (fun v10 μ11 => rl (v8 * (μ9 0 54 0)) ∧ (rl (v10 * lo) ∧ (if (v10 * lo) ≤ (v8 * (μ9 0 54 0)) then (Q 0 μ11) else (wpX11_tryGears_J108 Q up lo μ11)))))))))) → wpX11_tryGears U V n r Q := by
    intro Q k
    unfold wpX11_tryGears
    rcases hpq with ⟨z, z1, z2, z3, z4⟩ | ⟨z, zp, zq, zc1, zc2, zr1, zr2, z5, z6⟩
    · subst z
      refine ⟨2, by decide, by decide, ite_n (by decide) ⟨by decide, by decide, ?_⟩⟩
      rw [show (2 : Int) * 0 = 0 from rfl, show (0 : Int) + 1 = 1 from rfl, ra, rb, h49, rta, rtb]
      refine ⟨a0, a1, by omega, all_eq ⟨by decide, by decide, b0, b1, by omega, all_eq ⟨by decide, by decide, ite_p (by decide) ?_⟩⟩⟩
      rw [show 1 * ta = up by rw [eup, z3]; omega, show 1 * tb = lo by rw [elo, z4]; omega]
      exact k
    · subst z
      refine ⟨3, by decide, by decide, ite_n (by decide) ⟨by decide, by decide, ?_⟩⟩
      rw [show (2 : Int) * 0 = 0 from rfl, show (0 : Int) + 1 = 1 from rfl, ra, rb, h49, rta, rtb]
      refine ⟨a0, a1, by omega, all_eq ⟨by decide, by decide, b0, b1, by omega, all_eq ⟨by decide, by decide, ite_n (by decide) ⟨by decide, by decide, ?_⟩⟩⟩⟩
      rw [show (2 : Int) * 1 = 2 from rfl, show (2 : Int) + 1 = 3 from rfl, z5, z6, h49, zr1, zr2]
      refine ⟨zp.1, zp.2, by omega, all_eq ⟨by decide, by decide, zq.1, zq.2, by omega, all_eq ⟨by decide, by decide, ite_p (by decide) ?_⟩⟩⟩
      rw [show 1 * ta * tp = up by rw [eup, Int.one_mul], show 1 * tb * tq = lo by rw [elo, Int.one_mul]]
      exact k
  have pn : (n = 1 ∧ p = -9) ∨ (n = 2 ∧ p ≠ -9) := by omega
  have prg : rg p := by omega
  generalize hgap : absI (up * V - U * lo) = gap at *
  -- taken
  have take : ∃ c' r', GC c0 c' ∧ GR r0 r' ∧ c' 7 4 0 = U ∧ c' 7 5 0 = V ∧ GSt n U V c' r' ∧ r' 52 0 = r 52 0 ∧ (∀ Q : Int → MM → Prop, Q 0 c' → wpX2_offer_J77 G Q a b p q up lo gap c) ∧ (∀ Q : Int → MM → Prop, Q 0 r' → wpX11_tryGears_J108 Q up lo r) := by
    refine ⟨ms (ms (ms (ms (ms (ms (ms (ms c 7 6 0 gap) 7 7 0 up) 7 8 0 lo) 18 0 0 a) 18 0 1 b) 18 0 2 p) 18 0 3 q) 7 3 0 (2 * n), ms (ms (ms (ms (ms (ms (ms r 0 55 0 1) 0 53 0 up) 0 54 0 lo) 51 0 0 (r 52 0 0)) 51 0 1 (r 52 0 1)) 51 0 2 (r 52 0 2)) 51 0 3 (r 52 0 3), ?_, ?_, h4, h5, ?_, rfl, fun Q h => ?_, fun Q h => ?_⟩
    · exact (((((((hc.set (by decide) _ _).set (by decide) _ _).set (by decide) _ _).set (by decide) _ _).set (by decide) _ _).set (by decide) _ _).set (by decide) _ _).set (by decide) _ _
    · exact ((((((hr.set (by decide) _ _).set (by decide) _ _).set (by decide) _ _).set (by decide) _ _).set (by decide) _ _).set (by decide) _ _).set (by decide) _ _
    · refine ⟨rfl, rfl, rfl, rfl, up0, lo0, hgap.symm, fun i i0 i1 => ?_⟩
      rcases (show i = 0 ∨ i = 1 ∨ (i = 2 ∧ n = 2) ∨ (i = 3 ∧ n = 2) by omega) with z | z | ⟨z, zn⟩ | ⟨z, zn⟩
      · subst z
        simp [ms, ra]
      · subst z
        simp [ms, rb]
      · subst z
        have : r 52 0 2 = p := by omega
        simp [ms, this]
      · subst z
        have : r 52 0 3 = q := by omega
        simp [ms, this]
    · unfold wpX2_offer_J77
      refine all_eq (all_eq (all_eq (all_eq (all_eq (all_eq (all_eq ⟨prg, ite_i (fun z => all_eq ?_) (fun z => all_eq ?_)⟩))))))
      · rw [show 2 * n = 2 by omega] at h
        exact h
      · rw [show 2 * n = 4 by omega] at h
        exact h
    · unfold wpX11_tryGears_J108
      exact all_eq (all_eq (all_eq ⟨5, by decide, ite_n (by decide) ⟨by decide, by decide, all_eq ⟨by decide, ite_n (by decide) ⟨by decide, by decide, all_eq ⟨by decide, ite_n (by decide) ⟨by decide, by decide, all_eq ⟨by decide, ite_n (by decide) ⟨by decide, by decide, all_eq ⟨by decide, ite_p (by decide) h⟩⟩⟩⟩⟩⟩⟩⟩⟩))
  obtain ⟨c', r', t1, t2, t3, t4, t5, t6, t7, t8⟩ := take
  rcases hst with ⟨z1, z2⟩ | hS
  · exact ⟨c', r', t1, t2, t3, t4, t5, t6, fun Q h => cls Q ⟨by omega, ite_p (by omega) (t7 Q h)⟩, fun Q h => ref Q ⟨by omega, ite_p z1 (t8 Q h)⟩⟩
  · obtain ⟨s1, s2, s3, s4, s5, s6, s7, s8⟩ := hS
    have gb := gap_rng s5.1 s5.2 s6.1 s6.2 U0 U1 V0 V1
    rw [← s7] at gb
    have w1 := mul_rng (show 0 ≤ gap by omega) (show gap ≤ 400000000 by omega) (show 0 ≤ c 7 8 0 by omega) s6.2
    have w2 := mul_rng (show 0 ≤ c 7 6 0 by omega) gb.2.2.2 (show 0 ≤ lo by omega) lo0.2
    have rest : ∀ Q : Int → MM → Prop, (if c 7 6 0 * lo ≤ gap * c 7 8 0 then Q 0 r else wpX11_tryGears_J108 Q up lo r) → wpX11_tryGears U V n r Q := by
      intro Q k
      refine ref Q ⟨by omega, ite_n (by omega) ⟨by omega, by omega, differs_ok (by omega) ?_⟩⟩
      rw [hgap]
      show wpX11_differs (r 0 53 0) (r 0 54 0) U V r _
      rw [s3, s4]
      refine differs_ok (by omega) ?_
      rw [← s7]
      exact ⟨by omega, by omega, k⟩
    by_cases z : gap * c 7 8 0 < c 7 6 0 * lo
    · refine ⟨c', r', t1, t2, t3, t4, t5, t6, fun Q h => cls Q ⟨by omega, ite_n (by omega) ⟨by omega, by omega, ite_p z (t7 Q h)⟩⟩, fun Q h => rest Q ?_⟩
      rw [if_neg (by omega)]
      exact t8 Q h
    · refine ⟨c, r, hc, hr, h4, h5, ⟨s1, s2, s3, s4, s5, s6, s7, s8⟩, rfl, fun Q h => cls Q ⟨by omega, ite_n (by omega) ⟨by omega, by omega, ite_n z h⟩⟩, fun Q h => rest Q ?_⟩
      rw [if_pos (by omega)]
      exact h
