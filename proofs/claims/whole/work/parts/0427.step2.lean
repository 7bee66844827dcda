theorem Fr.of27 {t e v : Int} {r r' : MM} (h : Fr t e (ms r 27 0 t v) r') : Fr t e r r' := h
theorem Fr.w36 {t e j v : Int} {r r' : MM} (h : Fr t e r r') : Fr t e r (ms r' 36 0 j v) := h
theorem step_ok {bd bs bw : Int} {G : GG} {c r : MM} (hR : Rel bd bs bw G c r) {t : Int} (t0 : 0 ≤ t) (t4 : t < 4) (hd : ∀ n, 0 ≤ n → n < r 0 10 0 → r 22 0 n / 2 = t → r 21 0 n + 24 ≤ bd) : ∃ c' r', Rel bd bs bw G c' r' ∧ Fr t 24 r r' ∧ (∀ Q : Int → MM → Prop, Q 0 c' → wpX8_stepForward G t c Q) ∧ (∀ Q : Int → MM → Prop, Q 0 r' → wpX11_stepOn t r Q) := by
  have J2 := hR.J2
  have W2 := hR.W2
  have T0 := hR.T0
  have j := J2 t t0 t4
  have w := congrFun W2 t
  obtain ⟨v, hv⟩ : ∃ v, v = (r 27 0 t + 1) % 1440 := ⟨_, rfl⟩
  have hR1 := hR.hand (t := t) (v := v) (by omega) (by omega)
  have h1c := hR1.H1 t t0 t4
  have h2a := hR1.H2 (2 * t) (by omega) (by omega)
  have h2b := hR1.H2 (2 * t + 1) (by omega) (by omega)
  have h4a := hR1.H4 (2 * t) (by omega) (by omega)
  have h4b := hR1.H4 (2 * t + 1) (by omega) (by omega)
  have T1 := hR1.T0
  have hd1 : ∀ n, 0 ≤ n → n < ms r 27 0 t v 0 10 0 → ms r 27 0 t v 22 0 n / 2 = t → ms r 27 0 t v 21 0 n + 24 ≤ bd := hd
  have cv : ms c 3 1 t v 3 1 t = v := ms_at _ _ _ _ _
  have rv : ms r 27 0 t v 27 0 t = v := ms_at _ _ _ _ _
  have dv : Int.tmod (r 27 0 t + 1) 1440 = v := by rw [hv]; exact Int.tmod_eq_emod_of_nonneg (by omega)
  -- both sides begin with the hands
  have hC : ∀ Q : Int → MM → Prop, wpX8_stepForward_J23 G Q t t v c → wpX8_stepForward G t c Q := fun Q h => by
    unfold wpX8_stepForward
    refine ⟨by omega, ite_i (fun z => ?_) (fun z => ?_)⟩
    · have : v = 0 := by omega
      rwa [this] at h
    · have : v = c 3 1 t + 1 := by omega
      rwa [this] at h
  have ey : Int.tmod v 60 = v % 60 := Int.tmod_eq_emod_of_nonneg (by omega)
  have hS : ∀ Q : Int → MM → Prop, ∀ x3, (x3 = if ms r 27 0 t v 35 0 (2 * t + 1) < 0 then 0 else 1) → wpX11_stepOn_J46 Q t (v % 60) x3 (ms r 27 0 t v) → wpX11_stepOn t r Q := fun Q x3 ex h => by
    unfold wpX11_stepOn
    rw [dv]
    refine ⟨t0, t4, by omega, all_eq ⟨by omega, all_eq ⟨by omega, by omega, by omega, ite_i (fun z => ?_) (fun z => ?_)⟩⟩⟩
    · rw [if_pos z] at ex
      rw [rv, ey, ← ex]
      exact h
    · rw [if_neg z] at ex
      rw [rv, ey, ← ex]
      exact h
  generalize hc1 : ms c 3 1 t v = c1 at *
  generalize hr1 : ms r 27 0 t v = r1 at *
  have back : ∀ {e : Int} {r' : MM}, Fr t e r1 r' → Fr t e r r' := fun h => by rw [← hr1] at h; exact h.of27
  have y0 : 0 ≤ v % 60 := by omega
  have y1 : v % 60 < 60 := by omega
  obtain ⟨y, hy⟩ : ∃ y, y = v % 60 := ⟨_, rfl⟩
  rw [← hy] at hS y0 y1 ey
  have dy : Int.tmod y 15 = y % 15 := Int.tmod_eq_emod_of_nonneg y0
  have hC2 : ∀ Q : Int → MM → Prop, (if c1 3 7 t < 0 then (if c1 3 6 t < 0 then (Q 0 c1) else (c1 3 6 t < G 0 0 ∧ (rg y ∧ (if y = 55 then (wpX8_stepForward_J103 G Q y t (c1 3 6 t) 0 1 c1) else (wpX8_stepForward_J103 G Q y t (c1 3 6 t) 0 0 c1))))) else (c1 3 7 t < G 0 0 ∧ (rg y ∧ (rg (y % 15) ∧ (if (y % 15) = 10 then (wpX8_stepForward_J61 G Q y t (c1 3 7 t) 1 1 c1) else (wpX8_stepForward_J61 G Q y t (c1 3 7 t) 1 0 c1)))))) → wpX8_stepForward G t c Q := fun Q h => by
    refine hC Q ?_
    unfold wpX8_stepForward_J23
    rw [hc1]
    refine all_eq ⟨by omega, all_eq ?_⟩
    rw [cv, ey, dy]
    exact h
  by_cases hq : r1 35 0 (2 * t + 1) < 0
  · have cq : c1 3 7 t < 0 := by omega
    by_cases hh : r1 35 0 (2 * t) < 0
    · refine ⟨c1, r1, hR1, back (Fr.refl t (by decide) r1), fun Q h => hC2 Q (ite_p cq (ite_p (by omega) h)), fun Q h => hS Q 0 (by rw [if_pos hq]) ?_⟩
      refine ⟨by omega, by omega, by omega, ite_p hh ?_⟩
      by_cases e10 : y % 15 = 10
      · refine J67_warn t0 t4 y0 y1 e10 (Or.inl rfl) (Or.inl rfl) h4b.1 h4a.1 ?_
        rw [if_pos rfl, ms_self rfl, if_neg (by omega), ms_self rfl]
        exact h
      · exact J67_off y0 y1 e10 (Or.inl rfl) (Or.inl rfl) (by omega) (fun _ _ => h) (fun z => by exfalso; omega) (fun z => by exfalso; omega)
    · have ch : c1 3 6 t = r1 35 0 (2 * t) := by omega
      have n0 : 0 ≤ r1 35 0 (2 * t) := by omega
      by_cases e55 : y = 55
      · refine ⟨ms c1 2 10 (r1 35 0 (2 * t)) 1, ms r1 36 0 (2 * t) 1, hR1.warn (by omega) (by omega) rfl n0 (Or.inr rfl), back (Fr.refl t (by decide) r1).w36, fun Q h => hC2 Q (ite_p cq (ite_n (by omega) ⟨by omega, by omega, ite_p e55 ⟨by omega, ite_n (by omega) ⟨by omega, by omega, wol_w ?_⟩⟩⟩)), fun Q h => hS Q 0 (by rw [if_pos hq]) ?_⟩
        · rw [ch]
          exact h
        · refine ⟨by omega, by omega, by omega, ite_n hh ⟨by omega, ite_p rfl (J67_warn t0 t4 y0 y1 (by omega) (Or.inl rfl) (Or.inr rfl) h4b.1 h4a.1 ?_)⟩⟩
          rw [if_pos rfl, ms_self rfl, if_pos ⟨rfl, e55⟩]
          exact h
      · by_cases e0 : y = 0
        · obtain ⟨c', r', a1, a2, a3, a4⟩ := wg_ok hR1 (q := 0) t0 t4 (Or.inl rfl) (n := r1 35 0 (2 * t)) (by rw [Int.add_zero]) n0 (hd1 _ n0 (by omega) (by omega))
          refine ⟨c', r', a1, back a2, fun Q h => hC2 Q (ite_p cq (ite_n (by omega) ⟨by omega, by omega, ite_n e55 ⟨by omega, ite_p e0 ⟨by omega, by omega, wol_l ?_⟩⟩⟩)), fun Q h => hS Q 0 (by rw [if_pos hq]) ?_⟩
          · rw [ch]
            exact a3 (fun _ μ4 => Q 0 μ4) h
          · refine ⟨by omega, by omega, by omega, ite_n hh ⟨by omega, ite_p rfl (J67_off y0 y1 (by omega) (Or.inl rfl) (Or.inr rfl) (by omega) (fun _ z => by exfalso; omega) (fun z => by exfalso; omega) (fun _ _ => a4 Q h))⟩⟩
        · refine ⟨c1, r1, hR1, back (Fr.refl t (by decide) r1), fun Q h => hC2 Q (ite_p cq (ite_n (by omega) ⟨by omega, by omega, ite_n e55 ⟨by omega, ite_n e0 ⟨by omega, by omega, wol_0 h⟩⟩⟩)), fun Q h => hS Q 0 (by rw [if_pos hq]) ?_⟩
          refine ⟨by omega, by omega, by omega, ite_n hh ⟨by omega, ite_p rfl ?_⟩⟩
          by_cases e10 : y % 15 = 10
          · refine J67_warn t0 t4 y0 y1 e10 (Or.inl rfl) (Or.inr rfl) h4b.1 h4a.1 ?_
            rw [if_pos rfl, ms_self rfl, if_neg (by omega), ms_self rfl]
            exact h
          · exact J67_off y0 y1 e10 (Or.inl rfl) (Or.inr rfl) (by omega) (fun _ _ => h) (fun z => by exfalso; omega) (fun _ z => by exfalso; omega)
  · have cq : ¬ c1 3 7 t < 0 := by omega
    have ch : c1 3 7 t = r1 35 0 (2 * t + 1) := by omega
    have n0 : 0 ≤ r1 35 0 (2 * t + 1) := by omega
    have hJ46 : ∀ Q : Int → MM → Prop, wpX11_stepOn_J67 Q t y 1 0 r1 → wpX11_stepOn_J46 Q t y 1 r1 := fun Q h => ⟨by omega, by omega, by omega, ite_i (fun _ => h) (fun _ => ⟨by omega, ite_n (by decide) h⟩)⟩
    by_cases e10 : y % 15 = 10
    · refine ⟨ms c1 2 10 (r1 35 0 (2 * t + 1)) 1, ms r1 36 0 (2 * t + 1) 1, hR1.warn (by omega) (by omega) rfl n0 (Or.inr rfl), back (Fr.refl t (by decide) r1).w36, fun Q h => hC2 Q (ite_n cq ⟨by omega, by omega, by omega, ite_p e10 ⟨by omega, by omega, ?_⟩⟩), fun Q h => hS Q 1 (by rw [if_neg hq]) (hJ46 Q (J67_warn t0 t4 y0 y1 e10 (Or.inr rfl) (Or.inl rfl) h4b.1 h4a.1 ?_))⟩
      · rw [dy]
        refine ite_n (by omega) ⟨by omega, by omega, wol_w ?_⟩
        rw [ch]
        exact h
      · rw [if_neg (by decide), if_neg (by omega)]
        have e : ms r1 36 0 (2 * t + 1) 1 36 0 (2 * t) = r1 36 0 (2 * t) := ms_nj _ _ _ (by omega) _ _
        rw [ms_self e]
        exact h
    · by_cases e0 : y % 15 = 0
      · obtain ⟨c', r', a1, a2, a3, a4⟩ := wg_ok hR1 (q := 1) t0 t4 (Or.inr rfl) (n := r1 35 0 (2 * t + 1)) rfl n0 (hd1 _ n0 (by omega) (by omega))
        refine ⟨c', r', a1, back a2, fun Q h => hC2 Q (ite_n cq ⟨by omega, by omega, by omega, ite_n e10 ⟨by omega, by omega, ?_⟩⟩), fun Q h => hS Q 1 (by rw [if_neg hq]) (hJ46 Q (J67_off y0 y1 e10 (Or.inr rfl) (Or.inl rfl) (by omega) (fun z => by exfalso; omega) (fun _ _ => a4 Q h) (fun z => by exfalso; omega)))⟩
        rw [dy]
        refine ite_p e0 ⟨by omega, by omega, wol_l ?_⟩
        rw [ch]
        exact a3 (fun _ μ4 => Q 0 μ4) h
      · refine ⟨c1, r1, hR1, back (Fr.refl t (by decide) r1), fun Q h => hC2 Q (ite_n cq ⟨by omega, by omega, by omega, ite_n e10 ⟨by omega, by omega, ?_⟩⟩), fun Q h => hS Q 1 (by rw [if_neg hq]) (hJ46 Q (J67_off y0 y1 e10 (Or.inr rfl) (Or.inl rfl) (by omega) (fun _ _ => h) (fun _ z => by exfalso; omega) (fun z => by exfalso; omega)))⟩
        rw [dy]
        exact ite_n e0 ⟨by omega, by omega, wol_0 h⟩
theorem Fr.hd {bd t e e' : Int} {r r' : MM} (h : Fr t e r r') (hd : ∀ n, 0 ≤ n → n < r 0 10 0 → r 22 0 n / 2 = t → r 21 0 n + e' ≤ bd) : ∀ n, 0 ≤ n → n < r' 0 10 0 → r' 22 0 n / 2 = t → r' 21 0 n + (e' - e) ≤ bd := by
  intro n a b d
  rw [h.2.2.2.1] at b
  rw [h.1] at d
  have k := hd n a b d
  have k2 := h.2.2.2.2.2.2.2.2 n
  omega
theorem steps_ok {bd bs bw : Int} {G : GG} {t x2 : Int} (t0 : 0 ≤ t) (t4 : t < 4) (hx2 : rg x2) : ∀ (m : Nat) (x : Int) (c r : MM), Rel bd bs bw G c r → 0 ≤ x → x + m = x2 → (∀ n, 0 ≤ n → n < r 0 10 0 → r 22 0 n / 2 = t → r 21 0 n + 24 * m ≤ bd) → ∃ c' r', Rel bd bs bw G c' r' ∧ Fr t (24 * m) r r' ∧ (∀ Q : Int → MM → Prop, Q (c' 3 1 t) c' → wpX10_forward_L39 G Q (m + 1) x2 t x c) ∧ (∀ Q : Int → MM → Prop, Q (r' 27 0 t) r' → wpX11_forward_L28 Q (m + 1) t x2 x r) := by
  intro m
  induction m with
  | zero =>
    intro x c r hR h0 hx hd
    exact ⟨c, r, hR, Fr.refl t (by decide) r, fun Q h => ⟨by omega, by omega, ite_p (by omega) h⟩, fun Q h => ⟨by omega, by omega, ite_p (by omega) ⟨t0, t4, h⟩⟩⟩
  | succ m ih =>
    intro x c r hR h0 hx hd
    obtain ⟨c1, r1, a1, a2, a3, a4⟩ := step_ok hR t0 t4 (fun n z1 z2 z3 => by have := hd n z1 z2 z3; omega)
    obtain ⟨c2, r2, b1, b2, b3, b4⟩ := ih (x + 1) c1 r1 a1 (by omega) (by omega) (fun n z1 z2 z3 => by have := a2.hd hd n z1 z2 z3; omega)
    refine ⟨c2, r2, b1, (a2.trans b2).mono (by omega), fun Q h => ⟨by omega, by omega, ite_n (by omega) (a3 _ (b3 Q h))⟩, fun Q h => ⟨by omega, by omega, ite_n (by omega) (a4 _ (b4 Q h))⟩⟩
theorem rel_forward {k : Int} {G : GG} {c r : MM} (h : RelK k G c r) (hk : k < 512) (x1 : Int) (h1 : rg x1) (x2 : Int) (h2 : rg x2) : wpX10_forward G x1 x2 c (fun v c' => wpX11_forward x1 x2 r (fun v' r' => Lf v v' (RelK (k + 1) G c' r'))) := by
  have hR := h.2
  unfold wpX10_forward wpX11_forward
  refine towerOf_ok h1 (fun hx => ?_) (fun a b => ?_)
  · repeat' (first | (with_reducible refine ⟨by omega, ?_⟩) | (with_reducible refine ite_p (by omega) ?_) | (with_reducible refine ite_n (by omega) ?_) | (with_reducible refine trainOf_ok hR (by omega) (fun _ => ?_) (fun _ _ => by exfalso; omega)) | (with_reducible refine trainOf_ok hR (by omega) (fun _ => by exfalso; omega) (fun _ _ => ?_)) | (with_reducible refine trainOf_ok hR (by omega) (fun _ => ?_) (fun _ _ => ?_)) | (with_reducible refine isTrain_ok hR (by omega) (fun _ => ?_) (fun _ _ => by exfalso; omega)) | (with_reducible refine isTrain_ok hR (by omega) (fun _ => by exfalso; omega) (fun _ _ => ?_)) | (with_reducible refine isTrain_ok hR (by omega) (fun _ => ?_) (fun _ _ => ?_)) | (with_reducible refine rowOf_ok (by omega) (fun _ => ?_) (fun _ _ => by exfalso; omega)) | (with_reducible refine rowOf_ok (by omega) (fun _ => by exfalso; omega) (fun _ _ => ?_)) | (with_reducible refine rowOf_ok (by omega) (fun _ => ?_) (fun _ _ => ?_)) | (with_reducible refine towerOf_ok (by omega) (fun _ => ?_) (fun _ _ => by exfalso; omega)) | (with_reducible refine towerOf_ok (by omega) (fun _ => by exfalso; omega) (fun _ _ => ?_)) | (with_reducible refine towerOf_ok (by omega) (fun _ => ?_) (fun _ _ => ?_)) | (with_reducible refine looked_ok hR (by omega) (fun _ => ?_) (fun _ _ _ _ => by exfalso; omega) (fun _ _ _ _ _ => by exfalso; omega)) | (with_reducible refine looked_ok hR (by omega) (fun _ => by exfalso; omega) (fun _ _ _ _ => ?_) (fun _ _ _ _ _ => by exfalso; omega)) | (with_reducible refine looked_ok hR (by omega) (fun _ => by exfalso; omega) (fun _ _ _ _ => by exfalso; omega) (fun _ _ _ _ _ => ?_)) | (with_reducible refine looked_ok hR (by omega) (fun _ => ?_) (fun _ _ _ _ => ?_) (fun _ _ _ _ _ => ?_)) | (with_reducible refine askedFor_ok hR (by omega) (fun _ => ?_) (fun _ _ _ => by exfalso; omega) (fun _ _ _ => by exfalso; omega)) | (with_reducible refine askedFor_ok hR (by omega) (fun _ => by exfalso; omega) (fun _ _ _ => ?_) (fun _ _ _ => by exfalso; omega)) | (with_reducible refine askedFor_ok hR (by omega) (fun _ => by exfalso; omega) (fun _ _ _ => by exfalso; omega) (fun _ _ _ => ?_)) | (with_reducible refine askedFor_ok hR (by omega) (fun _ => ?_) (fun _ _ _ => ?_) (fun _ _ _ => ?_)) | (with_reducible refine inn_ok (by omega) (by omega) (by omega) (fun _ => ?_) (fun _ _ => by exfalso; omega)) | (with_reducible refine inn_ok (by omega) (by omega) (by omega) (fun _ => by exfalso; omega) (fun _ _ => ?_)) | (with_reducible refine inn_ok (by omega) (by omega) (by omega) (fun _ => ?_) (fun _ _ => ?_)) | (with_reducible refine isPlate_ok (by omega) (by omega) (by omega) (fun _ => ?_) (fun _ => by exfalso; omega)) | (with_reducible refine isPlate_ok (by omega) (by omega) (by omega) (fun _ => by exfalso; omega) (fun _ => ?_)) | (with_reducible refine isPlate_ok (by omega) (by omega) (by omega) (fun _ => ?_) (fun _ => ?_)) | (with_reducible refine hasPlace_ok (by omega) (by omega) (fun _ => ?_) (fun _ _ => by exfalso; omega)) | (with_reducible refine hasPlace_ok (by omega) (by omega) (fun _ => by exfalso; omega) (fun _ _ => ?_)) | (with_reducible refine hasPlace_ok (by omega) (by omega) (fun _ => ?_) (fun _ _ => ?_)) | (with_reducible refine isThere_ok (by omega) (fun _ => ?_) (fun _ => by exfalso; omega)) | (with_reducible refine isThere_ok (by omega) (fun _ => by exfalso; omega) (fun _ => ?_)) | (with_reducible refine isThere_ok (by omega) (fun _ => ?_) (fun _ => ?_)) | (with_reducible refine isDayHour_ok (by omega) (fun _ => ?_) (fun _ _ => by exfalso; omega)) | (with_reducible refine isDayHour_ok (by omega) (fun _ => by exfalso; omega) (fun _ _ => ?_)) | (with_reducible refine isDayHour_ok (by omega) (fun _ => ?_) (fun _ _ => ?_)) | (with_reducible refine isHour_ok (by omega) (fun _ => ?_) (fun _ _ => by exfalso; omega)) | (with_reducible refine isHour_ok (by omega) (fun _ => by exfalso; omega) (fun _ _ => ?_)) | (with_reducible refine isHour_ok (by omega) (fun _ => ?_) (fun _ _ => ?_)) | (with_reducible refine trainIn_ok (by omega) (fun _ => ?_) (fun _ => by exfalso; omega)) | (with_reducible refine trainIn_ok (by omega) (fun _ => by exfalso; omega) (fun _ => ?_)) | (with_reducible refine trainIn_ok (by omega) (fun _ => ?_) (fun _ => ?_)) | (with_reducible refine found_ok (by decide) (by decide) ?_) | (with_reducible refine meets_ok (by decide) (by decide) ?_) | (with_reducible refine ite_i (fun _ => ?_) (fun _ => ?_)) | (with_reducible refine all_eq ?_))
    all_goals (first | exact Lf.mk rfl (h.up hk) | exact Lf.mk rfl (h.f hk _) | exact Lf.mk (by omega) (h.up hk) | skip)
  · have W1 := hR.W1
    have J1 := hR.J1
    have w1_x1 := congrFun W1 x1
    have j1 := J1 x1 a b
    refine ite_n (by omega) ⟨b, h2, ite_i (fun e => ?_) (fun e => ite_i (fun e2 => ⟨by omega, ite_i (fun e3 => ?_) (fun e3 => ?_)⟩) (fun e2 => ?_))⟩
    · repeat' (first | (with_reducible refine ⟨by omega, ?_⟩) | (with_reducible refine ite_p (by omega) ?_) | (with_reducible refine ite_n (by omega) ?_) | (with_reducible refine trainOf_ok hR (by omega) (fun _ => ?_) (fun _ _ => by exfalso; omega)) | (with_reducible refine trainOf_ok hR (by omega) (fun _ => by exfalso; omega) (fun _ _ => ?_)) | (with_reducible refine trainOf_ok hR (by omega) (fun _ => ?_) (fun _ _ => ?_)) | (with_reducible refine isTrain_ok hR (by omega) (fun _ => ?_) (fun _ _ => by exfalso; omega)) | (with_reducible refine isTrain_ok hR (by omega) (fun _ => by exfalso; omega) (fun _ _ => ?_)) | (with_reducible refine isTrain_ok hR (by omega) (fun _ => ?_) (fun _ _ => ?_)) | (with_reducible refine rowOf_ok (by omega) (fun _ => ?_) (fun _ _ => by exfalso; omega)) | (with_reducible refine rowOf_ok (by omega) (fun _ => by exfalso; omega) (fun _ _ => ?_)) | (with_reducible refine rowOf_ok (by omega) (fun _ => ?_) (fun _ _ => ?_)) | (with_reducible refine towerOf_ok (by omega) (fun _ => ?_) (fun _ _ => by exfalso; omega)) | (with_reducible refine towerOf_ok (by omega) (fun _ => by exfalso; omega) (fun _ _ => ?_)) | (with_reducible refine towerOf_ok (by omega) (fun _ => ?_) (fun _ _ => ?_)) | (with_reducible refine looked_ok hR (by omega) (fun _ => ?_) (fun _ _ _ _ => by exfalso; omega) (fun _ _ _ _ _ => by exfalso; omega)) | (with_reducible refine looked_ok hR (by omega) (fun _ => by exfalso; omega) (fun _ _ _ _ => ?_) (fun _ _ _ _ _ => by exfalso; omega)) | (with_reducible refine looked_ok hR (by omega) (fun _ => by exfalso; omega) (fun _ _ _ _ => by exfalso; omega) (fun _ _ _ _ _ => ?_)) | (with_reducible refine looked_ok hR (by omega) (fun _ => ?_) (fun _ _ _ _ => ?_) (fun _ _ _ _ _ => ?_)) | (with_reducible refine askedFor_ok hR (by omega) (fun _ => ?_) (fun _ _ _ => by exfalso; omega) (fun _ _ _ => by exfalso; omega)) | (with_reducible refine askedFor_ok hR (by omega) (fun _ => by exfalso; omega) (fun _ _ _ => ?_) (fun _ _ _ => by exfalso; omega)) | (with_reducible refine askedFor_ok hR (by omega) (fun _ => by exfalso; omega) (fun _ _ _ => by exfalso; omega) (fun _ _ _ => ?_)) | (with_reducible refine askedFor_ok hR (by omega) (fun _ => ?_) (fun _ _ _ => ?_) (fun _ _ _ => ?_)) | (with_reducible refine inn_ok (by omega) (by omega) (by omega) (fun _ => ?_) (fun _ _ => by exfalso; omega)) | (with_reducible refine inn_ok (by omega) (by omega) (by omega) (fun _ => by exfalso; omega) (fun _ _ => ?_)) | (with_reducible refine inn_ok (by omega) (by omega) (by omega) (fun _ => ?_) (fun _ _ => ?_)) | (with_reducible refine isPlate_ok (by omega) (by omega) (by omega) (fun _ => ?_) (fun _ => by exfalso; omega)) | (with_reducible refine isPlate_ok (by omega) (by omega) (by omega) (fun _ => by exfalso; omega) (fun _ => ?_)) | (with_reducible refine isPlate_ok (by omega) (by omega) (by omega) (fun _ => ?_) (fun _ => ?_)) | (with_reducible refine hasPlace_ok (by omega) (by omega) (fun _ => ?_) (fun _ _ => by exfalso; omega)) | (with_reducible refine hasPlace_ok (by omega) (by omega) (fun _ => by exfalso; omega) (fun _ _ => ?_)) | (with_reducible refine hasPlace_ok (by omega) (by omega) (fun _ => ?_) (fun _ _ => ?_)) | (with_reducible refine isThere_ok (by omega) (fun _ => ?_) (fun _ => by exfalso; omega)) | (with_reducible refine isThere_ok (by omega) (fun _ => by exfalso; omega) (fun _ => ?_)) | (with_reducible refine isThere_ok (by omega) (fun _ => ?_) (fun _ => ?_)) | (with_reducible refine isDayHour_ok (by omega) (fun _ => ?_) (fun _ _ => by exfalso; omega)) | (with_reducible refine isDayHour_ok (by omega) (fun _ => by exfalso; omega) (fun _ _ => ?_)) | (with_reducible refine isDayHour_ok (by omega) (fun _ => ?_) (fun _ _ => ?_)) | (with_reducible refine isHour_ok (by omega) (fun _ => ?_) (fun _ _ => by exfalso; omega)) | (with_reducible refine isHour_ok (by omega) (fun _ => by exfalso; omega) (fun _ _ => ?_)) | (with_reducible refine isHour_ok (by omega) (fun _ => ?_) (fun _ _ => ?_)) | (with_reducible refine trainIn_ok (by omega) (fun _ => ?_) (fun _ => by exfalso; omega)) | (with_reducible refine trainIn_ok (by omega) (fun _ => by exfalso; omega) (fun _ => ?_)) | (with_reducible refine trainIn_ok (by omega) (fun _ => ?_) (fun _ => ?_)) | (with_reducible refine found_ok (by decide) (by decide) ?_) | (with_reducible refine meets_ok (by decide) (by decide) ?_) | (with_reducible refine ite_i (fun _ => ?_) (fun _ => ?_)) | (with_reducible refine all_eq ?_))
      all_goals (first | exact Lf.mk rfl (h.up hk) | exact Lf.mk rfl (h.f hk _) | exact Lf.mk (by omega) (h.up hk) | skip)
    · repeat' (first | (with_reducible refine ⟨by omega, ?_⟩) | (with_reducible refine ite_p (by omega) ?_) | (with_reducible refine ite_n (by omega) ?_) | (with_reducible refine trainOf_ok hR (by omega) (fun _ => ?_) (fun _ _ => by exfalso; omega)) | (with_reducible refine trainOf_ok hR (by omega) (fun _ => by exfalso; omega) (fun _ _ => ?_)) | (with_reducible refine trainOf_ok hR (by omega) (fun _ => ?_) (fun _ _ => ?_)) | (with_reducible refine isTrain_ok hR (by omega) (fun _ => ?_) (fun _ _ => by exfalso; omega)) | (with_reducible refine isTrain_ok hR (by omega) (fun _ => by exfalso; omega) (fun _ _ => ?_)) | (with_reducible refine isTrain_ok hR (by omega) (fun _ => ?_) (fun _ _ => ?_)) | (with_reducible refine rowOf_ok (by omega) (fun _ => ?_) (fun _ _ => by exfalso; omega)) | (with_reducible refine rowOf_ok (by omega) (fun _ => by exfalso; omega) (fun _ _ => ?_)) | (with_reducible refine rowOf_ok (by omega) (fun _ => ?_) (fun _ _ => ?_)) | (with_reducible refine towerOf_ok (by omega) (fun _ => ?_) (fun _ _ => by exfalso; omega)) | (with_reducible refine towerOf_ok (by omega) (fun _ => by exfalso; omega) (fun _ _ => ?_)) | (with_reducible refine towerOf_ok (by omega) (fun _ => ?_) (fun _ _ => ?_)) | (with_reducible refine looked_ok hR (by omega) (fun _ => ?_) (fun _ _ _ _ => by exfalso; omega) (fun _ _ _ _ _ => by exfalso; omega)) | (with_reducible refine looked_ok hR (by omega) (fun _ => by exfalso; omega) (fun _ _ _ _ => ?_) (fun _ _ _ _ _ => by exfalso; omega)) | (with_reducible refine looked_ok hR (by omega) (fun _ => by exfalso; omega) (fun _ _ _ _ => by exfalso; omega) (fun _ _ _ _ _ => ?_)) | (with_reducible refine looked_ok hR (by omega) (fun _ => ?_) (fun _ _ _ _ => ?_) (fun _ _ _ _ _ => ?_)) | (with_reducible refine askedFor_ok hR (by omega) (fun _ => ?_) (fun _ _ _ => by exfalso; omega) (fun _ _ _ => by exfalso; omega)) | (with_reducible refine askedFor_ok hR (by omega) (fun _ => by exfalso; omega) (fun _ _ _ => ?_) (fun _ _ _ => by exfalso; omega)) | (with_reducible refine askedFor_ok hR (by omega) (fun _ => by exfalso; omega) (fun _ _ _ => by exfalso; omega) (fun _ _ _ => ?_)) | (with_reducible refine askedFor_ok hR (by omega) (fun _ => ?_) (fun _ _ _ => ?_) (fun _ _ _ => ?_)) | (with_reducible refine inn_ok (by omega) (by omega) (by omega) (fun _ => ?_) (fun _ _ => by exfalso; omega)) | (with_reducible refine inn_ok (by omega) (by omega) (by omega) (fun _ => by exfalso; omega) (fun _ _ => ?_)) | (with_reducible refine inn_ok (by omega) (by omega) (by omega) (fun _ => ?_) (fun _ _ => ?_)) | (with_reducible refine isPlate_ok (by omega) (by omega) (by omega) (fun _ => ?_) (fun _ => by exfalso; omega)) | (with_reducible refine isPlate_ok (by omega) (by omega) (by omega) (fun _ => by exfalso; omega) (fun _ => ?_)) | (with_reducible refine isPlate_ok (by omega) (by omega) (by omega) (fun _ => ?_) (fun _ => ?_)) | (with_reducible refine hasPlace_ok (by omega) (by omega) (fun _ => ?_) (fun _ _ => by exfalso; omega)) | (with_reducible refine hasPlace_ok (by omega) (by omega) (fun _ => by exfalso; omega) (fun _ _ => ?_)) | (with_reducible refine hasPlace_ok (by omega) (by omega) (fun _ => ?_) (fun _ _ => ?_)) | (with_reducible refine isThere_ok (by omega) (fun _ => ?_) (fun _ => by exfalso; omega)) | (with_reducible refine isThere_ok (by omega) (fun _ => by exfalso; omega) (fun _ => ?_)) | (with_reducible refine isThere_ok (by omega) (fun _ => ?_) (fun _ => ?_)) | (with_reducible refine isDayHour_ok (by omega) (fun _ => ?_) (fun _ _ => by exfalso; omega)) | (with_reducible refine isDayHour_ok (by omega) (fun _ => by exfalso; omega) (fun _ _ => ?_)) | (with_reducible refine isDayHour_ok (by omega) (fun _ => ?_) (fun _ _ => ?_)) | (with_reducible refine isHour_ok (by omega) (fun _ => ?_) (fun _ _ => by exfalso; omega)) | (with_reducible refine isHour_ok (by omega) (fun _ => by exfalso; omega) (fun _ _ => ?_)) | (with_reducible refine isHour_ok (by omega) (fun _ => ?_) (fun _ _ => ?_)) | (with_reducible refine trainIn_ok (by omega) (fun _ => ?_) (fun _ => by exfalso; omega)) | (with_reducible refine trainIn_ok (by omega) (fun _ => by exfalso; omega) (fun _ => ?_)) | (with_reducible refine trainIn_ok (by omega) (fun _ => ?_) (fun _ => ?_)) | (with_reducible refine found_ok (by decide) (by decide) ?_) | (with_reducible refine meets_ok (by decide) (by decide) ?_) | (with_reducible refine ite_i (fun _ => ?_) (fun _ => ?_)) | (with_reducible refine all_eq ?_))
      all_goals (first | exact Lf.mk rfl (h.up hk) | exact Lf.mk rfl (h.f hk _) | exact Lf.mk (by omega) (h.up hk) | skip)
    · have h' := h.up hk
      obtain ⟨c', r', b1, b2, b3, b4⟩ := steps_ok a b h2 x2.toNat 0 c r h'.2 (by decide) (by omega) (fun n z1 z2 z3 => by have := hR.I12 n z1 z2; omega)
      refine ⟨_, b3 _ (inn_ok (by omega) (by omega) (by omega) (fun _ => by exfalso; omega) (fun _ _ => ite_n (by decide) (askedFor_ok hR h1 (fun _ => by exfalso; omega) (fun _ _ _ => by exfalso; omega) (fun _ _ _ => ⟨by omega, ite_p (by omega) ⟨_, b4 _ ?_⟩⟩))))⟩
      exact Lf.mk (congrFun b1.W2 x1) ⟨h'.1, b1⟩
    · repeat' (first | (with_reducible refine ⟨by omega, ?_⟩) | (with_reducible refine ite_p (by omega) ?_) | (with_reducible refine ite_n (by omega) ?_) | (with_reducible refine trainOf_ok hR (by omega) (fun _ => ?_) (fun _ _ => by exfalso; omega)) | (with_reducible refine trainOf_ok hR (by omega) (fun _ => by exfalso; omega) (fun _ _ => ?_)) | (with_reducible refine trainOf_ok hR (by omega) (fun _ => ?_) (fun _ _ => ?_)) | (with_reducible refine isTrain_ok hR (by omega) (fun _ => ?_) (fun _ _ => by exfalso; omega)) | (with_reducible refine isTrain_ok hR (by omega) (fun _ => by exfalso; omega) (fun _ _ => ?_)) | (with_reducible refine isTrain_ok hR (by omega) (fun _ => ?_) (fun _ _ => ?_)) | (with_reducible refine rowOf_ok (by omega) (fun _ => ?_) (fun _ _ => by exfalso; omega)) | (with_reducible refine rowOf_ok (by omega) (fun _ => by exfalso; omega) (fun _ _ => ?_)) | (with_reducible refine rowOf_ok (by omega) (fun _ => ?_) (fun _ _ => ?_)) | (with_reducible refine towerOf_ok (by omega) (fun _ => ?_) (fun _ _ => by exfalso; omega)) | (with_reducible refine towerOf_ok (by omega) (fun _ => by exfalso; omega) (fun _ _ => ?_)) | (with_reducible refine towerOf_ok (by omega) (fun _ => ?_) (fun _ _ => ?_)) | (with_reducible refine looked_ok hR (by omega) (fun _ => ?_) (fun _ _ _ _ => by exfalso; omega) (fun _ _ _ _ _ => by exfalso; omega)) | (with_reducible refine looked_ok hR (by omega) (fun _ => by exfalso; omega) (fun _ _ _ _ => ?_) (fun _ _ _ _ _ => by exfalso; omega)) | (with_reducible refine looked_ok hR (by omega) (fun _ => by exfalso; omega) (fun _ _ _ _ => by exfalso; omega) (fun _ _ _ _ _ => ?_)) | (with_reducible refine looked_ok hR (by omega) (fun _ => ?_) (fun _ _ _ _ => ?_) (fun _ _ _ _ _ => ?_)) | (with_reducible refine askedFor_ok hR (by omega) (fun _ => ?_) (fun _ _ _ => by exfalso; omega) (fun _ _ _ => by exfalso; omega)) | (with_reducible refine askedFor_ok hR (by omega) (fun _ => by exfalso; omega) (fun _ _ _ => ?_) (fun _ _ _ => by exfalso; omega)) | (with_reducible refine askedFor_ok hR (by omega) (fun _ => by exfalso; omega) (fun _ _ _ => by exfalso; omega) (fun _ _ _ => ?_)) | (with_reducible refine askedFor_ok hR (by omega) (fun _ => ?_) (fun _ _ _ => ?_) (fun _ _ _ => ?_)) | (with_reducible refine inn_ok (by omega) (by omega) (by omega) (fun _ => ?_) (fun _ _ => by exfalso; omega)) | (with_reducible refine inn_ok (by omega) (by omega) (by omega) (fun _ => by exfalso; omega) (fun _ _ => ?_)) | (with_reducible refine inn_ok (by omega) (by omega) (by omega) (fun _ => ?_) (fun _ _ => ?_)) | (with_reducible refine isPlate_ok (by omega) (by omega) (by omega) (fun _ => ?_) (fun _ => by exfalso; omega)) | (with_reducible refine isPlate_ok (by omega) (by omega) (by omega) (fun _ => by exfalso; omega) (fun _ => ?_)) | (with_reducible refine isPlate_ok (by omega) (by omega) (by omega) (fun _ => ?_) (fun _ => ?_)) | (with_reducible refine hasPlace_ok (by omega) (by omega) (fun _ => ?_) (fun _ _ => by exfalso; omega)) | (with_reducible refine hasPlace_ok (by omega) (by omega) (fun _ => by exfalso; omega) (fun _ _ => ?_)) | (with_reducible refine hasPlace_ok (by omega) (by omega) (fun _ => ?_) (fun _ _ => ?_)) | (with_reducible refine isThere_ok (by omega) (fun _ => ?_) (fun _ => by exfalso; omega)) | (with_reducible refine isThere_ok (by omega) (fun _ => by exfalso; omega) (fun _ => ?_)) | (with_reducible refine isThere_ok (by omega) (fun _ => ?_) (fun _ => ?_)) | (with_reducible refine isDayHour_ok (by omega) (fun _ => ?_) (fun _ _ => by exfalso; omega)) | (with_reducible refine isDayHour_ok (by omega) (fun _ => by exfalso; omega) (fun _ _ => ?_)) | (with_reducible refine isDayHour_ok (by omega) (fun _ => ?_) (fun _ _ => ?_)) | (with_reducible refine isHour_ok (by omega) (fun _ => ?_) (fun _ _ => by exfalso; omega)) | (with_reducible refine isHour_ok (by omega) (fun _ => by exfalso; omega) (fun _ _ => ?_)) | (with_reducible refine isHour_ok (by omega) (fun _ => ?_) (fun _ _ => ?_)) | (with_reducible refine trainIn_ok (by omega) (fun _ => ?_) (fun _ => by exfalso; omega)) | (with_reducible refine trainIn_ok (by omega) (fun _ => by exfalso; omega) (fun _ => ?_)) | (with_reducible refine trainIn_ok (by omega) (fun _ => ?_) (fun _ => ?_)) | (with_reducible refine found_ok (by decide) (by decide) ?_) | (with_reducible refine meets_ok (by decide) (by decide) ?_) | (with_reducible refine ite_i (fun _ => ?_) (fun _ => ?_)) | (with_reducible refine all_eq ?_))
      all_goals (first | exact Lf.mk rfl (h.up hk) | exact Lf.mk rfl (h.f hk _) | exact Lf.mk (by omega) (h.up hk) | skip)
theorem rel_letOff {k : Int} {G : GG} {c r : MM} (h : RelK k G c r) (hk : k < 512) (x1 : Int) (h1 : rg x1) (x2 : Int) (h2 : x2 = 0 ∨ x2 = 1) : wpX10_letOff G x1 x2 c (fun v c' => wpX11_letOff x1 x2 r (fun v' r' => Lf v v' (RelK (k + 1) G c' r'))) := by
  have hR := h.2
  unfold wpX10_letOff wpX10_letOff_J31 wpX11_letOff
  refine towerOf_ok h1 (fun hx => ?_) (fun a b => ?_)
  · repeat' (first | (with_reducible refine ⟨by omega, ?_⟩) | (with_reducible refine ite_p (by omega) ?_) | (with_reducible refine ite_n (by omega) ?_) | (with_reducible refine askedPlace_ok hR (by omega) (by omega) (fun _ => ?_) (fun _ _ _ => by exfalso; omega) (fun _ _ _ _ => by exfalso; omega)) | (with_reducible refine askedPlace_ok hR (by omega) (by omega) (fun _ => by exfalso; omega) (fun _ _ _ => ?_) (fun _ _ _ _ => by exfalso; omega)) | (with_reducible refine askedPlace_ok hR (by omega) (by omega) (fun _ => by exfalso; omega) (fun _ _ _ => by exfalso; omega) (fun _ _ _ _ => ?_)) | (with_reducible refine askedPlace_ok hR (by omega) (by omega) (fun _ => ?_) (fun _ _ _ => ?_) (fun _ _ _ _ => ?_)) | (with_reducible refine ite_i (fun _ => ?_) (fun _ => ?_)) | (with_reducible refine all_eq ?_))
    all_goals (first | exact Lf.mk rfl (h.up hk) | exact Lf.mk rfl (h.f hk _) | exact Lf.mk (by omega) (h.up hk) | skip)
  · have W1 := hR.W1
    have J1 := hR.J1
    have H1 := hR.H1
    have H2 := hR.H2
    have T0 := hR.T0
    have w1_x1 := congrFun W1 x1
    have j1 := J1 x1 a b
    have k1 := H1 x1 a b
    have kp := H2 (2 * x1 + x2) (by omega) (by omega)
    have j2 := hR.J2 x1 a b
    have sr := stepQ_rng r x1 x2 j2.1 j2.2
    have hNo : r 26 0 x1 = 0 ∨ r 35 0 (2 * x1 + x2) < 0 → wpX11_askedPlace x1 x2 r (fun v1 μ2 => rg v1 ∧ (if 0 ≤ v1 then (wpX11_offGoes x1 x2 μ2 (fun v5 μ6 => wpX11_placeOf x1 x2 μ6 (fun v7 μ8 => 0 ≤ v7 ∧ (v7 < 8 ∧ (0 ≤ (μ8 35 0 v7) ∧ (μ8 35 0 v7 < 16 ∧ (Lf (-3) (μ8 21 0 (μ8 35 0 v7)) (RelK (k + 1) G (fC 1 c) μ8)))))))) else (Lf (-3) v1 (RelK (k + 1) G (fC 1 c) μ2)))) := fun z => askedPlace_ok hR h1 h2 (fun _ => by exfalso; omega) (fun _ _ _ => ⟨by omega, ite_n (by omega) (Lf.mk rfl (h.f hk _))⟩) (fun _ _ z2 z3 => by exfalso; omega)
    have hYes : r 26 0 x1 = 1 → ∀ n, r 35 0 (2 * x1 + x2) = n → 0 ≤ n → wpX8_letOffByHands G x1 n x2 c (fun v13 μ14 => wpX11_askedPlace x1 x2 r (fun v1 μ2 => rg v1 ∧ (if 0 ≤ v1 then (wpX11_offGoes x1 x2 μ2 (fun v5 μ6 => wpX11_placeOf x1 x2 μ6 (fun v7 μ8 => 0 ≤ v7 ∧ (v7 < 8 ∧ (0 ≤ (μ8 35 0 v7) ∧ (μ8 35 0 v7 < 16 ∧ (Lf (μ14 2 7 n) (μ8 21 0 (μ8 35 0 v7)) (RelK (k + 1) G μ14 μ8)))))))) else (Lf (μ14 2 7 n) v1 (RelK (k + 1) G μ14 μ2))))) := fun e n hn n0 => by
      rw [hn] at kp
      have n1 : n < r 0 10 0 := by omega
      have h' := h.up hk
      have i12 := hR.I12 n n0 n1
      have hL := h'.2.letOff n0 n1 (stepQ r x1 x2) x2 sr.1 (by omega)
      refine byHands_ok hR a b h2 n0 n1 (askedPlace_ok hR h1 h2 (fun _ => by exfalso; omega) (fun _ _ z => by exfalso; omega) (fun _ _ _ _ => ⟨by omega, ite_p (by omega) (offGoes_ok hR a b h2 hn n0 (placeOf_ok h2 ?_))⟩))
      have e35 : loR r x1 n x2 35 0 (2 * x1 + x2) = n := hn
      rw [e35]
      exact ⟨by omega, by omega, by omega, by omega, Lf.mk (congrFun hL.E8 n) ⟨h'.1, hL⟩⟩
    refine ite_n (by omega) ⟨b, trainIn_ok h2 (fun e => ⟨by omega, ite_i (fun e2 => ?_) (fun e2 => ?_)⟩) (fun e => ⟨by omega, ite_i (fun e2 => ?_) (fun e2 => ?_)⟩)⟩
    · exact found_ok (by decide) (by decide) (hNo (by omega))
    · subst e
      rw [Int.add_zero] at hNo hYes kp
      refine ite_i (fun e3 => found_ok (by decide) (by decide) (hNo (by omega))) (fun e3 => ⟨by omega, ?_⟩)
      exact hYes (by omega) (c 3 6 x1) (by omega) (by omega)
    · exact found_ok (by decide) (by decide) (hNo (by omega))
    · subst e
      refine ite_i (fun e3 => found_ok (by decide) (by decide) (hNo (by omega))) (fun e3 => ⟨by omega, ?_⟩)
      exact hYes (by omega) (c 3 7 x1) (by omega) (by omega)
