theorem Fr.of27 {t e v : Int} {r r' : MM} (h : Fr t e (ms r 27 0 t v) r') : Fr t e r r' := h
theorem Fr.w36 {t e j v : Int} {r r' : MM} (h : Fr t e r r') : Fr t e r (ms r' 36 0 j v) := h
theorem step_ok {bd bs bw : Int} {G : GG} {c r : MM} (hR : Rel bd bs bw G c r) {t : Int} (t0 : 0 ≤ t) (t4 : t < 4) (hd : ∀ n, 0 ≤ r 22 0 n → r 22 0 n / 2 = t → r 21 0 n + 24 ≤ bd) : ∃ c' r', Rel bd bs bw G c' r' ∧ Fr t 24 r r' ∧ (∀ Q : Int → MM → Prop, Q 0 c' → wpX8_stepForward G t c Q) ∧ (∀ Q : Int → MM → Prop, Q 0 r' → wpX11_stepOn t r Q) := by
  have J2 := hR.J2
  have W2 := hR.W2
  have T0 := hR.T0
  have j := J2 t t0 t4
  have w := congrFun W2 t
  obtain ⟨v, hv⟩ : ∃ v, v = (r 27 0 t + 1) % 1440 := ⟨_, rfl⟩
  have hR1 := hR.hand (t := t) (v := v) (by omega) (by omega)
  have h1c := hR1.H1 t t0 t4
  have h2a := hR1.H2 (2 * t) (by omega) (by omega)
  have h2b := hR1.H2 (2 * t + 1) (by omega) (by omega)
  have h4a := hR1.H4 (2 * t) (by omega) (by omega)
  have h4b := hR1.H4 (2 * t + 1) (by omega) (by omega)
  have T1 := hR1.T0
  have hd1 : ∀ n, 0 ≤ ms r 27 0 t v 22 0 n → ms r 27 0 t v 22 0 n / 2 = t → ms r 27 0 t v 21 0 n + 24 ≤ bd := hd
  have cv : ms c 3 1 t v 3 1 t = v := ms_at _ _ _ _ _
  have rv : ms r 27 0 t v 27 0 t = v := ms_at _ _ _ _ _
  have dv : Int.tmod (r 27 0 t + 1) 1440 = v := by rw [hv]; exact Int.tmod_eq_emod_of_nonneg (by omega)
  -- both sides begin with the hands
  have hC : ∀ Q : Int → MM → Prop, wpX8_stepForward_J23 G Q t t v c → wpX8_stepForward G t c Q := fun Q h => by
    unfold wpX8_stepForward
    refine ⟨by omega, ite_i (fun z => ?_) (fun z => ?_)⟩
    · have : v = 0 := by omega
      rwa [this] at h
    · have : v = c 3 1 t + 1 := by omega
      rwa [this] at h
  have ey : Int.tmod v 60 = v % 60 := Int.tmod_eq_emod_of_nonneg (by omega)
  have hS : ∀ Q : Int → MM → Prop, ∀ x3, (x3 = if ms r 27 0 t v 35 0 (2 * t + 1) < 0 then 0 else 1) → wpX11_stepOn_J46 Q t (v % 60) x3 (ms r 27 0 t v) → wpX11_stepOn t r Q := fun Q x3 ex h => by
    unfold wpX11_stepOn
    rw [dv]
    refine ⟨t0, t4, by omega, all_eq ⟨by omega, all_eq ⟨by omega, by omega, by omega, ite_i (fun z => ?_) (fun z => ?_)⟩⟩⟩
    · rw [if_pos z] at ex
      rw [rv, ey, ← ex]
      exact h
    · rw [if_neg z] at ex
      rw [rv, ey, ← ex]
      exact h
  generalize hc1 : ms c 3 1 t v = c1 at *
  generalize hr1 : ms r 27 0 t v = r1 at *
  have back : ∀ {e : Int} {r' : MM}, Fr t e r1 r' → Fr t e r r' := fun h => by rw [← hr1] at h; exact h.of27
  have y0 : 0 ≤ v % 60 := by omega
  have y1 : v % 60 < 60 := by omega
  obtain ⟨y, hy⟩ : ∃ y, y = v % 60 := ⟨_, rfl⟩
  rw [← hy] at hS y0 y1 ey
  have dy : Int.tmod y 15 = y % 15 := Int.tmod_eq_emod_of_nonneg y0
  have hC2 : ∀ Q : Int → MM → Prop, (if c1 3 7 t < 0 then (if c1 3 6 t < 0 then (Q 0 c1) else (c1 3 6 t < G 0 0 ∧ (rg y ∧ (if y = 55 then (wpX8_stepForward_J103 G Q y t (c1 3 6 t) 0 1 c1) else (wpX8_stepForward_J103 G Q y t (c1 3 6 t) 0 0 c1))))) else (c1 3 7 t < G 0 0 ∧ (rg y ∧ (rg (y % 15) ∧ (if (y % 15) = 10 then (wpX8_stepForward_J61 G Q y t (c1 3 7 t) 1 1 c1) else (wpX8_stepForward_J61 G Q y t (c1 3 7 t) 1 0 c1)))))) → wpX8_stepForward G t c Q := fun Q h => by
    refine hC Q ?_
    unfold wpX8_stepForward_J23
    rw [hc1]
    refine all_eq ⟨by omega, all_eq ?_⟩
    rw [cv, ey, dy]
    exact h
  by_cases hq : r1 35 0 (2 * t + 1) < 0
  · have cq : c1 3 7 t < 0 := by omega
    by_cases hh : r1 35 0 (2 * t) < 0
    · refine ⟨c1, r1, hR1, back (Fr.refl t (by decide) r1), fun Q h => hC2 Q (ite_p cq (ite_p (by omega) h)), fun Q h => hS Q 0 (by rw [if_pos hq]) ?_⟩
      refine ⟨by omega, by omega, by omega, ite_p hh ?_⟩
      by_cases e10 : y % 15 = 10
      · refine J67_warn t0 t4 y0 y1 e10 (Or.inl rfl) (Or.inl rfl) h4b.1 h4a.1 ?_
        rw [if_pos rfl, ms_self rfl, if_neg (by omega), ms_self rfl]
        exact h
      · exact J67_off y0 y1 e10 (Or.inl rfl) (Or.inl rfl) (by omega) (fun _ _ => h) (fun z => by exfalso; omega) (fun z => by exfalso; omega)
    · have ch : c1 3 6 t = r1 35 0 (2 * t) := by omega
      have n0 : 0 ≤ r1 35 0 (2 * t) := by omega
      by_cases e55 : y = 55
      · refine ⟨ms c1 2 10 (r1 35 0 (2 * t)) 1, ms r1 36 0 (2 * t) 1, hR1.warn (by omega) (by omega) rfl n0 (Or.inr rfl), back (Fr.refl t (by decide) r1).w36, fun Q h => hC2 Q (ite_n (by omega) ?_), fun Q h => hS Q 0 (by rw [if_pos hq]) ?_⟩
        · exfalso; omega
        · refine ⟨by omega, by omega, by omega, ite_n hh ⟨by omega, ite_p rfl (J67_warn t0 t4 y0 y1 (by omega) (Or.inl rfl) (Or.inr rfl) h4b.1 h4a.1 ?_)⟩⟩
          rw [if_pos rfl, ms_self rfl, if_pos ⟨rfl, e55⟩]
          exact h
      · by_cases e0 : y = 0
        · obtain ⟨c', r', a1, a2, a3, a4⟩ := wg_ok hR1 (q := 0) t0 t4 (Or.inl rfl) (n := r1 35 0 (2 * t)) (by rw [Int.add_zero]) n0 (hd1 _ (by omega) (by omega))
          refine ⟨c', r', a1, back a2, fun Q h => hC2 Q (ite_p cq (ite_n (by omega) ⟨by omega, by omega, ite_n e55 ⟨by omega, ite_p e0 ⟨by omega, by omega, wol_l ?_⟩⟩⟩)), fun Q h => hS Q 0 (by rw [if_pos hq]) ?_⟩
          · rw [ch]
            exact a3 (fun _ μ4 => Q 0 μ4) h
          · refine ⟨by omega, by omega, by omega, ite_n hh ⟨by omega, ite_p rfl (J67_off y0 y1 (by omega) (Or.inl rfl) (Or.inr rfl) (by omega) (fun _ z => by exfalso; omega) (fun z => by exfalso; omega) (fun _ _ => a4 Q h))⟩⟩
        · refine ⟨c1, r1, hR1, back (Fr.refl t (by decide) r1), fun Q h => hC2 Q (ite_p cq (ite_n (by omega) ⟨by omega, by omega, ite_n e55 ⟨by omega, ite_n e0 ⟨by omega, by omega, wol_0 h⟩⟩⟩)), fun Q h => hS Q 0 (by rw [if_pos hq]) ?_⟩
          refine ⟨by omega, by omega, by omega, ite_n hh ⟨by omega, ite_p rfl ?_⟩⟩
          by_cases e10 : y % 15 = 10
          · refine J67_warn t0 t4 y0 y1 e10 (Or.inl rfl) (Or.inr rfl) h4b.1 h4a.1 ?_
            rw [if_pos rfl, ms_self rfl, if_neg (by omega), ms_self rfl]
            exact h
          · exact J67_off y0 y1 e10 (Or.inl rfl) (Or.inr rfl) (by omega) (fun _ _ => h) (fun z => by exfalso; omega) (fun _ z => by exfalso; omega)
  · have cq : ¬ c1 3 7 t < 0 := by omega
    have ch : c1 3 7 t = r1 35 0 (2 * t + 1) := by omega
    have n0 : 0 ≤ r1 35 0 (2 * t + 1) := by omega
    have hJ46 : ∀ Q : Int → MM → Prop, wpX11_stepOn_J67 Q t y 1 0 r1 → wpX11_stepOn_J46 Q t y 1 r1 := fun Q h => ⟨by omega, by omega, by omega, ite_i (fun _ => h) (fun _ => ⟨by omega, ite_n (by decide) h⟩)⟩
    by_cases e10 : y % 15 = 10
    · refine ⟨ms c1 2 10 (r1 35 0 (2 * t + 1)) 1, ms r1 36 0 (2 * t + 1) 1, hR1.warn (by omega) (by omega) rfl n0 (Or.inr rfl), back (Fr.refl t (by decide) r1).w36, fun Q h => hC2 Q (ite_n cq ⟨by omega, by omega, by omega, ite_p e10 ⟨by omega, by omega, ?_⟩⟩), fun Q h => hS Q 1 (by rw [if_neg hq]) (hJ46 Q (J67_warn t0 t4 y0 y1 e10 (Or.inr rfl) (Or.inl rfl) h4b.1 h4a.1 ?_))⟩
      · rw [dy]
        refine ite_n (by omega) ⟨by omega, by omega, wol_w ?_⟩
        rw [ch]
        exact h
      · rw [if_neg (by decide), if_neg (by omega)]
        have e : ms r1 36 0 (2 * t + 1) 1 36 0 (2 * t) = r1 36 0 (2 * t) := ms_nj _ _ _ (by omega) _ _
        rw [ms_self e]
        exact h
    · by_cases e0 : y % 15 = 0
      · obtain ⟨c', r', a1, a2, a3, a4⟩ := wg_ok hR1 (q := 1) t0 t4 (Or.inr rfl) (n := r1 35 0 (2 * t + 1)) rfl n0 (hd1 _ (by omega) (by omega))
        refine ⟨c', r', a1, back a2, fun Q h => hC2 Q (ite_n cq ⟨by omega, by omega, by omega, ite_n e10 ⟨by omega, by omega, ?_⟩⟩), fun Q h => hS Q 1 (by rw [if_neg hq]) (hJ46 Q (J67_off y0 y1 e10 (Or.inr rfl) (Or.inl rfl) (by omega) (fun z => by exfalso; omega) (fun _ _ => a4 Q h) (fun z => by exfalso; omega)))⟩
        rw [dy]
        refine ite_p e0 ⟨by omega, by omega, wol_l ?_⟩
        rw [ch]
        exact a3 (fun _ μ4 => Q 0 μ4) h
      · refine ⟨c1, r1, hR1, back (Fr.refl t (by decide) r1), fun Q h => hC2 Q (ite_n cq ⟨by omega, by omega, by omega, ite_n e10 ⟨by omega, by omega, ?_⟩⟩), fun Q h => hS Q 1 (by rw [if_neg hq]) (hJ46 Q (J67_off y0 y1 e10 (Or.inr rfl) (Or.inl rfl) (by omega) (fun _ _ => h) (fun _ z => by exfalso; omega) (fun z => by exfalso; omega)))⟩
        rw [dy]
        exact ite_n e0 ⟨by omega, by omega, wol_0 h⟩
