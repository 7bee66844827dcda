def actV (al be j : Int) : Int := if al < be then (if j < al then 0 else 2) else (if j < al - be then 0 else 1)
theorem path_ok {s : Int → Int} (hs : ∀ i, 0 ≤ i → i < 12 → 1 ≤ s i ∧ s i ≤ 24) {h : Int} (h0 : 0 ≤ h) (h1 : h < 12) {μ : MM} {n x8 K : Int} {b : Int → Int} (n0 : 0 ≤ n) (n1 : n < 16) (hr : ∀ i, s i = μ 13 0 (24 * n + i)) (hb : ∀ p, 0 ≤ p → p < 144 → b p = Dp s h p) (h39 : ∀ a, ovM μ 41 a 39 0 = b) (hK : μ 0 40 0 = K) (K0 : 0 ≤ K) (K1 : K < 12) (h8 : rg x8) : ∀ (m : Nat) (A B i : Int) (a : Int → Int), 0 ≤ A → A < 12 → 0 ≤ B → B < 12 → cnt ((h - A) % 12) ((h - B) % 12) = m → 0 ≤ i → i + m = K → ∃ a', (∀ j, 0 ≤ j → j < i → a' j = a j) ∧ (∀ j, i ≤ j → j < K → a' j = actV ((h - A) % 12) ((h - B) % 12) (j - i)) ∧ (∀ Q : Int → MM → Prop, Q (Int.tdiv x8 1000) (ms (ovM μ 41 a') 0 2 0 K) → ∃ f, wpX11_putRight_L236 Q f n (12 * A + B) x8 i (ovM μ 41 a)) := by
  intro m
  induction m with
  | zero =>
    intro A B i a a0 a1 b0 b1 hc i0 hi
    refine ⟨a, fun _ _ _ => rfl, fun j u v => by exfalso; omega, fun Q k => ⟨1, by omega, ?_⟩⟩
    have e40 : ovM μ 41 a 0 40 0 = K := hK
    rw [e40]
    exact ⟨by omega, ite_p (by omega) (all_eq ⟨h8, k⟩)⟩
  | succ m ih =>
    intro A B i a a0 a1 b0 b1 hc i0 hi
    obtain ⟨da, db, dc⟩ := D_act hs h0 h1 a0 a1 b0 b1
    have p0 : 0 ≤ 12 * A + B := by omega
    have p1 : 12 * A + B < 144 := by omega
    have q1 : (12 * A + B) / 12 = A := by omega
    have q2 : (12 * A + B) % 12 = B := by omega
    have dr := Dp_rng hs (h := h) (12 * A + B)
    have one : ∀ (k236 : Int → Int → Int → Int → MM → Prop) (Q : Int → MM → Prop) (f : Nat) (x : Int), 0 ≤ x ∧ x ≤ 2 → (Dp s h (12 * A + B) = cst s x (12 * A + B) + Dp s h (aft x (12 * A + B)) → k236 n (aft x (12 * A + B)) x8 (i + 1) (ovM μ 41 (upI a i x))) → (Dp s h (12 * A + B) ≠ cst s x (12 * A + B) + Dp s h (aft x (12 * A + B)) → wpX11_putRight_L248 k236 Q f n (12 * A + B) x8 i (x + 1) (ovM μ 41 a)) → wpX11_putRight_L248 k236 Q (f + 1) n (12 * A + B) x8 i x (ovM μ 41 a) := by
      intro k236 Q f x hx k1 k2
      have ar := aft_rng (a := x) p0 p1
      have cr := cst_rng hs (a := x) p0 p1
      have d1 := Dp_rng hs (h := h) (aft x (12 * A + B))
      refine after_ok p0 p1 hx ⟨ar.1, ar.2, cost_ok n0 n1 p0 p1 hx hr ⟨p0, p1, ?_⟩⟩
      rw [h39, hb _ ar.1 ar.2, hb _ p0 p1]
      refine ⟨by omega, by omega, ite_i (fun z => ⟨i0, by omega, all_eq ?_⟩) (fun z => k2 (by omega))⟩
      rw [ovM_ms]
      exact after_ok p0 p1 hx (k1 (by omega))
    have enter : ∀ (Q : Int → MM → Prop), (∃ f g, wpX11_putRight_L248 (fun x4' x7' x8' x9' μ' => wpX11_putRight_L236 Q f x4' x7' x8' x9' μ') Q g n (12 * A + B) x8 i 0 (ovM μ 41 a)) → ∃ f, wpX11_putRight_L236 Q f n (12 * A + B) x8 i (ovM μ 41 a) := by
      intro Q k
      obtain ⟨f, g, k⟩ := k
      refine ⟨f + 1, by omega, ?_⟩
      have e40 : ovM μ 41 a 0 40 0 = K := hK
      rw [e40]
      exact ⟨by omega, ite_n (by omega) ⟨g, k⟩⟩
    by_cases z : (h - A) % 12 = 0
    · have z2 : (h - B) % 12 ≠ 0 := by
        intro z2
        rw [z, z2] at hc
        unfold cnt at hc
        rw [if_neg (by decide)] at hc
        omega
      obtain ⟨t0, t1, t2⟩ := dc z z2
      have ea : aft 2 (12 * A + B) = 12 * A + (B + 11) % 12 := by
        unfold aft
        rw [if_neg (by decide), if_neg (by decide), q1, q2]
      obtain ⟨a', g1, g2, g3⟩ := ih A ((B + 11) % 12) (i + 1) (upI a i 2) a0 a1 (by omega) (by omega) (by unfold cnt at hc ⊢; split at hc <;> split <;> omega) (by omega) (by omega)
      refine ⟨a', fun j u v => ?_, fun j u v => ?_, fun Q k => enter Q ?_⟩
      · rw [g1 j u (by omega), upI_ne _ (by omega)]
      · by_cases y : j = i
        · subst y
          rw [g1 j i0 (by omega), upI_same]
          unfold actV
          rw [if_pos (by omega), if_neg (by omega)]
        · rw [g2 j (by omega) v]
          unfold actV
          by_cases w : (h - (B + 11) % 12) % 12 = 0
          · exfalso
            unfold cnt at hc
            rw [if_pos (by omega)] at hc
            omega
          · rw [if_pos (by omega), if_neg (by omega), if_pos (by omega), if_neg (by omega)]
      · obtain ⟨f, k⟩ := g3 Q k
        refine ⟨f, 3, one _ Q 2 0 (by decide) (fun w => absurd w t0) (fun _ => one _ Q 1 1 (by decide) (fun w => absurd w t1) (fun _ => one _ Q 0 2 (by decide) (fun _ => ?_) (fun w => absurd t2 w)))⟩
        rw [ea]
        exact k
    · by_cases z2 : (h - A) % 12 = (h - B) % 12
      · obtain ⟨t0, t1⟩ := db z z2
        have ea : aft 1 (12 * A + B) = 12 * ((A + 1) % 12) + (B + 1) % 12 := by
          unfold aft
          rw [if_neg (by decide), if_pos rfl, q1, q2]
        obtain ⟨a', g1, g2, g3⟩ := ih ((A + 1) % 12) ((B + 1) % 12) (i + 1) (upI a i 1) (by omega) (by omega) (by omega) (by omega) (by unfold cnt at hc ⊢; split at hc <;> split <;> omega) (by omega) (by omega)
        refine ⟨a', fun j u v => ?_, fun j u v => ?_, fun Q k => enter Q ?_⟩
        · rw [g1 j u (by omega), upI_ne _ (by omega)]
        · by_cases y : j = i
          · subst y
            rw [g1 j i0 (by omega), upI_same]
            unfold actV
            rw [if_neg (by omega), if_neg (by omega)]
          · rw [g2 j (by omega) v]
            unfold actV
            rw [if_neg (by omega), if_neg (by omega), if_neg (by omega), if_neg (by omega)]
        · obtain ⟨f, k⟩ := g3 Q k
          refine ⟨f, 2, one _ Q 1 0 (by decide) (fun w => absurd w t0) (fun _ => one _ Q 0 1 (by decide) (fun _ => ?_) (fun w => absurd t1 w))⟩
          rw [ea]
          exact k
      · have t0 := da z z2
        have ea : aft 0 (12 * A + B) = 12 * ((A + 1) % 12) + B := by
          unfold aft
          rw [if_pos rfl, q1, q2]
        obtain ⟨a', g1, g2, g3⟩ := ih ((A + 1) % 12) B (i + 1) (upI a i 0) (by omega) (by omega) b0 b1 (by unfold cnt at hc ⊢; split at hc <;> split <;> omega) (by omega) (by omega)
        refine ⟨a', fun j u v => ?_, fun j u v => ?_, fun Q k => enter Q ?_⟩
        · rw [g1 j u (by omega), upI_ne _ (by omega)]
        · by_cases y : j = i
          · subst y
            rw [g1 j i0 (by omega), upI_same]
            unfold actV
            split
            · rw [if_pos (by omega)]
            · rw [if_pos (by omega)]
          · rw [g2 j (by omega) v]
            unfold actV
            have e1 : (h - (A + 1) % 12) % 12 = (h - A) % 12 - 1 := by omega
            rw [e1]
            by_cases w : (h - A) % 12 < (h - B) % 12
            · rw [if_pos (by omega), if_pos w]
              by_cases w2 : j - i < (h - A) % 12
              · rw [if_pos (by omega), if_pos w2]
              · rw [if_neg (by omega), if_neg w2]
            · rw [if_neg (by omega), if_neg w]
              by_cases w2 : j - i < (h - A) % 12 - (h - B) % 12
              · rw [if_pos (by omega), if_pos w2]
              · rw [if_neg (by omega), if_neg w2]
        · obtain ⟨f, k⟩ := g3 Q k
          refine ⟨f, 1, one _ Q 0 0 (by decide) (fun _ => ?_) (fun w => absurd t0 w)⟩
          rw [ea]
          exact k
/-! the class's plan -/
theorem ms_ms (μ : MM) (k e : Nat) (j v w : Int) : ms (ms μ k e j v) k e j w = ms μ k e j w := by
  funext f g x
  unfold ms
  split <;> rfl
theorem plAdd_ok {G : GG} {c : MM} {act : Int} : ∀ (m : Nat) (y x : Int) (a : Int → Int) (k : Int), 0 ≤ y → y + m = x → x ≤ 12 → 0 ≤ k → k + m ≤ 12 → ∃ a', (∀ j, j < k → a' j = a j) ∧ (∀ j, k ≤ j → j < k + m → a' j = act) ∧ (∀ Q : Int → MM → Prop, Q 0 (ms (ovM c 15 a') 5 1 0 (k + m)) → wpX5_add_L2 G Q (m + 1) act x y (ms (ovM c 15 a) 5 1 0 k)) := by
  intro m
  induction m with
  | zero =>
    intro y x a k y0 hy hx k0 hk
    refine ⟨a, fun _ _ => rfl, fun j u v => by exfalso; omega, fun Q h => ⟨by omega, by omega, ite_p (by omega) ?_⟩⟩
    rw [show k + ((0 : Nat) : Int) = k by omega] at h
    exact h
  | succ m ih =>
    intro y x a k y0 hy hx k0 hk
    obtain ⟨a', g1, g2, g3⟩ := ih (y + 1) x (upI a k act) (k + 1) (by omega) (by omega) hx (by omega) (by omega)
    refine ⟨a', fun j u => ?_, fun j u v => ?_, fun Q h => ⟨by omega, by omega, ite_n (by omega) ?_⟩⟩
    · rw [g1 j (by omega), upI_ne _ (by omega)]
    · by_cases w : j = k
      · subst w
        rw [g1 j (by omega), upI_same]
      · exact g2 j (by omega) (by omega)
    · have e1 : ms (ovM c 15 a) 5 1 0 k 5 1 0 = k := ms_at _ _ _ _ _
      rw [e1]
      refine ⟨by omega, ite_n (by omega) ⟨k0, by omega, all_eq ?_⟩⟩
      have e2 : ms (ms (ovM c 15 a) 5 1 0 k) 15 0 k act = ms (ovM c 15 (upI a k act)) 5 1 0 k := by
        rw [ms_comm _ (show (5 : Nat) ≠ 15 by decide), ovM_ms]
      rw [e2]
      have e3 : ms (ovM c 15 (upI a k act)) 5 1 0 k 5 1 0 = k := ms_at _ _ _ _ _
      rw [e3, ms_ms]
      refine all_eq (g3 Q ?_)
      rw [show k + 1 + (m : Int) = k + ((m + 1 : Nat) : Int) by omega]
      exact h
theorem add3_ok {G : GG} {c : MM} {act x k : Int} (a : Int → Int) (x0 : 0 ≤ x) (k0 : 0 ≤ k) (hk : k + x ≤ 12) : ∃ a', (∀ j, j < k → a' j = a j) ∧ (∀ j, k ≤ j → j < k + x → a' j = act) ∧ (∀ Q : Int → MM → Prop, Q 0 (ms (ovM c 15 a') 5 1 0 (k + x)) → wpX5_add G act x (ms (ovM c 15 a) 5 1 0 k) Q) := by
  obtain ⟨a', g1, g2, g3⟩ := plAdd_ok (G := G) (c := c) (act := act) x.toNat 0 x a k (by decide) (by omega) (by omega) k0 (by omega)
  refine ⟨a', g1, fun j u v => g2 j u (by omega), fun Q h => ⟨_, g3 Q ?_⟩⟩
  rw [show k + (x.toNat : Int) = k + x by omega]
  exact h
theorem plan_ok {bd bs bw : Int} {G : GG} {c r : MM} (hR : Rel bd bs bw G c r) {n nx h : Int} (n0 : 0 ≤ n) (n1 : n < r 0 10 0) (hk : r 11 0 n = 1 ∨ r 11 0 n = 3) (h12 : r 12 0 n = 12) (x0 : 0 ≤ nx) (x1 : nx < 12) (h0 : 0 ≤ h) (h1 : h < 12) : ∃ a, (∀ j, 0 ≤ j → j < cnt ((h - r 14 0 n) % 12) ((h - nx) % 12) → a j = actV ((h - r 14 0 n) % 12) ((h - nx) % 12) j) ∧ (∀ Q : Int → MM → Prop, Q (SS (fun i => r 13 0 (24 * n + i)) (r 14 0 n) ((h - r 14 0 n) % 12).toNat) (ms (ovM c 15 a) 5 1 0 (cnt ((h - r 14 0 n) % 12) ((h - nx) % 12))) → wpX5_plan G n nx h c Q) := by
  have E1 := hR.E1
  have E3 := hR.E3
  have I1 := hR.I1
  have I2 := hR.I2
  have T1 := hR.T1
  have e3 := congrFun E3 n
  have i2 := I2 n n0 n1
  have g := T1 n n0 n1
  have al0 : 0 ≤ (h - r 14 0 n) % 12 := by omega
  have al1 : (h - r 14 0 n) % 12 < 12 := by omega
  have be0 : 0 ≤ (h - nx) % 12 := by omega
  have be1 : (h - nx) % 12 < 12 := by omega
  have last : ∀ (μ : MM) (Q : Int → MM → Prop), μ 9 0 = r 13 0 → μ 2 14 n = r 14 0 n → Q (SS (fun i => r 13 0 (24 * n + i)) (r 14 0 n) ((h - r 14 0 n) % 12).toNat) μ → ∃ f, wpX5_plan_L103 G Q f n ((h - r 14 0 n) % 12) 0 0 μ := by
    intro μ Q u9 u14 k
    have aux : ∀ (m x : Nat), (x : Int) + m = (h - r 14 0 n) % 12 → wpX5_plan_L103 G Q (m + 1) n ((h - r 14 0 n) % 12) (SS (fun i => r 13 0 (24 * n + i)) (r 14 0 n) x) x μ := by
      intro m
      induction m with
      | zero =>
        intro x hx
        have e : x = ((h - r 14 0 n) % 12).toNat := by omega
        rw [← e] at k
        exact ⟨by omega, by omega, ite_p (by omega) k⟩
      | succ m ih =>
        intro x hx
        have k2 := ih (x + 1) (by omega)
        have es : SS (fun i => r 13 0 (24 * n + i)) (r 14 0 n) (x + 1) = SS (fun i => r 13 0 (24 * n + i)) (r 14 0 n) x + r 13 0 (24 * n + (r 14 0 n + x) % 12) := by
          unfold SS
          rw [sumF_succ, Int.zero_add]
        rw [es] at k2
        refine ⟨by omega, by omega, ite_n (by omega) (strokesRound_ok (by omega) (by omega) (by omega) (by omega) ?_)⟩
        rw [u9, u14, g.2.1, h12]
        exact k2
    exact ⟨_, aux ((h - r 14 0 n) % 12).toNat 0 (by omega)⟩
  generalize hal : (h - r 14 0 n) % 12 = al at *
  generalize hbe : (h - nx) % 12 = be at *
  have body : ∀ t0 : Int, t0 = (if al < be then 0 else 1) → ∃ a, (∀ j, 0 ≤ j → j < cnt al be → a j = actV al be j) ∧ (∀ Q : Int → MM → Prop, Q (SS (fun i => r 13 0 (24 * n + i)) (r 14 0 n) al.toNat) (ms (ovM c 15 a) 5 1 0 (cnt al be)) → wpX5_plan_J35 G Q n al be t0 c) := by
    intro t0 ht
    by_cases z : al < be
    · rw [if_pos z] at ht
      subst ht
      obtain ⟨a1, p1, p2, p3⟩ := add3_ok (G := G) (c := c) (act := 0) (x := al) (k := 0) (c 15 0) al0 (by decide) (by omega)
      obtain ⟨a2, q1, q2, q3⟩ := add3_ok (G := G) (c := c) (act := 1) (x := 0) (k := 0 + al) a1 (by decide) (by omega) (by omega)
      obtain ⟨a3, s1, s2, s3⟩ := add3_ok (G := G) (c := c) (act := 2) (x := 12 - be) (k := 0 + al + 0) a2 (by omega) (by omega) (by omega)
      have ec : cnt al be = 0 + al + 0 + (12 - be) := by
        unfold cnt
        rw [if_pos z]
        omega
      refine ⟨a3, fun j u v => ?_, fun Q k => ?_⟩
      · unfold actV
        rw [if_pos z]
        by_cases w : j < al
        · rw [if_pos w, s1 j (by omega), q1 j (by omega), p2 j u (by omega)]
        · rw [if_neg w, s2 j (by omega) (by omega)]
      · unfold wpX5_plan_J35 wpX5_plan_J59 wpX5_plan_J75 wpX5_plan_J94
        have eb : ms c 5 1 0 0 = ms (ovM c 15 (c 15 0)) 5 1 0 0 := by rw [ovM_self]
        refine all_eq ⟨by omega, ite_p rfl ?_⟩
        rw [eb]
        rw [ec] at k
        exact p3 _ ⟨by omega, ite_p rfl (q3 _ ⟨by omega, ite_p rfl (s3 _ (last _ Q E1 e3 k))⟩)⟩
    · rw [if_neg z] at ht
      subst ht
      obtain ⟨a1, p1, p2, p3⟩ := add3_ok (G := G) (c := c) (act := 0) (x := al - be) (k := 0) (c 15 0) (by omega) (by decide) (by omega)
      obtain ⟨a2, q1, q2, q3⟩ := add3_ok (G := G) (c := c) (act := 1) (x := be) (k := 0 + (al - be)) a1 (by omega) (by omega) (by omega)
      obtain ⟨a3, s1, s2, s3⟩ := add3_ok (G := G) (c := c) (act := 2) (x := 0) (k := 0 + (al - be) + be) a2 (by omega) (by omega) (by omega)
      have ec : cnt al be = 0 + (al - be) + be + 0 := by
        unfold cnt
        rw [if_neg z]
        omega
      refine ⟨a3, fun j u v => ?_, fun Q k => ?_⟩
      · unfold actV
        rw [if_neg z]
        by_cases w : j < al - be
        · rw [if_pos w, s1 j (by omega), q1 j (by omega), p2 j u (by omega)]
        · rw [if_neg w, s1 j (by omega), q2 j (by omega) (by omega)]
      · unfold wpX5_plan_J35 wpX5_plan_J59 wpX5_plan_J75 wpX5_plan_J94
        have eb : ms c 5 1 0 0 = ms (ovM c 15 (c 15 0)) 5 1 0 0 := by rw [ovM_self]
        refine all_eq ⟨by omega, ite_n (by decide) ?_⟩
        rw [eb]
        rw [ec] at k
        exact p3 _ ⟨by omega, ite_n (by decide) (q3 _ ⟨by omega, ite_n (by decide) (s3 _ (last _ Q E1 e3 k))⟩)⟩
  obtain ⟨a, k1, k2⟩ := body _ rfl
  refine ⟨a, k1, fun Q k => ?_⟩
  have k3 := k2 Q k
  unfold wpX5_plan
  rw [e3]
  refine floorMod_ok (by omega) (by omega) (by omega) (floorMod_ok (by omega) (by omega) (by omega) ?_)
  rw [hal, hbe]
  refine ⟨by omega, by omega, ite_i (fun z => ?_) (fun z => ?_)⟩
  · rw [if_pos z] at k3
    exact k3
  · rw [if_neg z] at k3
    exact k3
