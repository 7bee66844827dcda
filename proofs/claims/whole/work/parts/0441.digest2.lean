theorem mix9_ok {G : GG} {n h : Int} {c : MM} {Q : Int → MM → Prop} (g0 : 0 ≤ G 2 n) (g1 : G 2 n ≤ 24) (hv : ∀ j, 0 ≤ j → j < G 2 n → rg (c 9 0 (24 * n + j))) (hQ : Q (hF h (c 9 0) (24 * n) (G 2 n).toNat) c) : wpX10_mixAll_9 G h n c Q := by
  have aux : ∀ (m : Nat) (x : Nat), (x : Int) + m = G 2 n → wpX10_mixAll_9_L2 G Q (m + 1) (hF h (c 9 0) (24 * n) x) n x c := by
    intro m
    induction m with
    | zero =>
      intro x hx
      have e : x = (G 2 n).toNat := by omega
      subst e
      exact ⟨by omega, by omega, ite_p (by omega) hQ⟩
    | succ m ih =>
      intro x hx
      exact ⟨by omega, by omega, ite_n (by omega) ⟨by omega, by omega, hv x (by omega) (by omega), ih (x + 1) (by omega)⟩⟩
  exact ⟨_, aux (G 2 n).toNat 0 (by omega)⟩
theorem mix10_ok {G : GG} {n h : Int} {c : MM} {Q : Int → MM → Prop} (g0 : 0 ≤ G 3 n) (g1 : G 3 n ≤ 48) (hv : ∀ j, 0 ≤ j → j < G 3 n → rg (c 10 0 (48 * n + j))) (hQ : Q (hF h (c 10 0) (48 * n) (G 3 n).toNat) c) : wpX10_mixAll_10 G h n c Q := by
  have aux : ∀ (m : Nat) (x : Nat), (x : Int) + m = G 3 n → wpX10_mixAll_10_L2 G Q (m + 1) (hF h (c 10 0) (48 * n) x) n x c := by
    intro m
    induction m with
    | zero =>
      intro x hx
      have e : x = (G 3 n).toNat := by omega
      subst e
      exact ⟨by omega, by omega, ite_p (by omega) hQ⟩
    | succ m ih =>
      intro x hx
      exact ⟨by omega, by omega, ite_n (by omega) ⟨by omega, by omega, hv x (by omega) (by omega), ih (x + 1) (by omega)⟩⟩
  exact ⟨_, aux (G 3 n).toNat 0 (by omega)⟩
theorem dL94_ok {k12 : Int → Int → MM → Prop} {n h : Int} {r : MM} {Q : Int → MM → Prop} (n0 : 0 ≤ n) (n1 : n < 16) (hk : rg (r 11 0 n)) (g0 : 0 ≤ r 15 0 n) (g1 : r 15 0 n ≤ 48) (hp : rg (r 17 0 n)) (hv : ∀ j, rg (r 16 0 j)) (hQ : (if r 11 0 n = 3 then k12 (31 * hF h (r 16 0) (48 * n) (r 15 0 n).toNat + r 17 0 n) (n + 1) r else k12 (hF h (r 16 0) (48 * n) (r 15 0 n).toNat) (n + 1) r)) : ∃ m, wpX11_digest_L94 k12 Q m h n 0 r := by
  have aux : ∀ (m : Nat) (x : Nat), (x : Int) + m = r 15 0 n → wpX11_digest_L94 k12 Q (m + 1) (hF h (r 16 0) (48 * n) x) n x r := by
    intro m
    induction m with
    | zero =>
      intro x hx
      have e : x = (r 15 0 n).toNat := by omega
      subst e
      refine ⟨n0, n1, by omega, by omega, ite_p (by omega) ⟨hk, ?_⟩⟩
      by_cases z : r 11 0 n = 3
      · rw [if_pos z] at hQ
        exact ite_p z ⟨hp, hQ⟩
      · rw [if_neg z] at hQ
        exact ite_n z hQ
    | succ m ih =>
      intro x hx
      exact ⟨n0, n1, by omega, by omega, ite_n (by omega) ⟨by omega, by omega, hv _, all_eq (ih (x + 1) (by omega))⟩⟩
  exact ⟨_, aux (r 15 0 n).toNat 0 (by omega)⟩
theorem dL54_ok {k12 : Int → Int → MM → Prop} {n h : Int} {r : MM} {Q : Int → MM → Prop} (n0 : 0 ≤ n) (n1 : n < 16) (g0 : 0 ≤ r 12 0 n) (g1 : r 12 0 n ≤ 24) (hv : ∀ j, 0 ≤ j → j < r 12 0 n → rg (r 13 0 (24 * n + j))) (hQ : ∃ m, wpX11_digest_L94 k12 Q m (hF h (r 13 0) (24 * n) (r 12 0 n).toNat) n 0 r) : ∃ m, wpX11_digest_L54 k12 Q m h n 0 r := by
  have aux : ∀ (m : Nat) (x : Nat), (x : Int) + m = r 12 0 n → wpX11_digest_L54 k12 Q (m + 1) (hF h (r 13 0) (24 * n) x) n x r := by
    intro m
    induction m with
    | zero =>
      intro x hx
      have e : x = (r 12 0 n).toNat := by omega
      subst e
      exact ⟨n0, n1, by omega, by omega, ite_p (by omega) hQ⟩
    | succ m ih =>
      intro x hx
      exact ⟨n0, n1, by omega, by omega, ite_n (by omega) ⟨by omega, by omega, hv x (by omega) (by omega), all_eq (ih (x + 1) (by omega))⟩⟩
  exact ⟨_, aux (r 12 0 n).toNat 0 (by omega)⟩
theorem dTrain {bd bs bw : Int} {G : GG} {c r : MM} (hR : Rel bd bs bw G c r) {n : Int} (n0 : 0 ≤ n) (n1 : n < r 0 10 0) (h : Int) : ∃ v, (∀ Q : Int → MM → Prop, Q v c → wpX10_mixTrain G h n c Q) ∧ (∀ (k12 : Int → Int → MM → Prop) (Q : Int → MM → Prop), k12 v (n + 1) r → ∃ m, wpX11_digest_L23 k12 Q m h n 0 r) := by
  have T0 := hR.T0
  have T1 := hR.T1
  have I1 := hR.I1
  have I3 := hR.I3
  have I9 := hR.I9
  have I10 := hR.I10
  have I11 := hR.I11
  have E1 := hR.E1
  have E2 := hR.E2
  have E4 := hR.E4
  have g := T1 n n0 n1
  have i1 := I1 n n0 n1
  have i9 := I9 n n0 n1
  have i10 := I10 n n0 n1
  have e4 := congrFun E4 n
  have aux : ∀ (m : Nat) (x : Nat) (h : Int), (x : Int) + m = 8 → ∃ h8, (∀ Q : Int → MM → Prop, (wpX10_mixAll_9 G h8 n c (fun v3 μ4 => if G 1 n = 3 then (wpX10_mixAll_10 G v3 n μ4 (fun v6 μ7 => rg (μ7 2 16 n) ∧ (wpX10_mix G v6 (μ7 2 16 n) μ7 (fun v9 μ10 => Q v9 μ10)))) else (Q v3 μ4))) → wpX10_mixTrain_L17 G Q (m + 1) h n n x c) ∧ (∀ (k12 : Int → Int → MM → Prop) (Q : Int → MM → Prop), (∃ n3, wpX11_digest_L54 k12 Q n3 h8 n 0 r) → wpX11_digest_L23 k12 Q (m + 1) h n x r) := by
    intro m
    induction m with
    | zero =>
      intro x h hx
      exact ⟨h, fun Q k => ⟨by omega, ite_p (by omega) k⟩, fun k12 Q k => ⟨by omega, ite_p (by omega) k⟩⟩
    | succ m ih =>
      intro x h hx
      obtain ⟨v, a1, a2, a3⟩ := told_v hR n0 n1 x (by omega) (by omega)
      obtain ⟨h8, b1, b2⟩ := ih (x + 1) (31 * h + v) (by omega)
      exact ⟨h8, fun Q k => ⟨by omega, ite_n (by omega) (a2 _ ⟨a1, b1 Q k⟩)⟩, fun k12 Q k => ⟨by omega, ite_n (by omega) (a3 _ ⟨a1, all_eq (b2 k12 Q k)⟩)⟩⟩
  obtain ⟨h8, b1, b2⟩ := aux 8 0 h (by decide)
  have hv : ∀ j, 0 ≤ j → j < r 12 0 n → rg (r 13 0 (24 * n + j)) := fun j a b => by have := I3 n j n0 n1 a b; omega
  refine ⟨if r 11 0 n = 3 then 31 * hF (hF h8 (r 13 0) (24 * n) (r 12 0 n).toNat) (r 16 0) (48 * n) (r 15 0 n).toNat + r 17 0 n else hF h8 (r 13 0) (24 * n) (r 12 0 n).toNat, fun Q k => ?_, fun k12 Q k => ⟨9, b2 k12 Q (dL54_ok n0 (by omega) (by omega) (by omega) hv (dL94_ok n0 (by omega) (by omega) (by omega) (by omega) (by omega) (fun j => by have := I11 j; omega) ?_))⟩⟩
  · unfold wpX10_mixTrain
    refine trainOf_ok hR (by omega) (fun _ => by exfalso; omega) (fun _ _ => ite_n (by omega) ⟨by omega, 9, b1 Q (mix9_ok (by omega) (by omega) (fun j a b => by rw [E1]; exact hv j a (by omega)) ?_)⟩)
    rw [E1, g.2.1]
    by_cases z : r 11 0 n = 3
    · rw [if_pos z] at k
      refine ite_p (by omega) (mix10_ok (by omega) (by omega) (fun j a b => by rw [E2]; have := I11 (48 * n + j); omega) ⟨by omega, ?_⟩)
      rw [E2, g.2.2, e4]
      exact k
    · rw [if_neg z] at k
      exact ite_n (by omega) k
  · by_cases z : r 11 0 n = 3
    · rw [if_pos z] at k ⊢
      exact k
    · rw [if_neg z] at k ⊢
      have e0 : (r 15 0 n).toNat = 0 := by omega
      rw [e0]
      exact k
theorem dTower {bd bs bw : Int} {G : GG} {c r : MM} (hR : Rel bd bs bw G c r) {t : Int} (t0 : 0 ≤ t) (t4 : t < 4) (h : Int) : ∃ v, (∀ Q : Int → MM → Prop, Q v c → wpX10_mixTower G h t c Q) ∧ (∀ (k167 : Int → Int → MM → Prop) (Q : Int → MM → Prop), k167 v (t + 1) r → (0 ≤ t ∧ (t < 4 ∧ (rg (r 26 0 t) ∧ (if (r 26 0 t) = 0 then (∀ y9 : Int, y9 = (31 * h) - 1 → (wpX11_digest_J297 k167 Q y9 t r)) else (∃ n8 : Nat, wpX11_digest_L195 k167 Q n8 h t 0 r)))))) := by
  have W1 := hR.W1
  have J1 := hR.J1
  have L1 := hR.L1
  have L2 := hR.L2
  have w1 := congrFun W1 t
  have j1 := J1 t t0 t4
  have l1 := L1 t t0 t4
  by_cases z : r 26 0 t = 0
  · refine ⟨31 * h - 1, fun Q k => ?_, fun k167 Q k => ⟨t0, t4, by omega, ite_p z (all_eq k)⟩⟩
    unfold wpX10_mixTower wpX10_mixTower_J20 wpX10_mix
    exact towerOf_ok (by omega) (fun _ => by exfalso; omega) (fun _ _ => ite_n (by omega) ⟨t4, by omega, ite_p (by omega) k⟩)
  · -- the four numbers of the newest entry
    have ent : ∀ (m : Nat) (x : Nat) (h : Int), (x : Int) + m = 4 → ∃ v, (∀ Q : Int → MM → Prop, Q v c → wpX10_mixTower_L74 G Q (m + 1) h t x c) ∧ (∀ (k167 : Int → Int → MM → Prop) (Q : Int → MM → Prop), k167 v (t + 1) r → wpX11_digest_L240 k167 Q (m + 1) h t x r) := by
      intro m
      induction m with
      | zero =>
        intro x h hx
        exact ⟨h, fun Q k => ⟨by omega, ite_p (by omega) k⟩, fun k167 Q k => ⟨by omega, ite_p (by omega) k⟩⟩
      | succ m ih =>
        intro x h hx
        by_cases e0 : r 37 0 t = 0
        · obtain ⟨v, b1, b2⟩ := ih (x + 1) (31 * h + 0) (by omega)
          exact ⟨v, fun Q k => ⟨by omega, ite_n (by omega) ⟨by omega, ite_p (by omega) (b1 Q k)⟩⟩, fun k167 Q k => ⟨by omega, ite_n (by omega) ⟨t0, t4, by omega, ite_p e0 ⟨by omega, b2 k167 Q k⟩⟩⟩⟩
        · have l2 := L2 t 0 t0 t4 (by omega) (by omega)
          unfold okL at l2
          obtain ⟨w, hw⟩ : ∃ w, w = r 38 0 (240 * t + 4 * r 37 0 t - 4 + x) := ⟨_, rfl⟩
          have hp : 240 * t + 4 * r 37 0 t - 4 = 240 * t + 4 * (r 37 0 t - 1 - 0) := by omega
          have hrw : rg w := by
            rcases (show x = 0 ∨ x = 1 ∨ x = 2 ∨ x = 3 by omega) with rfl | rfl | rfl | rfl
            · rw [hw, hp]
              show rg (r 38 0 (240 * t + 4 * (r 37 0 t - 1 - 0) + 0))
              rw [Int.add_zero]
              omega
            · rw [hw, hp]
              exact l2.2.2.1
            · rw [hw, hp]
              exact l2.2.2.2.1
            · rw [hw, hp]
              exact l2.2.2.2.2
          have cls : ∀ Q : Int → MM → Prop, Q w c → wpX3_entry G t 0 x c Q := by
            intro Q k
            unfold wpX3_entry
            refine ⟨by omega, ite_n (by omega) ⟨by omega, ite_n (by omega) (ite_p (by omega) (floorMod_ok (by omega) (by omega) (by omega) ⟨by omega, ?_⟩))⟩⟩
            rw [hw, hp] at k
            rcases (show x = 0 ∨ x = 1 ∨ x = 2 ∨ x = 3 by omega) with rfl | rfl | rfl | rfl
            · have k : Q (r 38 0 (240 * t + 4 * (r 37 0 t - 1 - 0) + 0)) c := k
              rw [Int.add_zero, ← l2.1.1] at k
              exact ite_p rfl ⟨by omega, by omega, k⟩
            · have k : Q (r 38 0 (240 * t + 4 * (r 37 0 t - 1 - 0) + 1)) c := k
              rw [← l2.1.2.1] at k
              exact ite_n (by decide) (ite_p rfl ⟨by omega, by omega, k⟩)
            · have k : Q (r 38 0 (240 * t + 4 * (r 37 0 t - 1 - 0) + 2)) c := k
              rw [← l2.1.2.2.1] at k
              exact ite_n (by decide) (ite_n (by decide) (ite_p rfl ⟨by omega, by omega, k⟩))
            · have k : Q (r 38 0 (240 * t + 4 * (r 37 0 t - 1 - 0) + 3)) c := k
              rw [← l2.1.2.2.2] at k
              exact ite_n (by decide) (ite_n (by decide) (ite_n (by decide) ⟨by omega, by omega, k⟩))
          obtain ⟨v, b1, b2⟩ := ih (x + 1) (31 * h + w) (by omega)
          refine ⟨v, fun Q k => ⟨by omega, ite_n (by omega) ⟨by omega, ite_n (by omega) (cls _ ⟨hrw, b1 Q k⟩)⟩⟩, fun k167 Q k => ⟨by omega, ite_n (by omega) ⟨t0, t4, by omega, ite_n e0 ⟨by omega, by omega, ?_⟩⟩⟩⟩
          rw [← hw]
          exact ⟨hrw, b2 k167 Q k⟩
    have aux : ∀ (m : Nat) (x : Nat) (h : Int), (x : Int) + m = 9 → ∃ v, (∀ Q : Int → MM → Prop, Q v c → wpX10_mixTower_L31 G Q (m + 1) h t t x c) ∧ (∀ (k167 : Int → Int → MM → Prop) (Q : Int → MM → Prop), k167 v (t + 1) r → wpX11_digest_L195 k167 Q (m + 1) h t x r) := by
      intro m
      induction m with
      | zero =>
        intro x h hx
        obtain ⟨v, b1, b2⟩ := ent 4 0 (31 * h + r 37 0 t) (by decide)
        refine ⟨v, fun Q k => ⟨by omega, ite_p (by omega) ⟨by omega, 5, ?_⟩⟩, fun k167 Q k => ⟨by omega, ite_p (by omega) ⟨t0, t4, by omega, all_eq ⟨5, b2 k167 Q k⟩⟩⟩⟩
        rw [l1.2.1]
        exact b1 Q k
      | succ m ih =>
        intro x h hx
        obtain ⟨v, a1, a2, a3⟩ := tells_v hR t0 t4 z x (by omega) (by omega)
        obtain ⟨v9, b1, b2⟩ := ih (x + 1) (31 * h + v) (by omega)
        exact ⟨v9, fun Q k => ⟨by omega, ite_n (by omega) (a2 _ ⟨a1, b1 Q k⟩)⟩, fun k167 Q k => ⟨by omega, ite_n (by omega) (a3 _ ⟨a1, all_eq (b2 k167 Q k)⟩)⟩⟩
    obtain ⟨v, b1, b2⟩ := aux 9 0 h (by decide)
    refine ⟨v, fun Q k => ?_, fun k167 Q k => ⟨t0, t4, by omega, ite_n z ⟨10, b2 k167 Q k⟩⟩⟩
    unfold wpX10_mixTower
    exact towerOf_ok (by omega) (fun _ => by exfalso; omega) (fun _ _ => ite_n (by omega) ⟨t4, by omega, ite_n (by omega) ⟨10, b1 Q k⟩⟩)
theorem dRow {bd bs bw : Int} {G : GG} {c r : MM} (hR : Rel bd bs bw G c r) {j : Int} (j0 : 0 ≤ j) (j8 : j < 8) (h : Int) : ∃ v, (∀ Q : Int → MM → Prop, Q v c → wpX10_mixRow G h j c Q) ∧ (∀ (k305 : Int → Int → MM → Prop) (Q : Int → MM → Prop), k305 v (j + 1) r → (0 ≤ j ∧ (j < 8 ∧ (rg (r 7 0 j) ∧ (if 0 ≤ (r 7 0 j) then (wpX11_digest_J335 k305 Q j (31 * h) (r 7 0 j) r) else (wpX11_digest_J335 k305 Q j (31 * h) (-1) r)))))) := by
  have R1 := hR.R1
  have R2 := hR.R2
  have R3 := hR.R3
  have r3 := R3 j j0 j8
  have aux : ∀ (m : Nat) (x : Nat) (h : Int), (x : Int) + m = r 7 0 j → c 1 1 j = r 7 0 j → ∃ v, (∀ Q : Int → MM → Prop, Q v c → wpX10_mixRow_L18 G Q (m + 1) h j x c) ∧ (∀ (k305 : Int → Int → MM → Prop) (Q : Int → MM → Prop), k305 v (j + 1) r → wpX11_digest_L341 k305 Q (m + 1) h j x r) := by
    intro m
    induction m with
    | zero =>
      intro x h hx he
      exact ⟨h, fun Q k => ⟨by omega, by omega, ite_p (by omega) k⟩, fun k305 Q k => ⟨j0, j8, by omega, by omega, ite_p (by omega) k⟩⟩
    | succ m ih =>
      intro x h hx he
      have b2 := R2 (48 * j + x)
      have b1 := congrFun R1 (48 * j + x)
      obtain ⟨v, a1, a2⟩ := ih (x + 1) (31 * h + r 8 0 (48 * j + x)) (by omega) he
      refine ⟨v, fun Q k => ⟨by omega, by omega, ite_n (by omega) (at_ok (by omega) (by omega) (by omega) (by omega) ⟨by omega, ?_⟩)⟩, fun k305 Q k => ⟨j0, j8, by omega, by omega, ite_n (by omega) ⟨by omega, by omega, by omega, all_eq (a2 k305 Q k)⟩⟩⟩
      rw [b1]
      exact a1 Q k
  by_cases z : 0 ≤ r 7 0 j
  · obtain ⟨v, a1, a2⟩ := aux (r 7 0 j).toNat 0 (31 * h + r 7 0 j) (by omega) (by omega)
    have e : c 1 1 j = r 7 0 j := by omega
    refine ⟨v, fun Q k => ite_n (by omega) ⟨j8, by omega, (r 7 0 j).toNat + 1, ?_⟩, fun k305 Q k => ⟨j0, j8, by omega, ite_p z ⟨by omega, (r 7 0 j).toNat + 1, a2 k305 Q k⟩⟩⟩
    rw [e]
    exact a1 Q k
  · have e : c 1 1 j = -1 := by omega
    refine ⟨31 * h + (-1), fun Q k => ite_n (by omega) ⟨j8, by omega, 1, ?_⟩, fun k305 Q k => ⟨j0, j8, by omega, ite_n z ⟨by omega, 1, j0, j8, by omega, by omega, ite_p (by omega) k⟩⟩⟩
    rw [e]
    exact ⟨by omega, by omega, ite_p (by omega) k⟩
theorem rel_digest {k : Int} {G : GG} {c r : MM} (h : RelK k G c r) (hk : k < 512) : wpX10_digest G c (fun v c' => wpX11_digest r (fun v' r' => Lf v v' (RelK (k + 1) G c' r'))) := by
  have hR := h.2
  have S4 := hR.S4
  have S5 := hR.S5
  have T0 := hR.T0
  have rows : ∀ (m : Nat) (x : Nat) (h : Int), (x : Int) + m = 8 → ∃ v, (∀ Q : Int → MM → Prop, Q v c → wpX10_digest_L61 G Q (m + 1) h x c) ∧ (∀ Q : Int → MM → Prop, Q v r → wpX11_digest_L305 Q (m + 1) h x r) := by
    intro m
    induction m with
    | zero =>
      intro x h hx
      exact ⟨h, fun Q k => ⟨by omega, ite_p (by omega) k⟩, fun Q k => ⟨by omega, ite_p (by omega) k⟩⟩
    | succ m ih =>
      intro x h hx
      obtain ⟨v, a1, a2⟩ := dRow hR (j := x) (by omega) (by omega) h
      obtain ⟨w, b1, b2⟩ := ih (x + 1) v (by omega)
      exact ⟨w, fun Q k => ⟨by omega, ite_n (by omega) (rowOf_ok (by omega) (fun _ => by exfalso; omega) (fun _ _ => a1 _ (b1 Q k)))⟩, fun Q k => ⟨by omega, ite_n (by omega) (a2 _ Q (b2 Q k))⟩⟩
  have towers : ∀ (m : Nat) (x : Nat) (h : Int), (x : Int) + m = 4 → ∃ v, (∀ Q : Int → MM → Prop, Q v c → wpX10_digest_L37 G Q (m + 1) h x c) ∧ (∀ Q : Int → MM → Prop, Q v r → wpX11_digest_L167 Q (m + 1) h x r) := by
    intro m
    induction m with
    | zero =>
      intro x h hx
      obtain ⟨w, b1, b2⟩ := rows 8 0 h (by decide)
      exact ⟨w, fun Q k => ⟨by omega, ite_p (by omega) ⟨9, b1 Q k⟩⟩, fun Q k => ⟨by omega, ite_p (by omega) ⟨9, b2 Q k⟩⟩⟩
    | succ m ih =>
      intro x h hx
      obtain ⟨v, a1, a2⟩ := dTower hR (t := x) (by omega) (by omega) h
      obtain ⟨w, b1, b2⟩ := ih (x + 1) v (by omega)
      exact ⟨w, fun Q k => ⟨by omega, ite_n (by omega) (a1 _ (b1 Q k))⟩, fun Q k => ⟨by omega, ite_n (by omega) (a2 _ Q (b2 Q k))⟩⟩
  have trains : ∀ (m : Nat) (x : Nat) (h : Int), (x : Int) + m = r 0 10 0 → ∃ v, (∀ Q : Int → MM → Prop, Q v c → wpX10_digest_L14 G Q (m + 1) h x c) ∧ (∀ Q : Int → MM → Prop, Q v r → wpX11_digest_L12 Q (m + 1) h x r) := by
    intro m
    induction m with
    | zero =>
      intro x h hx
      obtain ⟨w, b1, b2⟩ := towers 4 0 h (by decide)
      exact ⟨w, fun Q k => ⟨by omega, by omega, ite_p (by omega) ⟨5, b1 Q k⟩⟩, fun Q k => ⟨by omega, by omega, ite_p (by omega) ⟨5, b2 Q k⟩⟩⟩
    | succ m ih =>
      intro x h hx
      obtain ⟨v, a1, a2⟩ := dTrain hR (n := x) (by omega) (by omega) h
      obtain ⟨w, b1, b2⟩ := ih (x + 1) v (by omega)
      exact ⟨w, fun Q k => ⟨by omega, by omega, ite_n (by omega) (a1 _ (b1 Q k))⟩, fun Q k => ⟨by omega, by omega, ite_n (by omega) (a2 _ Q (b2 Q k))⟩⟩
  obtain ⟨v, a1, a2⟩ := trains (r 0 10 0).toNat 0 (527 + r 0 5 0) (by omega)
  refine ⟨by omega, (r 0 10 0).toNat + 1, ?_⟩
  have e : 31 * 17 + c 0 4 0 = 527 + r 0 5 0 := by omega
  rw [e]
  exact a1 _ ⟨by omega, all_eq ⟨(r 0 10 0).toNat + 1, a2 _ (Lf.mk rfl (h.up hk))⟩⟩
