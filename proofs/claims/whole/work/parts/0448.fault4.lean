section
variable {bd bs bw : Int} {G : GG} {r0 : MM} {x hr : Int} {c0 : MM}
theorem outB (hR0 : Rel bd bs bw G c0 r0) (x0 : 0 ≤ x) (x8 : x < 8) (hz : 0 ≤ r0 7 0 x) (hr1 : 1 ≤ hr) (hr2 : hr ≤ 12) {k : Int} (k1 : 1 ≤ k) (k2 : k < 12) : ∀ (m : Nat) (b : Int) (c r : MM), 0 ≤ b → b + m = 48 → SR bd bs bw G r0 x hr c r → ∃ c' r', SR bd bs bw G r0 x hr c' r' ∧ (∀ (q2 : Int → MM → Prop) (Q : Int → MM → Prop), q2 (k + 1) c' → wpX1_offerOut_L18 G q2 Q (m + 1) k (MF r0 x hr 1 k b) b c) ∧ (∀ (k21 : Int → Int → Int → Int → MM → Prop) (k13 : Int → Int → Int → MM → Prop) (Q : Int → MM → Prop), k21 x hr 1 (k + 1) r' → ∃ f, wpX11_tryAll_L31 k21 k13 Q f x hr 1 k b r) := by
  intro m
  induction m with
  | zero =>
    intro b c r b0 hb hS
    refine ⟨c, r, hS, fun q2 Q h => ⟨by omega, ite_p (by omega) h⟩, fun k21 k13 Q h => refEnd (by decide) (by rw [if_neg (by decide)]; omega) h⟩
  | succ m ih =>
    intro b c r b0 hb hS
    have hf : isF 1 k b := Or.inr (Or.inl ⟨rfl, k1, k2, b0, by omega⟩)
    obtain ⟨c1, r1, a1, a2, a3⟩ := offer_ok hR0 x0 x8 hz hr1 hr2 hS.1 (Or.inr hS) (by decide) (by omega) (by omega) hf (by decide)
    obtain ⟨c2, r2, b1, b2, b3⟩ := ih (b + 1) c1 r1 (by omega) (by omega) a1
    obtain ⟨p1, p2⟩ := a1.hR0
    have q7 := a1.1.2.2.2.1
    have q8 := a1.1.2.2.2.2.1
    have p3 : ∀ j : Int, 0 ≤ j → j < 48 → c1 16 0 j = hv r1 x j := fun j u v => by rw [p2 j u v, hv_same q7 q8]
    have e1 : mfV r1 x hr 0 0 0 b = mfV r0 x hr 0 0 0 b := by rw [mf_same q7 q8]
    have hf0 : isF 1 k 0 := Or.inr (Or.inl ⟨rfl, k1, k2, by omega, by omega⟩)
    have dr := dueV_rng (hr := hr) (i := b) hf0
    refine ⟨c2, r2, b1, fun q2 Q h => ⟨by omega, ite_n (by omega) (a2 _ (none_ok (x := x) a1.1.1 hr1 hr2 p1 p3 b0 (by omega) ?_))⟩, fun k21 k13 Q h => refTry (by decide) (by omega) (by omega) hf (fun z => absurd z (by decide)) (by rw [if_neg (by decide)]; omega) (by decide) a3 (b3 k21 k13 Q h)⟩
    rw [p1, e1]
    refine dueC_ok hr1 hr2 b0 (by omega) (by decide) (by omega) (by decide) hf0 (misfit_ok a1.1.1 b0 (by omega) (by omega) (p3 b b0 (by omega)) (all_eq ?_))
    have e2 : MF r0 x hr 1 k b + (mfV r0 x hr 0 0 0 b - (if hv r1 x b < 0 then 0 else if hv r1 x b = dueV hr b 1 k 0 then 0 else 1)) = MF r0 x hr 1 k (b + 1) := by
      rw [MF_out r0 x hr k b b0 (by omega), hv_same q7 q8]
      rfl
    rw [e2]
    exact b2 q2 Q h
theorem outA (hR0 : Rel bd bs bw G c0 r0) (x0 : 0 ≤ x) (x8 : x < 8) (hz : 0 ≤ r0 7 0 x) (hr1 : 1 ≤ hr) (hr2 : hr ≤ 12) : ∀ (m : Nat) (k : Int) (c r : MM), 1 ≤ k → k + m = 12 → SR bd bs bw G r0 x hr c r → ∃ c' r', SR bd bs bw G r0 x hr c' r' ∧ (∀ Q : Int → MM → Prop, Q 0 c' → wpX1_offerOut_L2 G Q (m + 1) k c) ∧ (∀ (k13 : Int → Int → Int → MM → Prop) (Q : Int → MM → Prop), (∃ f, wpX11_tryAll_L21 k13 Q f x hr 1 12 r') → ∃ f, wpX11_tryAll_L21 k13 Q f x hr 1 k r) := by
  intro m
  induction m with
  | zero =>
    intro k c r k1 hk hS
    have e : k = 12 := by omega
    subst e
    exact ⟨c, r, hS, fun Q h => ⟨by omega, ite_p (by omega) h⟩, fun k13 Q h => h⟩
  | succ m ih =>
    intro k c r k1 hk hS
    obtain ⟨c1, r1, a1, a2, a3⟩ := outB hR0 x0 x8 hz hr1 hr2 k1 (by omega) 48 0 c r (by decide) (by decide) hS
    obtain ⟨c2, r2, b1, b2, b3⟩ := ih (k + 1) c1 r1 (by omega) (by omega) a1
    obtain ⟨p1, p2⟩ := hS.hR0
    have q7 := hS.1.2.2.2.1
    have q8 := hS.1.2.2.2.2.1
    have p3 : ∀ j : Int, 0 ≤ j → j < 48 → c 16 0 j = hv r x j := fun j u v => by rw [p2 j u v, hv_same q7 q8]
    have hf0 : isF 1 k 0 := Or.inr (Or.inl ⟨rfl, k1, by omega, by omega, by omega⟩)
    refine ⟨c2, r2, b1, fun Q h => ⟨by omega, ite_n (by omega) (misfitsC_ok hS.1.1 hr1 hr2 p1 p3 (by decide) (by omega) (by decide) hf0 ?_)⟩, fun k13 Q h => ?_⟩
    · rw [MF_same q7 q8]
      exact ⟨49, a2 _ Q (b2 Q h)⟩
    · obtain ⟨f, h⟩ := b3 k13 Q h
      exact ⟨f + 1, by omega, ite_n (by omega) (a3 _ k13 Q h)⟩
theorem notchB (hR0 : Rel bd bs bw G c0 r0) (x0 : 0 ≤ x) (x8 : x < 8) (hz : 0 ≤ r0 7 0 x) (hr1 : 1 ≤ hr) (hr2 : hr ≤ 12) {g : Int} (g1 : 1 ≤ g) (g2 : g ≤ 12) : ∀ (m : Nat) (v : Int) (c r : MM), 0 ≤ v → v + m = 25 → SR bd bs bw G r0 x hr c r → ∃ c' r', SR bd bs bw G r0 x hr c' r' ∧ (∀ (q2 : Int → Int → MM → Prop) (Q : Int → MM → Prop), q2 (MF r0 x hr 0 0 0) (g + 1) c' → wpX1_offerNotches_L20 G q2 Q (m + 1) (MF r0 x hr 0 0 0) g (MF r0 x hr 0 0 0 - atH r0 x hr g g) v c) ∧ (∀ (k21 : Int → Int → Int → Int → MM → Prop) (k13 : Int → Int → Int → MM → Prop) (Q : Int → MM → Prop), k21 x hr 2 (g + 1) r' → ∃ f, wpX11_tryAll_L31 k21 k13 Q f x hr 2 g v r) := by
  intro m
  induction m with
  | zero =>
    intro v c r v0 hv' hS
    have e : v = 25 := by omega
    subst e
    refine ⟨c, r, hS, fun q2 Q h => ⟨by omega, ite_p (by omega) h⟩, fun k21 k13 Q h => refSkip (by decide) (by omega) (by decide) 23 25 (by decide) (by decide) (fun b' p q => Or.inl ?_) (by rw [if_neg (by decide)]; decide) (refEnd (by decide) (by rw [if_neg (by decide)]; rfl) h)⟩
    unfold isF
    omega
  | succ m ih =>
    intro v c r v0 hv' hS
    have hf : isF 2 g v := Or.inr (Or.inr (Or.inl ⟨rfl, g1, g2, v0, by omega⟩))
    obtain ⟨c1, r1, a1, a2, a3⟩ := offer_ok hR0 x0 x8 hz hr1 hr2 hS.1 (Or.inr hS) (by decide) (by omega) (by omega) hf (by decide)
    obtain ⟨c2, r2, b1, b2, b3⟩ := ih (v + 1) c1 r1 (by omega) (by omega) a1
    obtain ⟨p1, p2⟩ := hS.hR0
    have q7 := hS.1.2.2.2.1
    have q8 := hS.1.2.2.2.2.1
    have p3 : ∀ j : Int, 0 ≤ j → j < 48 → c 16 0 j = hv r x j := fun j u v => by rw [p2 j u v, hv_same q7 q8]
    have eA : atH r x hr g v = atH r0 x hr g v := by
      unfold atH m4
      rw [hv_same q7 q8, hv_same q7 q8, hv_same q7 q8, hv_same q7 q8]
    refine ⟨c2, r2, b1, fun q2 Q h => ⟨by omega, ite_n (by omega) (atHour_ok (x := x) hS.1.1 hr1 hr2 p1 p3 g1 g2 v0 (by omega) ?_)⟩, fun k21 k13 Q h => refTry (by decide) (by omega) (by omega) hf (fun z => absurd z (by decide)) (by rw [if_neg (by decide)]; omega) (by decide) a3 (b3 k21 k13 Q h)⟩
    rw [eA, ← MF_notch r0 x hr g v g1 g2]
    exact a2 _ (b2 q2 Q h)
theorem notchA (hR0 : Rel bd bs bw G c0 r0) (x0 : 0 ≤ x) (x8 : x < 8) (hz : 0 ≤ r0 7 0 x) (hr1 : 1 ≤ hr) (hr2 : hr ≤ 12) : ∀ (m : Nat) (g : Int) (c r : MM), 1 ≤ g → g + m = 13 → SR bd bs bw G r0 x hr c r → ∃ c' r', SR bd bs bw G r0 x hr c' r' ∧ (∀ Q : Int → MM → Prop, Q 0 c' → wpX1_offerNotches_L2 G Q (m + 1) (MF r0 x hr 0 0 0) g c) ∧ (∀ (k13 : Int → Int → Int → MM → Prop) (Q : Int → MM → Prop), (∃ f, wpX11_tryAll_L21 k13 Q f x hr 2 13 r') → ∃ f, wpX11_tryAll_L21 k13 Q f x hr 2 g r) := by
  intro m
  induction m with
  | zero =>
    intro g c r g1 hg hS
    have e : g = 13 := by omega
    subst e
    exact ⟨c, r, hS, fun Q h => ⟨by omega, ite_p (by omega) h⟩, fun k13 Q h => h⟩
  | succ m ih =>
    intro g c r g1 hg hS
    obtain ⟨c1, r1, a1, a2, a3⟩ := notchB hR0 x0 x8 hz hr1 hr2 g1 (by omega) 25 0 c r (by decide) (by decide) hS
    obtain ⟨c2, r2, b1, b2, b3⟩ := ih (g + 1) c1 r1 (by omega) (by omega) a1
    obtain ⟨p1, p2⟩ := hS.hR0
    have q7 := hS.1.2.2.2.1
    have q8 := hS.1.2.2.2.2.1
    have p3 : ∀ j : Int, 0 ≤ j → j < 48 → c 16 0 j = hv r x j := fun j u v => by rw [p2 j u v, hv_same q7 q8]
    have eA : atH r x hr g g = atH r0 x hr g g := by
      unfold atH m4
      rw [hv_same q7 q8, hv_same q7 q8, hv_same q7 q8, hv_same q7 q8]
    refine ⟨c2, r2, b1, fun Q h => ⟨by omega, ite_n (by omega) (atHour_ok (x := x) hS.1.1 hr1 hr2 p1 p3 g1 (by omega) (by omega) (by omega) ?_)⟩, fun k13 Q h => ?_⟩
    · rw [eA]
      exact ⟨26, a2 _ Q (b2 Q h)⟩
    · obtain ⟨f, h⟩ := b3 k13 Q h
      exact ⟨f + 1, by omega, ite_n (by omega) (a3 _ k13 Q h)⟩
theorem deafB (hR0 : Rel bd bs bw G c0 r0) (x0 : 0 ≤ x) (x8 : x < 8) (hz : 0 ≤ r0 7 0 x) (hr1 : 1 ≤ hr) (hr2 : hr ≤ 12) {s : Int} (s0 : 0 ≤ s) : ∀ (m : Nat) (e : Int) (c r : MM), s ≤ e → e + m = 48 → SR bd bs bw G r0 x hr c r → ∃ c' r', SR bd bs bw G r0 x hr c' r' ∧ (∀ (q2 : Int → Int → MM → Prop) (Q : Int → MM → Prop), q2 (MF r0 x hr 0 0 0) (s + 1) c' → wpX1_offerDeaf_L16 G q2 Q (m + 1) (MF r0 x hr 0 0 0) s (MF r0 x hr 4 s (e - 1)) e c) ∧ (∀ (k21 : Int → Int → Int → Int → MM → Prop) (k13 : Int → Int → Int → MM → Prop) (Q : Int → MM → Prop), k21 x hr 4 (s + 1) r' → ∃ f, wpX11_tryAll_L31 k21 k13 Q f x hr 4 s e r) := by
  intro m
  induction m with
  | zero =>
    intro e c r e0 he hS
    exact ⟨c, r, hS, fun q2 Q h => ⟨by omega, ite_p (by omega) h⟩, fun k21 k13 Q h => refEnd (by decide) (by rw [if_neg (by decide)]; omega) h⟩
  | succ m ih =>
    intro e c r e0 he hS
    have hf : isF 4 s e := Or.inr (Or.inr (Or.inr (Or.inr ⟨rfl, s0, e0, by omega⟩)))
    obtain ⟨c1, r1, a1, a2, a3⟩ := offer_ok hR0 x0 x8 hz hr1 hr2 hS.1 (Or.inr hS) (by decide) (by omega) (by omega) hf (by decide)
    obtain ⟨c2, r2, b1, b2, b3⟩ := ih (e + 1) c1 r1 (by omega) (by omega) a1
    obtain ⟨p1, p2⟩ := hS.hR0
    have q7 := hS.1.2.2.2.1
    have q8 := hS.1.2.2.2.2.1
    have p3 : ∀ j : Int, 0 ≤ j → j < 48 → c 16 0 j = hv r x j := fun j u v => by rw [p2 j u v, hv_same q7 q8]
    have e1 : mfV r x hr 0 0 0 e = mfV r0 x hr 0 0 0 e := by rw [mf_same q7 q8]
    refine ⟨c2, r2, b1, fun q2 Q h => ⟨by omega, ite_n (by omega) (misfit_ok hS.1.1 (by omega) (by omega) (by decide) (p3 e (by omega) (by omega)) (none_ok (x := x) hS.1.1 hr1 hr2 p1 p3 (by omega) (by omega) (all_eq ?_)))⟩, fun k21 k13 Q h => refTry (by decide) (by omega) (by omega) hf (fun z => absurd z (by decide)) (by rw [if_neg (by decide)]; omega) (by decide) a3 (b3 k21 k13 Q h)⟩
    rw [e1, hv_same q7 q8, ← MF_deaf r0 x hr s e (by omega) (by omega) e0]
    have k := b2 q2 Q h
    rw [show e + 1 - 1 = e by omega] at k
    exact a2 _ k
theorem deafA (hR0 : Rel bd bs bw G c0 r0) (x0 : 0 ≤ x) (x8 : x < 8) (hz : 0 ≤ r0 7 0 x) (hr1 : 1 ≤ hr) (hr2 : hr ≤ 12) : ∀ (m : Nat) (s : Int) (c r : MM), 0 ≤ s → s + m = 48 → SR bd bs bw G r0 x hr c r → ∃ c' r', SR bd bs bw G r0 x hr c' r' ∧ (∀ Q : Int → MM → Prop, Q 0 c' → wpX1_offerDeaf_L2 G Q (m + 1) (MF r0 x hr 0 0 0) s c) ∧ (∀ (k13 : Int → Int → Int → MM → Prop) (Q : Int → MM → Prop), k13 x hr 5 r' → ∃ f, wpX11_tryAll_L21 k13 Q f x hr 4 s r) := by
  intro m
  induction m with
  | zero =>
    intro s c r s0 hs hS
    exact ⟨c, r, hS, fun Q h => ⟨by omega, ite_p (by omega) h⟩, fun k13 Q h => ⟨1, by omega, ite_p (by omega) h⟩⟩
  | succ m ih =>
    intro s c r s0 hs hS
    obtain ⟨c1, r1, a1, a2, a3⟩ := deafB hR0 x0 x8 hz hr1 hr2 s0 (m + 1) s c r (by omega) (by omega) hS
    obtain ⟨c2, r2, b1, b2, b3⟩ := ih (s + 1) c1 r1 (by omega) (by omega) a1
    refine ⟨c2, r2, b1, fun Q h => ⟨by omega, ite_n (by omega) ⟨m + 2, ?_⟩⟩, fun k13 Q h => ?_⟩
    · have k := a2 _ Q (b2 Q h)
      rw [MF_deaf0] at k
      exact k
    · obtain ⟨f, h⟩ := b3 k13 Q h
      refine ⟨f + 1, by omega, ite_n (by omega) (refSkip (by decide) (by omega) (by decide) s.toNat 0 (by decide) (by omega) (fun b' p q => Or.inl ?_) (by rw [if_neg (by decide)]; omega) ?_)⟩
      · unfold isF
        omega
      · rw [show (0 : Int) + (s.toNat : Int) = s by omega]
        exact a3 _ k13 Q h
theorem lostA (hR0 : Rel bd bs bw G c0 r0) (x0 : 0 ≤ x) (x8 : x < 8) (hz : 0 ≤ r0 7 0 x) (hr1 : 1 ≤ hr) (hr2 : hr ≤ 12) : ∀ (m : Nat) (d : Int) (c r : MM), 1 ≤ d → d + m = 12 → SR bd bs bw G r0 x hr c r → ∃ c' r', SR bd bs bw G r0 x hr c' r' ∧ (∀ Q : Int → MM → Prop, (wpX1_offerDeaf G (MF r0 x hr 0 0 0) c' (fun v3 μ4 => Q 0 μ4)) → wpX1_search_L38 G Q (m + 1) (MF r0 x hr 0 0 0) d c) ∧ (∀ (k13 : Int → Int → Int → MM → Prop) (Q : Int → MM → Prop), (∃ f, wpX11_tryAll_L21 k13 Q f x hr 3 12 r') → ∃ f, wpX11_tryAll_L21 k13 Q f x hr 3 d r) := by
  intro m
  induction m with
  | zero =>
    intro d c r d0 hd hS
    have e : d = 12 := by omega
    subst e
    exact ⟨c, r, hS, fun Q h => ⟨by omega, ite_p (by omega) h⟩, fun k13 Q h => h⟩
  | succ m ih =>
    intro d c r d0 hd hS
    have hf : isF 3 d 0 := Or.inr (Or.inr (Or.inr (Or.inl ⟨rfl, d0, by omega⟩)))
    obtain ⟨c1, r1, a1, a2, a3⟩ := offer_ok hR0 x0 x8 hz hr1 hr2 hS.1 (Or.inr hS) (b := 0) (by decide) (by omega) (by decide) hf (by decide)
    obtain ⟨c2, r2, b1, b2, b3⟩ := ih (d + 1) c1 r1 (by omega) (by omega) a1
    obtain ⟨p1, p2⟩ := hS.hR0
    have q7 := hS.1.2.2.2.1
    have q8 := hS.1.2.2.2.2.1
    have p3 : ∀ j : Int, 0 ≤ j → j < 48 → c 16 0 j = hv r x j := fun j u v => by rw [p2 j u v, hv_same q7 q8]
    refine ⟨c2, r2, b1, fun Q h => ⟨by omega, ite_n (by omega) (misfitsC_ok hS.1.1 hr1 hr2 p1 p3 (by decide) (by omega) (by decide) hf ?_)⟩, fun k13 Q h => ?_⟩
    · rw [MF_same q7 q8]
      exact a2 _ (b2 Q h)
    · obtain ⟨f, h⟩ := b3 k13 Q h
      exact ⟨f + 1, by omega, ite_n (by omega) (refTry (by decide) (by omega) (by decide) hf (fun z => absurd z (by decide)) (by rw [if_pos (Or.inr rfl)]; decide) (by decide) a3 (refEnd (by decide) (by rw [if_pos (Or.inr rfl)]; rfl) h))⟩
theorem search_ok (hR0 : Rel bd bs bw G c0 r0) (x0 : 0 ≤ x) (x8 : x < 8) (hz : 0 ≤ r0 7 0 x) (hr1 : 1 ≤ hr) (hr2 : hr ≤ 12) (h6 : c0 6 1 0 = hr) (h16 : ∀ j : Int, 0 ≤ j → j < 48 → c0 16 0 j = hv r0 x j) : ∃ c' r', SR bd bs bw G r0 x hr c' r' ∧ (∀ Q : Int → MM → Prop, Q 0 c' → wpX1_search G c0 Q) ∧ (∀ Q : Int → MM → Prop, Q 0 r' → wpX11_tryAll x hr r0 Q) := by
  have hB : SB bd bs bw G r0 x hr (ms (ms c0 6 6 0 0) 6 5 0 49) (ms (ms r0 0 45 0 (-9)) 0 46 0 0) := ⟨(((hR0.six 6 0).six 5 49).r45 _).r46 _, h6, h16, rfl, rfl, rfl⟩
  obtain ⟨c1, r1, a1, a2, a3⟩ := offer_ok hR0 x0 x8 hz hr1 hr2 hB (Or.inl ⟨rfl, rfl⟩) (s := 0) (a := 0) (b := 0) (by decide) (by decide) (by decide) (Or.inl rfl) (by decide)
  obtain ⟨c2, r2, b1, b2, b3⟩ := outA hR0 x0 x8 hz hr1 hr2 11 1 c1 r1 (by decide) (by decide) a1
  obtain ⟨c3, r3, d1, d2, d3⟩ := notchA hR0 x0 x8 hz hr1 hr2 12 1 c2 r2 (by decide) (by decide) b1
  obtain ⟨c4, r4, e1, e2, e3⟩ := lostA hR0 x0 x8 hz hr1 hr2 11 1 c3 r3 (by decide) (by decide) d1
  obtain ⟨c5, r5, f1, f2, f3⟩ := deafA hR0 x0 x8 hz hr1 hr2 48 0 c4 r4 (by decide) (by decide) e1
  refine ⟨c5, r5, f1, fun Q h => ?_, fun Q h => ?_⟩
  · unfold wpX1_search wpX1_offerOut wpX1_offerNotches
    refine all_eq (all_eq (misfitsC_ok hB.1 hr1 hr2 h6 (fun j u v => h16 j u v) (by decide) (by decide) (by decide) (Or.inl rfl) ?_))
    show wpX1_offer G 0 0 0 (MF r0 x hr 0 0 0) _ _
    exact a2 _ ⟨12, b2 _ ⟨13, d2 _ ⟨12, e2 _ ⟨49, f2 _ h⟩⟩⟩⟩
  · unfold wpX11_tryAll
    refine all_eq (all_eq ?_)
    have s5 : wpX11_tryAll_L13 Q 1 x hr 5 r5 := ⟨by decide, ite_p (by decide) h⟩
    have s4 : wpX11_tryAll_L13 Q 2 x hr 4 r4 := ⟨by decide, ite_n (by decide) (f3 (fun x1' x2' x3' μ' => wpX11_tryAll_L13 Q 1 x1' x2' x3' μ') Q s5)⟩
    have s3 : wpX11_tryAll_L13 Q 3 x hr 3 r3 := by
      refine ⟨by decide, ite_n (by decide) (refSkipA (by decide) (by decide) 1 0 (by decide) (by decide) (fun a' b' p q _ _ => Or.inl ?_) (e3 (fun x1' x2' x3' μ' => wpX11_tryAll_L13 Q 2 x1' x2' x3' μ') Q (refSkipA (by decide) (by decide) 36 12 (by decide) (by decide) (fun a' b' p q _ _ => Or.inl ?_) ⟨1, by decide, ite_p (by decide) s4⟩)))⟩
      · unfold isF
        omega
      · unfold isF
        omega
    have s2 : wpX11_tryAll_L13 Q 4 x hr 2 r2 := by
      refine ⟨by decide, ite_n (by decide) (refSkipA (by decide) (by decide) 1 0 (by decide) (by decide) (fun a' b' p q _ _ => Or.inl ?_) (d3 (fun x1' x2' x3' μ' => wpX11_tryAll_L13 Q 3 x1' x2' x3' μ') Q (refSkipA (by decide) (by decide) 35 13 (by decide) (by decide) (fun a' b' p q _ _ => Or.inl ?_) ⟨1, by decide, ite_p (by decide) s3⟩)))⟩
      · unfold isF
        omega
      · unfold isF
        omega
    have s1 : wpX11_tryAll_L13 Q 5 x hr 1 r1 := by
      refine ⟨by decide, ite_n (by decide) (refSkipA (by decide) (by decide) 1 0 (by decide) (by decide) (fun a' b' p q _ _ => Or.inl ?_) (b3 (fun x1' x2' x3' μ' => wpX11_tryAll_L13 Q 4 x1' x2' x3' μ') Q (refSkipA (by decide) (by decide) 36 12 (by decide) (by decide) (fun a' b' p q _ _ => Or.inl ?_) ⟨1, by decide, ite_p (by decide) s2⟩)))⟩
      · unfold isF
        omega
      · unfold isF
        omega
    obtain ⟨f, hf⟩ := refSkipA (k13 := fun x1' x2' x3' μ' => wpX11_tryAll_L13 Q 5 x1' x2' x3' μ') (Q := Q) (x := x) (hr := hr) (s := 0) (r := r1) (by decide) (by decide) 47 1 (by decide) (by decide) (fun a' b' p q _ _ => Or.inr ⟨rfl, by omega⟩) ⟨1, by decide, ite_p (by decide) s1⟩
    refine ⟨6, by decide, ite_n (by decide) ⟨f + 1, by decide, ite_n (by decide) ?_⟩⟩
    exact refTry (by decide) (by decide) (by decide) (Or.inl rfl) (fun _ => rfl) (by rw [if_pos (Or.inl rfl)]; decide) (by decide) a3 (refEnd (by decide) (by rw [if_pos (Or.inl rfl)]; rfl) hf)
end
theorem rel_fault {k : Int} {G : GG} {c r : MM} (h : RelK k G c r) (hk : k < 512) (x1 : Int) (h1 : rg x1) (x2 : Int) (h2 : rg x2) : wpX10_fault G x1 x2 c (fun v c' => wpX11_fault x1 x2 r (fun v' r' => Lf v v' (RelK (k + 1) G c' r'))) := by
  have hR := h.2
  unfold wpX10_fault
  refine refusal_ok hR h1 h2 (Or.inr rfl) (fun z => ⟨by omega, ite_n (by omega) ?_⟩) (fun a b z z2 hf1 hm => ⟨by omega, ite_n (by omega) ?_⟩) (fun a b z z2 hf1 hm => ⟨by omega, ite_p rfl ?_⟩)
  · unfold wpX11_fault
    exact inn_ok h2 (by omega) (by omega) (fun _ => ite_p rfl (Lf.mk rfl (h.up hk))) (fun _ _ => ite_n (by decide) (looked_ok hR h1 (fun _ => ⟨by omega, ite_n (by omega) (Lf.mk rfl (h.up hk))⟩) (fun _ _ _ _ => by exfalso; omega) (fun _ _ _ _ _ => by exfalso; omega)))
  · unfold wpX11_fault
    exact inn_ok h2 (by omega) (by omega) (fun _ => by exfalso; omega) (fun _ _ => ite_n (by decide) (looked_ok hR h1 (fun _ => by exfalso; omega) (fun _ _ _ _ => ⟨by omega, ite_n (by omega) (Lf.mk rfl (h.f hk _))⟩) (fun _ _ _ _ _ => by exfalso; omega)))
  · refine rowOf_ok h1 (fun _ => by exfalso; omega) (fun _ _ => ?_)
    obtain ⟨c', a1, a2, a3, a4⟩ := listen_ok hR (hr := x2) a b hm
    obtain ⟨c2, r2, s1, s2, s3⟩ := search_ok a1 a b hm z z2 a2 a3
    refine a4 _ (s2 _ (all_eq (all_eq (all_eq (all_eq ?_)))))
    unfold wpX11_fault
    refine inn_ok h2 (by omega) (by omega) (fun _ => by exfalso; omega) (fun _ _ => ite_n (by decide) (looked_ok hR h1 (fun _ => by exfalso; omega) (fun _ _ _ _ => by exfalso; omega) (fun _ _ _ _ _ => ⟨by omega, ite_p (by omega) (s3 _ (all_eq (all_eq (all_eq (all_eq ?_)))))⟩)))
    obtain ⟨hB, t1, t2, t3, t4, t5, t6⟩ := s1
    have hR2 := hB.1
    refine Lf.mk (show c2 6 2 0 = r2 47 0 0 from t4.symm) (h.of hk ?_)
    refine ⟨hR2.K0, hR2.S1, hR2.S2, t2, hR2.S4, hR2.S5, hR2.R1, hR2.R2, hR2.R3, hR2.T0, hR2.T1, hR2.T2, hR2.T3, hR2.E1, hR2.E2, hR2.E3, hR2.E4, hR2.E5, hR2.E6, hR2.E7, hR2.E8, hR2.E9, hR2.E10, hR2.E11, hR2.I1, hR2.I2, hR2.I3, hR2.I4, hR2.I5, hR2.I6, hR2.I7, hR2.I8, hR2.I9, hR2.I10, hR2.I11, hR2.I12, hR2.I13, hR2.I14, hR2.W1, hR2.W2, hR2.W3, hR2.W4, hR2.W5, hR2.W6, hR2.W7, hR2.W8, hR2.W9, hR2.J1, hR2.J2, hR2.J3, hR2.J4, hR2.J5, hR2.J6, hR2.J7, hR2.H1, hR2.H2, hR2.H3, hR2.H4, hR2.L1, hR2.L2, hR2.A1, hR2.A2, Or.inr t3, ?_, ?_, hR2.Q1, hR2.Q2, hR2.Q3, hR2.Q4, hR2.Q5, hR2.Q6, hR2.Q7⟩
    · show r2 47 0 1 = (if c2 6 2 0 = -9 ∨ c2 6 2 0 = 0 then -9 else c2 6 3 0)
      rw [t5]
      by_cases y : c2 6 2 0 = 0
      · rw [if_pos y, if_pos (Or.inr y)]
      · rw [if_neg y, if_neg (by omega)]
    · show r2 47 0 2 = (if c2 6 2 0 = -9 ∨ c2 6 2 0 = 0 ∨ c2 6 2 0 = 3 then -9 else c2 6 4 0)
      rw [t6]
      by_cases y : c2 6 2 0 = 0 ∨ c2 6 2 0 = 3
      · rw [if_pos y, if_pos (Or.inr y)]
      · rw [if_neg y, if_neg (by omega)]
theorem rel_explained {k : Int} {G : GG} {c r : MM} (h : RelK k G c r) (hk : k < 512) (x1 : Int) (h1 : rg x1) (x2 : Int) (h2 : rg x2) : wpX10_explained G x1 x2 c (fun v c' => wpX11_explained x1 x2 r (fun v' r' => Lf v v' (RelK (k + 1) G c' r'))) := by
  have hR := h.2
  unfold wpX10_explained
  refine refusal_ok hR h1 h2 (Or.inr rfl) (fun z => ⟨by omega, ite_n (by omega) ?_⟩) (fun a b z z2 hf1 hm => ⟨by omega, ite_n (by omega) ?_⟩) (fun a b z z2 hf1 hm => ⟨by omega, ite_p rfl ?_⟩)
  · unfold wpX11_explained
    exact inn_ok h2 (by omega) (by omega) (fun _ => ite_p rfl (Lf.mk rfl (h.up hk))) (fun _ _ => ite_n (by decide) (looked_ok hR h1 (fun _ => ⟨by omega, ite_n (by omega) (Lf.mk rfl (h.up hk))⟩) (fun _ _ _ _ => by exfalso; omega) (fun _ _ _ _ _ => by exfalso; omega)))
  · unfold wpX11_explained
    exact inn_ok h2 (by omega) (by omega) (fun _ => by exfalso; omega) (fun _ _ => ite_n (by decide) (looked_ok hR h1 (fun _ => by exfalso; omega) (fun _ _ _ _ => ⟨by omega, ite_n (by omega) (Lf.mk rfl (h.f hk _))⟩) (fun _ _ _ _ _ => by exfalso; omega)))
  · refine rowOf_ok h1 (fun _ => by exfalso; omega) (fun _ _ => ?_)
    obtain ⟨c', a1, a2, a3, a4⟩ := listen_ok hR (hr := x2) a b hm
    obtain ⟨c2, r2, s1, s2, s3⟩ := search_ok a1 a b hm z z2 a2 a3
    refine a4 _ (s2 _ ?_)
    unfold wpX11_explained
    exact inn_ok h2 (by omega) (by omega) (fun _ => by exfalso; omega) (fun _ _ => ite_n (by decide) (looked_ok hR h1 (fun _ => by exfalso; omega) (fun _ _ _ _ => by exfalso; omega) (fun _ _ _ _ _ => ⟨by omega, ite_p (by omega) (s3 _ (Lf.mk s1.1.2.2.2.2.2.symm (h.of hk s1.1.1)))⟩)))
