theorem ms_up (μ : MM) (k e : Nat) (j v : Int) : ms μ k e j v k e = upI (μ k e) j v := by
  funext x
  simp [ms, upI]
def up4 (f : Int → Int) (y a b d g : Int) : Int → Int := upI (upI (upI (upI f y a) (y + 1) b) (y + 2) d) (y + 3) g
theorem up4_ne (f : Int → Int) {y a b d g z : Int} (h : z < y ∨ y + 3 < z) : up4 f y a b d g z = f z := by
  unfold up4
  rw [upI_ne _ (by omega), upI_ne _ (by omega), upI_ne _ (by omega), upI_ne _ (by omega)]
theorem up4_0 (f : Int → Int) (y a b d g : Int) : up4 f y a b d g y = a := by
  unfold up4
  rw [upI_ne _ (by omega), upI_ne _ (by omega), upI_ne _ (by omega), upI_same]
theorem up4_1 (f : Int → Int) (y a b d g : Int) : up4 f y a b d g (y + 1) = b := by
  unfold up4
  rw [upI_ne _ (by omega), upI_ne _ (by omega), upI_same]
theorem up4_2 (f : Int → Int) (y a b d g : Int) : up4 f y a b d g (y + 2) = d := by
  unfold up4
  rw [upI_ne _ (by omega), upI_same]
theorem up4_3 (f : Int → Int) (y a b d g : Int) : up4 f y a b d g (y + 3) = g := by
  unfold up4
  rw [upI_same]
theorem okL_ext {t i nx e nx2 e2 i2 : Int} {c11 c12 c13 c14 lg d11 d12 d13 d14 ld : Int → Int} (h : okL t i nx e c11 c12 c13 c14 lg)
    (e11 : d11 (60 * t + (nx2 - 1 - i2) % 60) = c11 (60 * t + (nx - 1 - i) % 60)) (e12 : d12 (60 * t + (nx2 - 1 - i2) % 60) = c12 (60 * t + (nx - 1 - i) % 60)) (e13 : d13 (60 * t + (nx2 - 1 - i2) % 60) = c13 (60 * t + (nx - 1 - i) % 60)) (e14 : d14 (60 * t + (nx2 - 1 - i2) % 60) = c14 (60 * t + (nx - 1 - i) % 60))
    (l0 : ld (240 * t + 4 * (e2 - 1 - i2)) = lg (240 * t + 4 * (e - 1 - i))) (l1 : ld (240 * t + 4 * (e2 - 1 - i2) + 1) = lg (240 * t + 4 * (e - 1 - i) + 1)) (l2 : ld (240 * t + 4 * (e2 - 1 - i2) + 2) = lg (240 * t + 4 * (e - 1 - i) + 2)) (l3 : ld (240 * t + 4 * (e2 - 1 - i2) + 3) = lg (240 * t + 4 * (e - 1 - i) + 3)) : okL t i2 nx2 e2 d11 d12 d13 d14 ld := by
  unfold okL
  rw [e11, e12, e13, e14, l0, l1, l2, l3]
  exact h
theorem okL_new {t nx e0 nx2 e i a b d g : Int} {c11 c12 c13 c14 lg lb : Int → Int} (n0 : 0 ≤ nx) (n1 : nx < 60) (hnx : nx2 = (nx + 1) % 60) (h0 : 0 ≤ i) (h1 : i ≤ e0) (he0 : e0 ≤ 59) (he : e0 ≤ e)
    (ha : 0 ≤ a ∧ a ≤ 1000000) (hb : rg b) (hd : rg d) (hg : rg g)
    (old : 1 ≤ i → okL t (i - 1) nx e c11 c12 c13 c14 lg)
    (sh : ∀ s, 0 ≤ s → s ≤ 3 → 1 ≤ i → lb (240 * t + 4 * (e0 - i) + s) = lg (240 * t + 4 * (e - i) + s)) :
    okL t i nx2 (e0 + 1) (upI c11 (60 * t + nx) a) (upI c12 (60 * t + nx) b) (upI c13 (60 * t + nx) d) (upI c14 (60 * t + nx) g) (up4 lb (240 * t + 4 * e0) a b d g) := by
  by_cases z : i = 0
  · subst z
    have e1 : 60 * t + (nx2 - 1 - 0) % 60 = 60 * t + nx := by omega
    have e2 : 240 * t + 4 * (e0 + 1 - 1 - 0) = 240 * t + 4 * e0 := by omega
    unfold okL
    rw [e1, e2, up4_0, up4_1, up4_2, up4_3, upI_same, upI_same, upI_same, upI_same]
    exact ⟨⟨rfl, rfl, rfl, rfl⟩, ha, hb, hd, hg⟩
  · have e1 : (nx2 - 1 - i) % 60 = (nx - 1 - (i - 1)) % 60 := by omega
    have ne : 60 * t + (nx2 - 1 - i) % 60 ≠ 60 * t + nx := by omega
    have e2 : e0 + 1 - 1 - i = e0 - i := by omega
    have e3 : e - 1 - (i - 1) = e - i := by omega
    refine okL_ext (old (by omega)) ?_ ?_ ?_ ?_ ?_ ?_ ?_ ?_
    · rw [upI_ne _ ne, e1]
    · rw [upI_ne _ ne, e1]
    · rw [upI_ne _ ne, e1]
    · rw [upI_ne _ ne, e1]
    · rw [up4_ne _ (by omega), e2, e3]
      have := sh 0 (by omega) (by omega) (by omega)
      rwa [Int.add_zero, Int.add_zero] at this
    · rw [up4_ne _ (by omega), e2, e3]
      exact sh 1 (by omega) (by omega) (by omega)
    · rw [up4_ne _ (by omega), e2, e3]
      exact sh 2 (by omega) (by omega) (by omega)
    · rw [up4_ne _ (by omega), e2, e3]
      exact sh 3 (by omega) (by omega) (by omega)
theorem okL_far {t t' nx nx' e' e0 i a b d g : Int} {c11 c12 c13 c14 lg lb : Int → Int} (n0 : 0 ≤ nx) (n1 : nx < 60) (h0 : 0 ≤ i) (h1 : i < e') (he' : e' ≤ 60) (z0 : 0 ≤ e0) (z1 : e0 ≤ 59) (hne : t' ≠ t) (old : okL t' i nx' e' c11 c12 c13 c14 lg)
    (sh : ∀ j, j < 240 * t ∨ 240 * t + 240 ≤ j → lb j = lg j) :
    okL t' i nx' e' (upI c11 (60 * t + nx) a) (upI c12 (60 * t + nx) b) (upI c13 (60 * t + nx) d) (upI c14 (60 * t + nx) g) (up4 lb (240 * t + 4 * e0) a b d g) := by
  have ne : 60 * t' + (nx' - 1 - i) % 60 ≠ 60 * t + nx := by omega
  refine okL_ext old (upI_ne _ ne) (upI_ne _ ne) (upI_ne _ ne) (upI_ne _ ne) ?_ ?_ ?_ ?_
  · rw [up4_ne _ (by omega), sh _ (by omega)]
  · rw [up4_ne _ (by omega), sh _ (by omega)]
  · rw [up4_ne _ (by omega), sh _ (by omega)]
  · rw [up4_ne _ (by omega), sh _ (by omega)]
def shM (r : MM) (t x : Int) : MM := fun f e j => if f = 38 ∧ e = 0 ∧ 240 * t ≤ j ∧ j < 240 * t + x then r 38 0 (j + 4) else r f e j
theorem shM_zero (r : MM) (t : Int) : shM r t 0 = r := by
  funext f e j
  exact if_neg (by omega)
theorem shM_succ (r : MM) (t x : Int) (hx : 0 ≤ x) : ms (shM r t x) 38 0 (240 * t + x) (shM r t x 38 0 (240 * t + x + 4)) = shM r t (x + 1) := by
  have e0 : shM r t x 38 0 (240 * t + x + 4) = r 38 0 (240 * t + x + 4) := if_neg (by omega)
  rw [e0]
  funext f e j
  unfold ms shM
  by_cases h1 : f = 38 ∧ e = 0
  · obtain ⟨rfl, rfl⟩ := h1
    by_cases h2 : j = 240 * t + x
    · rw [if_pos ⟨rfl, rfl, h2⟩, if_pos ⟨rfl, rfl, by omega, by omega⟩, h2]
    · rw [if_neg (fun q => h2 q.2.2)]
      by_cases h3 : 240 * t ≤ j ∧ j < 240 * t + x
      · rw [if_pos ⟨rfl, rfl, h3⟩, if_pos ⟨rfl, rfl, by omega, by omega⟩]
      · rw [if_neg (by omega), if_neg (by omega)]
  · rw [if_neg (fun q => h1 ⟨q.1, q.2.1⟩), if_neg (fun q => h1 ⟨q.1, q.2.1⟩), if_neg (fun q => h1 ⟨q.1, q.2.1⟩)]
def wl4 (r : MM) (t e0 a b d g : Int) : MM := ms (ms (ms (ms (ms r 38 0 (240 * t + 4 * e0) a) 38 0 (240 * t + 4 * e0 + 1) b) 38 0 (240 * t + 4 * e0 + 2) d) 38 0 (240 * t + 4 * e0 + 3) g) 37 0 t (e0 + 1)
theorem wl4_38 (r : MM) (t e0 a b d g : Int) : wl4 r t e0 a b d g 38 0 = up4 (r 38 0) (240 * t + 4 * e0) a b d g := by
  show ms (ms (ms (ms r 38 0 (240 * t + 4 * e0) a) 38 0 (240 * t + 4 * e0 + 1) b) 38 0 (240 * t + 4 * e0 + 2) d) 38 0 (240 * t + 4 * e0 + 3) g 38 0 = _
  unfold up4
  rw [ms_up, ms_up, ms_up, ms_up]
def adC (c : MM) (t nx nx2 e2 a b d g : Int) : MM := ms (ms (ms (ms (ms (ms c 11 0 (60 * t + nx) a) 12 0 (60 * t + nx) b) 13 0 (60 * t + nx) d) 14 0 (60 * t + nx) g) 4 4 t nx2) 4 5 t e2
theorem min_ok {G : GG} {x y : Int} {c : MM} {Q : Int → MM → Prop} (hx : rg x) (hy : rg y) (h : Q (if x ≤ y then x else y) c) : wpJ9_min_7cf53 G x y c Q := by
  unfold wpJ9_min_7cf53
  refine ⟨hx, hy, ite_i (fun q => ?_) (fun q => ?_)⟩
  · first
    | (rw [if_pos (by omega)] at h; exact h)
    | (rw [if_neg (by omega)] at h; exact h)
  · first
    | (rw [if_pos (by omega)] at h; exact h)
    | (rw [if_neg (by omega)] at h; exact h)
theorem add_ok {G : GG} {t now n : Int} {c : MM} {Q : Int → MM → Prop} (n0 : 0 ≤ c 4 4 t) (n1 : c 4 4 t < 60) (e0 : 0 ≤ c 4 5 t) (e1 : c 4 5 t ≤ 60) (h : Q 0 (adC c t (c 4 4 t) ((c 4 4 t + 1) % 60) (if c 4 5 t + 1 ≤ 60 then c 4 5 t + 1 else 60) now n (c 2 12 n) (c 2 13 n))) : wpX3_add G t now n c Q := by
  unfold wpX3_add wpX3_add_J88
  refine ⟨by omega, ite_n (by omega) (ite_p n1 ⟨n0, n1, all_eq ⟨n0, n1, all_eq ⟨n0, n1, all_eq ⟨n0, n1, all_eq ⟨show rg (c 4 4 t + 1) by omega, ite_i (fun q => all_eq (min_ok (show rg (c 4 5 t + 1) by omega) (by omega) (all_eq ?_))) (fun q => all_eq (min_ok (show rg (c 4 5 t + 1) by omega) (by omega) (all_eq ?_)))⟩⟩⟩⟩⟩)⟩
  · have q : 60 ≤ c 4 4 t + 1 := q
    have e : (c 4 4 t + 1) % 60 = 0 := by omega
    rw [e] at h
    exact h
  · have q : ¬ 60 ≤ c 4 4 t + 1 := q
    have e : (c 4 4 t + 1) % 60 = c 4 4 t + 1 := by omega
    rw [e] at h
    exact h
def wlR (r : MM) (t n x7 x8 : Int) : MM := if r 37 0 t = 60 then wl4 (ms (shM r t 236) 37 0 t 59) t 59 (r 0 5 0) n x7 x8 else wl4 r t (r 37 0 t) (r 0 5 0) n x7 x8
theorem writeLog_ok {r : MM} {t n x7 x8 : Int} {Q : Int → MM → Prop} (t0 : 0 ≤ t) (t4 : t < 4) (e0 : 0 ≤ r 37 0 t) (e1 : r 37 0 t ≤ 60) (h : Q 0 (wlR r t n x7 x8)) : wpX11_writeLog t n x7 x8 r Q := by
  unfold wpX11_writeLog
  unfold wlR at h
  refine ⟨t0, t4, by omega, ite_i (fun q => ?_) (fun q => ?_)⟩
  · rw [if_pos q] at h
    have fin : wpX11_writeLog_J66 Q t n x7 x8 (ms (shM r t 236) 37 0 t 59) := by
      unfold wpX11_writeLog_J66
      have e37 : ms (shM r t 236) 37 0 t 59 37 0 t = 59 := ms_at _ _ _ _ _
      rw [e37]
      refine ⟨t0, t4, all_eq ⟨by omega, by omega, all_eq ⟨by omega, by omega, all_eq ⟨by omega, by omega, all_eq ⟨by omega, by omega, all_eq (all_eq ?_)⟩⟩⟩⟩⟩
      show Q 0 (ms _ 37 0 t (ms (shM r t 236) 37 0 t 59 37 0 t + 1))
      rw [e37]
      exact h
    have aux : ∀ (m : Nat) (x : Int), 0 ≤ x → x + m = 236 → wpX11_writeLog_L14 Q (m + 1) t n x7 x8 x (shM r t x) := by
      intro m
      induction m with
      | zero =>
        intro x hx he
        have : x = 236 := by omega
        subst this
        refine ⟨by omega, ite_p (by omega) ⟨t0, t4, all_eq ?_⟩⟩
        have e37 : shM r t 236 37 0 t = r 37 0 t := rfl
        rw [e37, q]
        exact fin
      | succ m ih =>
        intro x hx he
        refine ⟨by omega, ite_n (by omega) ⟨by omega, by omega, by omega, by omega, all_eq ?_⟩⟩
        rw [shM_succ _ _ _ hx]
        exact ih (x + 1) (by omega) (by omega)
    refine ⟨237, ?_⟩
    have := aux 236 0 (by decide) (by decide)
    rwa [shM_zero] at this
  · rw [if_neg q] at h
    unfold wpX11_writeLog_J66
    exact ⟨t0, t4, all_eq ⟨by omega, by omega, all_eq ⟨by omega, by omega, all_eq ⟨by omega, by omega, all_eq ⟨by omega, by omega, all_eq (all_eq h)⟩⟩⟩⟩⟩
theorem Rel.log {bd bs bw : Int} {G : GG} {c r : MM} (hR : Rel bd bs bw G c r) {t n x7 x8 : Int} (t0 : 0 ≤ t) (t4 : t < 4) (hn : rg n) (h7 : rg x7) (h8 : rg x8) : Rel bd bs bw G (adC c t (c 4 4 t) ((c 4 4 t + 1) % 60) (if c 4 5 t + 1 ≤ 60 then c 4 5 t + 1 else 60) (r 0 5 0) n x7 x8) (wlR r t n x7 x8) := by
  have L1 := hR.L1
  have L2 := hR.L2
  have S5 := hR.S5
  have l1 := L1 t t0 t4
  have eC : ∀ nx2 e2 a b d g, adC c t (c 4 4 t) nx2 e2 a b d g 11 0 = upI (c 11 0) (60 * t + c 4 4 t) a ∧ adC c t (c 4 4 t) nx2 e2 a b d g 12 0 = upI (c 12 0) (60 * t + c 4 4 t) b ∧ adC c t (c 4 4 t) nx2 e2 a b d g 13 0 = upI (c 13 0) (60 * t + c 4 4 t) d ∧ adC c t (c 4 4 t) nx2 e2 a b d g 14 0 = upI (c 14 0) (60 * t + c 4 4 t) g := by
    intro nx2 e2 a b d g
    exact ⟨ms_up c 11 0 _ _, ms_up c 12 0 _ _, ms_up c 13 0 _ _, ms_up c 14 0 _ _⟩
  unfold wlR
  by_cases e60 : r 37 0 t = 60
  · rw [if_pos e60, if_neg (by omega)]
    have hL1 : ∀ t', 0 ≤ t' → t' < 4 → (0 ≤ wl4 (ms (shM r t 236) 37 0 t 59) t 59 (r 0 5 0) n x7 x8 37 0 t' ∧ wl4 (ms (shM r t 236) 37 0 t 59) t 59 (r 0 5 0) n x7 x8 37 0 t' ≤ 60) ∧ adC c t (c 4 4 t) ((c 4 4 t + 1) % 60) 60 (r 0 5 0) n x7 x8 4 5 t' = wl4 (ms (shM r t 236) 37 0 t 59) t 59 (r 0 5 0) n x7 x8 37 0 t' ∧ (0 ≤ adC c t (c 4 4 t) ((c 4 4 t + 1) % 60) 60 (r 0 5 0) n x7 x8 4 4 t' ∧ adC c t (c 4 4 t) ((c 4 4 t + 1) % 60) 60 (r 0 5 0) n x7 x8 4 4 t' < 60) ∧ (wl4 (ms (shM r t 236) 37 0 t 59) t 59 (r 0 5 0) n x7 x8 37 0 t' < 60 → adC c t (c 4 4 t) ((c 4 4 t + 1) % 60) 60 (r 0 5 0) n x7 x8 4 4 t' = wl4 (ms (shM r t 236) 37 0 t 59) t 59 (r 0 5 0) n x7 x8 37 0 t') := by
      intro t' a b
      have l := L1 t' a b
      by_cases z : t' = t
      · subst z
        simp [adC, wl4, ms] <;> omega
      · have z2 : shM r t 236 37 0 t' = r 37 0 t' := rfl
        simp [adC, wl4, ms, z, z2] <;> omega
    have hL2 : ∀ t' i, 0 ≤ t' → t' < 4 → 0 ≤ i → i < wl4 (ms (shM r t 236) 37 0 t 59) t 59 (r 0 5 0) n x7 x8 37 0 t' → okL t' i (adC c t (c 4 4 t) ((c 4 4 t + 1) % 60) 60 (r 0 5 0) n x7 x8 4 4 t') (wl4 (ms (shM r t 236) 37 0 t 59) t 59 (r 0 5 0) n x7 x8 37 0 t') (adC c t (c 4 4 t) ((c 4 4 t + 1) % 60) 60 (r 0 5 0) n x7 x8 11 0) (adC c t (c 4 4 t) ((c 4 4 t + 1) % 60) 60 (r 0 5 0) n x7 x8 12 0) (adC c t (c 4 4 t) ((c 4 4 t + 1) % 60) 60 (r 0 5 0) n x7 x8 13 0) (adC c t (c 4 4 t) ((c 4 4 t + 1) % 60) 60 (r 0 5 0) n x7 x8 14 0) (wl4 (ms (shM r t 236) 37 0 t 59) t 59 (r 0 5 0) n x7 x8 38 0) := by
      intro t' i a b i0 i1
      obtain ⟨k1, k2, k3, k4⟩ := eC ((c 4 4 t + 1) % 60) 60 (r 0 5 0) n x7 x8
      rw [k1, k2, k3, k4, wl4_38]
      by_cases z : t' = t
      · subst z
        have f1 : wl4 (ms (shM r t' 236) 37 0 t' 59) t' 59 (r 0 5 0) n x7 x8 37 0 t' = 59 + 1 := ms_at _ _ _ _ _
        have f2 : adC c t' (c 4 4 t') ((c 4 4 t' + 1) % 60) 60 (r 0 5 0) n x7 x8 4 4 t' = (c 4 4 t' + 1) % 60 := ms_at _ _ _ _ _
        rw [f1] at i1
        rw [f1, f2]
        refine okL_new (e := 60) (lg := r 38 0) (by omega) (by omega) rfl i0 (by omega) (by omega) (by omega) S5 hn h7 h8 (fun z => ?_) (fun s s0 s3 z => ?_)
        · have := L2 t' (i - 1) a b (by omega) (by omega)
          rwa [e60] at this
        · show shM r t' 236 38 0 (240 * t' + 4 * (59 - i) + s) = _
          unfold shM
          rw [if_pos ⟨rfl, rfl, by omega, by omega⟩]
          congr 1
          omega
      · have f1 : wl4 (ms (shM r t 236) 37 0 t 59) t 59 (r 0 5 0) n x7 x8 37 0 t' = r 37 0 t' := by
          have z2 : shM r t 236 37 0 t' = r 37 0 t' := rfl
          simp [wl4, ms, z, z2]
        have f2 : adC c t (c 4 4 t) ((c 4 4 t + 1) % 60) 60 (r 0 5 0) n x7 x8 4 4 t' = c 4 4 t' := by simp [adC, ms, z]
        rw [f1] at i1
        rw [f1, f2]
        have l := L1 t' a b
        refine okL_far (lg := r 38 0) (by omega) (by omega) i0 i1 (by omega) (by omega) (by omega) z (L2 t' i a b i0 i1) (fun j hj => ?_)
        show shM r t 236 38 0 j = _
        unfold shM
        rw [if_neg (by omega)]
    refine ⟨hR.K0, hR.S1, hR.S2, hR.S3, hR.S4, hR.S5, hR.R1, hR.R2, hR.R3, hR.T0, hR.T1, hR.T2, hR.T3, hR.E1, hR.E2, hR.E3, hR.E4, hR.E5, hR.E6, hR.E7, hR.E8, hR.E9, hR.E10, hR.E11, hR.I1, hR.I2, hR.I3, hR.I4, hR.I5, hR.I6, hR.I7, hR.I8, hR.I9, hR.I10, hR.I11, hR.I12, hR.I13, hR.I14, hR.W1, hR.W2, hR.W3, hR.W4, hR.W5, hR.W6, hR.W7, hR.W8, hR.W9, hR.J1, hR.J2, hR.J3, hR.J4, hR.J5, hR.J6, hR.J7, hR.H1, hR.H2, hR.H3, hR.H4, hL1, hL2, hR.A1, hR.A2, hR.F1, hR.F2, hR.F3, hR.Q1, hR.Q2, hR.Q3, hR.Q4, hR.Q5, hR.Q6, hR.Q7⟩
  · rw [if_neg e60, if_pos (by omega)]
    have hL1 : ∀ t', 0 ≤ t' → t' < 4 → (0 ≤ wl4 r t (r 37 0 t) (r 0 5 0) n x7 x8 37 0 t' ∧ wl4 r t (r 37 0 t) (r 0 5 0) n x7 x8 37 0 t' ≤ 60) ∧ adC c t (c 4 4 t) ((c 4 4 t + 1) % 60) (c 4 5 t + 1) (r 0 5 0) n x7 x8 4 5 t' = wl4 r t (r 37 0 t) (r 0 5 0) n x7 x8 37 0 t' ∧ (0 ≤ adC c t (c 4 4 t) ((c 4 4 t + 1) % 60) (c 4 5 t + 1) (r 0 5 0) n x7 x8 4 4 t' ∧ adC c t (c 4 4 t) ((c 4 4 t + 1) % 60) (c 4 5 t + 1) (r 0 5 0) n x7 x8 4 4 t' < 60) ∧ (wl4 r t (r 37 0 t) (r 0 5 0) n x7 x8 37 0 t' < 60 → adC c t (c 4 4 t) ((c 4 4 t + 1) % 60) (c 4 5 t + 1) (r 0 5 0) n x7 x8 4 4 t' = wl4 r t (r 37 0 t) (r 0 5 0) n x7 x8 37 0 t') := by
      intro t' a b
      have l := L1 t' a b
      by_cases z : t' = t
      · subst z
        simp [adC, wl4, ms] <;> omega
      · simp [adC, wl4, ms, z] <;> omega
    have hL2 : ∀ t' i, 0 ≤ t' → t' < 4 → 0 ≤ i → i < wl4 r t (r 37 0 t) (r 0 5 0) n x7 x8 37 0 t' → okL t' i (adC c t (c 4 4 t) ((c 4 4 t + 1) % 60) (c 4 5 t + 1) (r 0 5 0) n x7 x8 4 4 t') (wl4 r t (r 37 0 t) (r 0 5 0) n x7 x8 37 0 t') (adC c t (c 4 4 t) ((c 4 4 t + 1) % 60) (c 4 5 t + 1) (r 0 5 0) n x7 x8 11 0) (adC c t (c 4 4 t) ((c 4 4 t + 1) % 60) (c 4 5 t + 1) (r 0 5 0) n x7 x8 12 0) (adC c t (c 4 4 t) ((c 4 4 t + 1) % 60) (c 4 5 t + 1) (r 0 5 0) n x7 x8 13 0) (adC c t (c 4 4 t) ((c 4 4 t + 1) % 60) (c 4 5 t + 1) (r 0 5 0) n x7 x8 14 0) (wl4 r t (r 37 0 t) (r 0 5 0) n x7 x8 38 0) := by
      intro t' i a b i0 i1
      obtain ⟨k1, k2, k3, k4⟩ := eC ((c 4 4 t + 1) % 60) (c 4 5 t + 1) (r 0 5 0) n x7 x8
      rw [k1, k2, k3, k4, wl4_38]
      by_cases z : t' = t
      · subst z
        have f1 : wl4 r t' (r 37 0 t') (r 0 5 0) n x7 x8 37 0 t' = r 37 0 t' + 1 := ms_at _ _ _ _ _
        have f2 : adC c t' (c 4 4 t') ((c 4 4 t' + 1) % 60) (c 4 5 t' + 1) (r 0 5 0) n x7 x8 4 4 t' = (c 4 4 t' + 1) % 60 := ms_at _ _ _ _ _
        rw [f1] at i1
        rw [f1, f2]
        exact okL_new (e := r 37 0 t') (lg := r 38 0) (by omega) (by omega) rfl i0 (by omega) (by omega) (by omega) S5 hn h7 h8 (fun z => L2 t' (i - 1) a b (by omega) (by omega)) (fun s s0 s3 z => rfl)
      · have f1 : wl4 r t (r 37 0 t) (r 0 5 0) n x7 x8 37 0 t' = r 37 0 t' := by simp [wl4, ms, z]
        have f2 : adC c t (c 4 4 t) ((c 4 4 t + 1) % 60) (c 4 5 t + 1) (r 0 5 0) n x7 x8 4 4 t' = c 4 4 t' := by simp [adC, ms, z]
        rw [f1] at i1
        rw [f1, f2]
        have l := L1 t' a b
        exact okL_far (lg := r 38 0) (by omega) (by omega) i0 i1 (by omega) (by omega) (by omega) z (L2 t' i a b i0 i1) (fun j hj => rfl)
    refine ⟨hR.K0, hR.S1, hR.S2, hR.S3, hR.S4, hR.S5, hR.R1, hR.R2, hR.R3, hR.T0, hR.T1, hR.T2, hR.T3, hR.E1, hR.E2, hR.E3, hR.E4, hR.E5, hR.E6, hR.E7, hR.E8, hR.E9, hR.E10, hR.E11, hR.I1, hR.I2, hR.I3, hR.I4, hR.I5, hR.I6, hR.I7, hR.I8, hR.I9, hR.I10, hR.I11, hR.I12, hR.I13, hR.I14, hR.W1, hR.W2, hR.W3, hR.W4, hR.W5, hR.W6, hR.W7, hR.W8, hR.W9, hR.J1, hR.J2, hR.J3, hR.J4, hR.J5, hR.J6, hR.J7, hR.H1, hR.H2, hR.H3, hR.H4, hL1, hL2, hR.A1, hR.A2, hR.F1, hR.F2, hR.F3, hR.Q1, hR.Q2, hR.Q3, hR.Q4, hR.Q5, hR.Q6, hR.Q7⟩
theorem wlR_fr (r : MM) (t n x7 x8 : Int) : Fr t 0 r (wlR r t n x7 x8) := by
  unfold wlR
  split <;> exact ⟨rfl, rfl, rfl, rfl, rfl, rfl, rfl, fun _ _ => rfl, fun m => (by show r 21 0 m ≤ r 21 0 m + 0; omega)⟩
