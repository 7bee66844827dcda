def ovM (μ : MM) (k : Nat) (b : Int → Int) : MM := fun f e j => if f = k ∧ e = 0 then b j else μ f e j
theorem ovM_self (μ : MM) (k : Nat) : ovM μ k (μ k 0) = μ := by
  funext f e j
  unfold ovM
  split
  · next q => obtain ⟨rfl, rfl⟩ := q; rfl
  · rfl
theorem ovM_at (μ : MM) (k : Nat) (b : Int → Int) (j : Int) : ovM μ k b k 0 j = b j := if_pos ⟨rfl, rfl⟩
theorem ovM_ms (μ : MM) (k : Nat) (b : Int → Int) (j v : Int) : ms (ovM μ k b) k 0 j v = ovM μ k (upI b j v) := by
  funext f e x
  unfold ms ovM upI
  by_cases h : f = k ∧ e = 0
  · obtain ⟨rfl, rfl⟩ := h
    by_cases h2 : x = j
    · rw [if_pos ⟨rfl, rfl, h2⟩, if_pos ⟨rfl, rfl⟩, if_pos h2]
    · rw [if_neg (fun q => h2 q.2.2), if_pos ⟨rfl, rfl⟩, if_pos ⟨rfl, rfl⟩, if_neg h2]
  · rw [if_neg (fun q => h ⟨q.1, q.2.1⟩), if_neg h, if_neg h]
/-! the way to right: A the notch, B what comes next, al and be how far each is from the hour -/
def cnt (al be : Int) : Int := if al < be then al + 12 - be else al
def SS (s : Int → Int) (A : Int) (m : Nat) : Int := sumF (fun i => s ((A + i) % 12)) 0 m
theorem SS_succ (s : Int → Int) (A : Int) (a0 : 0 ≤ A) (a1 : A < 12) (m : Nat) : SS s A (m + 1) = s A + SS s ((A + 1) % 12) m := by
  unfold SS
  have e := sumF_split (fun i => s ((A + i) % 12)) 0 1 m
  rw [Nat.add_comm 1 m] at e
  rw [e]
  have e1 : sumF (fun i => s ((A + i) % 12)) 0 1 = s A := by
    show 0 + s ((A + (0 + ((0 : Nat) : Int))) % 12) = s A
    have : (A + (0 + ((0 : Nat) : Int))) % 12 = A := by omega
    rw [this]
    omega
  have e2 : sumF (fun i => s ((A + i) % 12)) (0 + ((1 : Nat) : Int)) m = sumF (fun i => s (((A + 1) % 12 + i) % 12)) 0 m := by
    apply sumF_congr
    intro i p q
    show s ((A + (0 + ((1 : Nat) : Int) + i)) % 12) = s (((A + 1) % 12 + (0 + i)) % 12)
    congr 1
    omega
  rw [e1, e2]
theorem SS_rng (s : Int → Int) (hs : ∀ i, 0 ≤ i → i < 12 → 1 ≤ s i ∧ s i ≤ 24) (A : Int) (m : Nat) : 0 ≤ SS s A m ∧ SS s A m ≤ 24 * m := by
  have := sumF_rng (f := fun i => s ((A + i) % 12)) (b := 0) (lo := 1) (hi := 24) m (fun i _ _ => hs _ (by omega) (by omega))
  unfold SS
  omega
def DD (s : Int → Int) (h A B : Int) : Int := 1000 * SS s A ((h - A) % 12).toNat + cnt ((h - A) % 12) ((h - B) % 12)
theorem cnt_rng {al be : Int} (a0 : 0 ≤ al) (a1 : al < 12) (b0 : 0 ≤ be) (b1 : be < 12) : 0 ≤ cnt al be ∧ cnt al be < 12 := by
  unfold cnt
  split <;> omega
def aft (a p : Int) : Int := if a = 0 then 12 * ((p / 12 + 1) % 12) + p % 12 else if a = 1 then 12 * ((p / 12 + 1) % 12) + (p % 12 + 1) % 12 else 12 * (p / 12) + (p % 12 + 11) % 12
def cst (s : Int → Int) (a p : Int) : Int := if a = 2 then 1 else 1000 * s (p / 12) + 1
def Dp (s : Int → Int) (h p : Int) : Int := DD s h (p / 12) (p % 12)
theorem aft_rng {a p : Int} (p0 : 0 ≤ p) (p1 : p < 144) : 0 ≤ aft a p ∧ aft a p < 144 := by
  unfold aft
  split
  · omega
  · split <;> omega
theorem cst_rng {s : Int → Int} (hs : ∀ i, 0 ≤ i → i < 12 → 1 ≤ s i ∧ s i ≤ 24) {a p : Int} (p0 : 0 ≤ p) (p1 : p < 144) : 1 ≤ cst s a p ∧ cst s a p ≤ 24001 := by
  have k := hs (p / 12) (by omega) (by omega)
  unfold cst
  split <;> omega
theorem Dp_rng {s : Int → Int} (hs : ∀ i, 0 ≤ i → i < 12 → 1 ≤ s i ∧ s i ≤ 24) {h : Int} (p : Int) : 0 ≤ Dp s h p ∧ Dp s h p ≤ 300000 := by
  unfold Dp DD
  have k1 := SS_rng s hs (p / 12) ((h - p / 12) % 12).toNat
  have k2 := cnt_rng (al := (h - p / 12) % 12) (be := (h - p % 12) % 12) (by omega) (by omega) (by omega) (by omega)
  omega
theorem step_A {s : Int → Int} (hs : ∀ i, 0 ≤ i → i < 12 → 1 ≤ s i ∧ s i ≤ 24) {h : Int} (h0 : 0 ≤ h) (h1 : h < 12) {A : Int} (a0 : 0 ≤ A) (a1 : A < 12) (z : (h - A) % 12 ≠ 0) : SS s A ((h - A) % 12).toNat = s A + SS s ((A + 1) % 12) ((h - (A + 1) % 12) % 12).toNat := by
  have e : ((h - A) % 12).toNat = ((h - (A + 1) % 12) % 12).toNat + 1 := by omega
  rw [e, SS_succ s A a0 a1]
theorem D_le {s : Int → Int} (hs : ∀ i, 0 ≤ i → i < 12 → 1 ≤ s i ∧ s i ≤ 24) {h : Int} (h0 : 0 ≤ h) (h1 : h < 12) {a p : Int} (ha : 0 ≤ a ∧ a ≤ 2) (p0 : 0 ≤ p) (p1 : p < 144) : Dp s h p ≤ cst s a p + Dp s h (aft a p) := by
  have k := hs (p / 12) (by omega) (by omega)
  obtain ⟨A, hA⟩ : ∃ A, A = p / 12 := ⟨_, rfl⟩
  obtain ⟨B, hB⟩ : ∃ B, B = p % 12 := ⟨_, rfl⟩
  have a0 : 0 ≤ A := by omega
  have a1 : A < 12 := by omega
  have b0 : 0 ≤ B := by omega
  have b1 : B < 12 := by omega
  have sA := SS_rng s hs A ((h - A) % 12).toNat
  have sA' := SS_rng s hs ((A + 1) % 12) ((h - (A + 1) % 12) % 12).toNat
  unfold Dp DD cst aft
  rw [← hA, ← hB]
  rcases (show a = 0 ∨ a = 1 ∨ a = 2 by omega) with rfl | rfl | rfl
  · rw [if_neg (by decide), if_pos rfl]
    have e1 : (12 * ((A + 1) % 12) + B) / 12 = (A + 1) % 12 := by omega
    have e2 : (12 * ((A + 1) % 12) + B) % 12 = B := by omega
    rw [e1, e2]
    rw [← hA] at k
    by_cases z : (h - A) % 12 = 0
    · have c1 := cnt_rng (al := (h - A) % 12) (be := (h - B) % 12) (by omega) (by omega) (by omega) (by omega)
      have c2 := cnt_rng (al := (h - (A + 1) % 12) % 12) (be := (h - B) % 12) (by omega) (by omega) (by omega) (by omega)
      rw [z]
      rw [z] at c1 sA
      omega
    · have st := step_A hs h0 h1 a0 a1 z
      rw [st]
      unfold cnt
      split <;> split <;> omega
  · rw [if_neg (by decide), if_neg (by decide), if_pos rfl]
    have e1 : (12 * ((A + 1) % 12) + (B + 1) % 12) / 12 = (A + 1) % 12 := by omega
    have e2 : (12 * ((A + 1) % 12) + (B + 1) % 12) % 12 = (B + 1) % 12 := by omega
    rw [e1, e2]
    rw [← hA] at k
    by_cases z : (h - A) % 12 = 0
    · have c1 := cnt_rng (al := (h - A) % 12) (be := (h - B) % 12) (by omega) (by omega) (by omega) (by omega)
      have c2 := cnt_rng (al := (h - (A + 1) % 12) % 12) (be := (h - (B + 1) % 12) % 12) (by omega) (by omega) (by omega) (by omega)
      rw [z]
      rw [z] at c1 sA
      omega
    · have st := step_A hs h0 h1 a0 a1 z
      rw [st]
      unfold cnt
      split <;> split <;> omega
  · rw [if_pos rfl, if_neg (by decide), if_neg (by decide)]
    have e1 : (12 * A + (B + 11) % 12) / 12 = A := by omega
    have e2 : (12 * A + (B + 11) % 12) % 12 = (B + 11) % 12 := by omega
    rw [e1, e2]
    unfold cnt
    split <;> split <;> omega
/-! the act that the class takes at A, B, and that no lesser act is as good -/
theorem D_act {s : Int → Int} (hs : ∀ i, 0 ≤ i → i < 12 → 1 ≤ s i ∧ s i ≤ 24) {h : Int} (h0 : 0 ≤ h) (h1 : h < 12) {A B : Int} (a0 : 0 ≤ A) (a1 : A < 12) (b0 : 0 ≤ B) (b1 : B < 12) : ((h - A) % 12 ≠ 0 → (h - A) % 12 ≠ (h - B) % 12 → Dp s h (12 * A + B) = cst s 0 (12 * A + B) + Dp s h (aft 0 (12 * A + B))) ∧ ((h - A) % 12 ≠ 0 → (h - A) % 12 = (h - B) % 12 → Dp s h (12 * A + B) ≠ cst s 0 (12 * A + B) + Dp s h (aft 0 (12 * A + B)) ∧ Dp s h (12 * A + B) = cst s 1 (12 * A + B) + Dp s h (aft 1 (12 * A + B))) ∧ ((h - A) % 12 = 0 → (h - B) % 12 ≠ 0 → Dp s h (12 * A + B) ≠ cst s 0 (12 * A + B) + Dp s h (aft 0 (12 * A + B)) ∧ Dp s h (12 * A + B) ≠ cst s 1 (12 * A + B) + Dp s h (aft 1 (12 * A + B)) ∧ Dp s h (12 * A + B) = cst s 2 (12 * A + B) + Dp s h (aft 2 (12 * A + B))) := by
  have k := hs A a0 a1
  have q1 : (12 * A + B) / 12 = A := by omega
  have q2 : (12 * A + B) % 12 = B := by omega
  have sA := SS_rng s hs A ((h - A) % 12).toNat
  have sA' := SS_rng s hs ((A + 1) % 12) ((h - (A + 1) % 12) % 12).toNat
  have f0 : cst s 0 (12 * A + B) + Dp s h (aft 0 (12 * A + B)) = 1000 * s A + 1 + (1000 * SS s ((A + 1) % 12) ((h - (A + 1) % 12) % 12).toNat + cnt ((h - (A + 1) % 12) % 12) ((h - B) % 12)) := by
    unfold Dp DD cst aft
    rw [q1, q2, if_neg (by decide), if_pos rfl]
    have e1 : (12 * ((A + 1) % 12) + B) / 12 = (A + 1) % 12 := by omega
    have e2 : (12 * ((A + 1) % 12) + B) % 12 = B := by omega
    rw [e1, e2]
  have f1 : cst s 1 (12 * A + B) + Dp s h (aft 1 (12 * A + B)) = 1000 * s A + 1 + (1000 * SS s ((A + 1) % 12) ((h - (A + 1) % 12) % 12).toNat + cnt ((h - (A + 1) % 12) % 12) ((h - (B + 1) % 12) % 12)) := by
    unfold Dp DD cst aft
    rw [q1, q2, if_neg (by decide), if_neg (by decide), if_pos rfl]
    have e1 : (12 * ((A + 1) % 12) + (B + 1) % 12) / 12 = (A + 1) % 12 := by omega
    have e2 : (12 * ((A + 1) % 12) + (B + 1) % 12) % 12 = (B + 1) % 12 := by omega
    rw [e1, e2]
  have f2 : cst s 2 (12 * A + B) + Dp s h (aft 2 (12 * A + B)) = 1 + (1000 * SS s A ((h - A) % 12).toNat + cnt ((h - A) % 12) ((h - (B + 11) % 12) % 12)) := by
    unfold Dp DD cst aft
    rw [q1, q2, if_pos rfl, if_neg (by decide), if_neg (by decide)]
    have e1 : (12 * A + (B + 11) % 12) / 12 = A := by omega
    have e2 : (12 * A + (B + 11) % 12) % 12 = (B + 11) % 12 := by omega
    rw [e1, e2]
  have fD : Dp s h (12 * A + B) = 1000 * SS s A ((h - A) % 12).toNat + cnt ((h - A) % 12) ((h - B) % 12) := by
    unfold Dp DD
    rw [q1, q2]
  have c1 := cnt_rng (al := (h - A) % 12) (be := (h - B) % 12) (by omega) (by omega) (by omega) (by omega)
  have c2 := cnt_rng (al := (h - (A + 1) % 12) % 12) (be := (h - B) % 12) (by omega) (by omega) (by omega) (by omega)
  have c3 := cnt_rng (al := (h - (A + 1) % 12) % 12) (be := (h - (B + 1) % 12) % 12) (by omega) (by omega) (by omega) (by omega)
  rw [f0, f1, f2, fD]
  refine ⟨fun z y => ?_, fun z y => ⟨?_, ?_⟩, fun z y => ⟨?_, ?_, ?_⟩⟩
  · have st := step_A hs h0 h1 a0 a1 z
    rw [st]
    unfold cnt
    split <;> split <;> omega
  · have st := step_A hs h0 h1 a0 a1 z
    rw [st]
    unfold cnt
    split <;> split <;> omega
  · have st := step_A hs h0 h1 a0 a1 z
    rw [st]
    unfold cnt
    split <;> split <;> omega
  · rw [z] at sA c1 ⊢
    omega
  · rw [z] at sA c1 ⊢
    omega
  · unfold cnt
    split <;> split <;> omega
theorem D_goal {s : Int → Int} (hs : ∀ i, 0 ≤ i → i < 12 → 1 ≤ s i ∧ s i ≤ 24) {h : Int} (h0 : 0 ≤ h) (h1 : h < 12) : Dp s h (13 * h) = 0 := by
  unfold Dp DD
  have e1 : 13 * h / 12 = h := by omega
  have e2 : 13 * h % 12 = h := by omega
  rw [e1, e2, Int.sub_self]
  rfl
/-! what no act makes less is the least -/
theorem fix_D {s : Int → Int} (hs : ∀ i, 0 ≤ i → i < 12 → 1 ≤ s i ∧ s i ≤ 24) {h : Int} (h0 : 0 ≤ h) (h1 : h < 12) {b : Int → Int} (hb : ∀ p, 0 ≤ p → p < 144 → Dp s h p ≤ b p) (hg : b (13 * h) = 0) (hfix : ∀ p a, 0 ≤ p → p < 144 → 0 ≤ a → a ≤ 2 → b p ≤ cst s a p + b (aft a p)) : ∀ p, 0 ≤ p → p < 144 → b p = Dp s h p := by
  have aux : ∀ (m : Nat) (p : Int), 0 ≤ p → p < 144 → Dp s h p ≤ m → b p ≤ Dp s h p := by
    intro m
    induction m with
    | zero =>
      intro p p0 p1 hm
      have dr := Dp_rng hs (h := h) p
      have da := D_act hs h0 h1 (A := p / 12) (B := p % 12) (by omega) (by omega) (by omega) (by omega)
      have ep : 12 * (p / 12) + p % 12 = p := by omega
      rw [ep] at da
      by_cases z : p = 13 * h
      · subst z
        omega
      · exfalso
        have r0 := Dp_rng hs (h := h) (aft 0 p)
        have r1 := Dp_rng hs (h := h) (aft 1 p)
        have r2 := Dp_rng hs (h := h) (aft 2 p)
        have s0 := cst_rng hs (a := 0) p0 p1
        have s1 := cst_rng hs (a := 1) p0 p1
        have s2 := cst_rng hs (a := 2) p0 p1
        by_cases y : (h - p / 12) % 12 = 0
        · have y2 : (h - p % 12) % 12 ≠ 0 := by omega
          have := (da.2.2 y y2).2.2
          omega
        · by_cases y2 : (h - p / 12) % 12 = (h - p % 12) % 12
          · have := (da.2.1 y y2).2
            omega
          · have := da.1 y y2
            omega
    | succ m ih =>
      intro p p0 p1 hm
      have da := D_act hs h0 h1 (A := p / 12) (B := p % 12) (by omega) (by omega) (by omega) (by omega)
      have ep : 12 * (p / 12) + p % 12 = p := by omega
      rw [ep] at da
      have dr := Dp_rng hs (h := h) p
      have use : ∀ a : Int, 0 ≤ a → a ≤ 2 → Dp s h p = cst s a p + Dp s h (aft a p) → b p ≤ Dp s h p := by
        intro a u v w
        have f := hfix p a p0 p1 u v
        have ar := aft_rng (a := a) p0 p1
        have cr := cst_rng hs (a := a) p0 p1
        have i := ih (aft a p) ar.1 ar.2 (by omega)
        omega
      by_cases z : p = 13 * h
      · subst z
        omega
      · by_cases y : (h - p / 12) % 12 = 0
        · have y2 : (h - p % 12) % 12 ≠ 0 := by omega
          exact use 2 (by decide) (by decide) (da.2.2 y y2).2.2
        · by_cases y2 : (h - p / 12) % 12 = (h - p % 12) % 12
          · exact use 1 (by decide) (by decide) (da.2.1 y y2).2
          · exact use 0 (by decide) (by decide) (da.1 y y2)
  intro p p0 p1
  have dr := Dp_rng hs (h := h) p
  have := aux (Dp s h p).toNat p p0 p1 (by omega)
  have := hb p p0 p1
  omega
