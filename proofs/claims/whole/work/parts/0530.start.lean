/-! the two new objects as worlds -/
def G0 : GG := fun _ _ => 0
def mC0 : MM := fun f e _ => if f = 0 ∧ e = 7 then -9 else if f = 1 then -1 else if f = 3 ∧ (e = 6 ∨ e = 7) then -1 else if f = 7 ∧ e = 8 then 1 else if f = 21 then -1 else 0
def mR0 : MM := fun f e _ => if f = 0 then (if e = 4 then 1 else if e = 40 ∨ e = 43 ∨ e = 44 then -9 else 0) else if f = 7 ∨ f = 35 then -9 else 0
def adN (b : Nat) (α : Nat → Nat) (p : Nat) : Nat := match p with
  | 0 => b
  | n + 1 => α n
theorem cell_congrQ {D : va_G} {cl : List vw_C} {a n : Nat} {cA : ClassId} {f g : Nat → Option Nat} {H : Heap} (h : ∀ j, j < n → f j = g j) (q : va_at D cl (a, .inl (cA, n, .inr (.inr (.inr (.inr f))))) H) : va_at D cl (a, .inl (cA, n, .inr (.inr (.inr (.inr g))))) H := by
  have e : vp_cell cA (n, .inr (.inr (.inr (.inr f)))) = vp_cell cA (n, .inr (.inr (.inr (.inr g)))) := by
    rw [vp_cell_q, vp_cell_q]
    unfold arrV
    congr 1
    apply Array.ext
    · simp
    · intro i h1 h2
      simp at h1
      simp [h i h1]
  exact (show H[a]? = some (vp_cell cA (n, .inr (.inr (.inr (.inr f))))) from q).trans (congrArg some e)
def pC (k : Nat) (i : Int) : Nat := match k with
  | 0 => 0
  | 1 => 12 + 2 * i.toNat
  | 3 => 28 + 6 * i.toNat
  | 4 => 29 + 6 * i.toNat
  | 5 => 4
  | 6 => 6
  | 7 => 8
  | 8 => 13 + 2 * i.toNat
  | 11 => 30 + 6 * i.toNat
  | 12 => 31 + 6 * i.toNat
  | 13 => 32 + 6 * i.toNat
  | 14 => 33 + 6 * i.toNat
  | 15 => 5
  | 16 => 7
  | 17 => 9
  | 18 => 10
  | 19 => 11
  | 20 => 1
  | 21 => 2
  | 22 => 3
  | _ => 0
def uC (p : Nat) : Nat × Int := match p with
  | 0 => (0, 0)
  | 1 => (20, 0)
  | 2 => (21, 0)
  | 3 => (22, 0)
  | 4 => (5, 0)
  | 5 => (15, 0)
  | 6 => (6, 0)
  | 7 => (16, 0)
  | 8 => (7, 0)
  | 9 => (17, 0)
  | 10 => (18, 0)
  | 11 => (19, 0)
  | 12 => (1, 0)
  | 13 => (8, 0)
  | 14 => (1, 1)
  | 15 => (8, 1)
  | 16 => (1, 2)
  | 17 => (8, 2)
  | 18 => (1, 3)
  | 19 => (8, 3)
  | 20 => (1, 4)
  | 21 => (8, 4)
  | 22 => (1, 5)
  | 23 => (8, 5)
  | 24 => (1, 6)
  | 25 => (8, 6)
  | 26 => (1, 7)
  | 27 => (8, 7)
  | 28 => (3, 0)
  | 29 => (4, 0)
  | 30 => (11, 0)
  | 31 => (12, 0)
  | 32 => (13, 0)
  | 33 => (14, 0)
  | 34 => (3, 1)
  | 35 => (4, 1)
  | 36 => (11, 1)
  | 37 => (12, 1)
  | 38 => (13, 1)
  | 39 => (14, 1)
  | 40 => (3, 2)
  | 41 => (4, 2)
  | 42 => (11, 2)
  | 43 => (12, 2)
  | 44 => (13, 2)
  | 45 => (14, 2)
  | 46 => (3, 3)
  | 47 => (4, 3)
  | 48 => (11, 3)
  | 49 => (12, 3)
  | 50 => (13, 3)
  | 51 => (14, 3)
  | _ => (0, 0)
theorem uC_ok : ∀ (k : Nat) (f : Nat → Int → Int) (i : Int), dmC G0 k f i → uC (pC k i) = (k, i) ∧ pC k i < 52 := fun k f i h => by
  match k, h with
  | 0, h =>
    have h : i = 0 := h
    subst h
    exact ⟨rfl, by decide⟩
  | 1, h =>
    have h : 0 ≤ i ∧ i < 8 := h
    rcases (show i = 0 ∨ i = 1 ∨ i = 2 ∨ i = 3 ∨ i = 4 ∨ i = 5 ∨ i = 6 ∨ i = 7 by omega) with rfl | rfl | rfl | rfl | rfl | rfl | rfl | rfl <;> exact ⟨rfl, by decide⟩
  | 2, h => exact absurd (show 0 ≤ i ∧ i < 0 from h) (by omega)
  | 3, h =>
    have h : 0 ≤ i ∧ i < 4 := h
    rcases (show i = 0 ∨ i = 1 ∨ i = 2 ∨ i = 3 by omega) with rfl | rfl | rfl | rfl <;> exact ⟨rfl, by decide⟩
  | 4, h =>
    have h : 0 ≤ i ∧ i < 4 := h
    rcases (show i = 0 ∨ i = 1 ∨ i = 2 ∨ i = 3 by omega) with rfl | rfl | rfl | rfl <;> exact ⟨rfl, by decide⟩
  | 5, h =>
    have h : i = 0 := h
    subst h
    exact ⟨rfl, by decide⟩
  | 6, h =>
    have h : i = 0 := h
    subst h
    exact ⟨rfl, by decide⟩
  | 7, h =>
    have h : i = 0 := h
    subst h
    exact ⟨rfl, by decide⟩
  | 8, h =>
    have h : 0 ≤ i ∧ i < 8 := h
    rcases (show i = 0 ∨ i = 1 ∨ i = 2 ∨ i = 3 ∨ i = 4 ∨ i = 5 ∨ i = 6 ∨ i = 7 by omega) with rfl | rfl | rfl | rfl | rfl | rfl | rfl | rfl <;> exact ⟨rfl, by decide⟩
  | 9, h => exact absurd (show 0 ≤ i ∧ i < 0 from h) (by omega)
  | 10, h => exact absurd (show (0 ≤ i ∧ i < 0) ∧ G0 1 i = 3 from h) (by omega)
  | 11, h =>
    have h : 0 ≤ i ∧ i < 4 := h
    rcases (show i = 0 ∨ i = 1 ∨ i = 2 ∨ i = 3 by omega) with rfl | rfl | rfl | rfl <;> exact ⟨rfl, by decide⟩
  | 12, h =>
    have h : 0 ≤ i ∧ i < 4 := h
    rcases (show i = 0 ∨ i = 1 ∨ i = 2 ∨ i = 3 by omega) with rfl | rfl | rfl | rfl <;> exact ⟨rfl, by decide⟩
  | 13, h =>
    have h : 0 ≤ i ∧ i < 4 := h
    rcases (show i = 0 ∨ i = 1 ∨ i = 2 ∨ i = 3 by omega) with rfl | rfl | rfl | rfl <;> exact ⟨rfl, by decide⟩
  | 14, h =>
    have h : 0 ≤ i ∧ i < 4 := h
    rcases (show i = 0 ∨ i = 1 ∨ i = 2 ∨ i = 3 by omega) with rfl | rfl | rfl | rfl <;> exact ⟨rfl, by decide⟩
  | 15, h =>
    have h : i = 0 := h
    subst h
    exact ⟨rfl, by decide⟩
  | 16, h =>
    have h : i = 0 := h
    subst h
    exact ⟨rfl, by decide⟩
  | 17, h =>
    have h : i = 0 := h
    subst h
    exact ⟨rfl, by decide⟩
  | 18, h =>
    have h : i = 0 := h
    subst h
    exact ⟨rfl, by decide⟩
  | 19, h =>
    have h : i = 0 := h
    subst h
    exact ⟨rfl, by decide⟩
  | 20, h =>
    have h : i = 0 := h
    subst h
    exact ⟨rfl, by decide⟩
  | 21, h =>
    have h : i = 0 := h
    subst h
    exact ⟨rfl, by decide⟩
  | 22, h =>
    have h : i = 0 := h
    subst h
    exact ⟨rfl, by decide⟩
  | k + 23, h => exact h.elim
abbrev adC0 (b : Nat) (α : Nat → Nat) : AD := fun k i => adN b α (pC k i)
theorem at_lt {L : va_W} {n : Nat} (h : n < L.length) : L[n]? = some L[n] := List.getElem?_eq_getElem h
theorem LNC_at (cy : Nat → ClassId) (b : Nat) (α : Nat → Nat) : ∀ p : Nat, p < 52 → ∃ e : va_E, (LNX10_init_10 cy b α)[p]? = some (adN b α p, e) := fun p h => match p, h with
  | 0, _ => ⟨_, rfl⟩
  | 1, _ => ⟨_, rfl⟩
  | 2, _ => ⟨_, rfl⟩
  | 3, _ => ⟨_, rfl⟩
  | 4, _ => ⟨_, rfl⟩
  | 5, _ => ⟨_, rfl⟩
  | 6, _ => ⟨_, rfl⟩
  | 7, _ => ⟨_, rfl⟩
  | 8, _ => ⟨_, rfl⟩
  | 9, _ => ⟨_, rfl⟩
  | 10, _ => ⟨_, rfl⟩
  | 11, _ => ⟨_, rfl⟩
  | 12, _ => ⟨_, rfl⟩
  | 13, _ => ⟨_, rfl⟩
  | 14, _ => ⟨_, rfl⟩
  | 15, _ => ⟨_, rfl⟩
  | 16, _ => ⟨_, rfl⟩
  | 17, _ => ⟨_, rfl⟩
  | 18, _ => ⟨_, rfl⟩
  | 19, _ => ⟨_, rfl⟩
  | 20, _ => ⟨_, rfl⟩
  | 21, _ => ⟨_, rfl⟩
  | 22, _ => ⟨_, rfl⟩
  | 23, _ => ⟨_, rfl⟩
  | 24, _ => ⟨_, rfl⟩
  | 25, _ => ⟨_, rfl⟩
  | 26, _ => ⟨_, rfl⟩
  | 27, _ => ⟨_, rfl⟩
  | 28, _ => ⟨_, rfl⟩
  | 29, _ => ⟨_, rfl⟩
  | 30, _ => ⟨_, rfl⟩
  | 31, _ => ⟨_, rfl⟩
  | 32, _ => ⟨_, rfl⟩
  | 33, _ => ⟨_, rfl⟩
  | 34, _ => ⟨_, rfl⟩
  | 35, _ => ⟨_, rfl⟩
  | 36, _ => ⟨_, rfl⟩
  | 37, _ => ⟨_, rfl⟩
  | 38, _ => ⟨_, rfl⟩
  | 39, _ => ⟨_, rfl⟩
  | 40, _ => ⟨_, rfl⟩
  | 41, _ => ⟨_, rfl⟩
  | 42, _ => ⟨_, rfl⟩
  | 43, _ => ⟨_, rfl⟩
  | 44, _ => ⟨_, rfl⟩
  | 45, _ => ⟨_, rfl⟩
  | 46, _ => ⟨_, rfl⟩
  | 47, _ => ⟨_, rfl⟩
  | 48, _ => ⟨_, rfl⟩
  | 49, _ => ⟨_, rfl⟩
  | 50, _ => ⟨_, rfl⟩
  | 51, _ => ⟨_, rfl⟩
  | p + 52, h => absurd h (by omega)
set_option maxRecDepth 100000 in
set_option maxHeartbeats 4000000 in
theorem startC {D : va_G} {cy : Nat → ClassId} {b : Nat} {α : Nat → Nat} {A : Nat → Prop} {s : State} {H : Heap} (hP : va_P D vwCl (LNX10_init_10 cy b α) H) (hD : va_D A (LNX10_init_10 cy b α)) (hK : va_K D vwCl (tyC cy) s) (hex : exC G0 s) : wdC G0 D cy (adC0 b α) A mC0 s H := by
  refine ⟨fun k i h => ?_, ⟨hK, hex⟩, fun k i k' i' h h' he => ?_, fun k i h => ?_⟩
  · match k, h with
    | 0, h =>
      have h : i = 0 := h
      subst h
      exact hP 0 _ rfl
    | 1, h =>
      have h : 0 ≤ i ∧ i < 8 := h
      rcases (show i = 0 ∨ i = 1 ∨ i = 2 ∨ i = 3 ∨ i = 4 ∨ i = 5 ∨ i = 6 ∨ i = 7 by omega) with rfl | rfl | rfl | rfl | rfl | rfl | rfl | rfl
      · exact hP 12 _ rfl
      · exact hP 14 _ rfl
      · exact hP 16 _ rfl
      · exact hP 18 _ rfl
      · exact hP 20 _ rfl
      · exact hP 22 _ rfl
      · exact hP 24 _ rfl
      · exact hP 26 _ rfl
    | 2, h => exact absurd (show 0 ≤ i ∧ i < 0 from h) (by omega)
    | 3, h =>
      have h : 0 ≤ i ∧ i < 4 := h
      rcases (show i = 0 ∨ i = 1 ∨ i = 2 ∨ i = 3 by omega) with rfl | rfl | rfl | rfl
      · exact hP 28 _ rfl
      · exact hP 34 _ rfl
      · exact hP 40 _ rfl
      · exact hP 46 _ rfl
    | 4, h =>
      have h : 0 ≤ i ∧ i < 4 := h
      rcases (show i = 0 ∨ i = 1 ∨ i = 2 ∨ i = 3 by omega) with rfl | rfl | rfl | rfl
      · exact hP 29 _ rfl
      · exact hP 35 _ rfl
      · exact hP 41 _ rfl
      · exact hP 47 _ rfl
    | 5, h =>
      have h : i = 0 := h
      subst h
      exact hP 4 _ rfl
    | 6, h =>
      have h : i = 0 := h
      subst h
      exact hP 6 _ rfl
    | 7, h =>
      have h : i = 0 := h
      subst h
      exact hP 8 _ rfl
    | 8, h =>
      have h : 0 ≤ i ∧ i < 8 := h
      rcases (show i = 0 ∨ i = 1 ∨ i = 2 ∨ i = 3 ∨ i = 4 ∨ i = 5 ∨ i = 6 ∨ i = 7 by omega) with rfl | rfl | rfl | rfl | rfl | rfl | rfl | rfl
      · exact hP 13 _ rfl
      · exact hP 15 _ rfl
      · exact hP 17 _ rfl
      · exact hP 19 _ rfl
      · exact hP 21 _ rfl
      · exact hP 23 _ rfl
      · exact hP 25 _ rfl
      · exact hP 27 _ rfl
    | 9, h => exact absurd (show 0 ≤ i ∧ i < 0 from h) (by omega)
    | 10, h => exact absurd (show (0 ≤ i ∧ i < 0) ∧ G0 1 i = 3 from h) (by omega)
    | 11, h =>
      have h : 0 ≤ i ∧ i < 4 := h
      rcases (show i = 0 ∨ i = 1 ∨ i = 2 ∨ i = 3 by omega) with rfl | rfl | rfl | rfl
      · exact hP 30 _ rfl
      · exact hP 36 _ rfl
      · exact hP 42 _ rfl
      · exact hP 48 _ rfl
    | 12, h =>
      have h : 0 ≤ i ∧ i < 4 := h
      rcases (show i = 0 ∨ i = 1 ∨ i = 2 ∨ i = 3 by omega) with rfl | rfl | rfl | rfl
      · exact hP 31 _ rfl
      · exact hP 37 _ rfl
      · exact hP 43 _ rfl
      · exact hP 49 _ rfl
    | 13, h =>
      have h : 0 ≤ i ∧ i < 4 := h
      rcases (show i = 0 ∨ i = 1 ∨ i = 2 ∨ i = 3 by omega) with rfl | rfl | rfl | rfl
      · exact hP 32 _ rfl
      · exact hP 38 _ rfl
      · exact hP 44 _ rfl
      · exact hP 50 _ rfl
    | 14, h =>
      have h : 0 ≤ i ∧ i < 4 := h
      rcases (show i = 0 ∨ i = 1 ∨ i = 2 ∨ i = 3 by omega) with rfl | rfl | rfl | rfl
      · exact hP 33 _ rfl
      · exact hP 39 _ rfl
      · exact hP 45 _ rfl
      · exact hP 51 _ rfl
    | 15, h =>
      have h : i = 0 := h
      subst h
      exact hP 5 _ rfl
    | 16, h =>
      have h : i = 0 := h
      subst h
      exact hP 7 _ rfl
    | 17, h =>
      have h : i = 0 := h
      subst h
      exact hP 9 _ rfl
    | 18, h =>
      have h : i = 0 := h
      subst h
      exact hP 10 _ rfl
    | 19, h =>
      have h : i = 0 := h
      subst h
      exact hP 11 _ rfl
    | 20, h =>
      have h : i = 0 := h
      subst h
      refine cell_congrQ (fun j hj => ?_) (hP 1 _ rfl)
      rcases (show j = 0 ∨ j = 1 ∨ j = 2 ∨ j = 3 ∨ j = 4 ∨ j = 5 ∨ j = 6 ∨ j = 7 by omega) with rfl | rfl | rfl | rfl | rfl | rfl | rfl | rfl <;> rfl
    | 21, h =>
      have h : i = 0 := h
      subst h
      exact hP 2 _ rfl
    | 22, h =>
      have h : i = 0 := h
      subst h
      refine cell_congrQ (fun j hj => ?_) (hP 3 _ rfl)
      rcases (show j = 0 ∨ j = 1 ∨ j = 2 ∨ j = 3 by omega) with rfl | rfl | rfl | rfl <;> rfl
    | k + 23, h => exact h.elim
  · obtain ⟨e1, q1⟩ := LNC_at cy b α _ (uC_ok k (mC0 k) i h).2
    obtain ⟨e2, q2⟩ := LNC_at cy b α _ (uC_ok k' (mC0 k') i' h').2
    have e := hD.1 _ _ _ _ q1 q2 he
    have g1 := (uC_ok k (mC0 k) i h).1
    rw [e, (uC_ok k' (mC0 k') i' h').1] at g1
    have := Prod.mk.inj g1
    exact ⟨this.1.symm, this.2.symm⟩
  · obtain ⟨e1, q1⟩ := LNC_at cy b α _ (uC_ok k (mC0 k) i h).2
    exact hD.2 _ _ q1
def pR (k : Nat) : Nat := match k with
  | 1 => 1
  | 7 => 2
  | 8 => 3
  | 9 => 4
  | 11 => 5
  | 12 => 6
  | 13 => 7
  | 14 => 8
  | 15 => 9
  | 16 => 10
  | 17 => 11
  | 18 => 12
  | 19 => 13
  | 20 => 14
  | 21 => 15
  | 22 => 16
  | 23 => 17
  | 24 => 18
  | 25 => 19
  | 26 => 20
  | 27 => 21
  | 28 => 22
  | 29 => 23
  | 30 => 24
  | 31 => 25
  | 32 => 26
  | 33 => 27
  | 34 => 28
  | 35 => 29
  | 36 => 30
  | 37 => 31
  | 38 => 32
  | 39 => 33
  | 41 => 34
  | 47 => 35
  | 49 => 36
  | 51 => 37
  | 52 => 38
  | _ => 0
def uR (p : Nat) : Nat := match p with
  | 0 => 0
  | 1 => 1
  | 2 => 7
  | 3 => 8
  | 4 => 9
  | 5 => 11
  | 6 => 12
  | 7 => 13
  | 8 => 14
  | 9 => 15
  | 10 => 16
  | 11 => 17
  | 12 => 18
  | 13 => 19
  | 14 => 20
  | 15 => 21
  | 16 => 22
  | 17 => 23
  | 18 => 24
  | 19 => 25
  | 20 => 26
  | 21 => 27
  | 22 => 28
  | 23 => 29
  | 24 => 30
  | 25 => 31
  | 26 => 32
  | 27 => 33
  | 28 => 34
  | 29 => 35
  | 30 => 36
  | 31 => 37
  | 32 => 38
  | 33 => 39
  | 34 => 41
  | 35 => 47
  | 36 => 49
  | 37 => 51
  | 38 => 52
  | _ => 0
abbrev adR0 (b : Nat) (α : Nat → Nat) : AD := fun k _ => adN b α (pR k)
theorem uR_ok : ∀ k : Nat, k = 0 ∨ tkR k ≠ 1 → uR (pR k) = k ∧ pR k < 39 := fun k h => by
  match k, h with
  | 0, _ => exact ⟨rfl, by decide⟩
  | 1, _ => exact ⟨rfl, by decide⟩
  | 2, h => exact absurd h (by decide)
  | 3, h => exact absurd h (by decide)
  | 4, h => exact absurd h (by decide)
  | 5, h => exact absurd h (by decide)
  | 6, h => exact absurd h (by decide)
  | 7, _ => exact ⟨rfl, by decide⟩
  | 8, _ => exact ⟨rfl, by decide⟩
  | 9, _ => exact ⟨rfl, by decide⟩
  | 10, h => exact absurd h (by decide)
  | 11, _ => exact ⟨rfl, by decide⟩
  | 12, _ => exact ⟨rfl, by decide⟩
  | 13, _ => exact ⟨rfl, by decide⟩
  | 14, _ => exact ⟨rfl, by decide⟩
  | 15, _ => exact ⟨rfl, by decide⟩
  | 16, _ => exact ⟨rfl, by decide⟩
  | 17, _ => exact ⟨rfl, by decide⟩
  | 18, _ => exact ⟨rfl, by decide⟩
  | 19, _ => exact ⟨rfl, by decide⟩
  | 20, _ => exact ⟨rfl, by decide⟩
  | 21, _ => exact ⟨rfl, by decide⟩
  | 22, _ => exact ⟨rfl, by decide⟩
  | 23, _ => exact ⟨rfl, by decide⟩
  | 24, _ => exact ⟨rfl, by decide⟩
  | 25, _ => exact ⟨rfl, by decide⟩
  | 26, _ => exact ⟨rfl, by decide⟩
  | 27, _ => exact ⟨rfl, by decide⟩
  | 28, _ => exact ⟨rfl, by decide⟩
  | 29, _ => exact ⟨rfl, by decide⟩
  | 30, _ => exact ⟨rfl, by decide⟩
  | 31, _ => exact ⟨rfl, by decide⟩
  | 32, _ => exact ⟨rfl, by decide⟩
  | 33, _ => exact ⟨rfl, by decide⟩
  | 34, _ => exact ⟨rfl, by decide⟩
  | 35, _ => exact ⟨rfl, by decide⟩
  | 36, _ => exact ⟨rfl, by decide⟩
  | 37, _ => exact ⟨rfl, by decide⟩
  | 38, _ => exact ⟨rfl, by decide⟩
  | 39, _ => exact ⟨rfl, by decide⟩
  | 40, h => exact absurd h (by decide)
  | 41, _ => exact ⟨rfl, by decide⟩
  | 42, h => exact absurd h (by decide)
  | 43, h => exact absurd h (by decide)
  | 44, h => exact absurd h (by decide)
  | 45, h => exact absurd h (by decide)
  | 46, h => exact absurd h (by decide)
  | 47, _ => exact ⟨rfl, by decide⟩
  | 48, h => exact absurd h (by decide)
  | 49, _ => exact ⟨rfl, by decide⟩
  | 50, h => exact absurd h (by decide)
  | 51, _ => exact ⟨rfl, by decide⟩
  | 52, _ => exact ⟨rfl, by decide⟩
  | 53, h => exact absurd h (by decide)
  | 54, h => exact absurd h (by decide)
  | 55, h => exact absurd h (by decide)
  | k + 56, h =>
    rcases h with h | h
    · omega
    · exact absurd rfl h
theorem LNR_at (cy : Nat → ClassId) (b : Nat) (α : Nat → Nat) : ∀ p : Nat, p < 39 → ∃ e : va_E, (LNX11_init_11 cy b α)[p]? = some (adN b α p, e) := fun p h => match p, h with
  | 0, _ => ⟨_, rfl⟩
  | 1, _ => ⟨_, rfl⟩
  | 2, _ => ⟨_, rfl⟩
  | 3, _ => ⟨_, rfl⟩
  | 4, _ => ⟨_, rfl⟩
  | 5, _ => ⟨_, rfl⟩
  | 6, _ => ⟨_, rfl⟩
  | 7, _ => ⟨_, rfl⟩
  | 8, _ => ⟨_, rfl⟩
  | 9, _ => ⟨_, rfl⟩
  | 10, _ => ⟨_, rfl⟩
  | 11, _ => ⟨_, rfl⟩
  | 12, _ => ⟨_, rfl⟩
  | 13, _ => ⟨_, rfl⟩
  | 14, _ => ⟨_, rfl⟩
  | 15, _ => ⟨_, rfl⟩
  | 16, _ => ⟨_, rfl⟩
  | 17, _ => ⟨_, rfl⟩
  | 18, _ => ⟨_, rfl⟩
  | 19, _ => ⟨_, rfl⟩
  | 20, _ => ⟨_, rfl⟩
  | 21, _ => ⟨_, rfl⟩
  | 22, _ => ⟨_, rfl⟩
  | 23, _ => ⟨_, rfl⟩
  | 24, _ => ⟨_, rfl⟩
  | 25, _ => ⟨_, rfl⟩
  | 26, _ => ⟨_, rfl⟩
  | 27, _ => ⟨_, rfl⟩
  | 28, _ => ⟨_, rfl⟩
  | 29, _ => ⟨_, rfl⟩
  | 30, _ => ⟨_, rfl⟩
  | 31, _ => ⟨_, rfl⟩
  | 32, _ => ⟨_, rfl⟩
  | 33, _ => ⟨_, rfl⟩
  | 34, _ => ⟨_, rfl⟩
  | 35, _ => ⟨_, rfl⟩
  | 36, _ => ⟨_, rfl⟩
  | 37, _ => ⟨_, rfl⟩
  | 38, _ => ⟨_, rfl⟩
  | p + 39, h => absurd h (by omega)
set_option maxRecDepth 100000 in
set_option maxHeartbeats 4000000 in
theorem startR {D : va_G} {cy : Nat → ClassId} {b : Nat} {α : Nat → Nat} {A : Nat → Prop} {s : State} {H : Heap} (hP : va_P D vwCl (LNX11_init_11 cy b α) H) (hD : va_D A (LNX11_init_11 cy b α)) (hK : va_K D vwCl (tyR cy) s) : wdR D cy (adR0 b α) A mR0 s H := by
  refine ⟨fun k i h => ?_, ⟨hK, trivial⟩, fun k i k' i' h h' he => ?_, fun k i h => ?_⟩
  · obtain ⟨hi, h⟩ := h
    subst hi
    match k, h with
    | 0, _ => exact hP 0 _ rfl
    | 1, _ => exact hP 1 _ rfl
    | 2, h => exact absurd h (by decide)
    | 3, h => exact absurd h (by decide)
    | 4, h => exact absurd h (by decide)
    | 5, h => exact absurd h (by decide)
    | 6, h => exact absurd h (by decide)
    | 7, _ =>
      refine cell_congr (fun j hj => ?_) (hP 2 _ rfl)
      have hj : j < 8 := hj
      rcases (show j = 0 ∨ j = 1 ∨ j = 2 ∨ j = 3 ∨ j = 4 ∨ j = 5 ∨ j = 6 ∨ j = 7 by omega) with rfl | rfl | rfl | rfl | rfl | rfl | rfl | rfl <;> rfl
    | 8, _ => exact hP 3 _ rfl
    | 9, _ => exact hP 4 _ rfl
    | 10, h => exact absurd h (by decide)
    | 11, _ => exact hP 5 _ rfl
    | 12, _ => exact hP 6 _ rfl
    | 13, _ => exact hP 7 _ rfl
    | 14, _ => exact hP 8 _ rfl
    | 15, _ => exact hP 9 _ rfl
    | 16, _ => exact hP 10 _ rfl
    | 17, _ => exact hP 11 _ rfl
    | 18, _ => exact hP 12 _ rfl
    | 19, _ => exact hP 13 _ rfl
    | 20, _ => exact hP 14 _ rfl
    | 21, _ => exact hP 15 _ rfl
    | 22, _ => exact hP 16 _ rfl
    | 23, _ => exact hP 17 _ rfl
    | 24, _ => exact hP 18 _ rfl
    | 25, _ => exact hP 19 _ rfl
    | 26, _ => exact hP 20 _ rfl
    | 27, _ => exact hP 21 _ rfl
    | 28, _ => exact hP 22 _ rfl
    | 29, _ => exact hP 23 _ rfl
    | 30, _ => exact hP 24 _ rfl
    | 31, _ => exact hP 25 _ rfl
    | 32, _ => exact hP 26 _ rfl
    | 33, _ => exact hP 27 _ rfl
    | 34, _ => exact hP 28 _ rfl
    | 35, _ =>
      refine cell_congr (fun j hj => ?_) (hP 29 _ rfl)
      have hj : j < 8 := hj
      rcases (show j = 0 ∨ j = 1 ∨ j = 2 ∨ j = 3 ∨ j = 4 ∨ j = 5 ∨ j = 6 ∨ j = 7 by omega) with rfl | rfl | rfl | rfl | rfl | rfl | rfl | rfl <;> rfl
    | 36, _ => exact hP 30 _ rfl
    | 37, _ => exact hP 31 _ rfl
    | 38, _ => exact hP 32 _ rfl
    | 39, _ => exact hP 33 _ rfl
    | 40, h => exact absurd h (by decide)
    | 41, _ => exact hP 34 _ rfl
    | 42, h => exact absurd h (by decide)
    | 43, h => exact absurd h (by decide)
    | 44, h => exact absurd h (by decide)
    | 45, h => exact absurd h (by decide)
    | 46, h => exact absurd h (by decide)
    | 47, _ => exact hP 35 _ rfl
    | 48, h => exact absurd h (by decide)
    | 49, _ => exact hP 36 _ rfl
    | 50, h => exact absurd h (by decide)
    | 51, _ => exact hP 37 _ rfl
    | 52, _ => exact hP 38 _ rfl
    | 53, h => exact absurd h (by decide)
    | 54, h => exact absurd h (by decide)
    | 55, h => exact absurd h (by decide)
    | k + 56, h =>
      rcases h with h | h
      · omega
      · exact absurd rfl h
  · obtain ⟨hi, h⟩ := h
    obtain ⟨hi', h'⟩ := h'
    obtain ⟨e1, q1⟩ := LNR_at cy b α _ (uR_ok k h).2
    obtain ⟨e2, q2⟩ := LNR_at cy b α _ (uR_ok k' h').2
    have e := hD.1 _ _ _ _ q1 q2 he
    have g1 := (uR_ok k h).1
    rw [e, (uR_ok k' h').1] at g1
    exact ⟨g1.symm, by rw [hi, hi']⟩
  · obtain ⟨e1, q1⟩ := LNR_at cy b α _ (uR_ok k h.2).2
    exact hD.2 _ _ q1
theorem rel_start : RelK 0 G0 mC0 mR0 := by
  refine ⟨by decide, ?_, ?_, ?_, ?_, ?_, ?_, ?_, ?_, ?_, ?_, ?_, ?_, ?_, ?_, ?_, ?_, ?_, ?_, ?_, ?_, ?_, ?_, ?_, ?_, ?_, ?_, ?_, ?_, ?_, ?_, ?_, ?_, ?_, ?_, ?_, ?_, ?_, ?_, ?_, ?_, ?_, ?_, ?_, ?_, ?_, ?_, ?_, ?_, ?_, ?_, ?_, ?_, ?_, ?_, ?_, ?_, ?_, ?_, ?_, ?_, ?_, ?_, ?_, ?_, ?_, ?_, ?_, ?_, ?_, ?_, ?_, ?_⟩
  · decide
  · rfl
  · rfl
  · rfl
  · rfl
  · decide
  · rfl
  · intro j
    exact (show (-128 : Int) ≤ 0 ∧ (0 : Int) ≤ 127 by decide)
  · intro j a b
    exact Or.inr ⟨rfl, rfl⟩
  · exact ⟨rfl, rfl, by decide, by decide⟩
  · intro n a b
    exact absurd (show n < 0 from b) (by omega)
  · intro n a b
    exact absurd (show n < 0 from b) (by omega)
  · intro n a
    rfl
  · rfl
  · rfl
  · rfl
  · rfl
  · rfl
  · rfl
  · rfl
  · rfl
  · rfl
  · rfl
  · rfl
  · intro n a b
    exact absurd (show n < 0 from b) (by omega)
  · intro n a b
    exact absurd (show n < 0 from b) (by omega)
  · intro n j a b
    exact absurd (show n < 0 from b) (by omega)
  · intro n a b
    exact absurd (show n < 0 from b) (by omega)
  · intro n a b
    exact absurd (show n < 0 from b) (by omega)
  · intro n a b
    exact absurd (show n < 0 from b) (by omega)
  · intro n a b
    exact absurd (show n < 0 from b) (by omega)
  · intro n a b
    exact absurd (show n < 0 from b) (by omega)
  · intro n a b
    exact absurd (show n < 0 from b) (by omega)
  · intro n a b
    exact absurd (show n < 0 from b) (by omega)
  · intro j
    exact (show (0 : Int) ≤ 0 ∧ (0 : Int) ≤ 255 by decide)
  · intro n a b
    exact absurd (show n < 0 from b) (by omega)
  · intro n a
    exact ⟨rfl, rfl, rfl, rfl, rfl, rfl, rfl, rfl⟩
  · rfl
  · rfl
  · rfl
  · rfl
  · rfl
  · rfl
  · rfl
  · rfl
  · rfl
  · intro t a b h
    exact absurd rfl h
  · intro t a b
    exact Or.inl rfl
  · intro t a b
    exact (show (0 : Int) ≤ 0 ∧ (0 : Int) ≤ 1439 by decide)
  · intro t a b
    exact (show (-3600 : Int) ≤ 0 ∧ (0 : Int) ≤ 3600 by decide)
  · intro t a b
    exact (show (0 : Int) ≤ 0 ∧ (0 : Int) ≤ 100000 by decide)
  · intro t a b
    exact (show (0 : Int) ≤ 0 ∧ (0 : Int) ≤ 90000 + 3600 * 0 by decide)
  · intro t a b
    exact Or.inl rfl
  · intro t a b
    exact (show ((0 : Int) ≤ 0 ∧ (0 : Int) ≤ 23) ∧ ((0 : Int) ≤ 0 ∧ (0 : Int) ≤ 23) ∧ ((0 : Int) = 0 ∨ (0 : Int) = 1) by decide)
  · intro t a b
    exact ⟨Or.inr ⟨rfl, rfl⟩, Or.inr ⟨rfl, rfl⟩⟩
  · intro q a b
    exact Or.inr rfl
  · intro n a b
    exact absurd (show n < 0 from b) (by omega)
  · intro q a b
    exact ⟨Or.inl rfl, fun h => absurd (show 0 ≤ (-9 : Int) from h) (by decide), fun _ => rfl⟩
  · intro t a b
    exact ⟨(show (0 : Int) ≤ 0 ∧ (0 : Int) ≤ 60 by decide), rfl, (show (0 : Int) ≤ 0 ∧ (0 : Int) < 60 by decide), fun _ => rfl⟩
  · intro t i a b x y
    exact absurd (show i < 0 from y) (by omega)
  · exact Or.inl ⟨rfl, rfl⟩
  · intro i a b
    exact absurd (show i < 0 from b) (by omega)
  · exact Or.inl rfl
  · rfl
  · rfl
  · exact ⟨rfl, by decide, by decide⟩
  · rfl
  · intro j a b
    exact absurd (show j < 0 from b) (by omega)
  · rfl
  · rfl
  · exact ⟨rfl, by decide, by decide⟩
  · intro i a b
    exact absurd (show i < 0 from b) (by omega)
