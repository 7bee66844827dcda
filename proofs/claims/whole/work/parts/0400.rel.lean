/-! the relation between the class's memory c and the reference's r; bd, bs, bw: bounds of what is due, of the sums, of strokes and weight -/
def upI (f : Int → Int) (j v : Int) : Int → Int := fun x => if x = j then v else f x
theorem upI_same (f : Int → Int) (j v : Int) : upI f j v j = v := if_pos rfl
theorem upI_ne (f : Int → Int) {j v x : Int} (h : x ≠ j) : upI f j v x = f x := if_neg h
theorem ms_at (μ : MM) (k c : Nat) (j v : Int) : ms μ k c j v k c j = v := if_pos ⟨rfl, rfl, rfl⟩
theorem ms_nj (μ : MM) (k c : Nat) {j v j' : Int} (h : j' ≠ j) (k' c' : Nat) : ms μ k c j v k' c' j' = μ k' c' j' := if_neg (fun q => h q.2.2)
theorem msEq {c r : MM} {k1 c1 k2 c2 : Nat} (h : c k1 c1 = r k2 c2) (j v : Int) : ms c k1 c1 j v k1 c1 = ms r k2 c2 j v k2 c2 := by
  funext z
  simp [ms, congrFun h z]
theorem ite_p {c : Prop} {d : Decidable c} {A B : Prop} (hc : c) (h : A) : @ite Prop c d A B := by rw [if_pos hc]; exact h
theorem ite_n {c : Prop} {d : Decidable c} {A B : Prop} (hc : ¬ c) (h : B) : @ite Prop c d A B := by rw [if_neg hc]; exact h
theorem ite_i {c : Prop} {d : Decidable c} {A B : Prop} (h1 : c → A) (h2 : ¬ c → B) : @ite Prop c d A B := by
  by_cases hc : c
  · exact ite_p hc (h1 hc)
  · exact ite_n hc (h2 hc)
theorem all_eq {α : Type} {a : α} {P : α → Prop} (h : P a) : ∀ x, x = a → P x := fun _ e => e ▸ h
def Lf (v w : Int) (X : Prop) : Prop := Unit → (v = w ∧ X)
theorem Lf.mk {v w : Int} {X : Prop} (h : v = w) (hX : X) : Lf v w X := fun _ => ⟨h, hX⟩
def sumI (f : Int → Int) : Nat → Int
  | 0 => 0
  | n + 1 => sumI f n + f n
def okL (t i nx e : Int) (c11 c12 c13 c14 lg : Int → Int) : Prop := (c11 (60 * t + (nx - 1 - i) % 60) = lg (240 * t + 4 * (e - 1 - i)) ∧ c12 (60 * t + (nx - 1 - i) % 60) = lg (240 * t + 4 * (e - 1 - i) + 1) ∧ c13 (60 * t + (nx - 1 - i) % 60) = lg (240 * t + 4 * (e - 1 - i) + 2) ∧ c14 (60 * t + (nx - 1 - i) % 60) = lg (240 * t + 4 * (e - 1 - i) + 3)) ∧
  (0 ≤ lg (240 * t + 4 * (e - 1 - i)) ∧ lg (240 * t + 4 * (e - 1 - i)) ≤ 1000000) ∧ rg (lg (240 * t + 4 * (e - 1 - i) + 1)) ∧ rg (lg (240 * t + 4 * (e - 1 - i) + 2)) ∧ rg (lg (240 * t + 4 * (e - 1 - i) + 3))
def Rel (bd bs bw : Int) (G : GG) (c r : MM) : Prop :=
  ((0 ≤ bd ∧ bd ≤ 1100000000) ∧ (0 ≤ bs ∧ bs ≤ 100000000) ∧ (0 ≤ bw ∧ bw ≤ 100000000)) ∧
  (c 0 12 0 = r 0 0 0) ∧
  (c 19 0 = r 1 0) ∧
  (c 0 11 0 = r 0 2 0) ∧
  (c 0 4 0 = r 0 5 0) ∧
  (0 ≤ r 0 5 0 ∧ r 0 5 0 ≤ 1000000) ∧
  (c 8 0 = r 8 0) ∧
  (∀ j, -128 ≤ r 8 0 j ∧ r 8 0 j ≤ 127) ∧
  (∀ j, 0 ≤ j → j < 8 → (c 1 1 j = r 7 0 j ∧ 0 ≤ r 7 0 j ∧ r 7 0 j ≤ 48) ∨ (c 1 1 j = -1 ∧ r 7 0 j = -9)) ∧
  (G 0 0 = r 0 10 0 ∧ c 0 2 0 = r 0 10 0 ∧ 0 ≤ r 0 10 0 ∧ r 0 10 0 ≤ 16) ∧
  (∀ n, 0 ≤ n → n < r 0 10 0 → G 1 n = r 11 0 n ∧ G 2 n = r 12 0 n ∧ G 3 n = r 15 0 n) ∧
  (∀ n, 0 ≤ n → n < r 0 10 0 → c 21 0 n = n) ∧
  (∀ n, r 0 10 0 ≤ n → c 21 0 n = -1) ∧
  (c 9 0 = r 13 0) ∧
  (c 10 0 = r 16 0) ∧
  (c 2 14 = r 14 0) ∧
  (c 2 16 = r 17 0) ∧
  (c 2 3 = r 18 0) ∧
  (c 2 4 = r 19 0) ∧
  (c 2 5 = r 20 0) ∧
  (c 2 7 = r 21 0) ∧
  (c 2 6 = r 23 0) ∧
  (c 2 8 = r 24 0) ∧
  (c 2 11 = r 25 0) ∧
  (∀ n, 0 ≤ n → n < r 0 10 0 → (0 ≤ r 11 0 n ∧ r 11 0 n ≤ 3) ∧ (r 11 0 n = 0 → r 12 0 n = 0) ∧ (r 11 0 n ≠ 0 → 1 ≤ r 12 0 n ∧ r 12 0 n ≤ 24)) ∧
  (∀ n, 0 ≤ n → n < r 0 10 0 → 0 ≤ r 14 0 n ∧ (r 11 0 n = 1 ∨ r 11 0 n = 3 → r 14 0 n < r 12 0 n) ∧ (r 11 0 n = 0 ∨ r 11 0 n = 2 → r 14 0 n = 0)) ∧
  (∀ n j, 0 ≤ n → n < r 0 10 0 → 0 ≤ j → j < r 12 0 n → 1 ≤ r 13 0 (24 * n + j) ∧ r 13 0 (24 * n + j) ≤ 24) ∧
  (∀ n, 0 ≤ n → n < r 0 10 0 → 1 ≤ r 18 0 n ∧ r 18 0 n ≤ 60) ∧
  (∀ n, 0 ≤ n → n < r 0 10 0 → 0 ≤ r 19 0 n ∧ r 19 0 n ≤ 100000) ∧
  (∀ n, 0 ≤ n → n < r 0 10 0 → (0 ≤ r 20 0 n ∧ r 20 0 n ≤ 100000) ∧ 0 ≤ r 24 0 n ∧ r 24 0 n + r 20 0 n ≤ bw) ∧
  (∀ n, 0 ≤ n → n < r 0 10 0 → 0 ≤ r 23 0 n ∧ r 23 0 n ≤ 255) ∧
  (∀ n, 0 ≤ n → n < r 0 10 0 → r 25 0 n = 0 ∨ r 25 0 n = 1) ∧
  (∀ n, 0 ≤ n → n < r 0 10 0 → (r 11 0 n = 3 → 1 ≤ r 15 0 n ∧ r 15 0 n ≤ 48) ∧ (r 11 0 n ≠ 3 → r 15 0 n = 0)) ∧
  (∀ n, 0 ≤ n → n < r 0 10 0 → 0 ≤ r 17 0 n ∧ (r 11 0 n = 3 → r 17 0 n < r 15 0 n) ∧ (r 11 0 n ≠ 3 → r 17 0 n = 0)) ∧
  (∀ j, 0 ≤ r 16 0 j ∧ r 16 0 j ≤ 255) ∧
  (∀ n, 0 ≤ n → n < r 0 10 0 → 0 ≤ r 21 0 n ∧ r 21 0 n ≤ bd) ∧
  (∀ n, r 0 10 0 ≤ n → r 12 0 n = 0 ∧ r 14 0 n = 0 ∧ r 15 0 n = 0 ∧ r 17 0 n = 0 ∧ r 21 0 n = 0 ∧ r 23 0 n = 0 ∧ r 24 0 n = 0 ∧ r 25 0 n = 0) ∧
  (r 0 6 0 = sumI (r 24 0) (r 0 10 0).toNat) ∧
  (c 3 0 = r 26 0) ∧
  (c 3 1 = r 27 0) ∧
  (c 3 2 = r 28 0) ∧
  (c 3 4 = r 29 0) ∧
  (c 3 3 = r 30 0) ∧
  (c 3 5 = r 31 0) ∧
  (c 3 8 = r 32 0) ∧
  (c 3 9 = r 33 0) ∧
  (∀ t, 0 ≤ t → t < 4 → r 32 0 t ≠ r 33 0 t → c 3 10 t = r 34 0 t + 1) ∧
  (∀ t, 0 ≤ t → t < 4 → r 26 0 t = 0 ∨ r 26 0 t = 1) ∧
  (∀ t, 0 ≤ t → t < 4 → 0 ≤ r 27 0 t ∧ r 27 0 t ≤ 1439) ∧
  (∀ t, 0 ≤ t → t < 4 → -3600 ≤ r 28 0 t ∧ r 28 0 t ≤ 3600) ∧
  (∀ t, 0 ≤ t → t < 4 → 0 ≤ r 29 0 t ∧ r 29 0 t ≤ 100000) ∧
  (∀ t, 0 ≤ t → t < 4 → 0 ≤ r 30 0 t ∧ r 30 0 t ≤ bs) ∧
  (∀ t, 0 ≤ t → t < 4 → r 31 0 t = 0 ∨ r 31 0 t = 1) ∧
  (∀ t, 0 ≤ t → t < 4 → (0 ≤ r 32 0 t ∧ r 32 0 t ≤ 23) ∧ (0 ≤ r 33 0 t ∧ r 33 0 t ≤ 23) ∧ (r 34 0 t = 0 ∨ r 34 0 t = 1)) ∧
  (∀ t, 0 ≤ t → t < 4 → ((0 ≤ r 35 0 (2 * t) ∧ c 3 6 t = r 35 0 (2 * t)) ∨ (r 35 0 (2 * t) = -9 ∧ c 3 6 t = -1)) ∧ ((0 ≤ r 35 0 (2 * t + 1) ∧ c 3 7 t = r 35 0 (2 * t + 1)) ∨ (r 35 0 (2 * t + 1) = -9 ∧ c 3 7 t = -1))) ∧
  (∀ q, 0 ≤ q → q < 8 → (0 ≤ r 35 0 q ∧ r 35 0 q < r 0 10 0 ∧ r 22 0 (r 35 0 q) = q) ∨ r 35 0 q = -9) ∧
  (∀ n, 0 ≤ n → n < r 0 10 0 → (r 22 0 n = -9 ∧ c 2 9 n = -9) ∨ (0 ≤ r 22 0 n ∧ r 22 0 n < 8 ∧ r 35 0 (r 22 0 n) = n ∧ c 2 9 n = r 22 0 n / 2)) ∧
  (∀ q, 0 ≤ q → q < 8 → (r 36 0 q = 0 ∨ r 36 0 q = 1) ∧ (0 ≤ r 35 0 q → c 2 10 (r 35 0 q) = r 36 0 q) ∧ (r 35 0 q < 0 → r 36 0 q = 0)) ∧
  (∀ t, 0 ≤ t → t < 4 → (0 ≤ r 37 0 t ∧ r 37 0 t ≤ 60) ∧ c 4 5 t = r 37 0 t ∧ (0 ≤ c 4 4 t ∧ c 4 4 t < 60) ∧ (r 37 0 t < 60 → c 4 4 t = r 37 0 t)) ∧
  (∀ t i, 0 ≤ t → t < 4 → 0 ≤ i → i < r 37 0 t → okL t i (c 4 4 t) (r 37 0 t) (c 11 0) (c 12 0) (c 13 0) (c 14 0) (r 38 0)) ∧
  ((r 0 40 0 = -9 ∧ c 5 1 0 = 0) ∨ (0 ≤ r 0 40 0 ∧ r 0 40 0 ≤ 12 ∧ c 5 1 0 = r 0 40 0)) ∧
  (∀ i, 0 ≤ i → i < c 5 1 0 → c 15 0 i = r 41 0 i) ∧
  (c 0 7 0 = -9 ∨ (0 ≤ c 0 7 0 ∧ c 0 7 0 ≤ 4)) ∧
  (r 0 43 0 = (if c 0 7 0 = -9 ∨ c 0 7 0 = 0 then -9 else c 0 8 0)) ∧
  (r 0 44 0 = (if c 0 7 0 = -9 ∨ c 0 7 0 = 0 ∨ c 0 7 0 = 3 then -9 else c 0 9 0)) ∧
  (c 7 1 0 = r 0 48 0 ∧ 0 ≤ r 0 48 0 ∧ r 0 48 0 ≤ 12) ∧
  (c 17 0 = r 49 0) ∧
  (∀ j, 0 ≤ j → j < r 0 48 0 → 6 ≤ r 49 0 j ∧ r 49 0 j ≤ 200) ∧
  (c 7 7 0 = r 0 3 0) ∧
  (c 7 8 0 = r 0 4 0) ∧
  (c 7 3 0 = r 0 50 0 ∧ 0 ≤ r 0 50 0 ∧ r 0 50 0 ≤ 4) ∧
  (∀ i, 0 ≤ i → i < r 0 50 0 → c 18 0 i = r 51 0 i)
theorem Rel.K0 {bd bs bw : Int} {G : GG} {c r : MM} (h : Rel bd bs bw G c r) : (0 ≤ bd ∧ bd ≤ 1100000000) ∧ (0 ≤ bs ∧ bs ≤ 100000000) ∧ (0 ≤ bw ∧ bw ≤ 100000000) := h.1
theorem Rel.S1 {bd bs bw : Int} {G : GG} {c r : MM} (h : Rel bd bs bw G c r) : c 0 12 0 = r 0 0 0 := h.2.1
theorem Rel.S2 {bd bs bw : Int} {G : GG} {c r : MM} (h : Rel bd bs bw G c r) : c 19 0 = r 1 0 := h.2.2.1
theorem Rel.S3 {bd bs bw : Int} {G : GG} {c r : MM} (h : Rel bd bs bw G c r) : c 0 11 0 = r 0 2 0 := h.2.2.2.1
theorem Rel.S4 {bd bs bw : Int} {G : GG} {c r : MM} (h : Rel bd bs bw G c r) : c 0 4 0 = r 0 5 0 := h.2.2.2.2.1
theorem Rel.S5 {bd bs bw : Int} {G : GG} {c r : MM} (h : Rel bd bs bw G c r) : 0 ≤ r 0 5 0 ∧ r 0 5 0 ≤ 1000000 := h.2.2.2.2.2.1
theorem Rel.R1 {bd bs bw : Int} {G : GG} {c r : MM} (h : Rel bd bs bw G c r) : c 8 0 = r 8 0 := h.2.2.2.2.2.2.1
theorem Rel.R2 {bd bs bw : Int} {G : GG} {c r : MM} (h : Rel bd bs bw G c r) : ∀ j, -128 ≤ r 8 0 j ∧ r 8 0 j ≤ 127 := h.2.2.2.2.2.2.2.1
theorem Rel.R3 {bd bs bw : Int} {G : GG} {c r : MM} (h : Rel bd bs bw G c r) : ∀ j, 0 ≤ j → j < 8 → (c 1 1 j = r 7 0 j ∧ 0 ≤ r 7 0 j ∧ r 7 0 j ≤ 48) ∨ (c 1 1 j = -1 ∧ r 7 0 j = -9) := h.2.2.2.2.2.2.2.2.1
theorem Rel.T0 {bd bs bw : Int} {G : GG} {c r : MM} (h : Rel bd bs bw G c r) : G 0 0 = r 0 10 0 ∧ c 0 2 0 = r 0 10 0 ∧ 0 ≤ r 0 10 0 ∧ r 0 10 0 ≤ 16 := h.2.2.2.2.2.2.2.2.2.1
theorem Rel.T1 {bd bs bw : Int} {G : GG} {c r : MM} (h : Rel bd bs bw G c r) : ∀ n, 0 ≤ n → n < r 0 10 0 → G 1 n = r 11 0 n ∧ G 2 n = r 12 0 n ∧ G 3 n = r 15 0 n := h.2.2.2.2.2.2.2.2.2.2.1
theorem Rel.T2 {bd bs bw : Int} {G : GG} {c r : MM} (h : Rel bd bs bw G c r) : ∀ n, 0 ≤ n → n < r 0 10 0 → c 21 0 n = n := h.2.2.2.2.2.2.2.2.2.2.2.1
theorem Rel.T3 {bd bs bw : Int} {G : GG} {c r : MM} (h : Rel bd bs bw G c r) : ∀ n, r 0 10 0 ≤ n → c 21 0 n = -1 := h.2.2.2.2.2.2.2.2.2.2.2.2.1
theorem Rel.E1 {bd bs bw : Int} {G : GG} {c r : MM} (h : Rel bd bs bw G c r) : c 9 0 = r 13 0 := h.2.2.2.2.2.2.2.2.2.2.2.2.2.1
theorem Rel.E2 {bd bs bw : Int} {G : GG} {c r : MM} (h : Rel bd bs bw G c r) : c 10 0 = r 16 0 := h.2.2.2.2.2.2.2.2.2.2.2.2.2.2.1
theorem Rel.E3 {bd bs bw : Int} {G : GG} {c r : MM} (h : Rel bd bs bw G c r) : c 2 14 = r 14 0 := h.2.2.2.2.2.2.2.2.2.2.2.2.2.2.2.1
theorem Rel.E4 {bd bs bw : Int} {G : GG} {c r : MM} (h : Rel bd bs bw G c r) : c 2 16 = r 17 0 := h.2.2.2.2.2.2.2.2.2.2.2.2.2.2.2.2.1
theorem Rel.E5 {bd bs bw : Int} {G : GG} {c r : MM} (h : Rel bd bs bw G c r) : c 2 3 = r 18 0 := h.2.2.2.2.2.2.2.2.2.2.2.2.2.2.2.2.2.1
theorem Rel.E6 {bd bs bw : Int} {G : GG} {c r : MM} (h : Rel bd bs bw G c r) : c 2 4 = r 19 0 := h.2.2.2.2.2.2.2.2.2.2.2.2.2.2.2.2.2.2.1
theorem Rel.E7 {bd bs bw : Int} {G : GG} {c r : MM} (h : Rel bd bs bw G c r) : c 2 5 = r 20 0 := h.2.2.2.2.2.2.2.2.2.2.2.2.2.2.2.2.2.2.2.1
theorem Rel.E8 {bd bs bw : Int} {G : GG} {c r : MM} (h : Rel bd bs bw G c r) : c 2 7 = r 21 0 := h.2.2.2.2.2.2.2.2.2.2.2.2.2.2.2.2.2.2.2.2.1
theorem Rel.E9 {bd bs bw : Int} {G : GG} {c r : MM} (h : Rel bd bs bw G c r) : c 2 6 = r 23 0 := h.2.2.2.2.2.2.2.2.2.2.2.2.2.2.2.2.2.2.2.2.2.1
theorem Rel.E10 {bd bs bw : Int} {G : GG} {c r : MM} (h : Rel bd bs bw G c r) : c 2 8 = r 24 0 := h.2.2.2.2.2.2.2.2.2.2.2.2.2.2.2.2.2.2.2.2.2.2.1
theorem Rel.E11 {bd bs bw : Int} {G : GG} {c r : MM} (h : Rel bd bs bw G c r) : c 2 11 = r 25 0 := h.2.2.2.2.2.2.2.2.2.2.2.2.2.2.2.2.2.2.2.2.2.2.2.1
theorem Rel.I1 {bd bs bw : Int} {G : GG} {c r : MM} (h : Rel bd bs bw G c r) : ∀ n, 0 ≤ n → n < r 0 10 0 → (0 ≤ r 11 0 n ∧ r 11 0 n ≤ 3) ∧ (r 11 0 n = 0 → r 12 0 n = 0) ∧ (r 11 0 n ≠ 0 → 1 ≤ r 12 0 n ∧ r 12 0 n ≤ 24) := h.2.2.2.2.2.2.2.2.2.2.2.2.2.2.2.2.2.2.2.2.2.2.2.2.1
theorem Rel.I2 {bd bs bw : Int} {G : GG} {c r : MM} (h : Rel bd bs bw G c r) : ∀ n, 0 ≤ n → n < r 0 10 0 → 0 ≤ r 14 0 n ∧ (r 11 0 n = 1 ∨ r 11 0 n = 3 → r 14 0 n < r 12 0 n) ∧ (r 11 0 n = 0 ∨ r 11 0 n = 2 → r 14 0 n = 0) := h.2.2.2.2.2.2.2.2.2.2.2.2.2.2.2.2.2.2.2.2.2.2.2.2.2.1
theorem Rel.I3 {bd bs bw : Int} {G : GG} {c r : MM} (h : Rel bd bs bw G c r) : ∀ n j, 0 ≤ n → n < r 0 10 0 → 0 ≤ j → j < r 12 0 n → 1 ≤ r 13 0 (24 * n + j) ∧ r 13 0 (24 * n + j) ≤ 24 := h.2.2.2.2.2.2.2.2.2.2.2.2.2.2.2.2.2.2.2.2.2.2.2.2.2.2.1
theorem Rel.I4 {bd bs bw : Int} {G : GG} {c r : MM} (h : Rel bd bs bw G c r) : ∀ n, 0 ≤ n → n < r 0 10 0 → 1 ≤ r 18 0 n ∧ r 18 0 n ≤ 60 := h.2.2.2.2.2.2.2.2.2.2.2.2.2.2.2.2.2.2.2.2.2.2.2.2.2.2.2.1
theorem Rel.I5 {bd bs bw : Int} {G : GG} {c r : MM} (h : Rel bd bs bw G c r) : ∀ n, 0 ≤ n → n < r 0 10 0 → 0 ≤ r 19 0 n ∧ r 19 0 n ≤ 100000 := h.2.2.2.2.2.2.2.2.2.2.2.2.2.2.2.2.2.2.2.2.2.2.2.2.2.2.2.2.1
theorem Rel.I6 {bd bs bw : Int} {G : GG} {c r : MM} (h : Rel bd bs bw G c r) : ∀ n, 0 ≤ n → n < r 0 10 0 → (0 ≤ r 20 0 n ∧ r 20 0 n ≤ 100000) ∧ 0 ≤ r 24 0 n ∧ r 24 0 n + r 20 0 n ≤ bw := h.2.2.2.2.2.2.2.2.2.2.2.2.2.2.2.2.2.2.2.2.2.2.2.2.2.2.2.2.2.1
theorem Rel.I7 {bd bs bw : Int} {G : GG} {c r : MM} (h : Rel bd bs bw G c r) : ∀ n, 0 ≤ n → n < r 0 10 0 → 0 ≤ r 23 0 n ∧ r 23 0 n ≤ 255 := h.2.2.2.2.2.2.2.2.2.2.2.2.2.2.2.2.2.2.2.2.2.2.2.2.2.2.2.2.2.2.1
theorem Rel.I8 {bd bs bw : Int} {G : GG} {c r : MM} (h : Rel bd bs bw G c r) : ∀ n, 0 ≤ n → n < r 0 10 0 → r 25 0 n = 0 ∨ r 25 0 n = 1 := h.2.2.2.2.2.2.2.2.2.2.2.2.2.2.2.2.2.2.2.2.2.2.2.2.2.2.2.2.2.2.2.1
theorem Rel.I9 {bd bs bw : Int} {G : GG} {c r : MM} (h : Rel bd bs bw G c r) : ∀ n, 0 ≤ n → n < r 0 10 0 → (r 11 0 n = 3 → 1 ≤ r 15 0 n ∧ r 15 0 n ≤ 48) ∧ (r 11 0 n ≠ 3 → r 15 0 n = 0) := h.2.2.2.2.2.2.2.2.2.2.2.2.2.2.2.2.2.2.2.2.2.2.2.2.2.2.2.2.2.2.2.2.1
theorem Rel.I10 {bd bs bw : Int} {G : GG} {c r : MM} (h : Rel bd bs bw G c r) : ∀ n, 0 ≤ n → n < r 0 10 0 → 0 ≤ r 17 0 n ∧ (r 11 0 n = 3 → r 17 0 n < r 15 0 n) ∧ (r 11 0 n ≠ 3 → r 17 0 n = 0) := h.2.2.2.2.2.2.2.2.2.2.2.2.2.2.2.2.2.2.2.2.2.2.2.2.2.2.2.2.2.2.2.2.2.1
theorem Rel.I11 {bd bs bw : Int} {G : GG} {c r : MM} (h : Rel bd bs bw G c r) : ∀ j, 0 ≤ r 16 0 j ∧ r 16 0 j ≤ 255 := h.2.2.2.2.2.2.2.2.2.2.2.2.2.2.2.2.2.2.2.2.2.2.2.2.2.2.2.2.2.2.2.2.2.2.1
theorem Rel.I12 {bd bs bw : Int} {G : GG} {c r : MM} (h : Rel bd bs bw G c r) : ∀ n, 0 ≤ n → n < r 0 10 0 → 0 ≤ r 21 0 n ∧ r 21 0 n ≤ bd := h.2.2.2.2.2.2.2.2.2.2.2.2.2.2.2.2.2.2.2.2.2.2.2.2.2.2.2.2.2.2.2.2.2.2.2.1
theorem Rel.I13 {bd bs bw : Int} {G : GG} {c r : MM} (h : Rel bd bs bw G c r) : ∀ n, r 0 10 0 ≤ n → r 12 0 n = 0 ∧ r 14 0 n = 0 ∧ r 15 0 n = 0 ∧ r 17 0 n = 0 ∧ r 21 0 n = 0 ∧ r 23 0 n = 0 ∧ r 24 0 n = 0 ∧ r 25 0 n = 0 := h.2.2.2.2.2.2.2.2.2.2.2.2.2.2.2.2.2.2.2.2.2.2.2.2.2.2.2.2.2.2.2.2.2.2.2.2.1
theorem Rel.I14 {bd bs bw : Int} {G : GG} {c r : MM} (h : Rel bd bs bw G c r) : r 0 6 0 = sumI (r 24 0) (r 0 10 0).toNat := h.2.2.2.2.2.2.2.2.2.2.2.2.2.2.2.2.2.2.2.2.2.2.2.2.2.2.2.2.2.2.2.2.2.2.2.2.2.1
theorem Rel.W1 {bd bs bw : Int} {G : GG} {c r : MM} (h : Rel bd bs bw G c r) : c 3 0 = r 26 0 := h.2.2.2.2.2.2.2.2.2.2.2.2.2.2.2.2.2.2.2.2.2.2.2.2.2.2.2.2.2.2.2.2.2.2.2.2.2.2.1
theorem Rel.W2 {bd bs bw : Int} {G : GG} {c r : MM} (h : Rel bd bs bw G c r) : c 3 1 = r 27 0 := h.2.2.2.2.2.2.2.2.2.2.2.2.2.2.2.2.2.2.2.2.2.2.2.2.2.2.2.2.2.2.2.2.2.2.2.2.2.2.2.1
theorem Rel.W3 {bd bs bw : Int} {G : GG} {c r : MM} (h : Rel bd bs bw G c r) : c 3 2 = r 28 0 := h.2.2.2.2.2.2.2.2.2.2.2.2.2.2.2.2.2.2.2.2.2.2.2.2.2.2.2.2.2.2.2.2.2.2.2.2.2.2.2.2.1
theorem Rel.W4 {bd bs bw : Int} {G : GG} {c r : MM} (h : Rel bd bs bw G c r) : c 3 4 = r 29 0 := h.2.2.2.2.2.2.2.2.2.2.2.2.2.2.2.2.2.2.2.2.2.2.2.2.2.2.2.2.2.2.2.2.2.2.2.2.2.2.2.2.2.1
theorem Rel.W5 {bd bs bw : Int} {G : GG} {c r : MM} (h : Rel bd bs bw G c r) : c 3 3 = r 30 0 := h.2.2.2.2.2.2.2.2.2.2.2.2.2.2.2.2.2.2.2.2.2.2.2.2.2.2.2.2.2.2.2.2.2.2.2.2.2.2.2.2.2.2.1
theorem Rel.W6 {bd bs bw : Int} {G : GG} {c r : MM} (h : Rel bd bs bw G c r) : c 3 5 = r 31 0 := h.2.2.2.2.2.2.2.2.2.2.2.2.2.2.2.2.2.2.2.2.2.2.2.2.2.2.2.2.2.2.2.2.2.2.2.2.2.2.2.2.2.2.2.1
theorem Rel.W7 {bd bs bw : Int} {G : GG} {c r : MM} (h : Rel bd bs bw G c r) : c 3 8 = r 32 0 := h.2.2.2.2.2.2.2.2.2.2.2.2.2.2.2.2.2.2.2.2.2.2.2.2.2.2.2.2.2.2.2.2.2.2.2.2.2.2.2.2.2.2.2.2.1
theorem Rel.W8 {bd bs bw : Int} {G : GG} {c r : MM} (h : Rel bd bs bw G c r) : c 3 9 = r 33 0 := h.2.2.2.2.2.2.2.2.2.2.2.2.2.2.2.2.2.2.2.2.2.2.2.2.2.2.2.2.2.2.2.2.2.2.2.2.2.2.2.2.2.2.2.2.2.1
theorem Rel.W9 {bd bs bw : Int} {G : GG} {c r : MM} (h : Rel bd bs bw G c r) : ∀ t, 0 ≤ t → t < 4 → r 32 0 t ≠ r 33 0 t → c 3 10 t = r 34 0 t + 1 := h.2.2.2.2.2.2.2.2.2.2.2.2.2.2.2.2.2.2.2.2.2.2.2.2.2.2.2.2.2.2.2.2.2.2.2.2.2.2.2.2.2.2.2.2.2.2.1
theorem Rel.J1 {bd bs bw : Int} {G : GG} {c r : MM} (h : Rel bd bs bw G c r) : ∀ t, 0 ≤ t → t < 4 → r 26 0 t = 0 ∨ r 26 0 t = 1 := h.2.2.2.2.2.2.2.2.2.2.2.2.2.2.2.2.2.2.2.2.2.2.2.2.2.2.2.2.2.2.2.2.2.2.2.2.2.2.2.2.2.2.2.2.2.2.2.1
theorem Rel.J2 {bd bs bw : Int} {G : GG} {c r : MM} (h : Rel bd bs bw G c r) : ∀ t, 0 ≤ t → t < 4 → 0 ≤ r 27 0 t ∧ r 27 0 t ≤ 1439 := h.2.2.2.2.2.2.2.2.2.2.2.2.2.2.2.2.2.2.2.2.2.2.2.2.2.2.2.2.2.2.2.2.2.2.2.2.2.2.2.2.2.2.2.2.2.2.2.2.1
theorem Rel.J3 {bd bs bw : Int} {G : GG} {c r : MM} (h : Rel bd bs bw G c r) : ∀ t, 0 ≤ t → t < 4 → -3600 ≤ r 28 0 t ∧ r 28 0 t ≤ 3600 := h.2.2.2.2.2.2.2.2.2.2.2.2.2.2.2.2.2.2.2.2.2.2.2.2.2.2.2.2.2.2.2.2.2.2.2.2.2.2.2.2.2.2.2.2.2.2.2.2.2.1
theorem Rel.J4 {bd bs bw : Int} {G : GG} {c r : MM} (h : Rel bd bs bw G c r) : ∀ t, 0 ≤ t → t < 4 → 0 ≤ r 29 0 t ∧ r 29 0 t ≤ 100000 := h.2.2.2.2.2.2.2.2.2.2.2.2.2.2.2.2.2.2.2.2.2.2.2.2.2.2.2.2.2.2.2.2.2.2.2.2.2.2.2.2.2.2.2.2.2.2.2.2.2.2.1
theorem Rel.J5 {bd bs bw : Int} {G : GG} {c r : MM} (h : Rel bd bs bw G c r) : ∀ t, 0 ≤ t → t < 4 → 0 ≤ r 30 0 t ∧ r 30 0 t ≤ bs := h.2.2.2.2.2.2.2.2.2.2.2.2.2.2.2.2.2.2.2.2.2.2.2.2.2.2.2.2.2.2.2.2.2.2.2.2.2.2.2.2.2.2.2.2.2.2.2.2.2.2.2.1
theorem Rel.J6 {bd bs bw : Int} {G : GG} {c r : MM} (h : Rel bd bs bw G c r) : ∀ t, 0 ≤ t → t < 4 → r 31 0 t = 0 ∨ r 31 0 t = 1 := h.2.2.2.2.2.2.2.2.2.2.2.2.2.2.2.2.2.2.2.2.2.2.2.2.2.2.2.2.2.2.2.2.2.2.2.2.2.2.2.2.2.2.2.2.2.2.2.2.2.2.2.2.1
theorem Rel.J7 {bd bs bw : Int} {G : GG} {c r : MM} (h : Rel bd bs bw G c r) : ∀ t, 0 ≤ t → t < 4 → (0 ≤ r 32 0 t ∧ r 32 0 t ≤ 23) ∧ (0 ≤ r 33 0 t ∧ r 33 0 t ≤ 23) ∧ (r 34 0 t = 0 ∨ r 34 0 t = 1) := h.2.2.2.2.2.2.2.2.2.2.2.2.2.2.2.2.2.2.2.2.2.2.2.2.2.2.2.2.2.2.2.2.2.2.2.2.2.2.2.2.2.2.2.2.2.2.2.2.2.2.2.2.2.1
theorem Rel.H1 {bd bs bw : Int} {G : GG} {c r : MM} (h : Rel bd bs bw G c r) : ∀ t, 0 ≤ t → t < 4 → ((0 ≤ r 35 0 (2 * t) ∧ c 3 6 t = r 35 0 (2 * t)) ∨ (r 35 0 (2 * t) = -9 ∧ c 3 6 t = -1)) ∧ ((0 ≤ r 35 0 (2 * t + 1) ∧ c 3 7 t = r 35 0 (2 * t + 1)) ∨ (r 35 0 (2 * t + 1) = -9 ∧ c 3 7 t = -1)) := h.2.2.2.2.2.2.2.2.2.2.2.2.2.2.2.2.2.2.2.2.2.2.2.2.2.2.2.2.2.2.2.2.2.2.2.2.2.2.2.2.2.2.2.2.2.2.2.2.2.2.2.2.2.2.1
theorem Rel.H2 {bd bs bw : Int} {G : GG} {c r : MM} (h : Rel bd bs bw G c r) : ∀ q, 0 ≤ q → q < 8 → (0 ≤ r 35 0 q ∧ r 35 0 q < r 0 10 0 ∧ r 22 0 (r 35 0 q) = q) ∨ r 35 0 q = -9 := h.2.2.2.2.2.2.2.2.2.2.2.2.2.2.2.2.2.2.2.2.2.2.2.2.2.2.2.2.2.2.2.2.2.2.2.2.2.2.2.2.2.2.2.2.2.2.2.2.2.2.2.2.2.2.2.1
theorem Rel.H3 {bd bs bw : Int} {G : GG} {c r : MM} (h : Rel bd bs bw G c r) : ∀ n, 0 ≤ n → n < r 0 10 0 → (r 22 0 n = -9 ∧ c 2 9 n = -9) ∨ (0 ≤ r 22 0 n ∧ r 22 0 n < 8 ∧ r 35 0 (r 22 0 n) = n ∧ c 2 9 n = r 22 0 n / 2) := h.2.2.2.2.2.2.2.2.2.2.2.2.2.2.2.2.2.2.2.2.2.2.2.2.2.2.2.2.2.2.2.2.2.2.2.2.2.2.2.2.2.2.2.2.2.2.2.2.2.2.2.2.2.2.2.2.1
theorem Rel.H4 {bd bs bw : Int} {G : GG} {c r : MM} (h : Rel bd bs bw G c r) : ∀ q, 0 ≤ q → q < 8 → (r 36 0 q = 0 ∨ r 36 0 q = 1) ∧ (0 ≤ r 35 0 q → c 2 10 (r 35 0 q) = r 36 0 q) ∧ (r 35 0 q < 0 → r 36 0 q = 0) := h.2.2.2.2.2.2.2.2.2.2.2.2.2.2.2.2.2.2.2.2.2.2.2.2.2.2.2.2.2.2.2.2.2.2.2.2.2.2.2.2.2.2.2.2.2.2.2.2.2.2.2.2.2.2.2.2.2.1
theorem Rel.L1 {bd bs bw : Int} {G : GG} {c r : MM} (h : Rel bd bs bw G c r) : ∀ t, 0 ≤ t → t < 4 → (0 ≤ r 37 0 t ∧ r 37 0 t ≤ 60) ∧ c 4 5 t = r 37 0 t ∧ (0 ≤ c 4 4 t ∧ c 4 4 t < 60) ∧ (r 37 0 t < 60 → c 4 4 t = r 37 0 t) := h.2.2.2.2.2.2.2.2.2.2.2.2.2.2.2.2.2.2.2.2.2.2.2.2.2.2.2.2.2.2.2.2.2.2.2.2.2.2.2.2.2.2.2.2.2.2.2.2.2.2.2.2.2.2.2.2.2.2.1
theorem Rel.L2 {bd bs bw : Int} {G : GG} {c r : MM} (h : Rel bd bs bw G c r) : ∀ t i, 0 ≤ t → t < 4 → 0 ≤ i → i < r 37 0 t → okL t i (c 4 4 t) (r 37 0 t) (c 11 0) (c 12 0) (c 13 0) (c 14 0) (r 38 0) := h.2.2.2.2.2.2.2.2.2.2.2.2.2.2.2.2.2.2.2.2.2.2.2.2.2.2.2.2.2.2.2.2.2.2.2.2.2.2.2.2.2.2.2.2.2.2.2.2.2.2.2.2.2.2.2.2.2.2.2.1
theorem Rel.A1 {bd bs bw : Int} {G : GG} {c r : MM} (h : Rel bd bs bw G c r) : (r 0 40 0 = -9 ∧ c 5 1 0 = 0) ∨ (0 ≤ r 0 40 0 ∧ r 0 40 0 ≤ 12 ∧ c 5 1 0 = r 0 40 0) := h.2.2.2.2.2.2.2.2.2.2.2.2.2.2.2.2.2.2.2.2.2.2.2.2.2.2.2.2.2.2.2.2.2.2.2.2.2.2.2.2.2.2.2.2.2.2.2.2.2.2.2.2.2.2.2.2.2.2.2.2.1
theorem Rel.A2 {bd bs bw : Int} {G : GG} {c r : MM} (h : Rel bd bs bw G c r) : ∀ i, 0 ≤ i → i < c 5 1 0 → c 15 0 i = r 41 0 i := h.2.2.2.2.2.2.2.2.2.2.2.2.2.2.2.2.2.2.2.2.2.2.2.2.2.2.2.2.2.2.2.2.2.2.2.2.2.2.2.2.2.2.2.2.2.2.2.2.2.2.2.2.2.2.2.2.2.2.2.2.2.1
theorem Rel.F1 {bd bs bw : Int} {G : GG} {c r : MM} (h : Rel bd bs bw G c r) : c 0 7 0 = -9 ∨ (0 ≤ c 0 7 0 ∧ c 0 7 0 ≤ 4) := h.2.2.2.2.2.2.2.2.2.2.2.2.2.2.2.2.2.2.2.2.2.2.2.2.2.2.2.2.2.2.2.2.2.2.2.2.2.2.2.2.2.2.2.2.2.2.2.2.2.2.2.2.2.2.2.2.2.2.2.2.2.2.1
theorem Rel.F2 {bd bs bw : Int} {G : GG} {c r : MM} (h : Rel bd bs bw G c r) : r 0 43 0 = (if c 0 7 0 = -9 ∨ c 0 7 0 = 0 then -9 else c 0 8 0) := h.2.2.2.2.2.2.2.2.2.2.2.2.2.2.2.2.2.2.2.2.2.2.2.2.2.2.2.2.2.2.2.2.2.2.2.2.2.2.2.2.2.2.2.2.2.2.2.2.2.2.2.2.2.2.2.2.2.2.2.2.2.2.2.1
theorem Rel.F3 {bd bs bw : Int} {G : GG} {c r : MM} (h : Rel bd bs bw G c r) : r 0 44 0 = (if c 0 7 0 = -9 ∨ c 0 7 0 = 0 ∨ c 0 7 0 = 3 then -9 else c 0 9 0) := h.2.2.2.2.2.2.2.2.2.2.2.2.2.2.2.2.2.2.2.2.2.2.2.2.2.2.2.2.2.2.2.2.2.2.2.2.2.2.2.2.2.2.2.2.2.2.2.2.2.2.2.2.2.2.2.2.2.2.2.2.2.2.2.2.1
theorem Rel.Q1 {bd bs bw : Int} {G : GG} {c r : MM} (h : Rel bd bs bw G c r) : c 7 1 0 = r 0 48 0 ∧ 0 ≤ r 0 48 0 ∧ r 0 48 0 ≤ 12 := h.2.2.2.2.2.2.2.2.2.2.2.2.2.2.2.2.2.2.2.2.2.2.2.2.2.2.2.2.2.2.2.2.2.2.2.2.2.2.2.2.2.2.2.2.2.2.2.2.2.2.2.2.2.2.2.2.2.2.2.2.2.2.2.2.2.1
theorem Rel.Q2 {bd bs bw : Int} {G : GG} {c r : MM} (h : Rel bd bs bw G c r) : c 17 0 = r 49 0 := h.2.2.2.2.2.2.2.2.2.2.2.2.2.2.2.2.2.2.2.2.2.2.2.2.2.2.2.2.2.2.2.2.2.2.2.2.2.2.2.2.2.2.2.2.2.2.2.2.2.2.2.2.2.2.2.2.2.2.2.2.2.2.2.2.2.2.1
theorem Rel.Q3 {bd bs bw : Int} {G : GG} {c r : MM} (h : Rel bd bs bw G c r) : ∀ j, 0 ≤ j → j < r 0 48 0 → 6 ≤ r 49 0 j ∧ r 49 0 j ≤ 200 := h.2.2.2.2.2.2.2.2.2.2.2.2.2.2.2.2.2.2.2.2.2.2.2.2.2.2.2.2.2.2.2.2.2.2.2.2.2.2.2.2.2.2.2.2.2.2.2.2.2.2.2.2.2.2.2.2.2.2.2.2.2.2.2.2.2.2.2.1
theorem Rel.Q4 {bd bs bw : Int} {G : GG} {c r : MM} (h : Rel bd bs bw G c r) : c 7 7 0 = r 0 3 0 := h.2.2.2.2.2.2.2.2.2.2.2.2.2.2.2.2.2.2.2.2.2.2.2.2.2.2.2.2.2.2.2.2.2.2.2.2.2.2.2.2.2.2.2.2.2.2.2.2.2.2.2.2.2.2.2.2.2.2.2.2.2.2.2.2.2.2.2.2.1
theorem Rel.Q5 {bd bs bw : Int} {G : GG} {c r : MM} (h : Rel bd bs bw G c r) : c 7 8 0 = r 0 4 0 := h.2.2.2.2.2.2.2.2.2.2.2.2.2.2.2.2.2.2.2.2.2.2.2.2.2.2.2.2.2.2.2.2.2.2.2.2.2.2.2.2.2.2.2.2.2.2.2.2.2.2.2.2.2.2.2.2.2.2.2.2.2.2.2.2.2.2.2.2.2.1
theorem Rel.Q6 {bd bs bw : Int} {G : GG} {c r : MM} (h : Rel bd bs bw G c r) : c 7 3 0 = r 0 50 0 ∧ 0 ≤ r 0 50 0 ∧ r 0 50 0 ≤ 4 := h.2.2.2.2.2.2.2.2.2.2.2.2.2.2.2.2.2.2.2.2.2.2.2.2.2.2.2.2.2.2.2.2.2.2.2.2.2.2.2.2.2.2.2.2.2.2.2.2.2.2.2.2.2.2.2.2.2.2.2.2.2.2.2.2.2.2.2.2.2.2.1
theorem Rel.Q7 {bd bs bw : Int} {G : GG} {c r : MM} (h : Rel bd bs bw G c r) : ∀ i, 0 ≤ i → i < r 0 50 0 → c 18 0 i = r 51 0 i := h.2.2.2.2.2.2.2.2.2.2.2.2.2.2.2.2.2.2.2.2.2.2.2.2.2.2.2.2.2.2.2.2.2.2.2.2.2.2.2.2.2.2.2.2.2.2.2.2.2.2.2.2.2.2.2.2.2.2.2.2.2.2.2.2.2.2.2.2.2.2.2
theorem Rel.mono {bd bs bw bd' bs' bw' : Int} {G : GG} {c r : MM} (h : Rel bd bs bw G c r) (h1 : bd ≤ bd') (h2 : bd' ≤ 1100000000) (h3 : bs ≤ bs') (h4 : bs' ≤ 100000000) (h5 : bw ≤ bw') (h6 : bw' ≤ 100000000) : Rel bd' bs' bw' G c r := by
  obtain ⟨K0, S1, S2, S3, S4, S5, R1, R2, R3, T0, T1, T2, T3, E1, E2, E3, E4, E5, E6, E7, E8, E9, E10, E11, I1, I2, I3, I4, I5, I6, I7, I8, I9, I10, I11, I12, I13, I14, W1, W2, W3, W4, W5, W6, W7, W8, W9, J1, J2, J3, J4, J5, J6, J7, H1, H2, H3, H4, L1, L2, A1, A2, F1, F2, F3, Q1, Q2, Q3, Q4, Q5, Q6, Q7⟩ := h
  exact ⟨⟨⟨by omega, h2⟩, ⟨by omega, h4⟩, ⟨by omega, h6⟩⟩, S1, S2, S3, S4, S5, R1, R2, R3, T0, T1, T2, T3, E1, E2, E3, E4, E5, E6, E7, E8, E9, E10, E11, I1, I2, I3, I4, I5, fun n a b => ⟨(I6 n a b).1, (I6 n a b).2.1, Int.le_trans (I6 n a b).2.2 h5⟩, I7, I8, I9, I10, I11, fun n a b => ⟨(I12 n a b).1, Int.le_trans (I12 n a b).2 h1⟩, I13, I14, W1, W2, W3, W4, W5, W6, W7, W8, W9, J1, J2, J3, J4, fun t a b => ⟨(J5 t a b).1, Int.le_trans (J5 t a b).2 h3⟩, J6, J7, H1, H2, H3, H4, L1, L2, A1, A2, F1, F2, F3, Q1, Q2, Q3, Q4, Q5, Q6, Q7⟩
def RelK (k : Int) (G : GG) (c r : MM) : Prop := (0 ≤ k ∧ k ≤ 512) ∧ Rel (2000000 * k) (90000 + 3600 * k) (100000 * k + 100000) G c r
theorem RelK.up {k : Int} {G : GG} {c r : MM} (h : RelK k G c r) (hk : k < 512) : RelK (k + 1) G c r := ⟨by have := h.1; omega, h.2.mono (by omega) (by omega) (by omega) (by omega) (by omega) (by omega)⟩
theorem RelK.of {k : Int} {G : GG} {c c' r r' : MM} (h : RelK k G c r) (hk : k < 512) (h' : Rel (2000000 * k) (90000 + 3600 * k) (100000 * k + 100000) G c' r') : RelK (k + 1) G c' r' := RelK.up ⟨h.1, h'⟩ hk
abbrev fC (f : Int) (c : MM) : MM := ms (ms c 0 12 0 f) 19 0 f (c 19 0 f + 1)
abbrev fR (f : Int) (r : MM) : MM := ms (ms r 0 0 0 f) 1 0 f (r 1 0 f + 1)
theorem Rel.f {bd bs bw : Int} {G : GG} {c r : MM} (h : Rel bd bs bw G c r) (f : Int) : Rel bd bs bw G (fC f c) (fR f r) := by
  obtain ⟨K0, S1, S2, S3, S4, S5, R1, R2, R3, T0, T1, T2, T3, E1, E2, E3, E4, E5, E6, E7, E8, E9, E10, E11, I1, I2, I3, I4, I5, I6, I7, I8, I9, I10, I11, I12, I13, I14, W1, W2, W3, W4, W5, W6, W7, W8, W9, J1, J2, J3, J4, J5, J6, J7, H1, H2, H3, H4, L1, L2, A1, A2, F1, F2, F3, Q1, Q2, Q3, Q4, Q5, Q6, Q7⟩ := h
  exact ⟨K0, rfl, (by show ms (ms c 0 12 0 f) 19 0 f (c 19 0 f + 1) 19 0 = ms (ms r 0 0 0 f) 1 0 f (r 1 0 f + 1) 1 0; rw [congrFun S2 f]; exact msEq (c := ms c 0 12 0 f) (r := ms r 0 0 0 f) (k1 := 19) (c1 := 0) (k2 := 1) (c2 := 0) S2 f _), S3, S4, S5, R1, R2, R3, T0, T1, T2, T3, E1, E2, E3, E4, E5, E6, E7, E8, E9, E10, E11, I1, I2, I3, I4, I5, I6, I7, I8, I9, I10, I11, I12, I13, I14, W1, W2, W3, W4, W5, W6, W7, W8, W9, J1, J2, J3, J4, J5, J6, J7, H1, H2, H3, H4, L1, L2, A1, A2, F1, F2, F3, Q1, Q2, Q3, Q4, Q5, Q6, Q7⟩
theorem RelK.f {k : Int} {G : GG} {c r : MM} (h : RelK k G c r) (hk : k < 512) (f : Int) : RelK (k + 1) G (fC f c) (fR f r) := h.of hk (h.2.f f)
theorem found_ok {G : GG} {f : Int} {c : MM} {Q : Int → MM → Prop} (h0 : 0 ≤ f) (h6 : f < 6) (h : Q (-3) (fC f c)) : wpX10_found G f c Q := by
  unfold wpX10_found
  intro μ1 e1
  subst e1
  refine ⟨⟨by omega, by omega⟩, ite_n (by omega) (ite_n (by omega) ⟨h0, h6, ?_⟩)⟩
  intro μ7 e7
  subst e7
  exact h
theorem meets_ok {f : Int} {r : MM} {Q : Int → MM → Prop} (h0 : 0 ≤ f) (h6 : f < 6) (h : Q (-3) (fR f r)) : wpX11_meets f r Q := by
  unfold wpX11_meets
  intro μ1 e1
  subst e1
  refine ⟨h0, h6, ?_⟩
  intro μ7 e7
  subst e7
  exact h
theorem in_ok {v lo hi : Int} {r : MM} {Q : Int → MM → Prop} (hv : rg v) (hl : rg lo) (hh : rg hi) (h : Q (if lo ≤ v ∧ v ≤ hi then 1 else 0) r) : wpX11_in v lo hi r Q := by
  unfold wpX11_in
  refine ⟨hv, hl, ite_i (fun q => ?_) (fun q => ⟨hh, ite_i (fun q2 => ?_) (fun q2 => ?_)⟩)⟩
  · rwa [if_neg (by omega)] at h
  · rwa [if_neg (by omega)] at h
  · rwa [if_pos (by omega)] at h
