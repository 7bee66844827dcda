theorem askedTwo_ok {bd bs bw : Int} {G : GG} {x y : Int} {c r : MM} {Q : Int → MM → Prop} (h : Rel bd bs bw G c r) (hx : rg x) (hy : rg y) (h1 : x < 0 ∨ 4 ≤ x ∨ y < 0 ∨ 4 ≤ y → Q (-1) r) (h2 : 0 ≤ x → x < 4 → 0 ≤ y → y < 4 → r 26 0 x = 0 ∨ r 26 0 y = 0 → Q (-3) (fR 1 r)) (h3 : 0 ≤ x → x < 4 → 0 ≤ y → y < 4 → r 26 0 x = 1 → r 26 0 y = 1 → Q 0 r) : wpX11_askedTwo x y r Q := by
  have J1 := h.J1
  unfold wpX11_askedTwo wpX11_askedTwo_J14 wpX11_askedTwo_J40
  refine isNumber_ok hx (fun q => ite_p rfl (h1 (by omega))) (fun a b => ite_n (by decide) (isNumber_ok hy (fun q => ite_p rfl (h1 (by omega))) (fun a2 b2 => ite_n (by decide) ⟨a, b, ?_⟩)))
  rcases J1 x a b with e | e
  · exact ⟨⟨by omega, by omega⟩, ite_p e (meets_ok (by decide) (by decide) (h2 a b a2 b2 (Or.inl e)))⟩
  · refine ⟨⟨by omega, by omega⟩, ite_n (by omega) ⟨a2, b2, ?_⟩⟩
    rcases J1 y a2 b2 with e2 | e2
    · exact ⟨⟨by omega, by omega⟩, ite_p e2 (meets_ok (by decide) (by decide) (h2 a b a2 b2 (Or.inr e2)))⟩
    · exact ⟨⟨by omega, by omega⟩, ite_n (by omega) (h3 a b a2 b2 e e2)⟩
theorem tdiv_le0 {a b : Int} (hb : 0 < b) (h : a < b) : a.tdiv b ≤ 0 := by
  by_cases ha : 0 ≤ a
  · rw [Int.tdiv_eq_ediv_of_nonneg ha, Int.ediv_eq_zero_of_lt ha h]
    decide
  · have e : a.tdiv b = -((-a).tdiv b) := by rw [Int.neg_tdiv, Int.neg_neg]
    rw [e, Int.tdiv_eq_ediv_of_nonneg (by omega)]
    have := Int.ediv_nonneg (show 0 ≤ -a by omega) (show 0 ≤ b by omega)
    omega
theorem tdiv_ge1 {a b : Int} (hb : 0 < b) (h : b ≤ a) : 1 ≤ a.tdiv b ∧ a.tdiv b ≤ a := by
  rw [Int.tdiv_eq_ediv_of_nonneg (by omega)]
  refine ⟨(Int.le_ediv_iff_mul_le hb).mpr (by omega), Int.ediv_le_self b (by omega)⟩
theorem tmod_tmod {x m : Int} (hm : 0 < m) : ((x.tmod m) + m).tmod m = x % m := by
  have hb := tmod_bounds (a := x) hm
  rw [Int.tmod_eq_emod_of_nonneg (by omega), Int.add_emod_right]
  by_cases hx : 0 ≤ x
  · rw [Int.tmod_eq_emod_of_nonneg hx, Int.emod_emod]
  · obtain ⟨p, q⟩ := tmod_neg (x := x) (y := m) (by omega) hm
    by_cases e : x.tmod m = 0
    · rw [e, p e, Int.zero_emod]
    · have h1 := q e
      have h2 : x.tmod m = x % m + m * (-1) := by omega
      rw [h2, Int.add_mul_emod_self_left, Int.emod_emod]
theorem max_ok {G : GG} {x y : Int} {c : MM} {Q : Int → MM → Prop} (hx : rg x) (hy : rg y) (h : Q (if x < y then y else x) c) : wpJ9_max_7cf53 G x y c Q := by
  unfold wpJ9_max_7cf53
  exact ⟨hx, hy, ite_i (fun q => by rwa [if_pos q] at h) (fun q => by rwa [if_neg q] at h)⟩
theorem maxL_ok {G : GG} {x y : Int} {c : MM} {Q : Int → MM → Prop} (hx : rl x) (hy : rl y) (h1 : x < y → Q y c) (h2 : ¬ x < y → Q x c) : wpJ9_max_f86c9 G x y c Q := by
  unfold wpJ9_max_f86c9
  exact ⟨hx, hy, ite_i h1 h2⟩
theorem minL_ok {G : GG} {x y : Int} {c : MM} {Q : Int → MM → Prop} (hx : rl x) (hy : rl y) (h1 : y < x → Q y c) (h2 : ¬ y < x → Q x c) : wpJ9_min_f86c9 G x y c Q := by
  unfold wpJ9_min_f86c9
  exact ⟨hx, hy, ite_i h1 h2⟩
