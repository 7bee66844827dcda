theorem rowOf_ok {G : GG} {x : Int} {c : MM} {Q : Int → MM → Prop} (hx : rg x) (h1 : x < 0 ∨ 8 ≤ x → Q (-1) c) (h2 : 0 ≤ x → x < 8 → Q x c) : wpX10_rowOf G x c Q := by
  unfold wpX10_rowOf
  refine ⟨hx, ite_i (fun q => h1 (by omega)) (fun q => ite_i (fun q2 => h1 (by omega)) (fun q2 => ⟨by omega, by omega, h2 (by omega) (by omega)⟩))⟩
theorem towerOf_ok {G : GG} {x : Int} {c : MM} {Q : Int → MM → Prop} (hx : rg x) (h1 : x < 0 ∨ 4 ≤ x → Q (-1) c) (h2 : 0 ≤ x → x < 4 → Q x c) : wpX10_towerOf G x c Q := by
  unfold wpX10_towerOf
  refine ⟨hx, ite_i (fun q => h1 (by omega)) (fun q => ite_i (fun q2 => h1 (by omega)) (fun q2 => ⟨by omega, by omega, h2 (by omega) (by omega)⟩))⟩
theorem trainOf_ok {bd bs bw : Int} {G : GG} {x : Int} {c r : MM} {Q : Int → MM → Prop} (h : Rel bd bs bw G c r) (hx : rg x) (h1 : x < 0 ∨ r 0 10 0 ≤ x → Q (-1) c) (h2 : 0 ≤ x → x < r 0 10 0 → Q x c) : wpX10_trainOf G x c Q := by
  have T0 := h.T0
  have T2 := h.T2
  unfold wpX10_trainOf
  refine ⟨hx, ite_i (fun q => h1 (by omega)) (fun q => ⟨⟨by omega, by omega⟩, ite_i (fun q2 => h1 (by omega)) (fun q2 => ⟨by omega, by omega, ?_⟩)⟩)⟩
  rw [T2 x (by omega) (by omega)]
  exact h2 (by omega) (by omega)
theorem isRow_ok {x : Int} {r : MM} {Q : Int → MM → Prop} (hx : rg x) (h1 : x < 0 ∨ 8 ≤ x → Q 0 r) (h2 : 0 ≤ x → x < 8 → Q 1 r) : wpX11_isRow x r Q := by
  unfold wpX11_isRow
  refine in_ok hx (by decide) (by decide) ?_
  by_cases q : 0 ≤ x ∧ x ≤ 7
  · rw [if_pos q]
    exact h2 q.1 (by omega)
  · rw [if_neg q]
    exact h1 (by omega)
theorem isNumber_ok {x : Int} {r : MM} {Q : Int → MM → Prop} (hx : rg x) (h1 : x < 0 ∨ 4 ≤ x → Q 0 r) (h2 : 0 ≤ x → x < 4 → Q 1 r) : wpX11_isNumber x r Q := by
  unfold wpX11_isNumber
  refine in_ok hx (by decide) (by decide) ?_
  by_cases q : 0 ≤ x ∧ x ≤ 3
  · rw [if_pos q]
    exact h2 q.1 (by omega)
  · rw [if_neg q]
    exact h1 (by omega)
theorem isTrain_ok {bd bs bw : Int} {G : GG} {x : Int} {c r : MM} {Q : Int → MM → Prop} (h : Rel bd bs bw G c r) (hx : rg x) (h1 : x < 0 ∨ r 0 10 0 ≤ x → Q 0 r) (h2 : 0 ≤ x → x < r 0 10 0 → Q 1 r) : wpX11_isTrain x r Q := by
  have T0 := h.T0
  unfold wpX11_isTrain
  refine in_ok hx (by decide) ⟨by omega, by omega⟩ ?_
  by_cases q : 0 ≤ x ∧ x ≤ r 0 10 0 - 1
  · rw [if_pos q]
    exact h2 q.1 (by omega)
  · rw [if_neg q]
    exact h1 (by omega)
theorem inn_ok {v lo hi : Int} {r : MM} {Q : Int → MM → Prop} (hv : rg v) (hl : rg lo) (hh : rg hi) (h1 : v < lo ∨ hi < v → Q 0 r) (h2 : lo ≤ v → v ≤ hi → Q 1 r) : wpX11_in v lo hi r Q := by
  refine in_ok hv hl hh ?_
  by_cases q : lo ≤ v ∧ v ≤ hi
  · rw [if_pos q]
    exact h2 q.1 q.2
  · rw [if_neg q]
    exact h1 (by omega)
/-- a row: -1 no number, -3 missing, else there -/
theorem looked_ok {bd bs bw : Int} {G : GG} {x : Int} {c r : MM} {Q : Int → MM → Prop} (h : Rel bd bs bw G c r) (hx : rg x) (h1 : x < 0 ∨ 8 ≤ x → Q (-1) r) (h2 : 0 ≤ x → x < 8 → c 1 1 x = -1 → r 7 0 x = -9 → Q (-3) (fR 1 r)) (h3 : 0 ≤ x → x < 8 → c 1 1 x = r 7 0 x → 0 ≤ r 7 0 x → r 7 0 x ≤ 48 → Q 0 r) : wpX11_looked x r Q := by
  have R3 := h.R3
  unfold wpX11_looked
  refine isRow_ok hx (fun q => ite_p rfl (h1 q)) (fun a b => ite_n (by decide) ⟨a, b, ?_⟩)
  rcases R3 x a b with ⟨e1, e2, e3⟩ | ⟨e1, e2⟩
  · exact ⟨⟨by omega, by omega⟩, ite_p (by omega) (h3 a b e1 e2 e3)⟩
  · exact ⟨⟨by omega, by omega⟩, ite_n (by omega) (meets_ok (by decide) (by decide) (h2 a b e1 e2))⟩
/-- a tower: -1 no number, -3 missing, else there -/
theorem askedFor_ok {bd bs bw : Int} {G : GG} {x : Int} {c r : MM} {Q : Int → MM → Prop} (h : Rel bd bs bw G c r) (hx : rg x) (h1 : x < 0 ∨ 4 ≤ x → Q (-1) r) (h2 : 0 ≤ x → x < 4 → r 26 0 x = 0 → Q (-3) (fR 1 r)) (h3 : 0 ≤ x → x < 4 → r 26 0 x = 1 → Q 0 r) : wpX11_askedFor x r Q := by
  have J1 := h.J1
  unfold wpX11_askedFor
  refine isNumber_ok hx (fun q => ite_p rfl (h1 q)) (fun a b => ite_n (by decide) ⟨a, b, ?_⟩)
  rcases J1 x a b with e | e
  · exact ⟨⟨by omega, by omega⟩, ite_p e (meets_ok (by decide) (by decide) (h2 a b e))⟩
  · exact ⟨⟨by omega, by omega⟩, ite_n (by omega) (h3 a b e)⟩
