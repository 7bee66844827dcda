theorem ixor_neg {a b : Int} (ha : rg a) (hb : rg b) : ixor a b < 0 ↔ (decide (a < 0) ^^ decide (b < 0)) = true := by
  have e1 : ∀ x : Int32, decide (x.toInt < 0) = x.toBitVec.msb := fun x => (BitVec.msb_eq_toInt (x := x.toBitVec)).symm
  have h : decide (ixor a b < 0) = (decide (a < 0) ^^ decide (b < 0)) := by
    unfold ixor
    rw [e1, Int32.toBitVec_xor, BitVec.msb_xor, ← e1, ← e1, iI_toInt ha, iI_toInt hb]
  rw [← h]
  simp
theorem lxor_neg {a b : Int} (ha : rl a) (hb : rl b) : lxor a b < 0 ↔ (decide (a < 0) ^^ decide (b < 0)) = true := by
  have e1 : ∀ x : Int64, decide (x.toInt < 0) = x.toBitVec.msb := fun x => (BitVec.msb_eq_toInt (x := x.toBitVec)).symm
  have h : decide (lxor a b < 0) = (decide (a < 0) ^^ decide (b < 0)) := by
    unfold lxor
    rw [e1, Int64.toBitVec_xor, BitVec.msb_xor, ← e1, ← e1, lJ_toInt ha, lJ_toInt hb]
  rw [← h]
  simp
theorem rg_ixor (a b : Int) : rg (ixor a b) := rg_of _
theorem rl_lxor (a b : Int) : rl (lxor a b) := rl_of _
theorem tmod_neg {x y : Int} (hx : x < 0) (hy : 0 < y) : (x.tmod y = 0 → x % y = 0) ∧ (x.tmod y ≠ 0 → x % y = x.tmod y + y) := by
  have e := @Int.tmod_eq_emod x y
  have hn : (y.natAbs : Int) = y := by omega
  have h0 := Int.emod_nonneg x (show y ≠ 0 by omega)
  have h1 := Int.emod_lt_of_pos x hy
  by_cases hd : y ∣ x
  · have hz : x % y = 0 := Int.emod_eq_zero_of_dvd hd
    rw [if_pos (Or.inr hd)] at e
    constructor
    · intro _; exact hz
    · intro q; omega
  · rw [if_neg (by rintro (q | q); omega; exact hd q)] at e
    have hz : x % y ≠ 0 := fun q => hd (Int.dvd_of_emod_eq_zero q)
    constructor
    · intro q; omega
    · intro q; omega
theorem floorMod_ok {G : GG} {x y : Int} {c : MM} {Q : Int → MM → Prop} (hx : rg x) (hy : rg y) (h0 : 0 < y) (h : Q (x % y) c) : wpJ9_floorMod_7cf53 G x y c Q := by
  unfold wpJ9_floorMod_7cf53
  refine ⟨hx, hy, by omega, all_eq ?_⟩
  have hs := ixor_neg hx hy
  have hyd : decide (y < 0) = false := by simp; omega
  by_cases hn : x < 0
  · have hxd : decide (x < 0) = true := by simp [hn]
    rw [hxd, hyd] at hs
    have hlt : ixor x y < 0 := hs.mpr rfl
    obtain ⟨a, b⟩ := tmod_neg hn h0
    have hb := tmod_bounds (a := x) h0
    refine ⟨rg_ixor _ _, ite_n (by omega) ⟨⟨by omega, by omega⟩, ite_i (fun q => ?_) (fun q => ?_)⟩⟩
    · rw [q, ← a q]; exact h
    · rw [← b q]; exact h
  · have hxd : decide (x < 0) = false := by simp; omega
    rw [hxd, hyd] at hs
    have hge : ¬ ixor x y < 0 := fun q => by simpa using hs.mp q
    refine ⟨rg_ixor _ _, ite_p (by omega) ?_⟩
    rw [Int.tmod_eq_emod_of_nonneg (by omega)]
    exact h
theorem floorModL_ok {G : GG} {x y : Int} {c : MM} {Q : Int → MM → Prop} (hx : rl x) (hy : rl y) (h0 : 0 < y) (h : Q (x % y) c) : wpJ9_floorMod_f86c9 G x y c Q := by
  unfold wpJ9_floorMod_f86c9
  refine ⟨hx, hy, by omega, all_eq ?_⟩
  have hs := lxor_neg hx hy
  have hyd : decide (y < 0) = false := by simp; omega
  by_cases hn : x < 0
  · have hxd : decide (x < 0) = true := by simp [hn]
    rw [hxd, hyd] at hs
    have hlt : lxor x y < 0 := hs.mpr rfl
    obtain ⟨a, b⟩ := tmod_neg hn h0
    have hb := tmod_bounds (a := x) h0
    refine ⟨rl_lxor _ _, ite_n (by omega) ⟨⟨by omega, by omega⟩, ite_i (fun q => ?_) (fun q => ?_)⟩⟩
    · rw [q, ← a q]; exact h
    · rw [← b q]; exact h
  · have hxd : decide (x < 0) = false := by simp; omega
    rw [hxd, hyd] at hs
    have hge : ¬ lxor x y < 0 := fun q => by simpa using hs.mp q
    refine ⟨rl_lxor _ _, ite_p (by omega) ?_⟩
    rw [Int.tmod_eq_emod_of_nonneg (by omega)]
    exact h
theorem isPlate_ok {x : Int} {r : MM} {Q : Int → MM → Prop} (h0 : 0 ≤ x) (h1 : x < 16) (h2 : rg (r 11 0 x)) (hy : r 11 0 x = 1 ∨ r 11 0 x = 3 → Q 1 r) (hn : ¬ (r 11 0 x = 1 ∨ r 11 0 x = 3) → Q 0 r) : wpX11_isPlate x r Q := by
  unfold wpX11_isPlate
  refine ⟨h0, h1, h2, ite_i (fun q => hy (Or.inl q)) (fun q => ite_i (fun q2 => hy (Or.inr q2)) (fun q2 => hn (by omega)))⟩
theorem hasPlace_ok {G : GG} {i x : Int} {c : MM} {Q : Int → MM → Prop} (hx : rg x) (h2 : rg (G 2 i)) (hn : x < 0 ∨ G 2 i ≤ x → Q 0 c) (hy : 0 ≤ x → x < G 2 i → Q 1 c) : wpX9_hasPlace G i x c Q := by
  unfold wpX9_hasPlace
  refine ⟨hx, ite_i (fun q => hn (by omega)) (fun q => ⟨h2, ite_i (fun q2 => hn (by omega)) (fun q2 => hy (by omega) (by omega))⟩)⟩
theorem isThere_ok {G : GG} {i : Int} {c : MM} {Q : Int → MM → Prop} (h : rg (c 1 1 i)) (hn : c 1 1 i = -1 → Q 0 c) (hy : c 1 1 i ≠ -1 → Q 1 c) : wpX6_isThere G i c Q := by
  unfold wpX6_isThere
  exact ⟨h, ite_i hn hy⟩
theorem hasRun_ok {G : GG} {i x n : Int} {c : MM} {Q : Int → MM → Prop} (hx : rg x) (hn : rg n) (h0 : 0 ≤ n) (h1 : 0 ≤ c 1 1 i) (h2 : c 1 1 i ≤ 48) (hno : x < 0 ∨ c 1 1 i < x + n → Q 0 c) (hy : 0 ≤ x → x + n ≤ c 1 1 i → Q 1 c) : wpX6_hasRun G i x n c Q := by
  unfold wpX6_hasRun
  refine ⟨hx, ite_i (fun q => hno (by omega)) (fun q => ⟨hn, ⟨by omega, by omega⟩, ite_i (fun q2 => hno (by omega)) (fun q2 => ⟨⟨by omega, by omega⟩, ite_i (fun q3 => hno (by omega)) (fun q3 => hy (by omega) (by omega))⟩)⟩)⟩
theorem at_ok {G : GG} {i x : Int} {c : MM} {Q : Int → MM → Prop} (hx : rg x) (h1 : 0 ≤ x) (h2 : x < c 1 1 i) (h3 : c 1 1 i ≤ 48) (h : Q (c 8 0 (48 * i + x)) c) : wpX6_at G i x c Q := by
  unfold wpX6_at
  exact ⟨hx, ite_n (by omega) ⟨⟨by omega, by omega⟩, ite_n (by omega) (ite_n (by omega) ⟨h1, by omega, h⟩)⟩⟩
theorem i2b_rng (x : Int) : -128 ≤ i2b x ∧ i2b x ≤ 127 := by
  have h1 := @Int.le_bmod x 256 (by decide)
  have h2 := @Int.bmod_lt x 256 (by decide)
  unfold i2b
  omega
theorem i2b_id {x : Int} (h1 : -128 ≤ x) (h2 : x ≤ 127) : i2b x = x := Int.bmod_eq_of_le (by omega) (by omega)
theorem rput_ok {G : GG} {i x v : Int} {c : MM} {Q : Int → MM → Prop} (hx : rg x) (h1 : 0 ≤ x) (h2 : x < 48) (h : Q 0 (ms c 8 0 (48 * i + x) (i2b v))) : wpX6_set G i x v c Q := by
  unfold wpX6_set
  refine ⟨hx, ite_n (by omega) (ite_n (by omega) ⟨h1, h2, all_eq ?_⟩)⟩
  rw [i2b_id (i2b_rng v).1 (i2b_rng v).2]
  exact h
theorem isDayHour_ok {G : GG} {x : Int} {c : MM} {Q : Int → MM → Prop} (hx : rg x) (hn : x < 0 ∨ 24 ≤ x → Q 0 c) (hy : 0 ≤ x → x < 24 → Q 1 c) : wpX10_isDayHour G x c Q := by
  unfold wpX10_isDayHour
  exact ⟨hx, ite_i (fun q => hn (by omega)) (fun q => ite_i (fun q2 => hn (by omega)) (fun q2 => hy (by omega) (by omega)))⟩
theorem isHour_ok {G : GG} {x : Int} {c : MM} {Q : Int → MM → Prop} (hx : rg x) (hn : x < 1 ∨ 12 < x → Q 0 c) (hy : 1 ≤ x → x ≤ 12 → Q 1 c) : wpX10_isHour G x c Q := by
  unfold wpX10_isHour
  exact ⟨hx, ite_i (fun q => hn (by omega)) (fun q => ite_i (fun q2 => hn (by omega)) (fun q2 => hy (by omega) (by omega)))⟩
/-- 0, 1 MUTE, 2 LOCKED: of the reference -/
def silR (t : Int) (r : MM) : Int := if (r 33 0 t + 24 - r 32 0 t) % 24 ≤ (r 27 0 t / 60 + 24 - r 32 0 t) % 24 then 0 else r 34 0 t + 1
theorem silenceOf_ok {bd bs bw : Int} {G : GG} {t : Int} {c r : MM} {Q : Int → MM → Prop} (h : Rel bd bs bw G c r) (h0 : 0 ≤ t) (h4 : t < 4) (hQ : Q (silR t r) r) : wpX11_silenceOf t r Q := by
  have J2 := h.J2
  have J7 := h.J7
  have j2 := J2 t h0 h4
  have j7 := J7 t h0 h4
  unfold wpX11_silenceOf
  rw [Int.tdiv_eq_ediv_of_nonneg (show 0 ≤ r 27 0 t by omega)]
  refine ⟨h0, h4, ⟨by omega, by omega⟩, all_eq ?_⟩
  rw [Int.tmod_eq_emod_of_nonneg (by omega)]
  refine ⟨⟨by omega, by omega⟩, ⟨by omega, by omega⟩, all_eq ?_⟩
  rw [Int.tmod_eq_emod_of_nonneg (by omega)]
  refine ⟨⟨by omega, by omega⟩, ⟨by omega, by omega⟩, ?_⟩
  unfold silR at hQ
  exact ite_i (fun q => by rwa [if_pos q] at hQ) (fun q => by rwa [if_neg q] at hQ)
theorem silenceNow_ok {bd bs bw : Int} {G : GG} {t : Int} {c r : MM} {Q : Int → MM → Prop} (h : Rel bd bs bw G c r) (h0 : 0 ≤ t) (h4 : t < 4) (hQ : Q (silR t r) c) : wpX8_silenceNow G t c Q := by
  have J2 := h.J2
  have J7 := h.J7
  have W2 := h.W2
  have W7 := h.W7
  have W8 := h.W8
  have W9 := h.W9
  have j2 := J2 t h0 h4
  have j7 := J7 t h0 h4
  have w9 := W9 t h0 h4
  unfold wpX8_silenceNow
  rw [congrFun W2 t, congrFun W7 t]
  refine ⟨⟨by omega, by omega⟩, ?_⟩
  rw [Int.tdiv_eq_ediv_of_nonneg (by omega)]
  refine floorMod_ok ⟨by omega, by omega⟩ (by decide) (by decide) ?_
  show wpJ9_floorMod_7cf53 G (c 3 9 t - c 3 8 t) 24 c _
  rw [congrFun W7 t, congrFun W8 t]
  refine floorMod_ok ⟨by omega, by omega⟩ (by decide) (by decide) ?_
  refine ⟨⟨by omega, by omega⟩, ⟨by omega, by omega⟩, ?_⟩
  unfold silR at hQ
  refine ite_i (fun q => ?_) (fun q => ?_)
  · rwa [if_pos (by omega)] at hQ
  · rw [if_neg (by omega)] at hQ
    rw [w9 (by omega)]
    exact hQ
theorem trainIn_ok {G : GG} {t q : Int} {c : MM} {Q : Int → MM → Prop} (hq : q = 0 ∨ q = 1) (h0 : q = 0 → Q (c 3 6 t) c) (h1 : q = 1 → Q (c 3 7 t) c) : wpX8_trainIn G t q c Q := by
  unfold wpX8_trainIn
  exact ⟨by rcases hq with rfl | rfl <;> decide, ite_i h0 (fun e => h1 (by omega))⟩
theorem silR_rng {bd bs bw : Int} {G : GG} {t : Int} {c r : MM} (h : Rel bd bs bw G c r) (h0 : 0 ≤ t) (h4 : t < 4) : 0 ≤ silR t r ∧ silR t r ≤ 2 := by
  have J7 := h.J7
  have j7 := J7 t h0 h4
  unfold silR
  split <;> omega
