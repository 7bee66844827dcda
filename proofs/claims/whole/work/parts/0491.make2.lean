/-! a train more: the ghost, the addresses, the memory -/
def mkG (G : GG) (kd N P : Int) : GG := fun a b => if a = 0 then (if b = 0 then G 0 0 + 1 else G a b) else if b = G 0 0 then (if a = 1 then kd else if a = 2 then N else if a = 3 then P else G a b) else G a b
def mkA (ad : AD) (n : Int) (q0 q1 q2 : Nat) : AD := fun k i => if i = n then (if k = 2 then q0 else if k = 9 then q1 else if k = 10 then q2 else ad k i) else ad k i
def mkT (e : Nat) : Int := if e = 3 then 30 else if e = 4 ∨ e = 5 then 1000 else if e = 9 then -9 else 0
def mkM (n N P : Int) (sv pv : Int → Int) (μ : MM) : MM := fun f e j => if f = 2 then (if j = n then mkT e else μ f e j) else if f = 9 then (if e = 0 ∧ 24 * n ≤ j ∧ j < 24 * n + N then sv (j - 24 * n) else μ f e j) else if f = 10 then (if e = 0 ∧ 48 * n ≤ j ∧ j < 48 * n + P then pv (j - 48 * n) else μ f e j) else μ f e j
theorem mkA_o {ad : AD} {n : Int} {q0 q1 q2 k : Nat} (h : (k == 2 || k == 9 || k == 10) = false) (i : Int) : mkA ad n q0 q1 q2 k i = ad k i := by
  simp at h
  simp [mkA, h]
theorem mkA_i {ad : AD} {n : Int} {q0 q1 q2 : Nat} (k : Nat) {i : Int} (h : i ≠ n) : mkA ad n q0 q1 q2 k i = ad k i := if_neg h
theorem mkM_o {n N P : Int} {sv pv : Int → Int} {μ : MM} {k : Nat} (h : (k == 2 || k == 9 || k == 10) = false) : mkM n N P sv pv μ k = μ k := by
  simp at h
  funext e j
  simp [mkM, h]
theorem mkM_9 {n N P : Int} {sv pv : Int → Int} {μ : MM} {j : Int} : mkM n N P sv pv μ 9 0 j = if 24 * n ≤ j ∧ j < 24 * n + N then sv (j - 24 * n) else μ 9 0 j := by simp [mkM]
theorem mkM_10 {n N P : Int} {sv pv : Int → Int} {μ : MM} {j : Int} : mkM n N P sv pv μ 10 0 j = if 48 * n ≤ j ∧ j < 48 * n + P then pv (j - 48 * n) else μ 10 0 j := by simp [mkM]
theorem mkG_i {G : GG} {kd N P : Int} {a : Nat} {b : Int} (ha : a ≠ 0) (h : b ≠ G 0 0) : mkG G kd N P a b = G a b := by simp [mkG, ha, h]
theorem mkG_0 {G : GG} {kd N P : Int} : mkG G kd N P 0 0 = G 0 0 + 1 := rfl
theorem mkG_1 {G : GG} {kd N P : Int} : mkG G kd N P 1 (G 0 0) = kd := by simp [mkG]
theorem mkG_2 {G : GG} {kd N P : Int} : mkG G kd N P 2 (G 0 0) = N := by simp [mkG]
theorem mkG_3 {G : GG} {kd N P : Int} : mkG G kd N P 3 (G 0 0) = P := by simp [mkG]
theorem ro_mk {ad : AD} {n : Int} {q0 q1 q2 : Nat} {x : Int} (h : x < n) : ro (mkA ad n q0 q1 q2) 2 x = ro ad 2 x := by
  unfold ro
  split
  · rfl
  · rw [mkA_i 2 (by omega)]
theorem rf_mk {ad : AD} {n : Int} {q0 q1 q2 : Nat} {x : Int} (h : x < n) : rf (mkA ad n q0 q1 q2) 2 x = rf ad 2 x := by
  unfold rf
  split
  · rfl
  · rw [mkA_i 2 (by omega)]
def mkOK (G : GG) (kd N P : Int) (μ : MM) : Prop := (μ 0 2 0 = G 0 0 ∧ 0 ≤ G 0 0 ∧ G 0 0 < 16) ∧ (0 ≤ kd ∧ kd ≤ 3) ∧ (0 ≤ N ∧ N ≤ 24) ∧ (0 ≤ P ∧ P ≤ 48) ∧ (∀ j : Int, 0 ≤ j → μ 21 0 j < G 0 0) ∧ ∀ t : Int, 0 ≤ t → t < 4 → μ 3 6 t < G 0 0 ∧ μ 3 7 t < G 0 0
theorem dm_mk {G : GG} {kd N P : Int} {ad : AD} {q0 q1 q2 : Nat} {k : Nat} {f : Nat → Int → Int} {i : Int} (h : dmC (mkG G kd N P) k f i) : (dmC G k f i ∧ mkA ad (G 0 0) q0 q1 q2 k i = ad k i) ∨ (i = G 0 0 ∧ 0 ≤ G 0 0 ∧ ((k = 2 ∧ mkA ad (G 0 0) q0 q1 q2 k i = q0) ∨ (k = 9 ∧ mkA ad (G 0 0) q0 q1 q2 k i = q1) ∨ (k = 10 ∧ kd = 3 ∧ mkA ad (G 0 0) q0 q1 q2 k i = q2))) := by
  by_cases h2 : k = 2
  · subst h2
    have h' : 0 ≤ i ∧ i < G 0 0 + 1 := h
    by_cases e : i = G 0 0
    · exact Or.inr ⟨e, by omega, Or.inl ⟨rfl, by simp [mkA, e]⟩⟩
    · exact Or.inl ⟨⟨h'.1, by omega⟩, mkA_i 2 e⟩
  · by_cases h9 : k = 9
    · subst h9
      have h' : 0 ≤ i ∧ i < G 0 0 + 1 := h
      by_cases e : i = G 0 0
      · exact Or.inr ⟨e, by omega, Or.inr (Or.inl ⟨rfl, by simp [mkA, e]⟩)⟩
      · exact Or.inl ⟨⟨h'.1, by omega⟩, mkA_i 9 e⟩
    · by_cases h10 : k = 10
      · subst h10
        have h' : (0 ≤ i ∧ i < G 0 0 + 1) ∧ mkG G kd N P 1 i = 3 := h
        by_cases e : i = G 0 0
        · subst e
          rw [mkG_1] at h'
          exact Or.inr ⟨rfl, by omega, Or.inr (Or.inr ⟨rfl, h'.2, by simp [mkA]⟩)⟩
        · rw [mkG_i (by decide) e] at h'
          exact Or.inl ⟨⟨⟨h'.1.1, by omega⟩, h'.2⟩, mkA_i 10 e⟩
      · have e : (k == 2 || k == 9 || k == 10) = false := by simp [h2, h9, h10]
        refine Or.inl ⟨?_, mkA_o e i⟩
        match k, h, h2, h9, h10 with
        | 0, h, _, _, _ => exact h
        | 1, h, _, _, _ => exact h
        | 2, h, a, _, _ => exact absurd rfl a
        | 3, h, _, _, _ => exact h
        | 4, h, _, _, _ => exact h
        | 5, h, _, _, _ => exact h
        | 6, h, _, _, _ => exact h
        | 7, h, _, _, _ => exact h
        | 8, h, _, _, _ => exact h
        | 9, h, _, a, _ => exact absurd rfl a
        | 10, h, _, _, a => exact absurd rfl a
        | 11, h, _, _, _ => exact h
        | 12, h, _, _, _ => exact h
        | 13, h, _, _, _ => exact h
        | 14, h, _, _, _ => exact h
        | 15, h, _, _, _ => exact h
        | 16, h, _, _, _ => exact h
        | 17, h, _, _, _ => exact h
        | 18, h, _, _, _ => exact h
        | 19, h, _, _, _ => exact h
        | 20, h, _, _, _ => exact h
        | 21, h, _, _, _ => exact h
        | 22, h, _, _, _ => exact h
        | k + 23, h, _, _, _ => exact h
theorem cf_mk {G : GG} {kd N P : Int} {sv pv : Int → Int} {cy : Nat → ClassId} {ad : AD} {q0 q1 q2 : Nat} {μ : MM} {k : Nat} {i : Int} (ok : mkOK G kd N P μ) (hG : okG G) (hd : dmC G k (μ k) i) {D : va_G} {a : Nat} {H : Heap} (h : va_at D vwCl (a, cfC G cy ad k (μ k) i) H) : va_at D vwCl (a, cfC (mkG G kd N P) cy (mkA ad (G 0 0) q0 q1 q2) k (mkM (G 0 0) N P sv pv μ k) i) H := by
  obtain ⟨o1, o2, o3, o4, o5, o6⟩ := ok
  by_cases h2 : k = 2
  · subst h2
    have h' : 0 ≤ i ∧ i < G 0 0 := hd
    have e : i ≠ G 0 0 := by omega
    have ec : cfT (mkG G kd N P) (mkA ad (G 0 0) q0 q1 q2) (mkM (G 0 0) N P sv pv μ 2) i = cfT G ad (μ 2) i := by
      rw [cfT_congr (f := mkM (G 0 0) N P sv pv μ 2) (g := μ 2) (fun c => by simp [mkM, e])]
      simp only [cfT, mkG_i (show (1 : Nat) ≠ 0 by decide) e, mkA_i 9 e, mkA_i 10 e]
    show va_at D vwCl (a, cfT (mkG G kd N P) (mkA ad (G 0 0) q0 q1 q2) (mkM (G 0 0) N P sv pv μ 2) i) H
    rw [ec]
    exact h
  · by_cases h9 : k = 9
    · subst h9
      have h' : 0 ≤ i ∧ i < G 0 0 := hd
      have e : i ≠ G 0 0 := by omega
      have g2 := (hG i h'.1 h'.2).2.1
      show va_at D vwCl (a, .inl (cy 0, (mkG G kd N P 2 i).toNat, .inl _)) H
      rw [mkG_i (by decide) e]
      refine cell_congr (fun j hj => ?_) (show va_at D vwCl (a, .inl (cy 0, (G 2 i).toNat, .inl (fun j => iI (μ 9 0 (24 * i + (j : Int)))))) H from h)
      have : ¬ (0 = 0 ∧ 24 * G 0 0 ≤ 24 * i + (j : Int) ∧ 24 * i + (j : Int) < 24 * G 0 0 + N) := by omega
      exact congrArg iI (by rw [mkM_9, if_neg (by omega)])
    · by_cases h10 : k = 10
      · subst h10
        have h' : (0 ≤ i ∧ i < G 0 0) ∧ G 1 i = 3 := hd
        have e : i ≠ G 0 0 := by omega
        have g2 := (hG i h'.1.1 h'.1.2).2.2
        show va_at D vwCl (a, .inl (cy 0, (mkG G kd N P 3 i).toNat, .inl _)) H
        rw [mkG_i (by decide) e]
        refine cell_congr (fun j hj => ?_) (show va_at D vwCl (a, .inl (cy 0, (G 3 i).toNat, .inl (fun j => iI (μ 10 0 (48 * i + (j : Int)))))) H from h)
        have : ¬ (0 = 0 ∧ 48 * G 0 0 ≤ 48 * i + (j : Int) ∧ 48 * i + (j : Int) < 48 * G 0 0 + P) := by omega
        exact congrArg iI (by rw [mkM_10, if_neg (by omega)])
      · have e : (k == 2 || k == 9 || k == 10) = false := by simp [h2, h9, h10]
        rw [mkM_o e]
        suffices ec : cfC (mkG G kd N P) cy (mkA ad (G 0 0) q0 q1 q2) k (μ k) i = cfC G cy ad k (μ k) i by rw [ec]; exact h
        match k, hd, h2, h9, h10 with
        | 0, hd, _, _, _ => simp only [cfC, mkA_o (show ((20 : Nat) == 2 || 20 == 9 || 20 == 10) = false by decide), mkA_o (show ((21 : Nat) == 2 || 21 == 9 || 21 == 10) = false by decide), mkA_o (show ((22 : Nat) == 2 || 22 == 9 || 22 == 10) = false by decide), mkA_o (show ((5 : Nat) == 2 || 5 == 9 || 5 == 10) = false by decide), mkA_o (show ((6 : Nat) == 2 || 6 == 9 || 6 == 10) = false by decide), mkA_o (show ((7 : Nat) == 2 || 7 == 9 || 7 == 10) = false by decide), mkA_o (show ((19 : Nat) == 2 || 19 == 9 || 19 == 10) = false by decide)]
        | 1, hd, _, _, _ => simp only [cfC, mkA_o (show ((8 : Nat) == 2 || 8 == 9 || 8 == 10) = false by decide)]
        | 2, hd, a, _, _ => exact absurd rfl a
        | 3, hd, _, _, _ =>
          have hd' : 0 ≤ i ∧ i < 4 := hd
          have := o6 i hd'.1 hd'.2
          simp only [cfC, mkA_o (show ((4 : Nat) == 2 || 4 == 9 || 4 == 10) = false by decide), rf_mk this.1, rf_mk this.2]
        | 4, hd, _, _, _ => simp only [cfC, mkA_o (show ((11 : Nat) == 2 || 11 == 9 || 11 == 10) = false by decide), mkA_o (show ((12 : Nat) == 2 || 12 == 9 || 12 == 10) = false by decide), mkA_o (show ((13 : Nat) == 2 || 13 == 9 || 13 == 10) = false by decide), mkA_o (show ((14 : Nat) == 2 || 14 == 9 || 14 == 10) = false by decide)]
        | 5, hd, _, _, _ => simp only [cfC, mkA_o (show ((15 : Nat) == 2 || 15 == 9 || 15 == 10) = false by decide)]
        | 6, hd, _, _, _ => simp only [cfC, mkA_o (show ((16 : Nat) == 2 || 16 == 9 || 16 == 10) = false by decide)]
        | 7, hd, _, _, _ => simp only [cfC, mkA_o (show ((17 : Nat) == 2 || 17 == 9 || 17 == 10) = false by decide), mkA_o (show ((18 : Nat) == 2 || 18 == 9 || 18 == 10) = false by decide)]
        | 8, hd, _, _, _ => rfl
        | 9, hd, _, a, _ => exact absurd rfl a
        | 10, hd, _, _, a => exact absurd rfl a
        | 11, hd, _, _, _ => rfl
        | 12, hd, _, _, _ => rfl
        | 13, hd, _, _, _ => rfl
        | 14, hd, _, _, _ => rfl
        | 15, hd, _, _, _ => rfl
        | 16, hd, _, _, _ => rfl
        | 17, hd, _, _, _ => rfl
        | 18, hd, _, _, _ => rfl
        | 19, hd, _, _, _ => rfl
        | 20, hd, _, _, _ => simp only [cfC, mkA_o (show ((1 : Nat) == 2 || 1 == 9 || 1 == 10) = false by decide)]
        | 21, hd, _, _, _ =>
          simp only [cfC]
          congr 8
          funext j
          exact ro_mk (o5 _ (by omega))
        | 22, hd, _, _, _ => simp only [cfC, mkA_o (show ((3 : Nat) == 2 || 3 == 9 || 3 == 10) = false by decide)]
        | k + 23, hd, _, _, _ => exact hd.elim
theorem make_w {G : GG} {kd N P : Int} {sv pv : Int → Int} {D : va_G} {cy : Nat → ClassId} {ad : AD} {A A' : Nat → Prop} {q0 q1 q2 : Nat} {μ : MM} {s : State} {H : Heap} (ok : mkOK G kd N P μ) (hw : wdC G D cy ad A' μ s H) (hAA : ∀ q, A' q → A q) (hf : ∀ (k : Nat) (i : Int), dmC G k (μ k) i → ad k i ≠ q0 ∧ ad k i ≠ q1 ∧ (kd = 3 → ad k i ≠ q2)) (hn : q0 ≠ q1 ∧ (kd = 3 → q0 ≠ q2 ∧ q1 ≠ q2)) (hA : A q0 ∧ A q1 ∧ (kd = 3 → A q2))
    (c0 : va_at D vwCl (q0, cfT (mkG G kd N P) (mkA ad (G 0 0) q0 q1 q2) (mkM (G 0 0) N P sv pv μ 2) (G 0 0)) H) (c1 : va_at D vwCl (q1, .inl (cy 0, N.toNat, .inl (fun j => iI (sv (j : Int))))) H) (c2 : kd = 3 → va_at D vwCl (q2, .inl (cy 0, P.toNat, .inl (fun j => iI (pv (j : Int))))) H) :
    wdC (mkG G kd N P) D cy (mkA ad (G 0 0) q0 q1 q2) A (mkM (G 0 0) N P sv pv μ) s H := by
  have hG : okG G := hw.2.1.2.1
  have dmf : ∀ (k : Nat) (f g : Nat → Int → Int) (i : Int), dmC G k f i → dmC G k g i := fun k f g i h => h
  refine ⟨fun k i hd => ?_, ⟨hw.2.1.1, ?_, hw.2.1.2.2⟩, fun k i k' i' hd hd' he => ?_, fun k i hd => ?_⟩
  · rcases dm_mk (ad := ad) (q0 := q0) (q1 := q1) (q2 := q2) hd with ⟨h1, h2⟩ | ⟨rfl, hn0, h | h | h⟩
    · rw [h2]
      exact cf_mk ok hG h1 (hw.1 k i h1)
    · obtain ⟨rfl, h2⟩ := h
      rw [h2]
      exact c0
    · obtain ⟨rfl, h2⟩ := h
      rw [h2]
      show va_at D vwCl (q1, .inl (cy 0, (mkG G kd N P 2 (G 0 0)).toNat, .inl _)) H
      rw [mkG_2]
      refine cell_congr (fun j hj => ?_) c1
      have h3 : (0 = 0 ∧ 24 * G 0 0 ≤ 24 * G 0 0 + (j : Int) ∧ 24 * G 0 0 + (j : Int) < 24 * G 0 0 + N) := by omega
      refine congrArg iI ?_
      rw [mkM_9, if_pos (by omega)]
      congr 1
      omega
    · obtain ⟨rfl, hk, h2⟩ := h
      rw [h2]
      show va_at D vwCl (q2, .inl (cy 0, (mkG G kd N P 3 (G 0 0)).toNat, .inl _)) H
      rw [mkG_3]
      refine cell_congr (fun j hj => ?_) (c2 hk)
      have h3 : (0 = 0 ∧ 48 * G 0 0 ≤ 48 * G 0 0 + (j : Int) ∧ 48 * G 0 0 + (j : Int) < 48 * G 0 0 + P) := by omega
      refine congrArg iI ?_
      rw [mkM_10, if_pos (by omega)]
      congr 1
      omega
  · intro n h0 h1
    rw [mkG_0] at h1
    by_cases e : n = G 0 0
    · subst e
      rw [mkG_1, mkG_2, mkG_3]
      exact ⟨ok.2.1, ok.2.2.1, ok.2.2.2.1⟩
    · rw [mkG_i (by decide) e, mkG_i (by decide) e, mkG_i (by decide) e]
      exact hG n h0 (by omega)
  · rcases dm_mk (ad := ad) (q0 := q0) (q1 := q1) (q2 := q2) hd with ⟨h1, h2⟩ | ⟨rfl, hn0, h⟩ <;> rcases dm_mk (ad := ad) (q0 := q0) (q1 := q1) (q2 := q2) hd' with ⟨h1', h2'⟩ | ⟨rfl, hn0', h'⟩
    · rw [h2, h2'] at he
      exact hw.2.2.1 k i k' i' h1 h1' he
    · rw [h2] at he
      have hf' := hf k i h1
      rcases h' with ⟨-, g⟩ | ⟨-, g⟩ | ⟨-, hk, g⟩ <;> rw [g] at he
      · exact absurd he hf'.1
      · exact absurd he hf'.2.1
      · exact absurd he (hf'.2.2 hk)
    · rw [h2'] at he
      have hf' := hf k' i' h1'
      rcases h with ⟨-, g⟩ | ⟨-, g⟩ | ⟨-, hk, g⟩ <;> rw [g] at he
      · exact absurd he.symm hf'.1
      · exact absurd he.symm hf'.2.1
      · exact absurd he.symm (hf'.2.2 hk)
    · rcases h with ⟨e1, g⟩ | ⟨e1, g⟩ | ⟨e1, hk, g⟩ <;> rcases h' with ⟨e1', g'⟩ | ⟨e1', g'⟩ | ⟨e1', hk', g'⟩ <;> rw [g, g'] at he
      · exact ⟨by omega, rfl⟩
      · exact absurd he hn.1
      · exact absurd he (hn.2 hk').1
      · exact absurd he.symm hn.1
      · exact ⟨by omega, rfl⟩
      · exact absurd he (hn.2 hk').2
      · exact absurd he.symm (hn.2 hk).1
      · exact absurd he.symm (hn.2 hk).2
      · exact ⟨by omega, rfl⟩
  · rcases dm_mk (ad := ad) (q0 := q0) (q1 := q1) (q2 := q2) hd with ⟨h1, h2⟩ | ⟨rfl, hn0, h | h | h⟩
    · rw [h2]
      exact hAA _ (hw.2.2.2 k i h1)
    · rw [h.2]
      exact hA.1
    · rw [h.2]
      exact hA.2.1
    · rw [h.2.2]
      exact hA.2.2 h.2.1
