theorem cat_i (x : Int32) : (Value.int x).category = 1 := rfl
theorem cat_l (x : Int64) : (Value.long x).category = 2 := rfl
theorem cat_r (x : Nat) : (Value.ref x).category = 1 := rfl
abbrev GG : Type := Nat → Int → Int
/-- what stays of the trains: how many, kind, how many notches, how many pins -/
def okG (G : GG) : Prop := ∀ n : Int, 0 ≤ n → n < G 0 0 → (0 ≤ G 1 n ∧ G 1 n ≤ 3) ∧ (0 ≤ G 2 n ∧ G 2 n ≤ 24) ∧ (0 ≤ G 3 n ∧ G 3 n ≤ 48)
def cfT (G : GG) (ad : AD) (f : Nat → Int → Int) (i : Int) : va_E :=
  if G 1 i = 0 then .inr (9, [.int (iI i), .int (iI (G 1 i)), .ref (ad 9 i), .int (iI (f 3 i)), .int (iI (f 4 i)), .int (iI (f 5 i)), .int (iI (f 6 i)), .int (iI (f 7 i)), .int (iI (f 8 i)), .int (iI (f 9 i)), .int (iI (f 10 i)), .int (iI (f 11 i)), .int (iI (f 12 i)), .int (iI (f 13 i))]) else
  if G 1 i = 1 then .inr (4, [.int (iI i), .int (iI (G 1 i)), .ref (ad 9 i), .int (iI (f 3 i)), .int (iI (f 4 i)), .int (iI (f 5 i)), .int (iI (f 6 i)), .int (iI (f 7 i)), .int (iI (f 8 i)), .int (iI (f 9 i)), .int (iI (f 10 i)), .int (iI (f 11 i)), .int (iI (f 12 i)), .int (iI (f 13 i)), .int (iI (f 14 i))]) else
  if G 1 i = 2 then .inr (7, [.int (iI i), .int (iI (G 1 i)), .ref (ad 9 i), .int (iI (f 3 i)), .int (iI (f 4 i)), .int (iI (f 5 i)), .int (iI (f 6 i)), .int (iI (f 7 i)), .int (iI (f 8 i)), .int (iI (f 9 i)), .int (iI (f 10 i)), .int (iI (f 11 i)), .int (iI (f 12 i)), .int (iI (f 13 i))]) else
  .inr (0, [.int (iI (f 14 i)), .int (iI i), .int (iI (G 1 i)), .ref (ad 9 i), .int (iI (f 3 i)), .int (iI (f 4 i)), .int (iI (f 5 i)), .int (iI (f 6 i)), .int (iI (f 7 i)), .int (iI (f 8 i)), .int (iI (f 9 i)), .int (iI (f 10 i)), .int (iI (f 11 i)), .int (iI (f 12 i)), .int (iI (f 13 i)), .ref (ad 10 i), .int (iI (f 16 i))])
theorem cfT_congr {G : GG} {ad : AD} {f g : Nat → Int → Int} {i : Int} (h : ∀ c, f c i = g c i) : cfT G ad f i = cfT G ad g i := by simp only [cfT, h]
def cfC (G : GG) : WCF := fun cy ad k f i => match k with
  | 0 => .inr (10, [.ref (ad 20 0), .ref (ad 21 0), .int (iI (f 2 0)), .ref (ad 22 0), .int (iI (f 4 0)), .ref (ad 5 0), .ref (ad 6 0), .int (iI (f 7 0)), .int (iI (f 8 0)), .int (iI (f 9 0)), .ref (ad 7 0), .int (iI (f 11 0)), .int (iI (f 12 0)), .ref (ad 19 0)])
  | 1 => .inr (6, [.ref (ad 8 i), .int (iI (f 1 i))])
  | 2 => cfT G ad f i
  | 3 => .inr (8, [.int (iI (f 0 i)), .int (iI (f 1 i)), .int (iI (f 2 i)), .int (iI (f 3 i)), .int (iI (f 4 i)), .int (iI (f 5 i)), rf ad 2 (f 6 i), rf ad 2 (f 7 i), .int (iI (f 8 i)), .int (iI (f 9 i)), .int (iI (f 10 i)), .ref (ad 4 i)])
  | 4 => .inr (3, [.ref (ad 11 i), .ref (ad 12 i), .ref (ad 13 i), .ref (ad 14 i), .int (iI (f 4 i)), .int (iI (f 5 i))])
  | 5 => .inr (5, [.ref (ad 15 0), .int (iI (f 1 0))])
  | 6 => .inr (1, [.ref (ad 16 0), .int (iI (f 1 0)), .int (iI (f 2 0)), .int (iI (f 3 0)), .int (iI (f 4 0)), .int (iI (f 5 0)), .int (iI (f 6 0))])
  | 7 => .inr (2, [.ref (ad 17 0), .int (iI (f 1 0)), .ref (ad 18 0), .int (iI (f 3 0)), .long (lJ (f 4 0)), .long (lJ (f 5 0)), .long (lJ (f 6 0)), .long (lJ (f 7 0)), .long (lJ (f 8 0))])
  | 8 => .inl (cy 1, 48, .inl (fun j => iI (f 0 (48 * i + (j : Int)))))
  | 9 => .inl (cy 0, (G 2 i).toNat, .inl (fun j => iI (f 0 (24 * i + (j : Int)))))
  | 10 => .inl (cy 0, (G 3 i).toNat, .inl (fun j => iI (f 0 (48 * i + (j : Int)))))
  | 11 => .inl (cy 0, 60, .inl (fun j => iI (f 0 (60 * i + (j : Int)))))
  | 12 => .inl (cy 0, 60, .inl (fun j => iI (f 0 (60 * i + (j : Int)))))
  | 13 => .inl (cy 0, 60, .inl (fun j => iI (f 0 (60 * i + (j : Int)))))
  | 14 => .inl (cy 0, 60, .inl (fun j => iI (f 0 (60 * i + (j : Int)))))
  | 15 => .inl (cy 0, 12, .inl (fun j => iI (f 0 (j : Int))))
  | 16 => .inl (cy 0, 48, .inl (fun j => iI (f 0 (j : Int))))
  | 17 => .inl (cy 0, 12, .inl (fun j => iI (f 0 (j : Int))))
  | 18 => .inl (cy 0, 4, .inl (fun j => iI (f 0 (j : Int))))
  | 19 => .inl (cy 0, 6, .inl (fun j => iI (f 0 (j : Int))))
  | 20 => .inl (cy 3, 8, .inr (.inr (.inr (.inr (fun j => some (ad 1 (j : Int)))))))
  | 21 => .inl (cy 4, 16, .inr (.inr (.inr (.inr (fun j => ro ad 2 (f 0 (j : Int)))))))
  | 22 => .inl (cy 5, 4, .inr (.inr (.inr (.inr (fun j => some (ad 3 (j : Int)))))))
  | _ => .inl (cy 0, 0, .inl (fun _ => 0))
def dmC (G : GG) : WDM := fun k _ i => match k with
  | 0 => i = 0
  | 1 => 0 ≤ i ∧ i < 8
  | 2 => 0 ≤ i ∧ i < G 0 0
  | 3 => 0 ≤ i ∧ i < 4
  | 4 => 0 ≤ i ∧ i < 4
  | 5 => i = 0
  | 6 => i = 0
  | 7 => i = 0
  | 8 => 0 ≤ i ∧ i < 8
  | 9 => 0 ≤ i ∧ i < G 0 0
  | 10 => (0 ≤ i ∧ i < G 0 0) ∧ G 1 i = 3
  | 11 => 0 ≤ i ∧ i < 4
  | 12 => 0 ≤ i ∧ i < 4
  | 13 => 0 ≤ i ∧ i < 4
  | 14 => 0 ≤ i ∧ i < 4
  | 15 => i = 0
  | 16 => i = 0
  | 17 => i = 0
  | 18 => i = 0
  | 19 => i = 0
  | 20 => i = 0
  | 21 => i = 0
  | 22 => i = 0
  | _ => False
def tyC : WTY := fun cy => [(cy 0, .int), (cy 1, .byte), (cy 3, .object RX6), (cy 4, .object RX9), (cy 5, .object RX8)]
def exC (G : GG) : State → Prop := fun s => okG G ∧ va_Nw (.castable RX0 RX4) s ∧ va_Nw (.castable RX4 RX9) s ∧ va_Nw (.castable RX7 RX9) s ∧ va_Nw (.castable RX0 RX9) s ∧ va_Nw (.methodLinkNest RX1 15 yX10_isHour "HammerTowers") s ∧ va_Nc RX9 RX4 s ∧ va_Nc RX7 RX4 s ∧ va_Nc RX9 RX7 s ∧ va_Nc RX4 RX7 s ∧ va_Nc RX0 RX7 s ∧ va_Nc RX9 RX0 s ∧ va_Nc RX4 RX0 s ∧ va_Nc RX7 RX0 s
theorem hexC {G : GG} : EX (exC G) := fun a b hW h => by
  obtain ⟨h0, h1, h2, h3, h4, h5, h6, h7, h8, h9, h10, h11, h12, h13⟩ := h
  exact ⟨h0, va_Nw.warmC hW h1, va_Nw.warmC hW h2, va_Nw.warmC hW h3, va_Nw.warmC hW h4, va_Nw.warmM hW h5, h6.moved hW.alike, h7.moved hW.alike, h8.moved hW.alike, h9.moved hW.alike, h10.moved hW.alike, h11.moved hW.alike, h12.moved hW.alike, h13.moved hW.alike⟩
abbrev wdC (G : GG) (D : va_G) (cy : Nat → ClassId) (ad : AD) (A : Nat → Prop) (μ : MM) (s : State) (H : Heap) : Prop := gwd (dmC G) (cfC G) tyC (exC G) D cy ad A μ s H
theorem up2_ne {f : Nat → Int → Int} {c : Nat} {j v : Int} {c' : Nat} {j' : Int} (h : j' ≠ j) : up2 f c j v c' j' = f c' j' := by simp [up2, h]
theorem cell_congr {D : va_G} {cl : List vw_C} {a n : Nat} {cA : ClassId} {f g : Nat → Int32} {H : Heap} (h : ∀ j, j < n → f j = g j) (q : va_at D cl (a, .inl (cA, n, .inl f)) H) : va_at D cl (a, .inl (cA, n, .inl g)) H := by
  have e : vp_cell cA (n, .inl f) = vp_cell cA (n, .inl g) := by
    rw [vp_cell_i, vp_cell_i]
    unfold arrV
    congr 1
    apply Array.ext
    · simp
    · intro i h1 h2
      simp at h1
      simp [h i h1]
  exact (show H[a]? = some (vp_cell cA (n, .inl f)) from q).trans (congrArg some e)
theorem updS (f : Nat → Int → Int) (b : Int) {a v : Int} (h : 0 ≤ a) : upd (fun j : Nat => iI (f 0 (b + (j : Int)))) a.toNat (iI v) = fun j : Nat => iI (up2 f 0 (b + a) v 0 (b + (j : Int))) := by
  funext j
  by_cases hj : j = a.toNat
  · subst hj
    have e : ((a.toNat : Nat) : Int) = a := Int.toNat_of_nonneg h
    simp [upd, up2, e]
  · have e : ¬ (b + (j : Int)) = b + a := by omega
    simp [upd, up2, hj, e]
section
variable {p : Program} {l : Launch} {e : Env} {R : Room} {s : State} {m : MethodId} {args : Array Value} {below : List Frame} {meth : Method} {c : Code} {H : Heap} {locs : List Loc} {cells slots : Nat} {Q : State → Prop} {cc : ByteArray} {pc nL idx : Nat} {ls : Array Slot} {rest : List Value} {own ref : String}
variable {D : va_G} {cy : Nat → ClassId} {ad : AD} {A : Nat → Prop} {μ μ1 : MM} {G : GG} {i : Int}
theorem gC_H_rows (F : CallFix p m c cc nL s args uw own) (hw : wdC G D cy ad A μ s H) (hl : Cond.fieldLink own idx "HammerTowers" "rows" "[LHammerTowers$Row;" ∈ uw) (hdg : decode cc pc = .ok (.getfield idx, 3)) (kk : W p l e R s m args below meth c H locs cells slots Q (F0 m (pc + 3) ls (.ref (ad 20 0) :: rest))) : W p l e R s m args below meth c H locs cells slots Q (F0 m pc ls (.ref (ad 0 0) :: rest)) := g_get F hw (k := 0) (i := 0) rfl rfl rfl inU10 0 (by decide) hl (fun _ h => h) rfl hdg kk
theorem gC_H_trains (F : CallFix p m c cc nL s args uw own) (hw : wdC G D cy ad A μ s H) (hl : Cond.fieldLink own idx "HammerTowers" "trains" "[LHammerTowers$Train;" ∈ uw) (hdg : decode cc pc = .ok (.getfield idx, 3)) (kk : W p l e R s m args below meth c H locs cells slots Q (F0 m (pc + 3) ls (.ref (ad 21 0) :: rest))) : W p l e R s m args below meth c H locs cells slots Q (F0 m pc ls (.ref (ad 0 0) :: rest)) := g_get F hw (k := 0) (i := 0) rfl rfl rfl inU10 1 (by decide) hl (fun _ h => h) rfl hdg kk
theorem gC_H_trainCount (F : CallFix p m c cc nL s args uw own) (hw : wdC G D cy ad A μ s H) (hl : Cond.fieldLink own idx "HammerTowers" "trainCount" "I" ∈ uw) (hdg : decode cc pc = .ok (.getfield idx, 3)) (kk : W p l e R s m args below meth c H locs cells slots Q (F0 m (pc + 3) ls (.int (iI (μ 0 2 0)) :: rest))) : W p l e R s m args below meth c H locs cells slots Q (F0 m pc ls (.ref (ad 0 0) :: rest)) := g_get F hw (k := 0) (i := 0) rfl rfl rfl inU10 2 (by decide) hl (fun _ h => h) rfl hdg kk
theorem pC_H_trainCount (F : CallFix p m c cc nL s args uw own) (hw : wdC G D cy ad A μ s H) (hS : va_S A s.heap H locs) (hl : Cond.fieldLink own idx "HammerTowers" "trainCount" "I" ∈ uw) {v : Int} (hμ : μ1 = ms μ 0 2 0 v) (hdg : decode cc pc = .ok (.putfield idx, 3)) (kk : ∀ (H1 : Heap) (locs1 : List Loc), wdC G D cy ad A μ1 s H1 → va_S A s.heap H1 locs1 → W p l e R s m args below meth c H1 locs1 cells slots Q (F0 m (pc + 3) ls rest)) : W p l e R s m args below meth c H locs cells slots Q (F0 m pc ls (.int (iI v) :: .ref (ad 0 0) :: rest)) := by
  have hd : dmC G 0 (μ 0) 0 := rfl
  refine g_put F hw hS hd rfl rfl inU10 tyX10 tyX10_ok nmX10 2 (by decide) hl (fun _ h => h) rfl rfl rfl (Nat.le_of_ble_eq_true rfl) hdg (fun H1 locs1 h oq hS1 => kk H1 locs1 ?_ hS1)
  rw [hμ, ms_eq]
  exact hw.put hd oq h (fun _ => Iff.rfl) (fun i hi q => absurd q hi)
theorem gC_H_towers (F : CallFix p m c cc nL s args uw own) (hw : wdC G D cy ad A μ s H) (hl : Cond.fieldLink own idx "HammerTowers" "towers" "[LHammerTowers$Tower;" ∈ uw) (hdg : decode cc pc = .ok (.getfield idx, 3)) (kk : W p l e R s m args below meth c H locs cells slots Q (F0 m (pc + 3) ls (.ref (ad 22 0) :: rest))) : W p l e R s m args below meth c H locs cells slots Q (F0 m pc ls (.ref (ad 0 0) :: rest)) := g_get F hw (k := 0) (i := 0) rfl rfl rfl inU10 3 (by decide) hl (fun _ h => h) rfl hdg kk
theorem gC_H_now (F : CallFix p m c cc nL s args uw own) (hw : wdC G D cy ad A μ s H) (hl : Cond.fieldLink own idx "HammerTowers" "now" "I" ∈ uw) (hdg : decode cc pc = .ok (.getfield idx, 3)) (kk : W p l e R s m args below meth c H locs cells slots Q (F0 m (pc + 3) ls (.int (iI (μ 0 4 0)) :: rest))) : W p l e R s m args below meth c H locs cells slots Q (F0 m pc ls (.ref (ad 0 0) :: rest)) := g_get F hw (k := 0) (i := 0) rfl rfl rfl inU10 4 (by decide) hl (fun _ h => h) rfl hdg kk
theorem pC_H_now (F : CallFix p m c cc nL s args uw own) (hw : wdC G D cy ad A μ s H) (hS : va_S A s.heap H locs) (hl : Cond.fieldLink own idx "HammerTowers" "now" "I" ∈ uw) {v : Int} (hμ : μ1 = ms μ 0 4 0 v) (hdg : decode cc pc = .ok (.putfield idx, 3)) (kk : ∀ (H1 : Heap) (locs1 : List Loc), wdC G D cy ad A μ1 s H1 → va_S A s.heap H1 locs1 → W p l e R s m args below meth c H1 locs1 cells slots Q (F0 m (pc + 3) ls rest)) : W p l e R s m args below meth c H locs cells slots Q (F0 m pc ls (.int (iI v) :: .ref (ad 0 0) :: rest)) := by
  have hd : dmC G 0 (μ 0) 0 := rfl
  refine g_put F hw hS hd rfl rfl inU10 tyX10 tyX10_ok nmX10 4 (by decide) hl (fun _ h => h) rfl rfl rfl (Nat.le_of_ble_eq_true rfl) hdg (fun H1 locs1 h oq hS1 => kk H1 locs1 ?_ hS1)
  rw [hμ, ms_eq]
  exact hw.put hd oq h (fun _ => Iff.rfl) (fun i hi q => absurd q hi)
theorem gC_H_righting (F : CallFix p m c cc nL s args uw own) (hw : wdC G D cy ad A μ s H) (hl : Cond.fieldLink own idx "HammerTowers" "righting" "LHammerTowers$Righting;" ∈ uw) (hdg : decode cc pc = .ok (.getfield idx, 3)) (kk : W p l e R s m args below meth c H locs cells slots Q (F0 m (pc + 3) ls (.ref (ad 5 0) :: rest))) : W p l e R s m args below meth c H locs cells slots Q (F0 m pc ls (.ref (ad 0 0) :: rest)) := g_get F hw (k := 0) (i := 0) rfl rfl rfl inU10 5 (by decide) hl (fun _ h => h) rfl hdg kk
theorem gC_H_faults (F : CallFix p m c cc nL s args uw own) (hw : wdC G D cy ad A μ s H) (hl : Cond.fieldLink own idx "HammerTowers" "faults" "LHammerTowers$FaultFinder;" ∈ uw) (hdg : decode cc pc = .ok (.getfield idx, 3)) (kk : W p l e R s m args below meth c H locs cells slots Q (F0 m (pc + 3) ls (.ref (ad 6 0) :: rest))) : W p l e R s m args below meth c H locs cells slots Q (F0 m pc ls (.ref (ad 0 0) :: rest)) := g_get F hw (k := 0) (i := 0) rfl rfl rfl inU10 6 (by decide) hl (fun _ h => h) rfl hdg kk
theorem gC_H_faultSort (F : CallFix p m c cc nL s args uw own) (hw : wdC G D cy ad A μ s H) (hl : Cond.fieldLink own idx "HammerTowers" "faultSort" "I" ∈ uw) (hdg : decode cc pc = .ok (.getfield idx, 3)) (kk : W p l e R s m args below meth c H locs cells slots Q (F0 m (pc + 3) ls (.int (iI (μ 0 7 0)) :: rest))) : W p l e R s m args below meth c H locs cells slots Q (F0 m pc ls (.ref (ad 0 0) :: rest)) := g_get F hw (k := 0) (i := 0) rfl rfl rfl inU10 7 (by decide) hl (fun _ h => h) rfl hdg kk
theorem pC_H_faultSort (F : CallFix p m c cc nL s args uw own) (hw : wdC G D cy ad A μ s H) (hS : va_S A s.heap H locs) (hl : Cond.fieldLink own idx "HammerTowers" "faultSort" "I" ∈ uw) {v : Int} (hμ : μ1 = ms μ 0 7 0 v) (hdg : decode cc pc = .ok (.putfield idx, 3)) (kk : ∀ (H1 : Heap) (locs1 : List Loc), wdC G D cy ad A μ1 s H1 → va_S A s.heap H1 locs1 → W p l e R s m args below meth c H1 locs1 cells slots Q (F0 m (pc + 3) ls rest)) : W p l e R s m args below meth c H locs cells slots Q (F0 m pc ls (.int (iI v) :: .ref (ad 0 0) :: rest)) := by
  have hd : dmC G 0 (μ 0) 0 := rfl
  refine g_put F hw hS hd rfl rfl inU10 tyX10 tyX10_ok nmX10 7 (by decide) hl (fun _ h => h) rfl rfl rfl (Nat.le_of_ble_eq_true rfl) hdg (fun H1 locs1 h oq hS1 => kk H1 locs1 ?_ hS1)
  rw [hμ, ms_eq]
  exact hw.put hd oq h (fun _ => Iff.rfl) (fun i hi q => absurd q hi)
theorem gC_H_faultFirst (F : CallFix p m c cc nL s args uw own) (hw : wdC G D cy ad A μ s H) (hl : Cond.fieldLink own idx "HammerTowers" "faultFirst" "I" ∈ uw) (hdg : decode cc pc = .ok (.getfield idx, 3)) (kk : W p l e R s m args below meth c H locs cells slots Q (F0 m (pc + 3) ls (.int (iI (μ 0 8 0)) :: rest))) : W p l e R s m args below meth c H locs cells slots Q (F0 m pc ls (.ref (ad 0 0) :: rest)) := g_get F hw (k := 0) (i := 0) rfl rfl rfl inU10 8 (by decide) hl (fun _ h => h) rfl hdg kk
theorem pC_H_faultFirst (F : CallFix p m c cc nL s args uw own) (hw : wdC G D cy ad A μ s H) (hS : va_S A s.heap H locs) (hl : Cond.fieldLink own idx "HammerTowers" "faultFirst" "I" ∈ uw) {v : Int} (hμ : μ1 = ms μ 0 8 0 v) (hdg : decode cc pc = .ok (.putfield idx, 3)) (kk : ∀ (H1 : Heap) (locs1 : List Loc), wdC G D cy ad A μ1 s H1 → va_S A s.heap H1 locs1 → W p l e R s m args below meth c H1 locs1 cells slots Q (F0 m (pc + 3) ls rest)) : W p l e R s m args below meth c H locs cells slots Q (F0 m pc ls (.int (iI v) :: .ref (ad 0 0) :: rest)) := by
  have hd : dmC G 0 (μ 0) 0 := rfl
  refine g_put F hw hS hd rfl rfl inU10 tyX10 tyX10_ok nmX10 8 (by decide) hl (fun _ h => h) rfl rfl rfl (Nat.le_of_ble_eq_true rfl) hdg (fun H1 locs1 h oq hS1 => kk H1 locs1 ?_ hS1)
  rw [hμ, ms_eq]
  exact hw.put hd oq h (fun _ => Iff.rfl) (fun i hi q => absurd q hi)
theorem gC_H_faultSecond (F : CallFix p m c cc nL s args uw own) (hw : wdC G D cy ad A μ s H) (hl : Cond.fieldLink own idx "HammerTowers" "faultSecond" "I" ∈ uw) (hdg : decode cc pc = .ok (.getfield idx, 3)) (kk : W p l e R s m args below meth c H locs cells slots Q (F0 m (pc + 3) ls (.int (iI (μ 0 9 0)) :: rest))) : W p l e R s m args below meth c H locs cells slots Q (F0 m pc ls (.ref (ad 0 0) :: rest)) := g_get F hw (k := 0) (i := 0) rfl rfl rfl inU10 9 (by decide) hl (fun _ h => h) rfl hdg kk
theorem pC_H_faultSecond (F : CallFix p m c cc nL s args uw own) (hw : wdC G D cy ad A μ s H) (hS : va_S A s.heap H locs) (hl : Cond.fieldLink own idx "HammerTowers" "faultSecond" "I" ∈ uw) {v : Int} (hμ : μ1 = ms μ 0 9 0 v) (hdg : decode cc pc = .ok (.putfield idx, 3)) (kk : ∀ (H1 : Heap) (locs1 : List Loc), wdC G D cy ad A μ1 s H1 → va_S A s.heap H1 locs1 → W p l e R s m args below meth c H1 locs1 cells slots Q (F0 m (pc + 3) ls rest)) : W p l e R s m args below meth c H locs cells slots Q (F0 m pc ls (.int (iI v) :: .ref (ad 0 0) :: rest)) := by
  have hd : dmC G 0 (μ 0) 0 := rfl
  refine g_put F hw hS hd rfl rfl inU10 tyX10 tyX10_ok nmX10 9 (by decide) hl (fun _ h => h) rfl rfl rfl (Nat.le_of_ble_eq_true rfl) hdg (fun H1 locs1 h oq hS1 => kk H1 locs1 ?_ hS1)
  rw [hμ, ms_eq]
  exact hw.put hd oq h (fun _ => Iff.rfl) (fun i hi q => absurd q hi)
theorem gC_H_gearing (F : CallFix p m c cc nL s args uw own) (hw : wdC G D cy ad A μ s H) (hl : Cond.fieldLink own idx "HammerTowers" "gearing" "LHammerTowers$Gearing;" ∈ uw) (hdg : decode cc pc = .ok (.getfield idx, 3)) (kk : W p l e R s m args below meth c H locs cells slots Q (F0 m (pc + 3) ls (.ref (ad 7 0) :: rest))) : W p l e R s m args below meth c H locs cells slots Q (F0 m pc ls (.ref (ad 0 0) :: rest)) := g_get F hw (k := 0) (i := 0) rfl rfl rfl inU10 10 (by decide) hl (fun _ h => h) rfl hdg kk
theorem gC_H_asked (F : CallFix p m c cc nL s args uw own) (hw : wdC G D cy ad A μ s H) (hl : Cond.fieldLink own idx "HammerTowers" "asked" "I" ∈ uw) (hdg : decode cc pc = .ok (.getfield idx, 3)) (kk : W p l e R s m args below meth c H locs cells slots Q (F0 m (pc + 3) ls (.int (iI (μ 0 11 0)) :: rest))) : W p l e R s m args below meth c H locs cells slots Q (F0 m pc ls (.ref (ad 0 0) :: rest)) := g_get F hw (k := 0) (i := 0) rfl rfl rfl inU10 11 (by decide) hl (fun _ h => h) rfl hdg kk
theorem pC_H_asked (F : CallFix p m c cc nL s args uw own) (hw : wdC G D cy ad A μ s H) (hS : va_S A s.heap H locs) (hl : Cond.fieldLink own idx "HammerTowers" "asked" "I" ∈ uw) {v : Int} (hμ : μ1 = ms μ 0 11 0 v) (hdg : decode cc pc = .ok (.putfield idx, 3)) (kk : ∀ (H1 : Heap) (locs1 : List Loc), wdC G D cy ad A μ1 s H1 → va_S A s.heap H1 locs1 → W p l e R s m args below meth c H1 locs1 cells slots Q (F0 m (pc + 3) ls rest)) : W p l e R s m args below meth c H locs cells slots Q (F0 m pc ls (.int (iI v) :: .ref (ad 0 0) :: rest)) := by
  have hd : dmC G 0 (μ 0) 0 := rfl
  refine g_put F hw hS hd rfl rfl inU10 tyX10 tyX10_ok nmX10 11 (by decide) hl (fun _ h => h) rfl rfl rfl (Nat.le_of_ble_eq_true rfl) hdg (fun H1 locs1 h oq hS1 => kk H1 locs1 ?_ hS1)
  rw [hμ, ms_eq]
  exact hw.put hd oq h (fun _ => Iff.rfl) (fun i hi q => absurd q hi)
theorem gC_H_finding (F : CallFix p m c cc nL s args uw own) (hw : wdC G D cy ad A μ s H) (hl : Cond.fieldLink own idx "HammerTowers" "finding" "I" ∈ uw) (hdg : decode cc pc = .ok (.getfield idx, 3)) (kk : W p l e R s m args below meth c H locs cells slots Q (F0 m (pc + 3) ls (.int (iI (μ 0 12 0)) :: rest))) : W p l e R s m args below meth c H locs cells slots Q (F0 m pc ls (.ref (ad 0 0) :: rest)) := g_get F hw (k := 0) (i := 0) rfl rfl rfl inU10 12 (by decide) hl (fun _ h => h) rfl hdg kk
theorem pC_H_finding (F : CallFix p m c cc nL s args uw own) (hw : wdC G D cy ad A μ s H) (hS : va_S A s.heap H locs) (hl : Cond.fieldLink own idx "HammerTowers" "finding" "I" ∈ uw) {v : Int} (hμ : μ1 = ms μ 0 12 0 v) (hdg : decode cc pc = .ok (.putfield idx, 3)) (kk : ∀ (H1 : Heap) (locs1 : List Loc), wdC G D cy ad A μ1 s H1 → va_S A s.heap H1 locs1 → W p l e R s m args below meth c H1 locs1 cells slots Q (F0 m (pc + 3) ls rest)) : W p l e R s m args below meth c H locs cells slots Q (F0 m pc ls (.int (iI v) :: .ref (ad 0 0) :: rest)) := by
  have hd : dmC G 0 (μ 0) 0 := rfl
  refine g_put F hw hS hd rfl rfl inU10 tyX10 tyX10_ok nmX10 12 (by decide) hl (fun _ h => h) rfl rfl rfl (Nat.le_of_ble_eq_true rfl) hdg (fun H1 locs1 h oq hS1 => kk H1 locs1 ?_ hS1)
  rw [hμ, ms_eq]
  exact hw.put hd oq h (fun _ => Iff.rfl) (fun i hi q => absurd q hi)
theorem gC_H_findingCounts (F : CallFix p m c cc nL s args uw own) (hw : wdC G D cy ad A μ s H) (hl : Cond.fieldLink own idx "HammerTowers" "findingCounts" "[I" ∈ uw) (hdg : decode cc pc = .ok (.getfield idx, 3)) (kk : W p l e R s m args below meth c H locs cells slots Q (F0 m (pc + 3) ls (.ref (ad 19 0) :: rest))) : W p l e R s m args below meth c H locs cells slots Q (F0 m pc ls (.ref (ad 0 0) :: rest)) := g_get F hw (k := 0) (i := 0) rfl rfl rfl inU10 13 (by decide) hl (fun _ h => h) rfl hdg kk
theorem gC_R_bytes (F : CallFix p m c cc nL s args uw own) (hw : wdC G D cy ad A μ s H) (hi : 0 ≤ i ∧ i < 8) (hl : Cond.fieldLink own idx "HammerTowers$Row" "bytes" "[B" ∈ uw) (hdg : decode cc pc = .ok (.getfield idx, 3)) (kk : W p l e R s m args below meth c H locs cells slots Q (F0 m (pc + 3) ls (.ref (ad 8 i) :: rest))) : W p l e R s m args below meth c H locs cells slots Q (F0 m pc ls (.ref (ad 1 i) :: rest)) := g_get F hw (k := 1) (i := i) hi rfl rfl inU6 0 (by decide) hl (fun _ h => h) rfl hdg kk
theorem gC_R_size (F : CallFix p m c cc nL s args uw own) (hw : wdC G D cy ad A μ s H) (hi : 0 ≤ i ∧ i < 8) (hl : Cond.fieldLink own idx "HammerTowers$Row" "size" "I" ∈ uw) (hdg : decode cc pc = .ok (.getfield idx, 3)) (kk : W p l e R s m args below meth c H locs cells slots Q (F0 m (pc + 3) ls (.int (iI (μ 1 1 i)) :: rest))) : W p l e R s m args below meth c H locs cells slots Q (F0 m pc ls (.ref (ad 1 i) :: rest)) := g_get F hw (k := 1) (i := i) hi rfl rfl inU6 1 (by decide) hl (fun _ h => h) rfl hdg kk
theorem pC_R_size (F : CallFix p m c cc nL s args uw own) (hw : wdC G D cy ad A μ s H) (hS : va_S A s.heap H locs) (hi : 0 ≤ i ∧ i < 8) (hl : Cond.fieldLink own idx "HammerTowers$Row" "size" "I" ∈ uw) {v : Int} (hμ : μ1 = ms μ 1 1 i v) (hdg : decode cc pc = .ok (.putfield idx, 3)) (kk : ∀ (H1 : Heap) (locs1 : List Loc), wdC G D cy ad A μ1 s H1 → va_S A s.heap H1 locs1 → W p l e R s m args below meth c H1 locs1 cells slots Q (F0 m (pc + 3) ls rest)) : W p l e R s m args below meth c H locs cells slots Q (F0 m pc ls (.int (iI v) :: .ref (ad 1 i) :: rest)) := by
  have hd : dmC G 1 (μ 1) i := hi
  refine g_put F hw hS hd rfl rfl inU6 tyX6 tyX6_ok nmX6 1 (by decide) hl (fun _ h => h) rfl rfl rfl (Nat.le_of_ble_eq_true rfl) hdg (fun H1 locs1 h oq hS1 => kk H1 locs1 ?_ hS1)
  rw [hμ, ms_eq]
  refine hw.put hd oq ?_ (fun _ => Iff.rfl) (fun i' hi' _ a H2 q => by rw [show cfC G cy ad 1 (up2 (μ 1) 1 i v) i' = cfC G cy ad 1 (μ 1) i' by simp only [cfC, up2_ne hi']]; exact q)
  simpa [cfC, up2] using h
theorem gC_W_there (F : CallFix p m c cc nL s args uw own) (hw : wdC G D cy ad A μ s H) (hi : 0 ≤ i ∧ i < 4) (hl : Cond.fieldLink own idx "HammerTowers$Tower" "there" "Z" ∈ uw) (hdg : decode cc pc = .ok (.getfield idx, 3)) (kk : W p l e R s m args below meth c H locs cells slots Q (F0 m (pc + 3) ls (.int (iI (μ 3 0 i)) :: rest))) : W p l e R s m args below meth c H locs cells slots Q (F0 m pc ls (.ref (ad 3 i) :: rest)) := g_get F hw (k := 3) (i := i) hi rfl rfl inU8 0 (by decide) hl (fun _ h => h) rfl hdg kk
theorem pC_W_there (F : CallFix p m c cc nL s args uw own) (hw : wdC G D cy ad A μ s H) (hS : va_S A s.heap H locs) (hi : 0 ≤ i ∧ i < 4) (hl : Cond.fieldLink own idx "HammerTowers$Tower" "there" "Z" ∈ uw) {v : Int} (hbv : v = 0 ∨ v = 1) (hμ : μ1 = ms μ 3 0 i v) (hdg : decode cc pc = .ok (.putfield idx, 3)) (kk : ∀ (H1 : Heap) (locs1 : List Loc), wdC G D cy ad A μ1 s H1 → va_S A s.heap H1 locs1 → W p l e R s m args below meth c H1 locs1 cells slots Q (F0 m (pc + 3) ls rest)) : W p l e R s m args below meth c H locs cells slots Q (F0 m pc ls (.int (iI v) :: .ref (ad 3 i) :: rest)) := by
  have hd : dmC G 3 (μ 3) i := hi
  refine g_put F hw hS hd rfl rfl inU8 tyX8 tyX8_ok nmX8 0 (by decide) hl (fun _ h => h) rfl (by rcases hbv with rfl | rfl <;> rfl) (by rcases hbv with rfl | rfl <;> rfl) (Nat.le_of_ble_eq_true rfl) hdg (fun H1 locs1 h oq hS1 => kk H1 locs1 ?_ hS1)
  rw [hμ, ms_eq]
  refine hw.put hd oq ?_ (fun _ => Iff.rfl) (fun i' hi' _ a H2 q => by rw [show cfC G cy ad 3 (up2 (μ 3) 0 i v) i' = cfC G cy ad 3 (μ 3) i' by simp only [cfC, up2_ne hi']]; exact q)
  simpa [cfC, up2] using h
theorem gC_W_hands (F : CallFix p m c cc nL s args uw own) (hw : wdC G D cy ad A μ s H) (hi : 0 ≤ i ∧ i < 4) (hl : Cond.fieldLink own idx "HammerTowers$Tower" "hands" "I" ∈ uw) (hdg : decode cc pc = .ok (.getfield idx, 3)) (kk : W p l e R s m args below meth c H locs cells slots Q (F0 m (pc + 3) ls (.int (iI (μ 3 1 i)) :: rest))) : W p l e R s m args below meth c H locs cells slots Q (F0 m pc ls (.ref (ad 3 i) :: rest)) := g_get F hw (k := 3) (i := i) hi rfl rfl inU8 1 (by decide) hl (fun _ h => h) rfl hdg kk
theorem pC_W_hands (F : CallFix p m c cc nL s args uw own) (hw : wdC G D cy ad A μ s H) (hS : va_S A s.heap H locs) (hi : 0 ≤ i ∧ i < 4) (hl : Cond.fieldLink own idx "HammerTowers$Tower" "hands" "I" ∈ uw) {v : Int} (hμ : μ1 = ms μ 3 1 i v) (hdg : decode cc pc = .ok (.putfield idx, 3)) (kk : ∀ (H1 : Heap) (locs1 : List Loc), wdC G D cy ad A μ1 s H1 → va_S A s.heap H1 locs1 → W p l e R s m args below meth c H1 locs1 cells slots Q (F0 m (pc + 3) ls rest)) : W p l e R s m args below meth c H locs cells slots Q (F0 m pc ls (.int (iI v) :: .ref (ad 3 i) :: rest)) := by
  have hd : dmC G 3 (μ 3) i := hi
  refine g_put F hw hS hd rfl rfl inU8 tyX8 tyX8_ok nmX8 1 (by decide) hl (fun _ h => h) rfl rfl rfl (Nat.le_of_ble_eq_true rfl) hdg (fun H1 locs1 h oq hS1 => kk H1 locs1 ?_ hS1)
  rw [hμ, ms_eq]
  refine hw.put hd oq ?_ (fun _ => Iff.rfl) (fun i' hi' _ a H2 q => by rw [show cfC G cy ad 3 (up2 (μ 3) 1 i v) i' = cfC G cy ad 3 (μ 3) i' by simp only [cfC, up2_ne hi']]; exact q)
  simpa [cfC, up2] using h
theorem gC_W_rate (F : CallFix p m c cc nL s args uw own) (hw : wdC G D cy ad A μ s H) (hi : 0 ≤ i ∧ i < 4) (hl : Cond.fieldLink own idx "HammerTowers$Tower" "rate" "I" ∈ uw) (hdg : decode cc pc = .ok (.getfield idx, 3)) (kk : W p l e R s m args below meth c H locs cells slots Q (F0 m (pc + 3) ls (.int (iI (μ 3 2 i)) :: rest))) : W p l e R s m args below meth c H locs cells slots Q (F0 m pc ls (.ref (ad 3 i) :: rest)) := g_get F hw (k := 3) (i := i) hi rfl rfl inU8 2 (by decide) hl (fun _ h => h) rfl hdg kk
theorem pC_W_rate (F : CallFix p m c cc nL s args uw own) (hw : wdC G D cy ad A μ s H) (hS : va_S A s.heap H locs) (hi : 0 ≤ i ∧ i < 4) (hl : Cond.fieldLink own idx "HammerTowers$Tower" "rate" "I" ∈ uw) {v : Int} (hμ : μ1 = ms μ 3 2 i v) (hdg : decode cc pc = .ok (.putfield idx, 3)) (kk : ∀ (H1 : Heap) (locs1 : List Loc), wdC G D cy ad A μ1 s H1 → va_S A s.heap H1 locs1 → W p l e R s m args below meth c H1 locs1 cells slots Q (F0 m (pc + 3) ls rest)) : W p l e R s m args below meth c H locs cells slots Q (F0 m pc ls (.int (iI v) :: .ref (ad 3 i) :: rest)) := by
  have hd : dmC G 3 (μ 3) i := hi
  refine g_put F hw hS hd rfl rfl inU8 tyX8 tyX8_ok nmX8 2 (by decide) hl (fun _ h => h) rfl rfl rfl (Nat.le_of_ble_eq_true rfl) hdg (fun H1 locs1 h oq hS1 => kk H1 locs1 ?_ hS1)
  rw [hμ, ms_eq]
  refine hw.put hd oq ?_ (fun _ => Iff.rfl) (fun i' hi' _ a H2 q => by rw [show cfC G cy ad 3 (up2 (μ 3) 2 i v) i' = cfC G cy ad 3 (μ 3) i' by simp only [cfC, up2_ne hi']]; exact q)
  simpa [cfC, up2] using h
theorem gC_W_sum (F : CallFix p m c cc nL s args uw own) (hw : wdC G D cy ad A μ s H) (hi : 0 ≤ i ∧ i < 4) (hl : Cond.fieldLink own idx "HammerTowers$Tower" "sum" "I" ∈ uw) (hdg : decode cc pc = .ok (.getfield idx, 3)) (kk : W p l e R s m args below meth c H locs cells slots Q (F0 m (pc + 3) ls (.int (iI (μ 3 3 i)) :: rest))) : W p l e R s m args below meth c H locs cells slots Q (F0 m pc ls (.ref (ad 3 i) :: rest)) := g_get F hw (k := 3) (i := i) hi rfl rfl inU8 3 (by decide) hl (fun _ h => h) rfl hdg kk
theorem pC_W_sum (F : CallFix p m c cc nL s args uw own) (hw : wdC G D cy ad A μ s H) (hS : va_S A s.heap H locs) (hi : 0 ≤ i ∧ i < 4) (hl : Cond.fieldLink own idx "HammerTowers$Tower" "sum" "I" ∈ uw) {v : Int} (hμ : μ1 = ms μ 3 3 i v) (hdg : decode cc pc = .ok (.putfield idx, 3)) (kk : ∀ (H1 : Heap) (locs1 : List Loc), wdC G D cy ad A μ1 s H1 → va_S A s.heap H1 locs1 → W p l e R s m args below meth c H1 locs1 cells slots Q (F0 m (pc + 3) ls rest)) : W p l e R s m args below meth c H locs cells slots Q (F0 m pc ls (.int (iI v) :: .ref (ad 3 i) :: rest)) := by
  have hd : dmC G 3 (μ 3) i := hi
  refine g_put F hw hS hd rfl rfl inU8 tyX8 tyX8_ok nmX8 3 (by decide) hl (fun _ h => h) rfl rfl rfl (Nat.le_of_ble_eq_true rfl) hdg (fun H1 locs1 h oq hS1 => kk H1 locs1 ?_ hS1)
  rw [hμ, ms_eq]
  refine hw.put hd oq ?_ (fun _ => Iff.rfl) (fun i' hi' _ a H2 q => by rw [show cfC G cy ad 3 (up2 (μ 3) 3 i v) i' = cfC G cy ad 3 (μ 3) i' by simp only [cfC, up2_ne hi']]; exact q)
  simpa [cfC, up2] using h
theorem gC_W_going (F : CallFix p m c cc nL s args uw own) (hw : wdC G D cy ad A μ s H) (hi : 0 ≤ i ∧ i < 4) (hl : Cond.fieldLink own idx "HammerTowers$Tower" "going" "I" ∈ uw) (hdg : decode cc pc = .ok (.getfield idx, 3)) (kk : W p l e R s m args below meth c H locs cells slots Q (F0 m (pc + 3) ls (.int (iI (μ 3 4 i)) :: rest))) : W p l e R s m args below meth c H locs cells slots Q (F0 m pc ls (.ref (ad 3 i) :: rest)) := g_get F hw (k := 3) (i := i) hi rfl rfl inU8 4 (by decide) hl (fun _ h => h) rfl hdg kk
theorem pC_W_going (F : CallFix p m c cc nL s args uw own) (hw : wdC G D cy ad A μ s H) (hS : va_S A s.heap H locs) (hi : 0 ≤ i ∧ i < 4) (hl : Cond.fieldLink own idx "HammerTowers$Tower" "going" "I" ∈ uw) {v : Int} (hμ : μ1 = ms μ 3 4 i v) (hdg : decode cc pc = .ok (.putfield idx, 3)) (kk : ∀ (H1 : Heap) (locs1 : List Loc), wdC G D cy ad A μ1 s H1 → va_S A s.heap H1 locs1 → W p l e R s m args below meth c H1 locs1 cells slots Q (F0 m (pc + 3) ls rest)) : W p l e R s m args below meth c H locs cells slots Q (F0 m pc ls (.int (iI v) :: .ref (ad 3 i) :: rest)) := by
  have hd : dmC G 3 (μ 3) i := hi
  refine g_put F hw hS hd rfl rfl inU8 tyX8 tyX8_ok nmX8 4 (by decide) hl (fun _ h => h) rfl rfl rfl (Nat.le_of_ble_eq_true rfl) hdg (fun H1 locs1 h oq hS1 => kk H1 locs1 ?_ hS1)
  rw [hμ, ms_eq]
  refine hw.put hd oq ?_ (fun _ => Iff.rfl) (fun i' hi' _ a H2 q => by rw [show cfC G cy ad 3 (up2 (μ 3) 4 i v) i' = cfC G cy ad 3 (μ 3) i' by simp only [cfC, up2_ne hi']]; exact q)
  simpa [cfC, up2] using h
theorem gC_W_goes (F : CallFix p m c cc nL s args uw own) (hw : wdC G D cy ad A μ s H) (hi : 0 ≤ i ∧ i < 4) (hl : Cond.fieldLink own idx "HammerTowers$Tower" "goes" "Z" ∈ uw) (hdg : decode cc pc = .ok (.getfield idx, 3)) (kk : W p l e R s m args below meth c H locs cells slots Q (F0 m (pc + 3) ls (.int (iI (μ 3 5 i)) :: rest))) : W p l e R s m args below meth c H locs cells slots Q (F0 m pc ls (.ref (ad 3 i) :: rest)) := g_get F hw (k := 3) (i := i) hi rfl rfl inU8 5 (by decide) hl (fun _ h => h) rfl hdg kk
theorem pC_W_goes (F : CallFix p m c cc nL s args uw own) (hw : wdC G D cy ad A μ s H) (hS : va_S A s.heap H locs) (hi : 0 ≤ i ∧ i < 4) (hl : Cond.fieldLink own idx "HammerTowers$Tower" "goes" "Z" ∈ uw) {v : Int} (hbv : v = 0 ∨ v = 1) (hμ : μ1 = ms μ 3 5 i v) (hdg : decode cc pc = .ok (.putfield idx, 3)) (kk : ∀ (H1 : Heap) (locs1 : List Loc), wdC G D cy ad A μ1 s H1 → va_S A s.heap H1 locs1 → W p l e R s m args below meth c H1 locs1 cells slots Q (F0 m (pc + 3) ls rest)) : W p l e R s m args below meth c H locs cells slots Q (F0 m pc ls (.int (iI v) :: .ref (ad 3 i) :: rest)) := by
  have hd : dmC G 3 (μ 3) i := hi
  refine g_put F hw hS hd rfl rfl inU8 tyX8 tyX8_ok nmX8 5 (by decide) hl (fun _ h => h) rfl (by rcases hbv with rfl | rfl <;> rfl) (by rcases hbv with rfl | rfl <;> rfl) (Nat.le_of_ble_eq_true rfl) hdg (fun H1 locs1 h oq hS1 => kk H1 locs1 ?_ hS1)
  rw [hμ, ms_eq]
  refine hw.put hd oq ?_ (fun _ => Iff.rfl) (fun i' hi' _ a H2 q => by rw [show cfC G cy ad 3 (up2 (μ 3) 5 i v) i' = cfC G cy ad 3 (μ 3) i' by simp only [cfC, up2_ne hi']]; exact q)
  simpa [cfC, up2] using h
theorem gC_W_hourTrain (F : CallFix p m c cc nL s args uw own) (hw : wdC G D cy ad A μ s H) (hi : 0 ≤ i ∧ i < 4) (hl : Cond.fieldLink own idx "HammerTowers$Tower" "hourTrain" "LHammerTowers$Train;" ∈ uw) (hdg : decode cc pc = .ok (.getfield idx, 3)) (kk : W p l e R s m args below meth c H locs cells slots Q (F0 m (pc + 3) ls (rf ad 2 (μ 3 6 i) :: rest))) : W p l e R s m args below meth c H locs cells slots Q (F0 m pc ls (.ref (ad 3 i) :: rest)) := g_get F hw (k := 3) (i := i) hi rfl rfl inU8 6 (by decide) hl (fun _ h => h) rfl hdg kk
theorem pC_W_hourTrain (F : CallFix p m c cc nL s args uw own) (hw : wdC G D cy ad A μ s H) (hS : va_S A s.heap H locs) (hi : 0 ≤ i ∧ i < 4) (hl : Cond.fieldLink own idx "HammerTowers$Tower" "hourTrain" "LHammerTowers$Train;" ∈ uw) {v : Int} (hμ : μ1 = ms μ 3 6 i v) (hdg : decode cc pc = .ok (.putfield idx, 3)) (kk : ∀ (H1 : Heap) (locs1 : List Loc), wdC G D cy ad A μ1 s H1 → va_S A s.heap H1 locs1 → W p l e R s m args below meth c H1 locs1 cells slots Q (F0 m (pc + 3) ls rest)) : W p l e R s m args below meth c H locs cells slots Q (F0 m pc ls (rf ad 2 v :: .ref (ad 3 i) :: rest)) := by
  have hd : dmC G 3 (μ 3) i := hi
  refine g_put F hw hS hd rfl rfl inU8 tyX8 tyX8_ok nmX8 6 (by decide) hl (fun _ h => h) rfl (by unfold rf; split <;> rfl) (by unfold rf; split <;> rfl) (Nat.le_of_ble_eq_true rfl) hdg (fun H1 locs1 h oq hS1 => kk H1 locs1 ?_ hS1)
  rw [hμ, ms_eq]
  refine hw.put hd oq ?_ (fun _ => Iff.rfl) (fun i' hi' _ a H2 q => by rw [show cfC G cy ad 3 (up2 (μ 3) 6 i v) i' = cfC G cy ad 3 (μ 3) i' by simp only [cfC, up2_ne hi']]; exact q)
  simpa [cfC, up2] using h
theorem gC_W_quarterTrain (F : CallFix p m c cc nL s args uw own) (hw : wdC G D cy ad A μ s H) (hi : 0 ≤ i ∧ i < 4) (hl : Cond.fieldLink own idx "HammerTowers$Tower" "quarterTrain" "LHammerTowers$Train;" ∈ uw) (hdg : decode cc pc = .ok (.getfield idx, 3)) (kk : W p l e R s m args below meth c H locs cells slots Q (F0 m (pc + 3) ls (rf ad 2 (μ 3 7 i) :: rest))) : W p l e R s m args below meth c H locs cells slots Q (F0 m pc ls (.ref (ad 3 i) :: rest)) := g_get F hw (k := 3) (i := i) hi rfl rfl inU8 7 (by decide) hl (fun _ h => h) rfl hdg kk
theorem pC_W_quarterTrain (F : CallFix p m c cc nL s args uw own) (hw : wdC G D cy ad A μ s H) (hS : va_S A s.heap H locs) (hi : 0 ≤ i ∧ i < 4) (hl : Cond.fieldLink own idx "HammerTowers$Tower" "quarterTrain" "LHammerTowers$Train;" ∈ uw) {v : Int} (hμ : μ1 = ms μ 3 7 i v) (hdg : decode cc pc = .ok (.putfield idx, 3)) (kk : ∀ (H1 : Heap) (locs1 : List Loc), wdC G D cy ad A μ1 s H1 → va_S A s.heap H1 locs1 → W p l e R s m args below meth c H1 locs1 cells slots Q (F0 m (pc + 3) ls rest)) : W p l e R s m args below meth c H locs cells slots Q (F0 m pc ls (rf ad 2 v :: .ref (ad 3 i) :: rest)) := by
  have hd : dmC G 3 (μ 3) i := hi
  refine g_put F hw hS hd rfl rfl inU8 tyX8 tyX8_ok nmX8 7 (by decide) hl (fun _ h => h) rfl (by unfold rf; split <;> rfl) (by unfold rf; split <;> rfl) (Nat.le_of_ble_eq_true rfl) hdg (fun H1 locs1 h oq hS1 => kk H1 locs1 ?_ hS1)
  rw [hμ, ms_eq]
  refine hw.put hd oq ?_ (fun _ => Iff.rfl) (fun i' hi' _ a H2 q => by rw [show cfC G cy ad 3 (up2 (μ 3) 7 i v) i' = cfC G cy ad 3 (μ 3) i' by simp only [cfC, up2_ne hi']]; exact q)
  simpa [cfC, up2] using h
theorem gC_W_silentFrom (F : CallFix p m c cc nL s args uw own) (hw : wdC G D cy ad A μ s H) (hi : 0 ≤ i ∧ i < 4) (hl : Cond.fieldLink own idx "HammerTowers$Tower" "silentFrom" "I" ∈ uw) (hdg : decode cc pc = .ok (.getfield idx, 3)) (kk : W p l e R s m args below meth c H locs cells slots Q (F0 m (pc + 3) ls (.int (iI (μ 3 8 i)) :: rest))) : W p l e R s m args below meth c H locs cells slots Q (F0 m pc ls (.ref (ad 3 i) :: rest)) := g_get F hw (k := 3) (i := i) hi rfl rfl inU8 8 (by decide) hl (fun _ h => h) rfl hdg kk
theorem pC_W_silentFrom (F : CallFix p m c cc nL s args uw own) (hw : wdC G D cy ad A μ s H) (hS : va_S A s.heap H locs) (hi : 0 ≤ i ∧ i < 4) (hl : Cond.fieldLink own idx "HammerTowers$Tower" "silentFrom" "I" ∈ uw) {v : Int} (hμ : μ1 = ms μ 3 8 i v) (hdg : decode cc pc = .ok (.putfield idx, 3)) (kk : ∀ (H1 : Heap) (locs1 : List Loc), wdC G D cy ad A μ1 s H1 → va_S A s.heap H1 locs1 → W p l e R s m args below meth c H1 locs1 cells slots Q (F0 m (pc + 3) ls rest)) : W p l e R s m args below meth c H locs cells slots Q (F0 m pc ls (.int (iI v) :: .ref (ad 3 i) :: rest)) := by
  have hd : dmC G 3 (μ 3) i := hi
  refine g_put F hw hS hd rfl rfl inU8 tyX8 tyX8_ok nmX8 8 (by decide) hl (fun _ h => h) rfl rfl rfl (Nat.le_of_ble_eq_true rfl) hdg (fun H1 locs1 h oq hS1 => kk H1 locs1 ?_ hS1)
  rw [hμ, ms_eq]
  refine hw.put hd oq ?_ (fun _ => Iff.rfl) (fun i' hi' _ a H2 q => by rw [show cfC G cy ad 3 (up2 (μ 3) 8 i v) i' = cfC G cy ad 3 (μ 3) i' by simp only [cfC, up2_ne hi']]; exact q)
  simpa [cfC, up2] using h
theorem gC_W_silentTo (F : CallFix p m c cc nL s args uw own) (hw : wdC G D cy ad A μ s H) (hi : 0 ≤ i ∧ i < 4) (hl : Cond.fieldLink own idx "HammerTowers$Tower" "silentTo" "I" ∈ uw) (hdg : decode cc pc = .ok (.getfield idx, 3)) (kk : W p l e R s m args below meth c H locs cells slots Q (F0 m (pc + 3) ls (.int (iI (μ 3 9 i)) :: rest))) : W p l e R s m args below meth c H locs cells slots Q (F0 m pc ls (.ref (ad 3 i) :: rest)) := g_get F hw (k := 3) (i := i) hi rfl rfl inU8 9 (by decide) hl (fun _ h => h) rfl hdg kk
theorem pC_W_silentTo (F : CallFix p m c cc nL s args uw own) (hw : wdC G D cy ad A μ s H) (hS : va_S A s.heap H locs) (hi : 0 ≤ i ∧ i < 4) (hl : Cond.fieldLink own idx "HammerTowers$Tower" "silentTo" "I" ∈ uw) {v : Int} (hμ : μ1 = ms μ 3 9 i v) (hdg : decode cc pc = .ok (.putfield idx, 3)) (kk : ∀ (H1 : Heap) (locs1 : List Loc), wdC G D cy ad A μ1 s H1 → va_S A s.heap H1 locs1 → W p l e R s m args below meth c H1 locs1 cells slots Q (F0 m (pc + 3) ls rest)) : W p l e R s m args below meth c H locs cells slots Q (F0 m pc ls (.int (iI v) :: .ref (ad 3 i) :: rest)) := by
  have hd : dmC G 3 (μ 3) i := hi
  refine g_put F hw hS hd rfl rfl inU8 tyX8 tyX8_ok nmX8 9 (by decide) hl (fun _ h => h) rfl rfl rfl (Nat.le_of_ble_eq_true rfl) hdg (fun H1 locs1 h oq hS1 => kk H1 locs1 ?_ hS1)
  rw [hμ, ms_eq]
  refine hw.put hd oq ?_ (fun _ => Iff.rfl) (fun i' hi' _ a H2 q => by rw [show cfC G cy ad 3 (up2 (μ 3) 9 i v) i' = cfC G cy ad 3 (μ 3) i' by simp only [cfC, up2_ne hi']]; exact q)
  simpa [cfC, up2] using h
theorem gC_W_silentSort (F : CallFix p m c cc nL s args uw own) (hw : wdC G D cy ad A μ s H) (hi : 0 ≤ i ∧ i < 4) (hl : Cond.fieldLink own idx "HammerTowers$Tower" "silentSort" "I" ∈ uw) (hdg : decode cc pc = .ok (.getfield idx, 3)) (kk : W p l e R s m args below meth c H locs cells slots Q (F0 m (pc + 3) ls (.int (iI (μ 3 10 i)) :: rest))) : W p l e R s m args below meth c H locs cells slots Q (F0 m pc ls (.ref (ad 3 i) :: rest)) := g_get F hw (k := 3) (i := i) hi rfl rfl inU8 10 (by decide) hl (fun _ h => h) rfl hdg kk
theorem pC_W_silentSort (F : CallFix p m c cc nL s args uw own) (hw : wdC G D cy ad A μ s H) (hS : va_S A s.heap H locs) (hi : 0 ≤ i ∧ i < 4) (hl : Cond.fieldLink own idx "HammerTowers$Tower" "silentSort" "I" ∈ uw) {v : Int} (hμ : μ1 = ms μ 3 10 i v) (hdg : decode cc pc = .ok (.putfield idx, 3)) (kk : ∀ (H1 : Heap) (locs1 : List Loc), wdC G D cy ad A μ1 s H1 → va_S A s.heap H1 locs1 → W p l e R s m args below meth c H1 locs1 cells slots Q (F0 m (pc + 3) ls rest)) : W p l e R s m args below meth c H locs cells slots Q (F0 m pc ls (.int (iI v) :: .ref (ad 3 i) :: rest)) := by
  have hd : dmC G 3 (μ 3) i := hi
  refine g_put F hw hS hd rfl rfl inU8 tyX8 tyX8_ok nmX8 10 (by decide) hl (fun _ h => h) rfl rfl rfl (Nat.le_of_ble_eq_true rfl) hdg (fun H1 locs1 h oq hS1 => kk H1 locs1 ?_ hS1)
  rw [hμ, ms_eq]
  refine hw.put hd oq ?_ (fun _ => Iff.rfl) (fun i' hi' _ a H2 q => by rw [show cfC G cy ad 3 (up2 (μ 3) 10 i v) i' = cfC G cy ad 3 (μ 3) i' by simp only [cfC, up2_ne hi']]; exact q)
  simpa [cfC, up2] using h
theorem gC_W_log (F : CallFix p m c cc nL s args uw own) (hw : wdC G D cy ad A μ s H) (hi : 0 ≤ i ∧ i < 4) (hl : Cond.fieldLink own idx "HammerTowers$Tower" "log" "LHammerTowers$Log;" ∈ uw) (hdg : decode cc pc = .ok (.getfield idx, 3)) (kk : W p l e R s m args below meth c H locs cells slots Q (F0 m (pc + 3) ls (.ref (ad 4 i) :: rest))) : W p l e R s m args below meth c H locs cells slots Q (F0 m pc ls (.ref (ad 3 i) :: rest)) := g_get F hw (k := 3) (i := i) hi rfl rfl inU8 11 (by decide) hl (fun _ h => h) rfl hdg kk
theorem gC_L_when (F : CallFix p m c cc nL s args uw own) (hw : wdC G D cy ad A μ s H) (hi : 0 ≤ i ∧ i < 4) (hl : Cond.fieldLink own idx "HammerTowers$Log" "when" "[I" ∈ uw) (hdg : decode cc pc = .ok (.getfield idx, 3)) (kk : W p l e R s m args below meth c H locs cells slots Q (F0 m (pc + 3) ls (.ref (ad 11 i) :: rest))) : W p l e R s m args below meth c H locs cells slots Q (F0 m pc ls (.ref (ad 4 i) :: rest)) := g_get F hw (k := 4) (i := i) hi rfl rfl inU3 0 (by decide) hl (fun _ h => h) rfl hdg kk
theorem gC_L_which (F : CallFix p m c cc nL s args uw own) (hw : wdC G D cy ad A μ s H) (hi : 0 ≤ i ∧ i < 4) (hl : Cond.fieldLink own idx "HammerTowers$Log" "which" "[I" ∈ uw) (hdg : decode cc pc = .ok (.getfield idx, 3)) (kk : W p l e R s m args below meth c H locs cells slots Q (F0 m (pc + 3) ls (.ref (ad 12 i) :: rest))) : W p l e R s m args below meth c H locs cells slots Q (F0 m pc ls (.ref (ad 4 i) :: rest)) := g_get F hw (k := 4) (i := i) hi rfl rfl inU3 1 (by decide) hl (fun _ h => h) rfl hdg kk
theorem gC_L_strokes (F : CallFix p m c cc nL s args uw own) (hw : wdC G D cy ad A μ s H) (hi : 0 ≤ i ∧ i < 4) (hl : Cond.fieldLink own idx "HammerTowers$Log" "strokes" "[I" ∈ uw) (hdg : decode cc pc = .ok (.getfield idx, 3)) (kk : W p l e R s m args below meth c H locs cells slots Q (F0 m (pc + 3) ls (.ref (ad 13 i) :: rest))) : W p l e R s m args below meth c H locs cells slots Q (F0 m pc ls (.ref (ad 4 i) :: rest)) := g_get F hw (k := 4) (i := i) hi rfl rfl inU3 2 (by decide) hl (fun _ h => h) rfl hdg kk
theorem gC_L_hammers (F : CallFix p m c cc nL s args uw own) (hw : wdC G D cy ad A μ s H) (hi : 0 ≤ i ∧ i < 4) (hl : Cond.fieldLink own idx "HammerTowers$Log" "hammers" "[I" ∈ uw) (hdg : decode cc pc = .ok (.getfield idx, 3)) (kk : W p l e R s m args below meth c H locs cells slots Q (F0 m (pc + 3) ls (.ref (ad 14 i) :: rest))) : W p l e R s m args below meth c H locs cells slots Q (F0 m pc ls (.ref (ad 4 i) :: rest)) := g_get F hw (k := 4) (i := i) hi rfl rfl inU3 3 (by decide) hl (fun _ h => h) rfl hdg kk
theorem gC_L_next (F : CallFix p m c cc nL s args uw own) (hw : wdC G D cy ad A μ s H) (hi : 0 ≤ i ∧ i < 4) (hl : Cond.fieldLink own idx "HammerTowers$Log" "next" "I" ∈ uw) (hdg : decode cc pc = .ok (.getfield idx, 3)) (kk : W p l e R s m args below meth c H locs cells slots Q (F0 m (pc + 3) ls (.int (iI (μ 4 4 i)) :: rest))) : W p l e R s m args below meth c H locs cells slots Q (F0 m pc ls (.ref (ad 4 i) :: rest)) := g_get F hw (k := 4) (i := i) hi rfl rfl inU3 4 (by decide) hl (fun _ h => h) rfl hdg kk
theorem pC_L_next (F : CallFix p m c cc nL s args uw own) (hw : wdC G D cy ad A μ s H) (hS : va_S A s.heap H locs) (hi : 0 ≤ i ∧ i < 4) (hl : Cond.fieldLink own idx "HammerTowers$Log" "next" "I" ∈ uw) {v : Int} (hμ : μ1 = ms μ 4 4 i v) (hdg : decode cc pc = .ok (.putfield idx, 3)) (kk : ∀ (H1 : Heap) (locs1 : List Loc), wdC G D cy ad A μ1 s H1 → va_S A s.heap H1 locs1 → W p l e R s m args below meth c H1 locs1 cells slots Q (F0 m (pc + 3) ls rest)) : W p l e R s m args below meth c H locs cells slots Q (F0 m pc ls (.int (iI v) :: .ref (ad 4 i) :: rest)) := by
  have hd : dmC G 4 (μ 4) i := hi
  refine g_put F hw hS hd rfl rfl inU3 tyX3 tyX3_ok nmX3 4 (by decide) hl (fun _ h => h) rfl rfl rfl (Nat.le_of_ble_eq_true rfl) hdg (fun H1 locs1 h oq hS1 => kk H1 locs1 ?_ hS1)
  rw [hμ, ms_eq]
  refine hw.put hd oq ?_ (fun _ => Iff.rfl) (fun i' hi' _ a H2 q => by rw [show cfC G cy ad 4 (up2 (μ 4) 4 i v) i' = cfC G cy ad 4 (μ 4) i' by simp only [cfC, up2_ne hi']]; exact q)
  simpa [cfC, up2] using h
theorem gC_L_size (F : CallFix p m c cc nL s args uw own) (hw : wdC G D cy ad A μ s H) (hi : 0 ≤ i ∧ i < 4) (hl : Cond.fieldLink own idx "HammerTowers$Log" "size" "I" ∈ uw) (hdg : decode cc pc = .ok (.getfield idx, 3)) (kk : W p l e R s m args below meth c H locs cells slots Q (F0 m (pc + 3) ls (.int (iI (μ 4 5 i)) :: rest))) : W p l e R s m args below meth c H locs cells slots Q (F0 m pc ls (.ref (ad 4 i) :: rest)) := g_get F hw (k := 4) (i := i) hi rfl rfl inU3 5 (by decide) hl (fun _ h => h) rfl hdg kk
theorem pC_L_size (F : CallFix p m c cc nL s args uw own) (hw : wdC G D cy ad A μ s H) (hS : va_S A s.heap H locs) (hi : 0 ≤ i ∧ i < 4) (hl : Cond.fieldLink own idx "HammerTowers$Log" "size" "I" ∈ uw) {v : Int} (hμ : μ1 = ms μ 4 5 i v) (hdg : decode cc pc = .ok (.putfield idx, 3)) (kk : ∀ (H1 : Heap) (locs1 : List Loc), wdC G D cy ad A μ1 s H1 → va_S A s.heap H1 locs1 → W p l e R s m args below meth c H1 locs1 cells slots Q (F0 m (pc + 3) ls rest)) : W p l e R s m args below meth c H locs cells slots Q (F0 m pc ls (.int (iI v) :: .ref (ad 4 i) :: rest)) := by
  have hd : dmC G 4 (μ 4) i := hi
  refine g_put F hw hS hd rfl rfl inU3 tyX3 tyX3_ok nmX3 5 (by decide) hl (fun _ h => h) rfl rfl rfl (Nat.le_of_ble_eq_true rfl) hdg (fun H1 locs1 h oq hS1 => kk H1 locs1 ?_ hS1)
  rw [hμ, ms_eq]
  refine hw.put hd oq ?_ (fun _ => Iff.rfl) (fun i' hi' _ a H2 q => by rw [show cfC G cy ad 4 (up2 (μ 4) 5 i v) i' = cfC G cy ad 4 (μ 4) i' by simp only [cfC, up2_ne hi']]; exact q)
  simpa [cfC, up2] using h
theorem gC_A_acts (F : CallFix p m c cc nL s args uw own) (hw : wdC G D cy ad A μ s H) (hl : Cond.fieldLink own idx "HammerTowers$Righting" "acts" "[I" ∈ uw) (hdg : decode cc pc = .ok (.getfield idx, 3)) (kk : W p l e R s m args below meth c H locs cells slots Q (F0 m (pc + 3) ls (.ref (ad 15 0) :: rest))) : W p l e R s m args below meth c H locs cells slots Q (F0 m pc ls (.ref (ad 5 0) :: rest)) := g_get F hw (k := 5) (i := 0) rfl rfl rfl inU5 0 (by decide) hl (fun _ h => h) rfl hdg kk
theorem gC_A_count (F : CallFix p m c cc nL s args uw own) (hw : wdC G D cy ad A μ s H) (hl : Cond.fieldLink own idx "HammerTowers$Righting" "count" "I" ∈ uw) (hdg : decode cc pc = .ok (.getfield idx, 3)) (kk : W p l e R s m args below meth c H locs cells slots Q (F0 m (pc + 3) ls (.int (iI (μ 5 1 0)) :: rest))) : W p l e R s m args below meth c H locs cells slots Q (F0 m pc ls (.ref (ad 5 0) :: rest)) := g_get F hw (k := 5) (i := 0) rfl rfl rfl inU5 1 (by decide) hl (fun _ h => h) rfl hdg kk
theorem pC_A_count (F : CallFix p m c cc nL s args uw own) (hw : wdC G D cy ad A μ s H) (hS : va_S A s.heap H locs) (hl : Cond.fieldLink own idx "HammerTowers$Righting" "count" "I" ∈ uw) {v : Int} (hμ : μ1 = ms μ 5 1 0 v) (hdg : decode cc pc = .ok (.putfield idx, 3)) (kk : ∀ (H1 : Heap) (locs1 : List Loc), wdC G D cy ad A μ1 s H1 → va_S A s.heap H1 locs1 → W p l e R s m args below meth c H1 locs1 cells slots Q (F0 m (pc + 3) ls rest)) : W p l e R s m args below meth c H locs cells slots Q (F0 m pc ls (.int (iI v) :: .ref (ad 5 0) :: rest)) := by
  have hd : dmC G 5 (μ 5) 0 := rfl
  refine g_put F hw hS hd rfl rfl inU5 tyX5 tyX5_ok nmX5 1 (by decide) hl (fun _ h => h) rfl rfl rfl (Nat.le_of_ble_eq_true rfl) hdg (fun H1 locs1 h oq hS1 => kk H1 locs1 ?_ hS1)
  rw [hμ, ms_eq]
  exact hw.put hd oq h (fun _ => Iff.rfl) (fun i hi q => absurd q hi)
theorem gC_U_heard (F : CallFix p m c cc nL s args uw own) (hw : wdC G D cy ad A μ s H) (hl : Cond.fieldLink own idx "HammerTowers$FaultFinder" "heard" "[I" ∈ uw) (hdg : decode cc pc = .ok (.getfield idx, 3)) (kk : W p l e R s m args below meth c H locs cells slots Q (F0 m (pc + 3) ls (.ref (ad 16 0) :: rest))) : W p l e R s m args below meth c H locs cells slots Q (F0 m pc ls (.ref (ad 6 0) :: rest)) := g_get F hw (k := 6) (i := 0) rfl rfl rfl inU1 0 (by decide) hl (fun _ h => h) rfl hdg kk
theorem gC_U_hour (F : CallFix p m c cc nL s args uw own) (hw : wdC G D cy ad A μ s H) (hl : Cond.fieldLink own idx "HammerTowers$FaultFinder" "hour" "I" ∈ uw) (hdg : decode cc pc = .ok (.getfield idx, 3)) (kk : W p l e R s m args below meth c H locs cells slots Q (F0 m (pc + 3) ls (.int (iI (μ 6 1 0)) :: rest))) : W p l e R s m args below meth c H locs cells slots Q (F0 m pc ls (.ref (ad 6 0) :: rest)) := g_get F hw (k := 6) (i := 0) rfl rfl rfl inU1 1 (by decide) hl (fun _ h => h) rfl hdg kk
theorem pC_U_hour (F : CallFix p m c cc nL s args uw own) (hw : wdC G D cy ad A μ s H) (hS : va_S A s.heap H locs) (hl : Cond.fieldLink own idx "HammerTowers$FaultFinder" "hour" "I" ∈ uw) {v : Int} (hμ : μ1 = ms μ 6 1 0 v) (hdg : decode cc pc = .ok (.putfield idx, 3)) (kk : ∀ (H1 : Heap) (locs1 : List Loc), wdC G D cy ad A μ1 s H1 → va_S A s.heap H1 locs1 → W p l e R s m args below meth c H1 locs1 cells slots Q (F0 m (pc + 3) ls rest)) : W p l e R s m args below meth c H locs cells slots Q (F0 m pc ls (.int (iI v) :: .ref (ad 6 0) :: rest)) := by
  have hd : dmC G 6 (μ 6) 0 := rfl
  refine g_put F hw hS hd rfl rfl inU1 tyX1 tyX1_ok nmX1 1 (by decide) hl (fun _ h => h) rfl rfl rfl (Nat.le_of_ble_eq_true rfl) hdg (fun H1 locs1 h oq hS1 => kk H1 locs1 ?_ hS1)
  rw [hμ, ms_eq]
  exact hw.put hd oq h (fun _ => Iff.rfl) (fun i hi q => absurd q hi)
theorem gC_U_sort (F : CallFix p m c cc nL s args uw own) (hw : wdC G D cy ad A μ s H) (hl : Cond.fieldLink own idx "HammerTowers$FaultFinder" "sort" "I" ∈ uw) (hdg : decode cc pc = .ok (.getfield idx, 3)) (kk : W p l e R s m args below meth c H locs cells slots Q (F0 m (pc + 3) ls (.int (iI (μ 6 2 0)) :: rest))) : W p l e R s m args below meth c H locs cells slots Q (F0 m pc ls (.ref (ad 6 0) :: rest)) := g_get F hw (k := 6) (i := 0) rfl rfl rfl inU1 2 (by decide) hl (fun _ h => h) rfl hdg kk
theorem pC_U_sort (F : CallFix p m c cc nL s args uw own) (hw : wdC G D cy ad A μ s H) (hS : va_S A s.heap H locs) (hl : Cond.fieldLink own idx "HammerTowers$FaultFinder" "sort" "I" ∈ uw) {v : Int} (hμ : μ1 = ms μ 6 2 0 v) (hdg : decode cc pc = .ok (.putfield idx, 3)) (kk : ∀ (H1 : Heap) (locs1 : List Loc), wdC G D cy ad A μ1 s H1 → va_S A s.heap H1 locs1 → W p l e R s m args below meth c H1 locs1 cells slots Q (F0 m (pc + 3) ls rest)) : W p l e R s m args below meth c H locs cells slots Q (F0 m pc ls (.int (iI v) :: .ref (ad 6 0) :: rest)) := by
  have hd : dmC G 6 (μ 6) 0 := rfl
  refine g_put F hw hS hd rfl rfl inU1 tyX1 tyX1_ok nmX1 2 (by decide) hl (fun _ h => h) rfl rfl rfl (Nat.le_of_ble_eq_true rfl) hdg (fun H1 locs1 h oq hS1 => kk H1 locs1 ?_ hS1)
  rw [hμ, ms_eq]
  exact hw.put hd oq h (fun _ => Iff.rfl) (fun i hi q => absurd q hi)
theorem gC_U_first (F : CallFix p m c cc nL s args uw own) (hw : wdC G D cy ad A μ s H) (hl : Cond.fieldLink own idx "HammerTowers$FaultFinder" "first" "I" ∈ uw) (hdg : decode cc pc = .ok (.getfield idx, 3)) (kk : W p l e R s m args below meth c H locs cells slots Q (F0 m (pc + 3) ls (.int (iI (μ 6 3 0)) :: rest))) : W p l e R s m args below meth c H locs cells slots Q (F0 m pc ls (.ref (ad 6 0) :: rest)) := g_get F hw (k := 6) (i := 0) rfl rfl rfl inU1 3 (by decide) hl (fun _ h => h) rfl hdg kk
theorem pC_U_first (F : CallFix p m c cc nL s args uw own) (hw : wdC G D cy ad A μ s H) (hS : va_S A s.heap H locs) (hl : Cond.fieldLink own idx "HammerTowers$FaultFinder" "first" "I" ∈ uw) {v : Int} (hμ : μ1 = ms μ 6 3 0 v) (hdg : decode cc pc = .ok (.putfield idx, 3)) (kk : ∀ (H1 : Heap) (locs1 : List Loc), wdC G D cy ad A μ1 s H1 → va_S A s.heap H1 locs1 → W p l e R s m args below meth c H1 locs1 cells slots Q (F0 m (pc + 3) ls rest)) : W p l e R s m args below meth c H locs cells slots Q (F0 m pc ls (.int (iI v) :: .ref (ad 6 0) :: rest)) := by
  have hd : dmC G 6 (μ 6) 0 := rfl
  refine g_put F hw hS hd rfl rfl inU1 tyX1 tyX1_ok nmX1 3 (by decide) hl (fun _ h => h) rfl rfl rfl (Nat.le_of_ble_eq_true rfl) hdg (fun H1 locs1 h oq hS1 => kk H1 locs1 ?_ hS1)
  rw [hμ, ms_eq]
  exact hw.put hd oq h (fun _ => Iff.rfl) (fun i hi q => absurd q hi)
theorem gC_U_second (F : CallFix p m c cc nL s args uw own) (hw : wdC G D cy ad A μ s H) (hl : Cond.fieldLink own idx "HammerTowers$FaultFinder" "second" "I" ∈ uw) (hdg : decode cc pc = .ok (.getfield idx, 3)) (kk : W p l e R s m args below meth c H locs cells slots Q (F0 m (pc + 3) ls (.int (iI (μ 6 4 0)) :: rest))) : W p l e R s m args below meth c H locs cells slots Q (F0 m pc ls (.ref (ad 6 0) :: rest)) := g_get F hw (k := 6) (i := 0) rfl rfl rfl inU1 4 (by decide) hl (fun _ h => h) rfl hdg kk
theorem pC_U_second (F : CallFix p m c cc nL s args uw own) (hw : wdC G D cy ad A μ s H) (hS : va_S A s.heap H locs) (hl : Cond.fieldLink own idx "HammerTowers$FaultFinder" "second" "I" ∈ uw) {v : Int} (hμ : μ1 = ms μ 6 4 0 v) (hdg : decode cc pc = .ok (.putfield idx, 3)) (kk : ∀ (H1 : Heap) (locs1 : List Loc), wdC G D cy ad A μ1 s H1 → va_S A s.heap H1 locs1 → W p l e R s m args below meth c H1 locs1 cells slots Q (F0 m (pc + 3) ls rest)) : W p l e R s m args below meth c H locs cells slots Q (F0 m pc ls (.int (iI v) :: .ref (ad 6 0) :: rest)) := by
  have hd : dmC G 6 (μ 6) 0 := rfl
  refine g_put F hw hS hd rfl rfl inU1 tyX1 tyX1_ok nmX1 4 (by decide) hl (fun _ h => h) rfl rfl rfl (Nat.le_of_ble_eq_true rfl) hdg (fun H1 locs1 h oq hS1 => kk H1 locs1 ?_ hS1)
  rw [hμ, ms_eq]
  exact hw.put hd oq h (fun _ => Iff.rfl) (fun i hi q => absurd q hi)
theorem gC_U_fewest (F : CallFix p m c cc nL s args uw own) (hw : wdC G D cy ad A μ s H) (hl : Cond.fieldLink own idx "HammerTowers$FaultFinder" "fewest" "I" ∈ uw) (hdg : decode cc pc = .ok (.getfield idx, 3)) (kk : W p l e R s m args below meth c H locs cells slots Q (F0 m (pc + 3) ls (.int (iI (μ 6 5 0)) :: rest))) : W p l e R s m args below meth c H locs cells slots Q (F0 m pc ls (.ref (ad 6 0) :: rest)) := g_get F hw (k := 6) (i := 0) rfl rfl rfl inU1 5 (by decide) hl (fun _ h => h) rfl hdg kk
theorem pC_U_fewest (F : CallFix p m c cc nL s args uw own) (hw : wdC G D cy ad A μ s H) (hS : va_S A s.heap H locs) (hl : Cond.fieldLink own idx "HammerTowers$FaultFinder" "fewest" "I" ∈ uw) {v : Int} (hμ : μ1 = ms μ 6 5 0 v) (hdg : decode cc pc = .ok (.putfield idx, 3)) (kk : ∀ (H1 : Heap) (locs1 : List Loc), wdC G D cy ad A μ1 s H1 → va_S A s.heap H1 locs1 → W p l e R s m args below meth c H1 locs1 cells slots Q (F0 m (pc + 3) ls rest)) : W p l e R s m args below meth c H locs cells slots Q (F0 m pc ls (.int (iI v) :: .ref (ad 6 0) :: rest)) := by
  have hd : dmC G 6 (μ 6) 0 := rfl
  refine g_put F hw hS hd rfl rfl inU1 tyX1 tyX1_ok nmX1 5 (by decide) hl (fun _ h => h) rfl rfl rfl (Nat.le_of_ble_eq_true rfl) hdg (fun H1 locs1 h oq hS1 => kk H1 locs1 ?_ hS1)
  rw [hμ, ms_eq]
  exact hw.put hd oq h (fun _ => Iff.rfl) (fun i hi q => absurd q hi)
theorem gC_U_fitting (F : CallFix p m c cc nL s args uw own) (hw : wdC G D cy ad A μ s H) (hl : Cond.fieldLink own idx "HammerTowers$FaultFinder" "fitting" "I" ∈ uw) (hdg : decode cc pc = .ok (.getfield idx, 3)) (kk : W p l e R s m args below meth c H locs cells slots Q (F0 m (pc + 3) ls (.int (iI (μ 6 6 0)) :: rest))) : W p l e R s m args below meth c H locs cells slots Q (F0 m pc ls (.ref (ad 6 0) :: rest)) := g_get F hw (k := 6) (i := 0) rfl rfl rfl inU1 6 (by decide) hl (fun _ h => h) rfl hdg kk
theorem pC_U_fitting (F : CallFix p m c cc nL s args uw own) (hw : wdC G D cy ad A μ s H) (hS : va_S A s.heap H locs) (hl : Cond.fieldLink own idx "HammerTowers$FaultFinder" "fitting" "I" ∈ uw) {v : Int} (hμ : μ1 = ms μ 6 6 0 v) (hdg : decode cc pc = .ok (.putfield idx, 3)) (kk : ∀ (H1 : Heap) (locs1 : List Loc), wdC G D cy ad A μ1 s H1 → va_S A s.heap H1 locs1 → W p l e R s m args below meth c H1 locs1 cells slots Q (F0 m (pc + 3) ls rest)) : W p l e R s m args below meth c H locs cells slots Q (F0 m pc ls (.int (iI v) :: .ref (ad 6 0) :: rest)) := by
  have hd : dmC G 6 (μ 6) 0 := rfl
  refine g_put F hw hS hd rfl rfl inU1 tyX1 tyX1_ok nmX1 6 (by decide) hl (fun _ h => h) rfl rfl rfl (Nat.le_of_ble_eq_true rfl) hdg (fun H1 locs1 h oq hS1 => kk H1 locs1 ?_ hS1)
  rw [hμ, ms_eq]
  exact hw.put hd oq h (fun _ => Iff.rfl) (fun i hi q => absurd q hi)
theorem gC_Q_teeth (F : CallFix p m c cc nL s args uw own) (hw : wdC G D cy ad A μ s H) (hl : Cond.fieldLink own idx "HammerTowers$Gearing" "teeth" "[I" ∈ uw) (hdg : decode cc pc = .ok (.getfield idx, 3)) (kk : W p l e R s m args below meth c H locs cells slots Q (F0 m (pc + 3) ls (.ref (ad 17 0) :: rest))) : W p l e R s m args below meth c H locs cells slots Q (F0 m pc ls (.ref (ad 7 0) :: rest)) := g_get F hw (k := 7) (i := 0) rfl rfl rfl inU2 0 (by decide) hl (fun _ h => h) rfl hdg kk
theorem gC_Q_wheels (F : CallFix p m c cc nL s args uw own) (hw : wdC G D cy ad A μ s H) (hl : Cond.fieldLink own idx "HammerTowers$Gearing" "wheels" "I" ∈ uw) (hdg : decode cc pc = .ok (.getfield idx, 3)) (kk : W p l e R s m args below meth c H locs cells slots Q (F0 m (pc + 3) ls (.int (iI (μ 7 1 0)) :: rest))) : W p l e R s m args below meth c H locs cells slots Q (F0 m pc ls (.ref (ad 7 0) :: rest)) := g_get F hw (k := 7) (i := 0) rfl rfl rfl inU2 1 (by decide) hl (fun _ h => h) rfl hdg kk
theorem pC_Q_wheels (F : CallFix p m c cc nL s args uw own) (hw : wdC G D cy ad A μ s H) (hS : va_S A s.heap H locs) (hl : Cond.fieldLink own idx "HammerTowers$Gearing" "wheels" "I" ∈ uw) {v : Int} (hμ : μ1 = ms μ 7 1 0 v) (hdg : decode cc pc = .ok (.putfield idx, 3)) (kk : ∀ (H1 : Heap) (locs1 : List Loc), wdC G D cy ad A μ1 s H1 → va_S A s.heap H1 locs1 → W p l e R s m args below meth c H1 locs1 cells slots Q (F0 m (pc + 3) ls rest)) : W p l e R s m args below meth c H locs cells slots Q (F0 m pc ls (.int (iI v) :: .ref (ad 7 0) :: rest)) := by
  have hd : dmC G 7 (μ 7) 0 := rfl
  refine g_put F hw hS hd rfl rfl inU2 tyX2 tyX2_ok nmX2 1 (by decide) hl (fun _ h => h) rfl rfl rfl (Nat.le_of_ble_eq_true rfl) hdg (fun H1 locs1 h oq hS1 => kk H1 locs1 ?_ hS1)
  rw [hμ, ms_eq]
  exact hw.put hd oq h (fun _ => Iff.rfl) (fun i hi q => absurd q hi)
theorem gC_Q_chosen (F : CallFix p m c cc nL s args uw own) (hw : wdC G D cy ad A μ s H) (hl : Cond.fieldLink own idx "HammerTowers$Gearing" "chosen" "[I" ∈ uw) (hdg : decode cc pc = .ok (.getfield idx, 3)) (kk : W p l e R s m args below meth c H locs cells slots Q (F0 m (pc + 3) ls (.ref (ad 18 0) :: rest))) : W p l e R s m args below meth c H locs cells slots Q (F0 m pc ls (.ref (ad 7 0) :: rest)) := g_get F hw (k := 7) (i := 0) rfl rfl rfl inU2 2 (by decide) hl (fun _ h => h) rfl hdg kk
theorem gC_Q_chosenCount (F : CallFix p m c cc nL s args uw own) (hw : wdC G D cy ad A μ s H) (hl : Cond.fieldLink own idx "HammerTowers$Gearing" "chosenCount" "I" ∈ uw) (hdg : decode cc pc = .ok (.getfield idx, 3)) (kk : W p l e R s m args below meth c H locs cells slots Q (F0 m (pc + 3) ls (.int (iI (μ 7 3 0)) :: rest))) : W p l e R s m args below meth c H locs cells slots Q (F0 m pc ls (.ref (ad 7 0) :: rest)) := g_get F hw (k := 7) (i := 0) rfl rfl rfl inU2 3 (by decide) hl (fun _ h => h) rfl hdg kk
theorem pC_Q_chosenCount (F : CallFix p m c cc nL s args uw own) (hw : wdC G D cy ad A μ s H) (hS : va_S A s.heap H locs) (hl : Cond.fieldLink own idx "HammerTowers$Gearing" "chosenCount" "I" ∈ uw) {v : Int} (hμ : μ1 = ms μ 7 3 0 v) (hdg : decode cc pc = .ok (.putfield idx, 3)) (kk : ∀ (H1 : Heap) (locs1 : List Loc), wdC G D cy ad A μ1 s H1 → va_S A s.heap H1 locs1 → W p l e R s m args below meth c H1 locs1 cells slots Q (F0 m (pc + 3) ls rest)) : W p l e R s m args below meth c H locs cells slots Q (F0 m pc ls (.int (iI v) :: .ref (ad 7 0) :: rest)) := by
  have hd : dmC G 7 (μ 7) 0 := rfl
  refine g_put F hw hS hd rfl rfl inU2 tyX2 tyX2_ok nmX2 3 (by decide) hl (fun _ h => h) rfl rfl rfl (Nat.le_of_ble_eq_true rfl) hdg (fun H1 locs1 h oq hS1 => kk H1 locs1 ?_ hS1)
  rw [hμ, ms_eq]
  exact hw.put hd oq h (fun _ => Iff.rfl) (fun i hi q => absurd q hi)
theorem gC_Q_dueUpper (F : CallFix p m c cc nL s args uw own) (hw : wdC G D cy ad A μ s H) (hl : Cond.fieldLink own idx "HammerTowers$Gearing" "dueUpper" "J" ∈ uw) (hdg : decode cc pc = .ok (.getfield idx, 3)) (kk : W p l e R s m args below meth c H locs cells slots Q (F0 m (pc + 3) ls (.long (lJ (μ 7 4 0)) :: rest))) : W p l e R s m args below meth c H locs cells slots Q (F0 m pc ls (.ref (ad 7 0) :: rest)) := g_get F hw (k := 7) (i := 0) rfl rfl rfl inU2 4 (by decide) hl (fun _ h => h) rfl hdg kk
theorem pC_Q_dueUpper (F : CallFix p m c cc nL s args uw own) (hw : wdC G D cy ad A μ s H) (hS : va_S A s.heap H locs) (hl : Cond.fieldLink own idx "HammerTowers$Gearing" "dueUpper" "J" ∈ uw) {v : Int} (hμ : μ1 = ms μ 7 4 0 v) (hdg : decode cc pc = .ok (.putfield idx, 3)) (kk : ∀ (H1 : Heap) (locs1 : List Loc), wdC G D cy ad A μ1 s H1 → va_S A s.heap H1 locs1 → W p l e R s m args below meth c H1 locs1 cells slots Q (F0 m (pc + 3) ls rest)) : W p l e R s m args below meth c H locs cells slots Q (F0 m pc ls (.long (lJ v) :: .ref (ad 7 0) :: rest)) := by
  have hd : dmC G 7 (μ 7) 0 := rfl
  refine g_put F hw hS hd rfl rfl inU2 tyX2 tyX2_ok nmX2 4 (by decide) hl (fun _ h => h) rfl rfl rfl (Nat.le_of_ble_eq_true rfl) hdg (fun H1 locs1 h oq hS1 => kk H1 locs1 ?_ hS1)
  rw [hμ, ms_eq]
  exact hw.put hd oq h (fun _ => Iff.rfl) (fun i hi q => absurd q hi)
theorem gC_Q_dueLower (F : CallFix p m c cc nL s args uw own) (hw : wdC G D cy ad A μ s H) (hl : Cond.fieldLink own idx "HammerTowers$Gearing" "dueLower" "J" ∈ uw) (hdg : decode cc pc = .ok (.getfield idx, 3)) (kk : W p l e R s m args below meth c H locs cells slots Q (F0 m (pc + 3) ls (.long (lJ (μ 7 5 0)) :: rest))) : W p l e R s m args below meth c H locs cells slots Q (F0 m pc ls (.ref (ad 7 0) :: rest)) := g_get F hw (k := 7) (i := 0) rfl rfl rfl inU2 5 (by decide) hl (fun _ h => h) rfl hdg kk
theorem pC_Q_dueLower (F : CallFix p m c cc nL s args uw own) (hw : wdC G D cy ad A μ s H) (hS : va_S A s.heap H locs) (hl : Cond.fieldLink own idx "HammerTowers$Gearing" "dueLower" "J" ∈ uw) {v : Int} (hμ : μ1 = ms μ 7 5 0 v) (hdg : decode cc pc = .ok (.putfield idx, 3)) (kk : ∀ (H1 : Heap) (locs1 : List Loc), wdC G D cy ad A μ1 s H1 → va_S A s.heap H1 locs1 → W p l e R s m args below meth c H1 locs1 cells slots Q (F0 m (pc + 3) ls rest)) : W p l e R s m args below meth c H locs cells slots Q (F0 m pc ls (.long (lJ v) :: .ref (ad 7 0) :: rest)) := by
  have hd : dmC G 7 (μ 7) 0 := rfl
  refine g_put F hw hS hd rfl rfl inU2 tyX2 tyX2_ok nmX2 5 (by decide) hl (fun _ h => h) rfl rfl rfl (Nat.le_of_ble_eq_true rfl) hdg (fun H1 locs1 h oq hS1 => kk H1 locs1 ?_ hS1)
  rw [hμ, ms_eq]
  exact hw.put hd oq h (fun _ => Iff.rfl) (fun i hi q => absurd q hi)
theorem gC_Q_leastGap (F : CallFix p m c cc nL s args uw own) (hw : wdC G D cy ad A μ s H) (hl : Cond.fieldLink own idx "HammerTowers$Gearing" "leastGap" "J" ∈ uw) (hdg : decode cc pc = .ok (.getfield idx, 3)) (kk : W p l e R s m args below meth c H locs cells slots Q (F0 m (pc + 3) ls (.long (lJ (μ 7 6 0)) :: rest))) : W p l e R s m args below meth c H locs cells slots Q (F0 m pc ls (.ref (ad 7 0) :: rest)) := g_get F hw (k := 7) (i := 0) rfl rfl rfl inU2 6 (by decide) hl (fun _ h => h) rfl hdg kk
theorem pC_Q_leastGap (F : CallFix p m c cc nL s args uw own) (hw : wdC G D cy ad A μ s H) (hS : va_S A s.heap H locs) (hl : Cond.fieldLink own idx "HammerTowers$Gearing" "leastGap" "J" ∈ uw) {v : Int} (hμ : μ1 = ms μ 7 6 0 v) (hdg : decode cc pc = .ok (.putfield idx, 3)) (kk : ∀ (H1 : Heap) (locs1 : List Loc), wdC G D cy ad A μ1 s H1 → va_S A s.heap H1 locs1 → W p l e R s m args below meth c H1 locs1 cells slots Q (F0 m (pc + 3) ls rest)) : W p l e R s m args below meth c H locs cells slots Q (F0 m pc ls (.long (lJ v) :: .ref (ad 7 0) :: rest)) := by
  have hd : dmC G 7 (μ 7) 0 := rfl
  refine g_put F hw hS hd rfl rfl inU2 tyX2 tyX2_ok nmX2 6 (by decide) hl (fun _ h => h) rfl rfl rfl (Nat.le_of_ble_eq_true rfl) hdg (fun H1 locs1 h oq hS1 => kk H1 locs1 ?_ hS1)
  rw [hμ, ms_eq]
  exact hw.put hd oq h (fun _ => Iff.rfl) (fun i hi q => absurd q hi)
theorem gC_Q_upper (F : CallFix p m c cc nL s args uw own) (hw : wdC G D cy ad A μ s H) (hl : Cond.fieldLink own idx "HammerTowers$Gearing" "upper" "J" ∈ uw) (hdg : decode cc pc = .ok (.getfield idx, 3)) (kk : W p l e R s m args below meth c H locs cells slots Q (F0 m (pc + 3) ls (.long (lJ (μ 7 7 0)) :: rest))) : W p l e R s m args below meth c H locs cells slots Q (F0 m pc ls (.ref (ad 7 0) :: rest)) := g_get F hw (k := 7) (i := 0) rfl rfl rfl inU2 7 (by decide) hl (fun _ h => h) rfl hdg kk
theorem pC_Q_upper (F : CallFix p m c cc nL s args uw own) (hw : wdC G D cy ad A μ s H) (hS : va_S A s.heap H locs) (hl : Cond.fieldLink own idx "HammerTowers$Gearing" "upper" "J" ∈ uw) {v : Int} (hμ : μ1 = ms μ 7 7 0 v) (hdg : decode cc pc = .ok (.putfield idx, 3)) (kk : ∀ (H1 : Heap) (locs1 : List Loc), wdC G D cy ad A μ1 s H1 → va_S A s.heap H1 locs1 → W p l e R s m args below meth c H1 locs1 cells slots Q (F0 m (pc + 3) ls rest)) : W p l e R s m args below meth c H locs cells slots Q (F0 m pc ls (.long (lJ v) :: .ref (ad 7 0) :: rest)) := by
  have hd : dmC G 7 (μ 7) 0 := rfl
  refine g_put F hw hS hd rfl rfl inU2 tyX2 tyX2_ok nmX2 7 (by decide) hl (fun _ h => h) rfl rfl rfl (Nat.le_of_ble_eq_true rfl) hdg (fun H1 locs1 h oq hS1 => kk H1 locs1 ?_ hS1)
  rw [hμ, ms_eq]
  exact hw.put hd oq h (fun _ => Iff.rfl) (fun i hi q => absurd q hi)
theorem gC_Q_lower (F : CallFix p m c cc nL s args uw own) (hw : wdC G D cy ad A μ s H) (hl : Cond.fieldLink own idx "HammerTowers$Gearing" "lower" "J" ∈ uw) (hdg : decode cc pc = .ok (.getfield idx, 3)) (kk : W p l e R s m args below meth c H locs cells slots Q (F0 m (pc + 3) ls (.long (lJ (μ 7 8 0)) :: rest))) : W p l e R s m args below meth c H locs cells slots Q (F0 m pc ls (.ref (ad 7 0) :: rest)) := g_get F hw (k := 7) (i := 0) rfl rfl rfl inU2 8 (by decide) hl (fun _ h => h) rfl hdg kk
theorem pC_Q_lower (F : CallFix p m c cc nL s args uw own) (hw : wdC G D cy ad A μ s H) (hS : va_S A s.heap H locs) (hl : Cond.fieldLink own idx "HammerTowers$Gearing" "lower" "J" ∈ uw) {v : Int} (hμ : μ1 = ms μ 7 8 0 v) (hdg : decode cc pc = .ok (.putfield idx, 3)) (kk : ∀ (H1 : Heap) (locs1 : List Loc), wdC G D cy ad A μ1 s H1 → va_S A s.heap H1 locs1 → W p l e R s m args below meth c H1 locs1 cells slots Q (F0 m (pc + 3) ls rest)) : W p l e R s m args below meth c H locs cells slots Q (F0 m pc ls (.long (lJ v) :: .ref (ad 7 0) :: rest)) := by
  have hd : dmC G 7 (μ 7) 0 := rfl
  refine g_put F hw hS hd rfl rfl inU2 tyX2 tyX2_ok nmX2 8 (by decide) hl (fun _ h => h) rfl rfl rfl (Nat.le_of_ble_eq_true rfl) hdg (fun H1 locs1 h oq hS1 => kk H1 locs1 ?_ hS1)
  rw [hμ, ms_eq]
  exact hw.put hd oq h (fun _ => Iff.rfl) (fun i hi q => absurd q hi)
theorem gC_T_number (F : CallFix p m c cc nL s args uw own) (hw : wdC G D cy ad A μ s H) (hi : 0 ≤ i ∧ i < G 0 0) (hl : Cond.fieldLink own idx ref "number" "I" ∈ uw) (hsame : ∀ x, s.fieldFound? "HammerTowers$Train" "number" "I" = some x → s.fieldFound? ref "number" "I" = some x) (hdg : decode cc pc = .ok (.getfield idx, 3)) (kk : W p l e R s m args below meth c H locs cells slots Q (F0 m (pc + 3) ls (.int (iI i) :: rest))) : W p l e R s m args below meth c H locs cells slots Q (F0 m pc ls (.ref (ad 2 i) :: rest)) := by
  by_cases h0 : G 1 i = 0
  · exact g_get F hw (k := 2) (i := i) hi (ci := 9) (Nf := 14) (C := RX9) (T := TX9) (by show cfT G ad (μ 2) i = _; rw [cfT, if_pos h0]) rfl inU9 0 (by decide) hl hsame rfl hdg kk
  · skip
    by_cases h1 : G 1 i = 1
    · exact g_get F hw (k := 2) (i := i) hi (ci := 4) (Nf := 15) (C := RX4) (T := TX4) (by show cfT G ad (μ 2) i = _; rw [cfT, if_neg h0, if_pos h1]) rfl inU4 0 (by decide) hl hsame rfl hdg kk
    · skip
      by_cases h2 : G 1 i = 2
      · exact g_get F hw (k := 2) (i := i) hi (ci := 7) (Nf := 14) (C := RX7) (T := TX7) (by show cfT G ad (μ 2) i = _; rw [cfT, if_neg h0, if_neg h1, if_pos h2]) rfl inU7 0 (by decide) hl hsame rfl hdg kk
      · skip
        exact g_get F hw (k := 2) (i := i) hi (ci := 0) (Nf := 17) (C := RX0) (T := TX0) (by show cfT G ad (μ 2) i = _; rw [cfT, if_neg h0, if_neg h1, if_neg h2]) rfl inU0 1 (by decide) hl hsame rfl hdg kk
theorem gC_T_kind (F : CallFix p m c cc nL s args uw own) (hw : wdC G D cy ad A μ s H) (hi : 0 ≤ i ∧ i < G 0 0) (hl : Cond.fieldLink own idx ref "kind" "I" ∈ uw) (hsame : ∀ x, s.fieldFound? "HammerTowers$Train" "kind" "I" = some x → s.fieldFound? ref "kind" "I" = some x) (hdg : decode cc pc = .ok (.getfield idx, 3)) (kk : W p l e R s m args below meth c H locs cells slots Q (F0 m (pc + 3) ls (.int (iI (G 1 i)) :: rest))) : W p l e R s m args below meth c H locs cells slots Q (F0 m pc ls (.ref (ad 2 i) :: rest)) := by
  by_cases h0 : G 1 i = 0
  · exact g_get F hw (k := 2) (i := i) hi (ci := 9) (Nf := 14) (C := RX9) (T := TX9) (by show cfT G ad (μ 2) i = _; rw [cfT, if_pos h0]) rfl inU9 1 (by decide) hl hsame rfl hdg kk
  · skip
    by_cases h1 : G 1 i = 1
    · exact g_get F hw (k := 2) (i := i) hi (ci := 4) (Nf := 15) (C := RX4) (T := TX4) (by show cfT G ad (μ 2) i = _; rw [cfT, if_neg h0, if_pos h1]) rfl inU4 1 (by decide) hl hsame rfl hdg kk
    · skip
      by_cases h2 : G 1 i = 2
      · exact g_get F hw (k := 2) (i := i) hi (ci := 7) (Nf := 14) (C := RX7) (T := TX7) (by show cfT G ad (μ 2) i = _; rw [cfT, if_neg h0, if_neg h1, if_pos h2]) rfl inU7 1 (by decide) hl hsame rfl hdg kk
      · skip
        exact g_get F hw (k := 2) (i := i) hi (ci := 0) (Nf := 17) (C := RX0) (T := TX0) (by show cfT G ad (μ 2) i = _; rw [cfT, if_neg h0, if_neg h1, if_neg h2]) rfl inU0 2 (by decide) hl hsame rfl hdg kk
theorem gC_T_strokes (F : CallFix p m c cc nL s args uw own) (hw : wdC G D cy ad A μ s H) (hi : 0 ≤ i ∧ i < G 0 0) (hl : Cond.fieldLink own idx ref "strokes" "[I" ∈ uw) (hsame : ∀ x, s.fieldFound? "HammerTowers$Train" "strokes" "[I" = some x → s.fieldFound? ref "strokes" "[I" = some x) (hdg : decode cc pc = .ok (.getfield idx, 3)) (kk : W p l e R s m args below meth c H locs cells slots Q (F0 m (pc + 3) ls (.ref (ad 9 i) :: rest))) : W p l e R s m args below meth c H locs cells slots Q (F0 m pc ls (.ref (ad 2 i) :: rest)) := by
  by_cases h0 : G 1 i = 0
  · exact g_get F hw (k := 2) (i := i) hi (ci := 9) (Nf := 14) (C := RX9) (T := TX9) (by show cfT G ad (μ 2) i = _; rw [cfT, if_pos h0]) rfl inU9 2 (by decide) hl hsame rfl hdg kk
  · skip
    by_cases h1 : G 1 i = 1
    · exact g_get F hw (k := 2) (i := i) hi (ci := 4) (Nf := 15) (C := RX4) (T := TX4) (by show cfT G ad (μ 2) i = _; rw [cfT, if_neg h0, if_pos h1]) rfl inU4 2 (by decide) hl hsame rfl hdg kk
    · skip
      by_cases h2 : G 1 i = 2
      · exact g_get F hw (k := 2) (i := i) hi (ci := 7) (Nf := 14) (C := RX7) (T := TX7) (by show cfT G ad (μ 2) i = _; rw [cfT, if_neg h0, if_neg h1, if_pos h2]) rfl inU7 2 (by decide) hl hsame rfl hdg kk
      · skip
        exact g_get F hw (k := 2) (i := i) hi (ci := 0) (Nf := 17) (C := RX0) (T := TX0) (by show cfT G ad (μ 2) i = _; rw [cfT, if_neg h0, if_neg h1, if_neg h2]) rfl inU0 3 (by decide) hl hsame rfl hdg kk
theorem gC_T_pace (F : CallFix p m c cc nL s args uw own) (hw : wdC G D cy ad A μ s H) (hi : 0 ≤ i ∧ i < G 0 0) (hl : Cond.fieldLink own idx ref "pace" "I" ∈ uw) (hsame : ∀ x, s.fieldFound? "HammerTowers$Train" "pace" "I" = some x → s.fieldFound? ref "pace" "I" = some x) (hdg : decode cc pc = .ok (.getfield idx, 3)) (kk : W p l e R s m args below meth c H locs cells slots Q (F0 m (pc + 3) ls (.int (iI (μ 2 3 i)) :: rest))) : W p l e R s m args below meth c H locs cells slots Q (F0 m pc ls (.ref (ad 2 i) :: rest)) := by
  by_cases h0 : G 1 i = 0
  · exact g_get F hw (k := 2) (i := i) hi (ci := 9) (Nf := 14) (C := RX9) (T := TX9) (by show cfT G ad (μ 2) i = _; rw [cfT, if_pos h0]) rfl inU9 3 (by decide) hl hsame rfl hdg kk
  · skip
    by_cases h1 : G 1 i = 1
    · exact g_get F hw (k := 2) (i := i) hi (ci := 4) (Nf := 15) (C := RX4) (T := TX4) (by show cfT G ad (μ 2) i = _; rw [cfT, if_neg h0, if_pos h1]) rfl inU4 3 (by decide) hl hsame rfl hdg kk
    · skip
      by_cases h2 : G 1 i = 2
      · exact g_get F hw (k := 2) (i := i) hi (ci := 7) (Nf := 14) (C := RX7) (T := TX7) (by show cfT G ad (μ 2) i = _; rw [cfT, if_neg h0, if_neg h1, if_pos h2]) rfl inU7 3 (by decide) hl hsame rfl hdg kk
      · skip
        exact g_get F hw (k := 2) (i := i) hi (ci := 0) (Nf := 17) (C := RX0) (T := TX0) (by show cfT G ad (μ 2) i = _; rw [cfT, if_neg h0, if_neg h1, if_neg h2]) rfl inU0 4 (by decide) hl hsame rfl hdg kk
theorem pC_T_pace (F : CallFix p m c cc nL s args uw own) (hw : wdC G D cy ad A μ s H) (hS : va_S A s.heap H locs) (hi : 0 ≤ i ∧ i < G 0 0) (hl : Cond.fieldLink own idx ref "pace" "I" ∈ uw) (hsame : ∀ x, s.fieldFound? "HammerTowers$Train" "pace" "I" = some x → s.fieldFound? ref "pace" "I" = some x) {v : Int} (hμ : μ1 = ms μ 2 3 i v) (hdg : decode cc pc = .ok (.putfield idx, 3)) (kk : ∀ (H1 : Heap) (locs1 : List Loc), wdC G D cy ad A μ1 s H1 → va_S A s.heap H1 locs1 → W p l e R s m args below meth c H1 locs1 cells slots Q (F0 m (pc + 3) ls rest)) : W p l e R s m args below meth c H locs cells slots Q (F0 m pc ls (.int (iI v) :: .ref (ad 2 i) :: rest)) := by
  by_cases h0 : G 1 i = 0
  · refine g_put F hw hS (k := 2) (i := i) hi (ci := 9) (Nf := 14) (C := RX9) (T := TX9) (by show cfT G ad (μ 2) i = _; rw [cfT, if_pos h0]) rfl inU9 tyX9 tyX9_ok nmX9 3 (by decide) hl hsame rfl rfl rfl (Nat.le_of_ble_eq_true rfl) hdg (fun H1 locs1 h oq hS1 => kk H1 locs1 ?_ hS1)
    rw [hμ, ms_eq]
    refine hw.put (k0 := 2) (i0 := i) hi oq ?_ (fun _ => Iff.rfl) (fun i' hi' _ a H2 q => by rw [show cfC G cy ad 2 (up2 (μ 2) 3 i v) i' = cfC G cy ad 2 (μ 2) i' from cfT_congr (fun c' => up2_ne hi')]; exact q)
    show va_at D vwCl (ad 2 i, cfT G ad (up2 (μ 2) 3 i v) i) H1
    rw [cfT, if_pos h0]
    simpa [up2] using h
  · skip
    by_cases h1 : G 1 i = 1
    · refine g_put F hw hS (k := 2) (i := i) hi (ci := 4) (Nf := 15) (C := RX4) (T := TX4) (by show cfT G ad (μ 2) i = _; rw [cfT, if_neg h0, if_pos h1]) rfl inU4 tyX4 tyX4_ok nmX4 3 (by decide) hl hsame rfl rfl rfl (Nat.le_of_ble_eq_true rfl) hdg (fun H1 locs1 h oq hS1 => kk H1 locs1 ?_ hS1)
      rw [hμ, ms_eq]
      refine hw.put (k0 := 2) (i0 := i) hi oq ?_ (fun _ => Iff.rfl) (fun i' hi' _ a H2 q => by rw [show cfC G cy ad 2 (up2 (μ 2) 3 i v) i' = cfC G cy ad 2 (μ 2) i' from cfT_congr (fun c' => up2_ne hi')]; exact q)
      show va_at D vwCl (ad 2 i, cfT G ad (up2 (μ 2) 3 i v) i) H1
      rw [cfT, if_neg h0, if_pos h1]
      simpa [up2] using h
    · skip
      by_cases h2 : G 1 i = 2
      · refine g_put F hw hS (k := 2) (i := i) hi (ci := 7) (Nf := 14) (C := RX7) (T := TX7) (by show cfT G ad (μ 2) i = _; rw [cfT, if_neg h0, if_neg h1, if_pos h2]) rfl inU7 tyX7 tyX7_ok nmX7 3 (by decide) hl hsame rfl rfl rfl (Nat.le_of_ble_eq_true rfl) hdg (fun H1 locs1 h oq hS1 => kk H1 locs1 ?_ hS1)
        rw [hμ, ms_eq]
        refine hw.put (k0 := 2) (i0 := i) hi oq ?_ (fun _ => Iff.rfl) (fun i' hi' _ a H2 q => by rw [show cfC G cy ad 2 (up2 (μ 2) 3 i v) i' = cfC G cy ad 2 (μ 2) i' from cfT_congr (fun c' => up2_ne hi')]; exact q)
        show va_at D vwCl (ad 2 i, cfT G ad (up2 (μ 2) 3 i v) i) H1
        rw [cfT, if_neg h0, if_neg h1, if_pos h2]
        simpa [up2] using h
      · skip
        refine g_put F hw hS (k := 2) (i := i) hi (ci := 0) (Nf := 17) (C := RX0) (T := TX0) (by show cfT G ad (μ 2) i = _; rw [cfT, if_neg h0, if_neg h1, if_neg h2]) rfl inU0 tyX0 tyX0_ok nmX0 4 (by decide) hl hsame rfl rfl rfl (Nat.le_of_ble_eq_true rfl) hdg (fun H1 locs1 h oq hS1 => kk H1 locs1 ?_ hS1)
        rw [hμ, ms_eq]
        refine hw.put (k0 := 2) (i0 := i) hi oq ?_ (fun _ => Iff.rfl) (fun i' hi' _ a H2 q => by rw [show cfC G cy ad 2 (up2 (μ 2) 3 i v) i' = cfC G cy ad 2 (μ 2) i' from cfT_congr (fun c' => up2_ne hi')]; exact q)
        show va_at D vwCl (ad 2 i, cfT G ad (up2 (μ 2) 3 i v) i) H1
        rw [cfT, if_neg h0, if_neg h1, if_neg h2]
        simpa [up2] using h
theorem gC_T_fall (F : CallFix p m c cc nL s args uw own) (hw : wdC G D cy ad A μ s H) (hi : 0 ≤ i ∧ i < G 0 0) (hl : Cond.fieldLink own idx ref "fall" "I" ∈ uw) (hsame : ∀ x, s.fieldFound? "HammerTowers$Train" "fall" "I" = some x → s.fieldFound? ref "fall" "I" = some x) (hdg : decode cc pc = .ok (.getfield idx, 3)) (kk : W p l e R s m args below meth c H locs cells slots Q (F0 m (pc + 3) ls (.int (iI (μ 2 4 i)) :: rest))) : W p l e R s m args below meth c H locs cells slots Q (F0 m pc ls (.ref (ad 2 i) :: rest)) := by
  by_cases h0 : G 1 i = 0
  · exact g_get F hw (k := 2) (i := i) hi (ci := 9) (Nf := 14) (C := RX9) (T := TX9) (by show cfT G ad (μ 2) i = _; rw [cfT, if_pos h0]) rfl inU9 4 (by decide) hl hsame rfl hdg kk
  · skip
    by_cases h1 : G 1 i = 1
    · exact g_get F hw (k := 2) (i := i) hi (ci := 4) (Nf := 15) (C := RX4) (T := TX4) (by show cfT G ad (μ 2) i = _; rw [cfT, if_neg h0, if_pos h1]) rfl inU4 4 (by decide) hl hsame rfl hdg kk
    · skip
      by_cases h2 : G 1 i = 2
      · exact g_get F hw (k := 2) (i := i) hi (ci := 7) (Nf := 14) (C := RX7) (T := TX7) (by show cfT G ad (μ 2) i = _; rw [cfT, if_neg h0, if_neg h1, if_pos h2]) rfl inU7 4 (by decide) hl hsame rfl hdg kk
      · skip
        exact g_get F hw (k := 2) (i := i) hi (ci := 0) (Nf := 17) (C := RX0) (T := TX0) (by show cfT G ad (μ 2) i = _; rw [cfT, if_neg h0, if_neg h1, if_neg h2]) rfl inU0 5 (by decide) hl hsame rfl hdg kk
theorem pC_T_fall (F : CallFix p m c cc nL s args uw own) (hw : wdC G D cy ad A μ s H) (hS : va_S A s.heap H locs) (hi : 0 ≤ i ∧ i < G 0 0) (hl : Cond.fieldLink own idx ref "fall" "I" ∈ uw) (hsame : ∀ x, s.fieldFound? "HammerTowers$Train" "fall" "I" = some x → s.fieldFound? ref "fall" "I" = some x) {v : Int} (hμ : μ1 = ms μ 2 4 i v) (hdg : decode cc pc = .ok (.putfield idx, 3)) (kk : ∀ (H1 : Heap) (locs1 : List Loc), wdC G D cy ad A μ1 s H1 → va_S A s.heap H1 locs1 → W p l e R s m args below meth c H1 locs1 cells slots Q (F0 m (pc + 3) ls rest)) : W p l e R s m args below meth c H locs cells slots Q (F0 m pc ls (.int (iI v) :: .ref (ad 2 i) :: rest)) := by
  by_cases h0 : G 1 i = 0
  · refine g_put F hw hS (k := 2) (i := i) hi (ci := 9) (Nf := 14) (C := RX9) (T := TX9) (by show cfT G ad (μ 2) i = _; rw [cfT, if_pos h0]) rfl inU9 tyX9 tyX9_ok nmX9 4 (by decide) hl hsame rfl rfl rfl (Nat.le_of_ble_eq_true rfl) hdg (fun H1 locs1 h oq hS1 => kk H1 locs1 ?_ hS1)
    rw [hμ, ms_eq]
    refine hw.put (k0 := 2) (i0 := i) hi oq ?_ (fun _ => Iff.rfl) (fun i' hi' _ a H2 q => by rw [show cfC G cy ad 2 (up2 (μ 2) 4 i v) i' = cfC G cy ad 2 (μ 2) i' from cfT_congr (fun c' => up2_ne hi')]; exact q)
    show va_at D vwCl (ad 2 i, cfT G ad (up2 (μ 2) 4 i v) i) H1
    rw [cfT, if_pos h0]
    simpa [up2] using h
  · skip
    by_cases h1 : G 1 i = 1
    · refine g_put F hw hS (k := 2) (i := i) hi (ci := 4) (Nf := 15) (C := RX4) (T := TX4) (by show cfT G ad (μ 2) i = _; rw [cfT, if_neg h0, if_pos h1]) rfl inU4 tyX4 tyX4_ok nmX4 4 (by decide) hl hsame rfl rfl rfl (Nat.le_of_ble_eq_true rfl) hdg (fun H1 locs1 h oq hS1 => kk H1 locs1 ?_ hS1)
      rw [hμ, ms_eq]
      refine hw.put (k0 := 2) (i0 := i) hi oq ?_ (fun _ => Iff.rfl) (fun i' hi' _ a H2 q => by rw [show cfC G cy ad 2 (up2 (μ 2) 4 i v) i' = cfC G cy ad 2 (μ 2) i' from cfT_congr (fun c' => up2_ne hi')]; exact q)
      show va_at D vwCl (ad 2 i, cfT G ad (up2 (μ 2) 4 i v) i) H1
      rw [cfT, if_neg h0, if_pos h1]
      simpa [up2] using h
    · skip
      by_cases h2 : G 1 i = 2
      · refine g_put F hw hS (k := 2) (i := i) hi (ci := 7) (Nf := 14) (C := RX7) (T := TX7) (by show cfT G ad (μ 2) i = _; rw [cfT, if_neg h0, if_neg h1, if_pos h2]) rfl inU7 tyX7 tyX7_ok nmX7 4 (by decide) hl hsame rfl rfl rfl (Nat.le_of_ble_eq_true rfl) hdg (fun H1 locs1 h oq hS1 => kk H1 locs1 ?_ hS1)
        rw [hμ, ms_eq]
        refine hw.put (k0 := 2) (i0 := i) hi oq ?_ (fun _ => Iff.rfl) (fun i' hi' _ a H2 q => by rw [show cfC G cy ad 2 (up2 (μ 2) 4 i v) i' = cfC G cy ad 2 (μ 2) i' from cfT_congr (fun c' => up2_ne hi')]; exact q)
        show va_at D vwCl (ad 2 i, cfT G ad (up2 (μ 2) 4 i v) i) H1
        rw [cfT, if_neg h0, if_neg h1, if_pos h2]
        simpa [up2] using h
      · skip
        refine g_put F hw hS (k := 2) (i := i) hi (ci := 0) (Nf := 17) (C := RX0) (T := TX0) (by show cfT G ad (μ 2) i = _; rw [cfT, if_neg h0, if_neg h1, if_neg h2]) rfl inU0 tyX0 tyX0_ok nmX0 5 (by decide) hl hsame rfl rfl rfl (Nat.le_of_ble_eq_true rfl) hdg (fun H1 locs1 h oq hS1 => kk H1 locs1 ?_ hS1)
        rw [hμ, ms_eq]
        refine hw.put (k0 := 2) (i0 := i) hi oq ?_ (fun _ => Iff.rfl) (fun i' hi' _ a H2 q => by rw [show cfC G cy ad 2 (up2 (μ 2) 4 i v) i' = cfC G cy ad 2 (μ 2) i' from cfT_congr (fun c' => up2_ne hi')]; exact q)
        show va_at D vwCl (ad 2 i, cfT G ad (up2 (μ 2) 4 i v) i) H1
        rw [cfT, if_neg h0, if_neg h1, if_neg h2]
        simpa [up2] using h
theorem gC_T_weight (F : CallFix p m c cc nL s args uw own) (hw : wdC G D cy ad A μ s H) (hi : 0 ≤ i ∧ i < G 0 0) (hl : Cond.fieldLink own idx ref "weight" "I" ∈ uw) (hsame : ∀ x, s.fieldFound? "HammerTowers$Train" "weight" "I" = some x → s.fieldFound? ref "weight" "I" = some x) (hdg : decode cc pc = .ok (.getfield idx, 3)) (kk : W p l e R s m args below meth c H locs cells slots Q (F0 m (pc + 3) ls (.int (iI (μ 2 5 i)) :: rest))) : W p l e R s m args below meth c H locs cells slots Q (F0 m pc ls (.ref (ad 2 i) :: rest)) := by
  by_cases h0 : G 1 i = 0
  · exact g_get F hw (k := 2) (i := i) hi (ci := 9) (Nf := 14) (C := RX9) (T := TX9) (by show cfT G ad (μ 2) i = _; rw [cfT, if_pos h0]) rfl inU9 5 (by decide) hl hsame rfl hdg kk
  · skip
    by_cases h1 : G 1 i = 1
    · exact g_get F hw (k := 2) (i := i) hi (ci := 4) (Nf := 15) (C := RX4) (T := TX4) (by show cfT G ad (μ 2) i = _; rw [cfT, if_neg h0, if_pos h1]) rfl inU4 5 (by decide) hl hsame rfl hdg kk
    · skip
      by_cases h2 : G 1 i = 2
      · exact g_get F hw (k := 2) (i := i) hi (ci := 7) (Nf := 14) (C := RX7) (T := TX7) (by show cfT G ad (μ 2) i = _; rw [cfT, if_neg h0, if_neg h1, if_pos h2]) rfl inU7 5 (by decide) hl hsame rfl hdg kk
      · skip
        exact g_get F hw (k := 2) (i := i) hi (ci := 0) (Nf := 17) (C := RX0) (T := TX0) (by show cfT G ad (μ 2) i = _; rw [cfT, if_neg h0, if_neg h1, if_neg h2]) rfl inU0 6 (by decide) hl hsame rfl hdg kk
theorem pC_T_weight (F : CallFix p m c cc nL s args uw own) (hw : wdC G D cy ad A μ s H) (hS : va_S A s.heap H locs) (hi : 0 ≤ i ∧ i < G 0 0) (hl : Cond.fieldLink own idx ref "weight" "I" ∈ uw) (hsame : ∀ x, s.fieldFound? "HammerTowers$Train" "weight" "I" = some x → s.fieldFound? ref "weight" "I" = some x) {v : Int} (hμ : μ1 = ms μ 2 5 i v) (hdg : decode cc pc = .ok (.putfield idx, 3)) (kk : ∀ (H1 : Heap) (locs1 : List Loc), wdC G D cy ad A μ1 s H1 → va_S A s.heap H1 locs1 → W p l e R s m args below meth c H1 locs1 cells slots Q (F0 m (pc + 3) ls rest)) : W p l e R s m args below meth c H locs cells slots Q (F0 m pc ls (.int (iI v) :: .ref (ad 2 i) :: rest)) := by
  by_cases h0 : G 1 i = 0
  · refine g_put F hw hS (k := 2) (i := i) hi (ci := 9) (Nf := 14) (C := RX9) (T := TX9) (by show cfT G ad (μ 2) i = _; rw [cfT, if_pos h0]) rfl inU9 tyX9 tyX9_ok nmX9 5 (by decide) hl hsame rfl rfl rfl (Nat.le_of_ble_eq_true rfl) hdg (fun H1 locs1 h oq hS1 => kk H1 locs1 ?_ hS1)
    rw [hμ, ms_eq]
    refine hw.put (k0 := 2) (i0 := i) hi oq ?_ (fun _ => Iff.rfl) (fun i' hi' _ a H2 q => by rw [show cfC G cy ad 2 (up2 (μ 2) 5 i v) i' = cfC G cy ad 2 (μ 2) i' from cfT_congr (fun c' => up2_ne hi')]; exact q)
    show va_at D vwCl (ad 2 i, cfT G ad (up2 (μ 2) 5 i v) i) H1
    rw [cfT, if_pos h0]
    simpa [up2] using h
  · skip
    by_cases h1 : G 1 i = 1
    · refine g_put F hw hS (k := 2) (i := i) hi (ci := 4) (Nf := 15) (C := RX4) (T := TX4) (by show cfT G ad (μ 2) i = _; rw [cfT, if_neg h0, if_pos h1]) rfl inU4 tyX4 tyX4_ok nmX4 5 (by decide) hl hsame rfl rfl rfl (Nat.le_of_ble_eq_true rfl) hdg (fun H1 locs1 h oq hS1 => kk H1 locs1 ?_ hS1)
      rw [hμ, ms_eq]
      refine hw.put (k0 := 2) (i0 := i) hi oq ?_ (fun _ => Iff.rfl) (fun i' hi' _ a H2 q => by rw [show cfC G cy ad 2 (up2 (μ 2) 5 i v) i' = cfC G cy ad 2 (μ 2) i' from cfT_congr (fun c' => up2_ne hi')]; exact q)
      show va_at D vwCl (ad 2 i, cfT G ad (up2 (μ 2) 5 i v) i) H1
      rw [cfT, if_neg h0, if_pos h1]
      simpa [up2] using h
    · skip
      by_cases h2 : G 1 i = 2
      · refine g_put F hw hS (k := 2) (i := i) hi (ci := 7) (Nf := 14) (C := RX7) (T := TX7) (by show cfT G ad (μ 2) i = _; rw [cfT, if_neg h0, if_neg h1, if_pos h2]) rfl inU7 tyX7 tyX7_ok nmX7 5 (by decide) hl hsame rfl rfl rfl (Nat.le_of_ble_eq_true rfl) hdg (fun H1 locs1 h oq hS1 => kk H1 locs1 ?_ hS1)
        rw [hμ, ms_eq]
        refine hw.put (k0 := 2) (i0 := i) hi oq ?_ (fun _ => Iff.rfl) (fun i' hi' _ a H2 q => by rw [show cfC G cy ad 2 (up2 (μ 2) 5 i v) i' = cfC G cy ad 2 (μ 2) i' from cfT_congr (fun c' => up2_ne hi')]; exact q)
        show va_at D vwCl (ad 2 i, cfT G ad (up2 (μ 2) 5 i v) i) H1
        rw [cfT, if_neg h0, if_neg h1, if_pos h2]
        simpa [up2] using h
      · skip
        refine g_put F hw hS (k := 2) (i := i) hi (ci := 0) (Nf := 17) (C := RX0) (T := TX0) (by show cfT G ad (μ 2) i = _; rw [cfT, if_neg h0, if_neg h1, if_neg h2]) rfl inU0 tyX0 tyX0_ok nmX0 6 (by decide) hl hsame rfl rfl rfl (Nat.le_of_ble_eq_true rfl) hdg (fun H1 locs1 h oq hS1 => kk H1 locs1 ?_ hS1)
        rw [hμ, ms_eq]
        refine hw.put (k0 := 2) (i0 := i) hi oq ?_ (fun _ => Iff.rfl) (fun i' hi' _ a H2 q => by rw [show cfC G cy ad 2 (up2 (μ 2) 5 i v) i' = cfC G cy ad 2 (μ 2) i' from cfT_congr (fun c' => up2_ne hi')]; exact q)
        show va_at D vwCl (ad 2 i, cfT G ad (up2 (μ 2) 5 i v) i) H1
        rw [cfT, if_neg h0, if_neg h1, if_neg h2]
        simpa [up2] using h
theorem gC_T_broken (F : CallFix p m c cc nL s args uw own) (hw : wdC G D cy ad A μ s H) (hi : 0 ≤ i ∧ i < G 0 0) (hl : Cond.fieldLink own idx ref "broken" "I" ∈ uw) (hsame : ∀ x, s.fieldFound? "HammerTowers$Train" "broken" "I" = some x → s.fieldFound? ref "broken" "I" = some x) (hdg : decode cc pc = .ok (.getfield idx, 3)) (kk : W p l e R s m args below meth c H locs cells slots Q (F0 m (pc + 3) ls (.int (iI (μ 2 6 i)) :: rest))) : W p l e R s m args below meth c H locs cells slots Q (F0 m pc ls (.ref (ad 2 i) :: rest)) := by
  by_cases h0 : G 1 i = 0
  · exact g_get F hw (k := 2) (i := i) hi (ci := 9) (Nf := 14) (C := RX9) (T := TX9) (by show cfT G ad (μ 2) i = _; rw [cfT, if_pos h0]) rfl inU9 6 (by decide) hl hsame rfl hdg kk
  · skip
    by_cases h1 : G 1 i = 1
    · exact g_get F hw (k := 2) (i := i) hi (ci := 4) (Nf := 15) (C := RX4) (T := TX4) (by show cfT G ad (μ 2) i = _; rw [cfT, if_neg h0, if_pos h1]) rfl inU4 6 (by decide) hl hsame rfl hdg kk
    · skip
      by_cases h2 : G 1 i = 2
      · exact g_get F hw (k := 2) (i := i) hi (ci := 7) (Nf := 14) (C := RX7) (T := TX7) (by show cfT G ad (μ 2) i = _; rw [cfT, if_neg h0, if_neg h1, if_pos h2]) rfl inU7 6 (by decide) hl hsame rfl hdg kk
      · skip
        exact g_get F hw (k := 2) (i := i) hi (ci := 0) (Nf := 17) (C := RX0) (T := TX0) (by show cfT G ad (μ 2) i = _; rw [cfT, if_neg h0, if_neg h1, if_neg h2]) rfl inU0 7 (by decide) hl hsame rfl hdg kk
theorem pC_T_broken (F : CallFix p m c cc nL s args uw own) (hw : wdC G D cy ad A μ s H) (hS : va_S A s.heap H locs) (hi : 0 ≤ i ∧ i < G 0 0) (hl : Cond.fieldLink own idx ref "broken" "I" ∈ uw) (hsame : ∀ x, s.fieldFound? "HammerTowers$Train" "broken" "I" = some x → s.fieldFound? ref "broken" "I" = some x) {v : Int} (hμ : μ1 = ms μ 2 6 i v) (hdg : decode cc pc = .ok (.putfield idx, 3)) (kk : ∀ (H1 : Heap) (locs1 : List Loc), wdC G D cy ad A μ1 s H1 → va_S A s.heap H1 locs1 → W p l e R s m args below meth c H1 locs1 cells slots Q (F0 m (pc + 3) ls rest)) : W p l e R s m args below meth c H locs cells slots Q (F0 m pc ls (.int (iI v) :: .ref (ad 2 i) :: rest)) := by
  by_cases h0 : G 1 i = 0
  · refine g_put F hw hS (k := 2) (i := i) hi (ci := 9) (Nf := 14) (C := RX9) (T := TX9) (by show cfT G ad (μ 2) i = _; rw [cfT, if_pos h0]) rfl inU9 tyX9 tyX9_ok nmX9 6 (by decide) hl hsame rfl rfl rfl (Nat.le_of_ble_eq_true rfl) hdg (fun H1 locs1 h oq hS1 => kk H1 locs1 ?_ hS1)
    rw [hμ, ms_eq]
    refine hw.put (k0 := 2) (i0 := i) hi oq ?_ (fun _ => Iff.rfl) (fun i' hi' _ a H2 q => by rw [show cfC G cy ad 2 (up2 (μ 2) 6 i v) i' = cfC G cy ad 2 (μ 2) i' from cfT_congr (fun c' => up2_ne hi')]; exact q)
    show va_at D vwCl (ad 2 i, cfT G ad (up2 (μ 2) 6 i v) i) H1
    rw [cfT, if_pos h0]
    simpa [up2] using h
  · skip
    by_cases h1 : G 1 i = 1
    · refine g_put F hw hS (k := 2) (i := i) hi (ci := 4) (Nf := 15) (C := RX4) (T := TX4) (by show cfT G ad (μ 2) i = _; rw [cfT, if_neg h0, if_pos h1]) rfl inU4 tyX4 tyX4_ok nmX4 6 (by decide) hl hsame rfl rfl rfl (Nat.le_of_ble_eq_true rfl) hdg (fun H1 locs1 h oq hS1 => kk H1 locs1 ?_ hS1)
      rw [hμ, ms_eq]
      refine hw.put (k0 := 2) (i0 := i) hi oq ?_ (fun _ => Iff.rfl) (fun i' hi' _ a H2 q => by rw [show cfC G cy ad 2 (up2 (μ 2) 6 i v) i' = cfC G cy ad 2 (μ 2) i' from cfT_congr (fun c' => up2_ne hi')]; exact q)
      show va_at D vwCl (ad 2 i, cfT G ad (up2 (μ 2) 6 i v) i) H1
      rw [cfT, if_neg h0, if_pos h1]
      simpa [up2] using h
    · skip
      by_cases h2 : G 1 i = 2
      · refine g_put F hw hS (k := 2) (i := i) hi (ci := 7) (Nf := 14) (C := RX7) (T := TX7) (by show cfT G ad (μ 2) i = _; rw [cfT, if_neg h0, if_neg h1, if_pos h2]) rfl inU7 tyX7 tyX7_ok nmX7 6 (by decide) hl hsame rfl rfl rfl (Nat.le_of_ble_eq_true rfl) hdg (fun H1 locs1 h oq hS1 => kk H1 locs1 ?_ hS1)
        rw [hμ, ms_eq]
        refine hw.put (k0 := 2) (i0 := i) hi oq ?_ (fun _ => Iff.rfl) (fun i' hi' _ a H2 q => by rw [show cfC G cy ad 2 (up2 (μ 2) 6 i v) i' = cfC G cy ad 2 (μ 2) i' from cfT_congr (fun c' => up2_ne hi')]; exact q)
        show va_at D vwCl (ad 2 i, cfT G ad (up2 (μ 2) 6 i v) i) H1
        rw [cfT, if_neg h0, if_neg h1, if_pos h2]
        simpa [up2] using h
      · skip
        refine g_put F hw hS (k := 2) (i := i) hi (ci := 0) (Nf := 17) (C := RX0) (T := TX0) (by show cfT G ad (μ 2) i = _; rw [cfT, if_neg h0, if_neg h1, if_neg h2]) rfl inU0 tyX0 tyX0_ok nmX0 7 (by decide) hl hsame rfl rfl rfl (Nat.le_of_ble_eq_true rfl) hdg (fun H1 locs1 h oq hS1 => kk H1 locs1 ?_ hS1)
        rw [hμ, ms_eq]
        refine hw.put (k0 := 2) (i0 := i) hi oq ?_ (fun _ => Iff.rfl) (fun i' hi' _ a H2 q => by rw [show cfC G cy ad 2 (up2 (μ 2) 6 i v) i' = cfC G cy ad 2 (μ 2) i' from cfT_congr (fun c' => up2_ne hi')]; exact q)
        show va_at D vwCl (ad 2 i, cfT G ad (up2 (μ 2) 6 i v) i) H1
        rw [cfT, if_neg h0, if_neg h1, if_neg h2]
        simpa [up2] using h
theorem gC_T_due (F : CallFix p m c cc nL s args uw own) (hw : wdC G D cy ad A μ s H) (hi : 0 ≤ i ∧ i < G 0 0) (hl : Cond.fieldLink own idx ref "due" "I" ∈ uw) (hsame : ∀ x, s.fieldFound? "HammerTowers$Train" "due" "I" = some x → s.fieldFound? ref "due" "I" = some x) (hdg : decode cc pc = .ok (.getfield idx, 3)) (kk : W p l e R s m args below meth c H locs cells slots Q (F0 m (pc + 3) ls (.int (iI (μ 2 7 i)) :: rest))) : W p l e R s m args below meth c H locs cells slots Q (F0 m pc ls (.ref (ad 2 i) :: rest)) := by
  by_cases h0 : G 1 i = 0
  · exact g_get F hw (k := 2) (i := i) hi (ci := 9) (Nf := 14) (C := RX9) (T := TX9) (by show cfT G ad (μ 2) i = _; rw [cfT, if_pos h0]) rfl inU9 7 (by decide) hl hsame rfl hdg kk
  · skip
    by_cases h1 : G 1 i = 1
    · exact g_get F hw (k := 2) (i := i) hi (ci := 4) (Nf := 15) (C := RX4) (T := TX4) (by show cfT G ad (μ 2) i = _; rw [cfT, if_neg h0, if_pos h1]) rfl inU4 7 (by decide) hl hsame rfl hdg kk
    · skip
      by_cases h2 : G 1 i = 2
      · exact g_get F hw (k := 2) (i := i) hi (ci := 7) (Nf := 14) (C := RX7) (T := TX7) (by show cfT G ad (μ 2) i = _; rw [cfT, if_neg h0, if_neg h1, if_pos h2]) rfl inU7 7 (by decide) hl hsame rfl hdg kk
      · skip
        exact g_get F hw (k := 2) (i := i) hi (ci := 0) (Nf := 17) (C := RX0) (T := TX0) (by show cfT G ad (μ 2) i = _; rw [cfT, if_neg h0, if_neg h1, if_neg h2]) rfl inU0 8 (by decide) hl hsame rfl hdg kk
theorem pC_T_due (F : CallFix p m c cc nL s args uw own) (hw : wdC G D cy ad A μ s H) (hS : va_S A s.heap H locs) (hi : 0 ≤ i ∧ i < G 0 0) (hl : Cond.fieldLink own idx ref "due" "I" ∈ uw) (hsame : ∀ x, s.fieldFound? "HammerTowers$Train" "due" "I" = some x → s.fieldFound? ref "due" "I" = some x) {v : Int} (hμ : μ1 = ms μ 2 7 i v) (hdg : decode cc pc = .ok (.putfield idx, 3)) (kk : ∀ (H1 : Heap) (locs1 : List Loc), wdC G D cy ad A μ1 s H1 → va_S A s.heap H1 locs1 → W p l e R s m args below meth c H1 locs1 cells slots Q (F0 m (pc + 3) ls rest)) : W p l e R s m args below meth c H locs cells slots Q (F0 m pc ls (.int (iI v) :: .ref (ad 2 i) :: rest)) := by
  by_cases h0 : G 1 i = 0
  · refine g_put F hw hS (k := 2) (i := i) hi (ci := 9) (Nf := 14) (C := RX9) (T := TX9) (by show cfT G ad (μ 2) i = _; rw [cfT, if_pos h0]) rfl inU9 tyX9 tyX9_ok nmX9 7 (by decide) hl hsame rfl rfl rfl (Nat.le_of_ble_eq_true rfl) hdg (fun H1 locs1 h oq hS1 => kk H1 locs1 ?_ hS1)
    rw [hμ, ms_eq]
    refine hw.put (k0 := 2) (i0 := i) hi oq ?_ (fun _ => Iff.rfl) (fun i' hi' _ a H2 q => by rw [show cfC G cy ad 2 (up2 (μ 2) 7 i v) i' = cfC G cy ad 2 (μ 2) i' from cfT_congr (fun c' => up2_ne hi')]; exact q)
    show va_at D vwCl (ad 2 i, cfT G ad (up2 (μ 2) 7 i v) i) H1
    rw [cfT, if_pos h0]
    simpa [up2] using h
  · skip
    by_cases h1 : G 1 i = 1
    · refine g_put F hw hS (k := 2) (i := i) hi (ci := 4) (Nf := 15) (C := RX4) (T := TX4) (by show cfT G ad (μ 2) i = _; rw [cfT, if_neg h0, if_pos h1]) rfl inU4 tyX4 tyX4_ok nmX4 7 (by decide) hl hsame rfl rfl rfl (Nat.le_of_ble_eq_true rfl) hdg (fun H1 locs1 h oq hS1 => kk H1 locs1 ?_ hS1)
      rw [hμ, ms_eq]
      refine hw.put (k0 := 2) (i0 := i) hi oq ?_ (fun _ => Iff.rfl) (fun i' hi' _ a H2 q => by rw [show cfC G cy ad 2 (up2 (μ 2) 7 i v) i' = cfC G cy ad 2 (μ 2) i' from cfT_congr (fun c' => up2_ne hi')]; exact q)
      show va_at D vwCl (ad 2 i, cfT G ad (up2 (μ 2) 7 i v) i) H1
      rw [cfT, if_neg h0, if_pos h1]
      simpa [up2] using h
    · skip
      by_cases h2 : G 1 i = 2
      · refine g_put F hw hS (k := 2) (i := i) hi (ci := 7) (Nf := 14) (C := RX7) (T := TX7) (by show cfT G ad (μ 2) i = _; rw [cfT, if_neg h0, if_neg h1, if_pos h2]) rfl inU7 tyX7 tyX7_ok nmX7 7 (by decide) hl hsame rfl rfl rfl (Nat.le_of_ble_eq_true rfl) hdg (fun H1 locs1 h oq hS1 => kk H1 locs1 ?_ hS1)
        rw [hμ, ms_eq]
        refine hw.put (k0 := 2) (i0 := i) hi oq ?_ (fun _ => Iff.rfl) (fun i' hi' _ a H2 q => by rw [show cfC G cy ad 2 (up2 (μ 2) 7 i v) i' = cfC G cy ad 2 (μ 2) i' from cfT_congr (fun c' => up2_ne hi')]; exact q)
        show va_at D vwCl (ad 2 i, cfT G ad (up2 (μ 2) 7 i v) i) H1
        rw [cfT, if_neg h0, if_neg h1, if_pos h2]
        simpa [up2] using h
      · skip
        refine g_put F hw hS (k := 2) (i := i) hi (ci := 0) (Nf := 17) (C := RX0) (T := TX0) (by show cfT G ad (μ 2) i = _; rw [cfT, if_neg h0, if_neg h1, if_neg h2]) rfl inU0 tyX0 tyX0_ok nmX0 8 (by decide) hl hsame rfl rfl rfl (Nat.le_of_ble_eq_true rfl) hdg (fun H1 locs1 h oq hS1 => kk H1 locs1 ?_ hS1)
        rw [hμ, ms_eq]
        refine hw.put (k0 := 2) (i0 := i) hi oq ?_ (fun _ => Iff.rfl) (fun i' hi' _ a H2 q => by rw [show cfC G cy ad 2 (up2 (μ 2) 7 i v) i' = cfC G cy ad 2 (μ 2) i' from cfT_congr (fun c' => up2_ne hi')]; exact q)
        show va_at D vwCl (ad 2 i, cfT G ad (up2 (μ 2) 7 i v) i) H1
        rw [cfT, if_neg h0, if_neg h1, if_neg h2]
        simpa [up2] using h
theorem gC_T_struck (F : CallFix p m c cc nL s args uw own) (hw : wdC G D cy ad A μ s H) (hi : 0 ≤ i ∧ i < G 0 0) (hl : Cond.fieldLink own idx ref "struck" "I" ∈ uw) (hsame : ∀ x, s.fieldFound? "HammerTowers$Train" "struck" "I" = some x → s.fieldFound? ref "struck" "I" = some x) (hdg : decode cc pc = .ok (.getfield idx, 3)) (kk : W p l e R s m args below meth c H locs cells slots Q (F0 m (pc + 3) ls (.int (iI (μ 2 8 i)) :: rest))) : W p l e R s m args below meth c H locs cells slots Q (F0 m pc ls (.ref (ad 2 i) :: rest)) := by
  by_cases h0 : G 1 i = 0
  · exact g_get F hw (k := 2) (i := i) hi (ci := 9) (Nf := 14) (C := RX9) (T := TX9) (by show cfT G ad (μ 2) i = _; rw [cfT, if_pos h0]) rfl inU9 8 (by decide) hl hsame rfl hdg kk
  · skip
    by_cases h1 : G 1 i = 1
    · exact g_get F hw (k := 2) (i := i) hi (ci := 4) (Nf := 15) (C := RX4) (T := TX4) (by show cfT G ad (μ 2) i = _; rw [cfT, if_neg h0, if_pos h1]) rfl inU4 8 (by decide) hl hsame rfl hdg kk
    · skip
      by_cases h2 : G 1 i = 2
      · exact g_get F hw (k := 2) (i := i) hi (ci := 7) (Nf := 14) (C := RX7) (T := TX7) (by show cfT G ad (μ 2) i = _; rw [cfT, if_neg h0, if_neg h1, if_pos h2]) rfl inU7 8 (by decide) hl hsame rfl hdg kk
      · skip
        exact g_get F hw (k := 2) (i := i) hi (ci := 0) (Nf := 17) (C := RX0) (T := TX0) (by show cfT G ad (μ 2) i = _; rw [cfT, if_neg h0, if_neg h1, if_neg h2]) rfl inU0 9 (by decide) hl hsame rfl hdg kk
theorem pC_T_struck (F : CallFix p m c cc nL s args uw own) (hw : wdC G D cy ad A μ s H) (hS : va_S A s.heap H locs) (hi : 0 ≤ i ∧ i < G 0 0) (hl : Cond.fieldLink own idx ref "struck" "I" ∈ uw) (hsame : ∀ x, s.fieldFound? "HammerTowers$Train" "struck" "I" = some x → s.fieldFound? ref "struck" "I" = some x) {v : Int} (hμ : μ1 = ms μ 2 8 i v) (hdg : decode cc pc = .ok (.putfield idx, 3)) (kk : ∀ (H1 : Heap) (locs1 : List Loc), wdC G D cy ad A μ1 s H1 → va_S A s.heap H1 locs1 → W p l e R s m args below meth c H1 locs1 cells slots Q (F0 m (pc + 3) ls rest)) : W p l e R s m args below meth c H locs cells slots Q (F0 m pc ls (.int (iI v) :: .ref (ad 2 i) :: rest)) := by
  by_cases h0 : G 1 i = 0
  · refine g_put F hw hS (k := 2) (i := i) hi (ci := 9) (Nf := 14) (C := RX9) (T := TX9) (by show cfT G ad (μ 2) i = _; rw [cfT, if_pos h0]) rfl inU9 tyX9 tyX9_ok nmX9 8 (by decide) hl hsame rfl rfl rfl (Nat.le_of_ble_eq_true rfl) hdg (fun H1 locs1 h oq hS1 => kk H1 locs1 ?_ hS1)
    rw [hμ, ms_eq]
    refine hw.put (k0 := 2) (i0 := i) hi oq ?_ (fun _ => Iff.rfl) (fun i' hi' _ a H2 q => by rw [show cfC G cy ad 2 (up2 (μ 2) 8 i v) i' = cfC G cy ad 2 (μ 2) i' from cfT_congr (fun c' => up2_ne hi')]; exact q)
    show va_at D vwCl (ad 2 i, cfT G ad (up2 (μ 2) 8 i v) i) H1
    rw [cfT, if_pos h0]
    simpa [up2] using h
  · skip
    by_cases h1 : G 1 i = 1
    · refine g_put F hw hS (k := 2) (i := i) hi (ci := 4) (Nf := 15) (C := RX4) (T := TX4) (by show cfT G ad (μ 2) i = _; rw [cfT, if_neg h0, if_pos h1]) rfl inU4 tyX4 tyX4_ok nmX4 8 (by decide) hl hsame rfl rfl rfl (Nat.le_of_ble_eq_true rfl) hdg (fun H1 locs1 h oq hS1 => kk H1 locs1 ?_ hS1)
      rw [hμ, ms_eq]
      refine hw.put (k0 := 2) (i0 := i) hi oq ?_ (fun _ => Iff.rfl) (fun i' hi' _ a H2 q => by rw [show cfC G cy ad 2 (up2 (μ 2) 8 i v) i' = cfC G cy ad 2 (μ 2) i' from cfT_congr (fun c' => up2_ne hi')]; exact q)
      show va_at D vwCl (ad 2 i, cfT G ad (up2 (μ 2) 8 i v) i) H1
      rw [cfT, if_neg h0, if_pos h1]
      simpa [up2] using h
    · skip
      by_cases h2 : G 1 i = 2
      · refine g_put F hw hS (k := 2) (i := i) hi (ci := 7) (Nf := 14) (C := RX7) (T := TX7) (by show cfT G ad (μ 2) i = _; rw [cfT, if_neg h0, if_neg h1, if_pos h2]) rfl inU7 tyX7 tyX7_ok nmX7 8 (by decide) hl hsame rfl rfl rfl (Nat.le_of_ble_eq_true rfl) hdg (fun H1 locs1 h oq hS1 => kk H1 locs1 ?_ hS1)
        rw [hμ, ms_eq]
        refine hw.put (k0 := 2) (i0 := i) hi oq ?_ (fun _ => Iff.rfl) (fun i' hi' _ a H2 q => by rw [show cfC G cy ad 2 (up2 (μ 2) 8 i v) i' = cfC G cy ad 2 (μ 2) i' from cfT_congr (fun c' => up2_ne hi')]; exact q)
        show va_at D vwCl (ad 2 i, cfT G ad (up2 (μ 2) 8 i v) i) H1
        rw [cfT, if_neg h0, if_neg h1, if_pos h2]
        simpa [up2] using h
      · skip
        refine g_put F hw hS (k := 2) (i := i) hi (ci := 0) (Nf := 17) (C := RX0) (T := TX0) (by show cfT G ad (μ 2) i = _; rw [cfT, if_neg h0, if_neg h1, if_neg h2]) rfl inU0 tyX0 tyX0_ok nmX0 9 (by decide) hl hsame rfl rfl rfl (Nat.le_of_ble_eq_true rfl) hdg (fun H1 locs1 h oq hS1 => kk H1 locs1 ?_ hS1)
        rw [hμ, ms_eq]
        refine hw.put (k0 := 2) (i0 := i) hi oq ?_ (fun _ => Iff.rfl) (fun i' hi' _ a H2 q => by rw [show cfC G cy ad 2 (up2 (μ 2) 8 i v) i' = cfC G cy ad 2 (μ 2) i' from cfT_congr (fun c' => up2_ne hi')]; exact q)
        show va_at D vwCl (ad 2 i, cfT G ad (up2 (μ 2) 8 i v) i) H1
        rw [cfT, if_neg h0, if_neg h1, if_neg h2]
        simpa [up2] using h
theorem gC_T_tower (F : CallFix p m c cc nL s args uw own) (hw : wdC G D cy ad A μ s H) (hi : 0 ≤ i ∧ i < G 0 0) (hl : Cond.fieldLink own idx ref "tower" "I" ∈ uw) (hsame : ∀ x, s.fieldFound? "HammerTowers$Train" "tower" "I" = some x → s.fieldFound? ref "tower" "I" = some x) (hdg : decode cc pc = .ok (.getfield idx, 3)) (kk : W p l e R s m args below meth c H locs cells slots Q (F0 m (pc + 3) ls (.int (iI (μ 2 9 i)) :: rest))) : W p l e R s m args below meth c H locs cells slots Q (F0 m pc ls (.ref (ad 2 i) :: rest)) := by
  by_cases h0 : G 1 i = 0
  · exact g_get F hw (k := 2) (i := i) hi (ci := 9) (Nf := 14) (C := RX9) (T := TX9) (by show cfT G ad (μ 2) i = _; rw [cfT, if_pos h0]) rfl inU9 9 (by decide) hl hsame rfl hdg kk
  · skip
    by_cases h1 : G 1 i = 1
    · exact g_get F hw (k := 2) (i := i) hi (ci := 4) (Nf := 15) (C := RX4) (T := TX4) (by show cfT G ad (μ 2) i = _; rw [cfT, if_neg h0, if_pos h1]) rfl inU4 9 (by decide) hl hsame rfl hdg kk
    · skip
      by_cases h2 : G 1 i = 2
      · exact g_get F hw (k := 2) (i := i) hi (ci := 7) (Nf := 14) (C := RX7) (T := TX7) (by show cfT G ad (μ 2) i = _; rw [cfT, if_neg h0, if_neg h1, if_pos h2]) rfl inU7 9 (by decide) hl hsame rfl hdg kk
      · skip
        exact g_get F hw (k := 2) (i := i) hi (ci := 0) (Nf := 17) (C := RX0) (T := TX0) (by show cfT G ad (μ 2) i = _; rw [cfT, if_neg h0, if_neg h1, if_neg h2]) rfl inU0 10 (by decide) hl hsame rfl hdg kk
theorem pC_T_tower (F : CallFix p m c cc nL s args uw own) (hw : wdC G D cy ad A μ s H) (hS : va_S A s.heap H locs) (hi : 0 ≤ i ∧ i < G 0 0) (hl : Cond.fieldLink own idx ref "tower" "I" ∈ uw) (hsame : ∀ x, s.fieldFound? "HammerTowers$Train" "tower" "I" = some x → s.fieldFound? ref "tower" "I" = some x) {v : Int} (hμ : μ1 = ms μ 2 9 i v) (hdg : decode cc pc = .ok (.putfield idx, 3)) (kk : ∀ (H1 : Heap) (locs1 : List Loc), wdC G D cy ad A μ1 s H1 → va_S A s.heap H1 locs1 → W p l e R s m args below meth c H1 locs1 cells slots Q (F0 m (pc + 3) ls rest)) : W p l e R s m args below meth c H locs cells slots Q (F0 m pc ls (.int (iI v) :: .ref (ad 2 i) :: rest)) := by
  by_cases h0 : G 1 i = 0
  · refine g_put F hw hS (k := 2) (i := i) hi (ci := 9) (Nf := 14) (C := RX9) (T := TX9) (by show cfT G ad (μ 2) i = _; rw [cfT, if_pos h0]) rfl inU9 tyX9 tyX9_ok nmX9 9 (by decide) hl hsame rfl rfl rfl (Nat.le_of_ble_eq_true rfl) hdg (fun H1 locs1 h oq hS1 => kk H1 locs1 ?_ hS1)
    rw [hμ, ms_eq]
    refine hw.put (k0 := 2) (i0 := i) hi oq ?_ (fun _ => Iff.rfl) (fun i' hi' _ a H2 q => by rw [show cfC G cy ad 2 (up2 (μ 2) 9 i v) i' = cfC G cy ad 2 (μ 2) i' from cfT_congr (fun c' => up2_ne hi')]; exact q)
    show va_at D vwCl (ad 2 i, cfT G ad (up2 (μ 2) 9 i v) i) H1
    rw [cfT, if_pos h0]
    simpa [up2] using h
  · skip
    by_cases h1 : G 1 i = 1
    · refine g_put F hw hS (k := 2) (i := i) hi (ci := 4) (Nf := 15) (C := RX4) (T := TX4) (by show cfT G ad (μ 2) i = _; rw [cfT, if_neg h0, if_pos h1]) rfl inU4 tyX4 tyX4_ok nmX4 9 (by decide) hl hsame rfl rfl rfl (Nat.le_of_ble_eq_true rfl) hdg (fun H1 locs1 h oq hS1 => kk H1 locs1 ?_ hS1)
      rw [hμ, ms_eq]
      refine hw.put (k0 := 2) (i0 := i) hi oq ?_ (fun _ => Iff.rfl) (fun i' hi' _ a H2 q => by rw [show cfC G cy ad 2 (up2 (μ 2) 9 i v) i' = cfC G cy ad 2 (μ 2) i' from cfT_congr (fun c' => up2_ne hi')]; exact q)
      show va_at D vwCl (ad 2 i, cfT G ad (up2 (μ 2) 9 i v) i) H1
      rw [cfT, if_neg h0, if_pos h1]
      simpa [up2] using h
    · skip
      by_cases h2 : G 1 i = 2
      · refine g_put F hw hS (k := 2) (i := i) hi (ci := 7) (Nf := 14) (C := RX7) (T := TX7) (by show cfT G ad (μ 2) i = _; rw [cfT, if_neg h0, if_neg h1, if_pos h2]) rfl inU7 tyX7 tyX7_ok nmX7 9 (by decide) hl hsame rfl rfl rfl (Nat.le_of_ble_eq_true rfl) hdg (fun H1 locs1 h oq hS1 => kk H1 locs1 ?_ hS1)
        rw [hμ, ms_eq]
        refine hw.put (k0 := 2) (i0 := i) hi oq ?_ (fun _ => Iff.rfl) (fun i' hi' _ a H2 q => by rw [show cfC G cy ad 2 (up2 (μ 2) 9 i v) i' = cfC G cy ad 2 (μ 2) i' from cfT_congr (fun c' => up2_ne hi')]; exact q)
        show va_at D vwCl (ad 2 i, cfT G ad (up2 (μ 2) 9 i v) i) H1
        rw [cfT, if_neg h0, if_neg h1, if_pos h2]
        simpa [up2] using h
      · skip
        refine g_put F hw hS (k := 2) (i := i) hi (ci := 0) (Nf := 17) (C := RX0) (T := TX0) (by show cfT G ad (μ 2) i = _; rw [cfT, if_neg h0, if_neg h1, if_neg h2]) rfl inU0 tyX0 tyX0_ok nmX0 10 (by decide) hl hsame rfl rfl rfl (Nat.le_of_ble_eq_true rfl) hdg (fun H1 locs1 h oq hS1 => kk H1 locs1 ?_ hS1)
        rw [hμ, ms_eq]
        refine hw.put (k0 := 2) (i0 := i) hi oq ?_ (fun _ => Iff.rfl) (fun i' hi' _ a H2 q => by rw [show cfC G cy ad 2 (up2 (μ 2) 9 i v) i' = cfC G cy ad 2 (μ 2) i' from cfT_congr (fun c' => up2_ne hi')]; exact q)
        show va_at D vwCl (ad 2 i, cfT G ad (up2 (μ 2) 9 i v) i) H1
        rw [cfT, if_neg h0, if_neg h1, if_neg h2]
        simpa [up2] using h
theorem gC_T_warned (F : CallFix p m c cc nL s args uw own) (hw : wdC G D cy ad A μ s H) (hi : 0 ≤ i ∧ i < G 0 0) (hl : Cond.fieldLink own idx ref "warned" "Z" ∈ uw) (hsame : ∀ x, s.fieldFound? "HammerTowers$Train" "warned" "Z" = some x → s.fieldFound? ref "warned" "Z" = some x) (hdg : decode cc pc = .ok (.getfield idx, 3)) (kk : W p l e R s m args below meth c H locs cells slots Q (F0 m (pc + 3) ls (.int (iI (μ 2 10 i)) :: rest))) : W p l e R s m args below meth c H locs cells slots Q (F0 m pc ls (.ref (ad 2 i) :: rest)) := by
  by_cases h0 : G 1 i = 0
  · exact g_get F hw (k := 2) (i := i) hi (ci := 9) (Nf := 14) (C := RX9) (T := TX9) (by show cfT G ad (μ 2) i = _; rw [cfT, if_pos h0]) rfl inU9 10 (by decide) hl hsame rfl hdg kk
  · skip
    by_cases h1 : G 1 i = 1
    · exact g_get F hw (k := 2) (i := i) hi (ci := 4) (Nf := 15) (C := RX4) (T := TX4) (by show cfT G ad (μ 2) i = _; rw [cfT, if_neg h0, if_pos h1]) rfl inU4 10 (by decide) hl hsame rfl hdg kk
    · skip
      by_cases h2 : G 1 i = 2
      · exact g_get F hw (k := 2) (i := i) hi (ci := 7) (Nf := 14) (C := RX7) (T := TX7) (by show cfT G ad (μ 2) i = _; rw [cfT, if_neg h0, if_neg h1, if_pos h2]) rfl inU7 10 (by decide) hl hsame rfl hdg kk
      · skip
        exact g_get F hw (k := 2) (i := i) hi (ci := 0) (Nf := 17) (C := RX0) (T := TX0) (by show cfT G ad (μ 2) i = _; rw [cfT, if_neg h0, if_neg h1, if_neg h2]) rfl inU0 11 (by decide) hl hsame rfl hdg kk
theorem pC_T_warned (F : CallFix p m c cc nL s args uw own) (hw : wdC G D cy ad A μ s H) (hS : va_S A s.heap H locs) (hi : 0 ≤ i ∧ i < G 0 0) (hl : Cond.fieldLink own idx ref "warned" "Z" ∈ uw) (hsame : ∀ x, s.fieldFound? "HammerTowers$Train" "warned" "Z" = some x → s.fieldFound? ref "warned" "Z" = some x) {v : Int} (hbv : v = 0 ∨ v = 1) (hμ : μ1 = ms μ 2 10 i v) (hdg : decode cc pc = .ok (.putfield idx, 3)) (kk : ∀ (H1 : Heap) (locs1 : List Loc), wdC G D cy ad A μ1 s H1 → va_S A s.heap H1 locs1 → W p l e R s m args below meth c H1 locs1 cells slots Q (F0 m (pc + 3) ls rest)) : W p l e R s m args below meth c H locs cells slots Q (F0 m pc ls (.int (iI v) :: .ref (ad 2 i) :: rest)) := by
  by_cases h0 : G 1 i = 0
  · refine g_put F hw hS (k := 2) (i := i) hi (ci := 9) (Nf := 14) (C := RX9) (T := TX9) (by show cfT G ad (μ 2) i = _; rw [cfT, if_pos h0]) rfl inU9 tyX9 tyX9_ok nmX9 10 (by decide) hl hsame rfl (by rcases hbv with rfl | rfl <;> rfl) (by rcases hbv with rfl | rfl <;> rfl) (Nat.le_of_ble_eq_true rfl) hdg (fun H1 locs1 h oq hS1 => kk H1 locs1 ?_ hS1)
    rw [hμ, ms_eq]
    refine hw.put (k0 := 2) (i0 := i) hi oq ?_ (fun _ => Iff.rfl) (fun i' hi' _ a H2 q => by rw [show cfC G cy ad 2 (up2 (μ 2) 10 i v) i' = cfC G cy ad 2 (μ 2) i' from cfT_congr (fun c' => up2_ne hi')]; exact q)
    show va_at D vwCl (ad 2 i, cfT G ad (up2 (μ 2) 10 i v) i) H1
    rw [cfT, if_pos h0]
    simpa [up2] using h
  · skip
    by_cases h1 : G 1 i = 1
    · refine g_put F hw hS (k := 2) (i := i) hi (ci := 4) (Nf := 15) (C := RX4) (T := TX4) (by show cfT G ad (μ 2) i = _; rw [cfT, if_neg h0, if_pos h1]) rfl inU4 tyX4 tyX4_ok nmX4 10 (by decide) hl hsame rfl (by rcases hbv with rfl | rfl <;> rfl) (by rcases hbv with rfl | rfl <;> rfl) (Nat.le_of_ble_eq_true rfl) hdg (fun H1 locs1 h oq hS1 => kk H1 locs1 ?_ hS1)
      rw [hμ, ms_eq]
      refine hw.put (k0 := 2) (i0 := i) hi oq ?_ (fun _ => Iff.rfl) (fun i' hi' _ a H2 q => by rw [show cfC G cy ad 2 (up2 (μ 2) 10 i v) i' = cfC G cy ad 2 (μ 2) i' from cfT_congr (fun c' => up2_ne hi')]; exact q)
      show va_at D vwCl (ad 2 i, cfT G ad (up2 (μ 2) 10 i v) i) H1
      rw [cfT, if_neg h0, if_pos h1]
      simpa [up2] using h
    · skip
      by_cases h2 : G 1 i = 2
      · refine g_put F hw hS (k := 2) (i := i) hi (ci := 7) (Nf := 14) (C := RX7) (T := TX7) (by show cfT G ad (μ 2) i = _; rw [cfT, if_neg h0, if_neg h1, if_pos h2]) rfl inU7 tyX7 tyX7_ok nmX7 10 (by decide) hl hsame rfl (by rcases hbv with rfl | rfl <;> rfl) (by rcases hbv with rfl | rfl <;> rfl) (Nat.le_of_ble_eq_true rfl) hdg (fun H1 locs1 h oq hS1 => kk H1 locs1 ?_ hS1)
        rw [hμ, ms_eq]
        refine hw.put (k0 := 2) (i0 := i) hi oq ?_ (fun _ => Iff.rfl) (fun i' hi' _ a H2 q => by rw [show cfC G cy ad 2 (up2 (μ 2) 10 i v) i' = cfC G cy ad 2 (μ 2) i' from cfT_congr (fun c' => up2_ne hi')]; exact q)
        show va_at D vwCl (ad 2 i, cfT G ad (up2 (μ 2) 10 i v) i) H1
        rw [cfT, if_neg h0, if_neg h1, if_pos h2]
        simpa [up2] using h
      · skip
        refine g_put F hw hS (k := 2) (i := i) hi (ci := 0) (Nf := 17) (C := RX0) (T := TX0) (by show cfT G ad (μ 2) i = _; rw [cfT, if_neg h0, if_neg h1, if_neg h2]) rfl inU0 tyX0 tyX0_ok nmX0 11 (by decide) hl hsame rfl (by rcases hbv with rfl | rfl <;> rfl) (by rcases hbv with rfl | rfl <;> rfl) (Nat.le_of_ble_eq_true rfl) hdg (fun H1 locs1 h oq hS1 => kk H1 locs1 ?_ hS1)
        rw [hμ, ms_eq]
        refine hw.put (k0 := 2) (i0 := i) hi oq ?_ (fun _ => Iff.rfl) (fun i' hi' _ a H2 q => by rw [show cfC G cy ad 2 (up2 (μ 2) 10 i v) i' = cfC G cy ad 2 (μ 2) i' from cfT_congr (fun c' => up2_ne hi')]; exact q)
        show va_at D vwCl (ad 2 i, cfT G ad (up2 (μ 2) 10 i v) i) H1
        rw [cfT, if_neg h0, if_neg h1, if_neg h2]
        simpa [up2] using h
theorem gC_T_lifts (F : CallFix p m c cc nL s args uw own) (hw : wdC G D cy ad A μ s H) (hi : 0 ≤ i ∧ i < G 0 0) (hl : Cond.fieldLink own idx ref "lifts" "Z" ∈ uw) (hsame : ∀ x, s.fieldFound? "HammerTowers$Train" "lifts" "Z" = some x → s.fieldFound? ref "lifts" "Z" = some x) (hdg : decode cc pc = .ok (.getfield idx, 3)) (kk : W p l e R s m args below meth c H locs cells slots Q (F0 m (pc + 3) ls (.int (iI (μ 2 11 i)) :: rest))) : W p l e R s m args below meth c H locs cells slots Q (F0 m pc ls (.ref (ad 2 i) :: rest)) := by
  by_cases h0 : G 1 i = 0
  · exact g_get F hw (k := 2) (i := i) hi (ci := 9) (Nf := 14) (C := RX9) (T := TX9) (by show cfT G ad (μ 2) i = _; rw [cfT, if_pos h0]) rfl inU9 11 (by decide) hl hsame rfl hdg kk
  · skip
    by_cases h1 : G 1 i = 1
    · exact g_get F hw (k := 2) (i := i) hi (ci := 4) (Nf := 15) (C := RX4) (T := TX4) (by show cfT G ad (μ 2) i = _; rw [cfT, if_neg h0, if_pos h1]) rfl inU4 11 (by decide) hl hsame rfl hdg kk
    · skip
      by_cases h2 : G 1 i = 2
      · exact g_get F hw (k := 2) (i := i) hi (ci := 7) (Nf := 14) (C := RX7) (T := TX7) (by show cfT G ad (μ 2) i = _; rw [cfT, if_neg h0, if_neg h1, if_pos h2]) rfl inU7 11 (by decide) hl hsame rfl hdg kk
      · skip
        exact g_get F hw (k := 2) (i := i) hi (ci := 0) (Nf := 17) (C := RX0) (T := TX0) (by show cfT G ad (μ 2) i = _; rw [cfT, if_neg h0, if_neg h1, if_neg h2]) rfl inU0 12 (by decide) hl hsame rfl hdg kk
theorem pC_T_lifts (F : CallFix p m c cc nL s args uw own) (hw : wdC G D cy ad A μ s H) (hS : va_S A s.heap H locs) (hi : 0 ≤ i ∧ i < G 0 0) (hl : Cond.fieldLink own idx ref "lifts" "Z" ∈ uw) (hsame : ∀ x, s.fieldFound? "HammerTowers$Train" "lifts" "Z" = some x → s.fieldFound? ref "lifts" "Z" = some x) {v : Int} (hbv : v = 0 ∨ v = 1) (hμ : μ1 = ms μ 2 11 i v) (hdg : decode cc pc = .ok (.putfield idx, 3)) (kk : ∀ (H1 : Heap) (locs1 : List Loc), wdC G D cy ad A μ1 s H1 → va_S A s.heap H1 locs1 → W p l e R s m args below meth c H1 locs1 cells slots Q (F0 m (pc + 3) ls rest)) : W p l e R s m args below meth c H locs cells slots Q (F0 m pc ls (.int (iI v) :: .ref (ad 2 i) :: rest)) := by
  by_cases h0 : G 1 i = 0
  · refine g_put F hw hS (k := 2) (i := i) hi (ci := 9) (Nf := 14) (C := RX9) (T := TX9) (by show cfT G ad (μ 2) i = _; rw [cfT, if_pos h0]) rfl inU9 tyX9 tyX9_ok nmX9 11 (by decide) hl hsame rfl (by rcases hbv with rfl | rfl <;> rfl) (by rcases hbv with rfl | rfl <;> rfl) (Nat.le_of_ble_eq_true rfl) hdg (fun H1 locs1 h oq hS1 => kk H1 locs1 ?_ hS1)
    rw [hμ, ms_eq]
    refine hw.put (k0 := 2) (i0 := i) hi oq ?_ (fun _ => Iff.rfl) (fun i' hi' _ a H2 q => by rw [show cfC G cy ad 2 (up2 (μ 2) 11 i v) i' = cfC G cy ad 2 (μ 2) i' from cfT_congr (fun c' => up2_ne hi')]; exact q)
    show va_at D vwCl (ad 2 i, cfT G ad (up2 (μ 2) 11 i v) i) H1
    rw [cfT, if_pos h0]
    simpa [up2] using h
  · skip
    by_cases h1 : G 1 i = 1
    · refine g_put F hw hS (k := 2) (i := i) hi (ci := 4) (Nf := 15) (C := RX4) (T := TX4) (by show cfT G ad (μ 2) i = _; rw [cfT, if_neg h0, if_pos h1]) rfl inU4 tyX4 tyX4_ok nmX4 11 (by decide) hl hsame rfl (by rcases hbv with rfl | rfl <;> rfl) (by rcases hbv with rfl | rfl <;> rfl) (Nat.le_of_ble_eq_true rfl) hdg (fun H1 locs1 h oq hS1 => kk H1 locs1 ?_ hS1)
      rw [hμ, ms_eq]
      refine hw.put (k0 := 2) (i0 := i) hi oq ?_ (fun _ => Iff.rfl) (fun i' hi' _ a H2 q => by rw [show cfC G cy ad 2 (up2 (μ 2) 11 i v) i' = cfC G cy ad 2 (μ 2) i' from cfT_congr (fun c' => up2_ne hi')]; exact q)
      show va_at D vwCl (ad 2 i, cfT G ad (up2 (μ 2) 11 i v) i) H1
      rw [cfT, if_neg h0, if_pos h1]
      simpa [up2] using h
    · skip
      by_cases h2 : G 1 i = 2
      · refine g_put F hw hS (k := 2) (i := i) hi (ci := 7) (Nf := 14) (C := RX7) (T := TX7) (by show cfT G ad (μ 2) i = _; rw [cfT, if_neg h0, if_neg h1, if_pos h2]) rfl inU7 tyX7 tyX7_ok nmX7 11 (by decide) hl hsame rfl (by rcases hbv with rfl | rfl <;> rfl) (by rcases hbv with rfl | rfl <;> rfl) (Nat.le_of_ble_eq_true rfl) hdg (fun H1 locs1 h oq hS1 => kk H1 locs1 ?_ hS1)
        rw [hμ, ms_eq]
        refine hw.put (k0 := 2) (i0 := i) hi oq ?_ (fun _ => Iff.rfl) (fun i' hi' _ a H2 q => by rw [show cfC G cy ad 2 (up2 (μ 2) 11 i v) i' = cfC G cy ad 2 (μ 2) i' from cfT_congr (fun c' => up2_ne hi')]; exact q)
        show va_at D vwCl (ad 2 i, cfT G ad (up2 (μ 2) 11 i v) i) H1
        rw [cfT, if_neg h0, if_neg h1, if_pos h2]
        simpa [up2] using h
      · skip
        refine g_put F hw hS (k := 2) (i := i) hi (ci := 0) (Nf := 17) (C := RX0) (T := TX0) (by show cfT G ad (μ 2) i = _; rw [cfT, if_neg h0, if_neg h1, if_neg h2]) rfl inU0 tyX0 tyX0_ok nmX0 12 (by decide) hl hsame rfl (by rcases hbv with rfl | rfl <;> rfl) (by rcases hbv with rfl | rfl <;> rfl) (Nat.le_of_ble_eq_true rfl) hdg (fun H1 locs1 h oq hS1 => kk H1 locs1 ?_ hS1)
        rw [hμ, ms_eq]
        refine hw.put (k0 := 2) (i0 := i) hi oq ?_ (fun _ => Iff.rfl) (fun i' hi' _ a H2 q => by rw [show cfC G cy ad 2 (up2 (μ 2) 11 i v) i' = cfC G cy ad 2 (μ 2) i' from cfT_congr (fun c' => up2_ne hi')]; exact q)
        show va_at D vwCl (ad 2 i, cfT G ad (up2 (μ 2) 11 i v) i) H1
        rw [cfT, if_neg h0, if_neg h1, if_neg h2]
        simpa [up2] using h
theorem gC_T_heardStrokes (F : CallFix p m c cc nL s args uw own) (hw : wdC G D cy ad A μ s H) (hi : 0 ≤ i ∧ i < G 0 0) (hl : Cond.fieldLink own idx ref "heardStrokes" "I" ∈ uw) (hsame : ∀ x, s.fieldFound? "HammerTowers$Train" "heardStrokes" "I" = some x → s.fieldFound? ref "heardStrokes" "I" = some x) (hdg : decode cc pc = .ok (.getfield idx, 3)) (kk : W p l e R s m args below meth c H locs cells slots Q (F0 m (pc + 3) ls (.int (iI (μ 2 12 i)) :: rest))) : W p l e R s m args below meth c H locs cells slots Q (F0 m pc ls (.ref (ad 2 i) :: rest)) := by
  by_cases h0 : G 1 i = 0
  · exact g_get F hw (k := 2) (i := i) hi (ci := 9) (Nf := 14) (C := RX9) (T := TX9) (by show cfT G ad (μ 2) i = _; rw [cfT, if_pos h0]) rfl inU9 12 (by decide) hl hsame rfl hdg kk
  · skip
    by_cases h1 : G 1 i = 1
    · exact g_get F hw (k := 2) (i := i) hi (ci := 4) (Nf := 15) (C := RX4) (T := TX4) (by show cfT G ad (μ 2) i = _; rw [cfT, if_neg h0, if_pos h1]) rfl inU4 12 (by decide) hl hsame rfl hdg kk
    · skip
      by_cases h2 : G 1 i = 2
      · exact g_get F hw (k := 2) (i := i) hi (ci := 7) (Nf := 14) (C := RX7) (T := TX7) (by show cfT G ad (μ 2) i = _; rw [cfT, if_neg h0, if_neg h1, if_pos h2]) rfl inU7 12 (by decide) hl hsame rfl hdg kk
      · skip
        exact g_get F hw (k := 2) (i := i) hi (ci := 0) (Nf := 17) (C := RX0) (T := TX0) (by show cfT G ad (μ 2) i = _; rw [cfT, if_neg h0, if_neg h1, if_neg h2]) rfl inU0 13 (by decide) hl hsame rfl hdg kk
theorem pC_T_heardStrokes (F : CallFix p m c cc nL s args uw own) (hw : wdC G D cy ad A μ s H) (hS : va_S A s.heap H locs) (hi : 0 ≤ i ∧ i < G 0 0) (hl : Cond.fieldLink own idx ref "heardStrokes" "I" ∈ uw) (hsame : ∀ x, s.fieldFound? "HammerTowers$Train" "heardStrokes" "I" = some x → s.fieldFound? ref "heardStrokes" "I" = some x) {v : Int} (hμ : μ1 = ms μ 2 12 i v) (hdg : decode cc pc = .ok (.putfield idx, 3)) (kk : ∀ (H1 : Heap) (locs1 : List Loc), wdC G D cy ad A μ1 s H1 → va_S A s.heap H1 locs1 → W p l e R s m args below meth c H1 locs1 cells slots Q (F0 m (pc + 3) ls rest)) : W p l e R s m args below meth c H locs cells slots Q (F0 m pc ls (.int (iI v) :: .ref (ad 2 i) :: rest)) := by
  by_cases h0 : G 1 i = 0
  · refine g_put F hw hS (k := 2) (i := i) hi (ci := 9) (Nf := 14) (C := RX9) (T := TX9) (by show cfT G ad (μ 2) i = _; rw [cfT, if_pos h0]) rfl inU9 tyX9 tyX9_ok nmX9 12 (by decide) hl hsame rfl rfl rfl (Nat.le_of_ble_eq_true rfl) hdg (fun H1 locs1 h oq hS1 => kk H1 locs1 ?_ hS1)
    rw [hμ, ms_eq]
    refine hw.put (k0 := 2) (i0 := i) hi oq ?_ (fun _ => Iff.rfl) (fun i' hi' _ a H2 q => by rw [show cfC G cy ad 2 (up2 (μ 2) 12 i v) i' = cfC G cy ad 2 (μ 2) i' from cfT_congr (fun c' => up2_ne hi')]; exact q)
    show va_at D vwCl (ad 2 i, cfT G ad (up2 (μ 2) 12 i v) i) H1
    rw [cfT, if_pos h0]
    simpa [up2] using h
  · skip
    by_cases h1 : G 1 i = 1
    · refine g_put F hw hS (k := 2) (i := i) hi (ci := 4) (Nf := 15) (C := RX4) (T := TX4) (by show cfT G ad (μ 2) i = _; rw [cfT, if_neg h0, if_pos h1]) rfl inU4 tyX4 tyX4_ok nmX4 12 (by decide) hl hsame rfl rfl rfl (Nat.le_of_ble_eq_true rfl) hdg (fun H1 locs1 h oq hS1 => kk H1 locs1 ?_ hS1)
      rw [hμ, ms_eq]
      refine hw.put (k0 := 2) (i0 := i) hi oq ?_ (fun _ => Iff.rfl) (fun i' hi' _ a H2 q => by rw [show cfC G cy ad 2 (up2 (μ 2) 12 i v) i' = cfC G cy ad 2 (μ 2) i' from cfT_congr (fun c' => up2_ne hi')]; exact q)
      show va_at D vwCl (ad 2 i, cfT G ad (up2 (μ 2) 12 i v) i) H1
      rw [cfT, if_neg h0, if_pos h1]
      simpa [up2] using h
    · skip
      by_cases h2 : G 1 i = 2
      · refine g_put F hw hS (k := 2) (i := i) hi (ci := 7) (Nf := 14) (C := RX7) (T := TX7) (by show cfT G ad (μ 2) i = _; rw [cfT, if_neg h0, if_neg h1, if_pos h2]) rfl inU7 tyX7 tyX7_ok nmX7 12 (by decide) hl hsame rfl rfl rfl (Nat.le_of_ble_eq_true rfl) hdg (fun H1 locs1 h oq hS1 => kk H1 locs1 ?_ hS1)
        rw [hμ, ms_eq]
        refine hw.put (k0 := 2) (i0 := i) hi oq ?_ (fun _ => Iff.rfl) (fun i' hi' _ a H2 q => by rw [show cfC G cy ad 2 (up2 (μ 2) 12 i v) i' = cfC G cy ad 2 (μ 2) i' from cfT_congr (fun c' => up2_ne hi')]; exact q)
        show va_at D vwCl (ad 2 i, cfT G ad (up2 (μ 2) 12 i v) i) H1
        rw [cfT, if_neg h0, if_neg h1, if_pos h2]
        simpa [up2] using h
      · skip
        refine g_put F hw hS (k := 2) (i := i) hi (ci := 0) (Nf := 17) (C := RX0) (T := TX0) (by show cfT G ad (μ 2) i = _; rw [cfT, if_neg h0, if_neg h1, if_neg h2]) rfl inU0 tyX0 tyX0_ok nmX0 13 (by decide) hl hsame rfl rfl rfl (Nat.le_of_ble_eq_true rfl) hdg (fun H1 locs1 h oq hS1 => kk H1 locs1 ?_ hS1)
        rw [hμ, ms_eq]
        refine hw.put (k0 := 2) (i0 := i) hi oq ?_ (fun _ => Iff.rfl) (fun i' hi' _ a H2 q => by rw [show cfC G cy ad 2 (up2 (μ 2) 12 i v) i' = cfC G cy ad 2 (μ 2) i' from cfT_congr (fun c' => up2_ne hi')]; exact q)
        show va_at D vwCl (ad 2 i, cfT G ad (up2 (μ 2) 12 i v) i) H1
        rw [cfT, if_neg h0, if_neg h1, if_neg h2]
        simpa [up2] using h
theorem gC_T_heardHammers (F : CallFix p m c cc nL s args uw own) (hw : wdC G D cy ad A μ s H) (hi : 0 ≤ i ∧ i < G 0 0) (hl : Cond.fieldLink own idx ref "heardHammers" "I" ∈ uw) (hsame : ∀ x, s.fieldFound? "HammerTowers$Train" "heardHammers" "I" = some x → s.fieldFound? ref "heardHammers" "I" = some x) (hdg : decode cc pc = .ok (.getfield idx, 3)) (kk : W p l e R s m args below meth c H locs cells slots Q (F0 m (pc + 3) ls (.int (iI (μ 2 13 i)) :: rest))) : W p l e R s m args below meth c H locs cells slots Q (F0 m pc ls (.ref (ad 2 i) :: rest)) := by
  by_cases h0 : G 1 i = 0
  · exact g_get F hw (k := 2) (i := i) hi (ci := 9) (Nf := 14) (C := RX9) (T := TX9) (by show cfT G ad (μ 2) i = _; rw [cfT, if_pos h0]) rfl inU9 13 (by decide) hl hsame rfl hdg kk
  · skip
    by_cases h1 : G 1 i = 1
    · exact g_get F hw (k := 2) (i := i) hi (ci := 4) (Nf := 15) (C := RX4) (T := TX4) (by show cfT G ad (μ 2) i = _; rw [cfT, if_neg h0, if_pos h1]) rfl inU4 13 (by decide) hl hsame rfl hdg kk
    · skip
      by_cases h2 : G 1 i = 2
      · exact g_get F hw (k := 2) (i := i) hi (ci := 7) (Nf := 14) (C := RX7) (T := TX7) (by show cfT G ad (μ 2) i = _; rw [cfT, if_neg h0, if_neg h1, if_pos h2]) rfl inU7 13 (by decide) hl hsame rfl hdg kk
      · skip
        exact g_get F hw (k := 2) (i := i) hi (ci := 0) (Nf := 17) (C := RX0) (T := TX0) (by show cfT G ad (μ 2) i = _; rw [cfT, if_neg h0, if_neg h1, if_neg h2]) rfl inU0 14 (by decide) hl hsame rfl hdg kk
theorem pC_T_heardHammers (F : CallFix p m c cc nL s args uw own) (hw : wdC G D cy ad A μ s H) (hS : va_S A s.heap H locs) (hi : 0 ≤ i ∧ i < G 0 0) (hl : Cond.fieldLink own idx ref "heardHammers" "I" ∈ uw) (hsame : ∀ x, s.fieldFound? "HammerTowers$Train" "heardHammers" "I" = some x → s.fieldFound? ref "heardHammers" "I" = some x) {v : Int} (hμ : μ1 = ms μ 2 13 i v) (hdg : decode cc pc = .ok (.putfield idx, 3)) (kk : ∀ (H1 : Heap) (locs1 : List Loc), wdC G D cy ad A μ1 s H1 → va_S A s.heap H1 locs1 → W p l e R s m args below meth c H1 locs1 cells slots Q (F0 m (pc + 3) ls rest)) : W p l e R s m args below meth c H locs cells slots Q (F0 m pc ls (.int (iI v) :: .ref (ad 2 i) :: rest)) := by
  by_cases h0 : G 1 i = 0
  · refine g_put F hw hS (k := 2) (i := i) hi (ci := 9) (Nf := 14) (C := RX9) (T := TX9) (by show cfT G ad (μ 2) i = _; rw [cfT, if_pos h0]) rfl inU9 tyX9 tyX9_ok nmX9 13 (by decide) hl hsame rfl rfl rfl (Nat.le_of_ble_eq_true rfl) hdg (fun H1 locs1 h oq hS1 => kk H1 locs1 ?_ hS1)
    rw [hμ, ms_eq]
    refine hw.put (k0 := 2) (i0 := i) hi oq ?_ (fun _ => Iff.rfl) (fun i' hi' _ a H2 q => by rw [show cfC G cy ad 2 (up2 (μ 2) 13 i v) i' = cfC G cy ad 2 (μ 2) i' from cfT_congr (fun c' => up2_ne hi')]; exact q)
    show va_at D vwCl (ad 2 i, cfT G ad (up2 (μ 2) 13 i v) i) H1
    rw [cfT, if_pos h0]
    simpa [up2] using h
  · skip
    by_cases h1 : G 1 i = 1
    · refine g_put F hw hS (k := 2) (i := i) hi (ci := 4) (Nf := 15) (C := RX4) (T := TX4) (by show cfT G ad (μ 2) i = _; rw [cfT, if_neg h0, if_pos h1]) rfl inU4 tyX4 tyX4_ok nmX4 13 (by decide) hl hsame rfl rfl rfl (Nat.le_of_ble_eq_true rfl) hdg (fun H1 locs1 h oq hS1 => kk H1 locs1 ?_ hS1)
      rw [hμ, ms_eq]
      refine hw.put (k0 := 2) (i0 := i) hi oq ?_ (fun _ => Iff.rfl) (fun i' hi' _ a H2 q => by rw [show cfC G cy ad 2 (up2 (μ 2) 13 i v) i' = cfC G cy ad 2 (μ 2) i' from cfT_congr (fun c' => up2_ne hi')]; exact q)
      show va_at D vwCl (ad 2 i, cfT G ad (up2 (μ 2) 13 i v) i) H1
      rw [cfT, if_neg h0, if_pos h1]
      simpa [up2] using h
    · skip
      by_cases h2 : G 1 i = 2
      · refine g_put F hw hS (k := 2) (i := i) hi (ci := 7) (Nf := 14) (C := RX7) (T := TX7) (by show cfT G ad (μ 2) i = _; rw [cfT, if_neg h0, if_neg h1, if_pos h2]) rfl inU7 tyX7 tyX7_ok nmX7 13 (by decide) hl hsame rfl rfl rfl (Nat.le_of_ble_eq_true rfl) hdg (fun H1 locs1 h oq hS1 => kk H1 locs1 ?_ hS1)
        rw [hμ, ms_eq]
        refine hw.put (k0 := 2) (i0 := i) hi oq ?_ (fun _ => Iff.rfl) (fun i' hi' _ a H2 q => by rw [show cfC G cy ad 2 (up2 (μ 2) 13 i v) i' = cfC G cy ad 2 (μ 2) i' from cfT_congr (fun c' => up2_ne hi')]; exact q)
        show va_at D vwCl (ad 2 i, cfT G ad (up2 (μ 2) 13 i v) i) H1
        rw [cfT, if_neg h0, if_neg h1, if_pos h2]
        simpa [up2] using h
      · skip
        refine g_put F hw hS (k := 2) (i := i) hi (ci := 0) (Nf := 17) (C := RX0) (T := TX0) (by show cfT G ad (μ 2) i = _; rw [cfT, if_neg h0, if_neg h1, if_neg h2]) rfl inU0 tyX0 tyX0_ok nmX0 14 (by decide) hl hsame rfl rfl rfl (Nat.le_of_ble_eq_true rfl) hdg (fun H1 locs1 h oq hS1 => kk H1 locs1 ?_ hS1)
        rw [hμ, ms_eq]
        refine hw.put (k0 := 2) (i0 := i) hi oq ?_ (fun _ => Iff.rfl) (fun i' hi' _ a H2 q => by rw [show cfC G cy ad 2 (up2 (μ 2) 13 i v) i' = cfC G cy ad 2 (μ 2) i' from cfT_congr (fun c' => up2_ne hi')]; exact q)
        show va_at D vwCl (ad 2 i, cfT G ad (up2 (μ 2) 13 i v) i) H1
        rw [cfT, if_neg h0, if_neg h1, if_neg h2]
        simpa [up2] using h
theorem gC_T_at (F : CallFix p m c cc nL s args uw own) (hw : wdC G D cy ad A μ s H) (hi : 0 ≤ i ∧ i < G 0 0) (hk : G 1 i = 1 ∨ G 1 i = 3) (hl : Cond.fieldLink own idx ref "at" "I" ∈ uw) (hsame : ∀ x, s.fieldFound? "HammerTowers$Plate" "at" "I" = some x → s.fieldFound? ref "at" "I" = some x) (hdg : decode cc pc = .ok (.getfield idx, 3)) (kk : W p l e R s m args below meth c H locs cells slots Q (F0 m (pc + 3) ls (.int (iI (μ 2 14 i)) :: rest))) : W p l e R s m args below meth c H locs cells slots Q (F0 m pc ls (.ref (ad 2 i) :: rest)) := by
  by_cases h0 : G 1 i = 0
  · omega
  · skip
    by_cases h1 : G 1 i = 1
    · exact g_get F hw (k := 2) (i := i) hi (ci := 4) (Nf := 15) (C := RX4) (T := TX4) (by show cfT G ad (μ 2) i = _; rw [cfT, if_neg h0, if_pos h1]) rfl inU4 14 (by decide) hl hsame rfl hdg kk
    · skip
      by_cases h2 : G 1 i = 2
      · omega
      · skip
        exact g_get F hw (k := 2) (i := i) hi (ci := 0) (Nf := 17) (C := RX0) (T := TX0) (by show cfT G ad (μ 2) i = _; rw [cfT, if_neg h0, if_neg h1, if_neg h2]) rfl inU0 0 (by decide) hl hsame rfl hdg kk
theorem pC_T_at (F : CallFix p m c cc nL s args uw own) (hw : wdC G D cy ad A μ s H) (hS : va_S A s.heap H locs) (hi : 0 ≤ i ∧ i < G 0 0) (hk : G 1 i = 1 ∨ G 1 i = 3) (hl : Cond.fieldLink own idx ref "at" "I" ∈ uw) (hsame : ∀ x, s.fieldFound? "HammerTowers$Plate" "at" "I" = some x → s.fieldFound? ref "at" "I" = some x) {v : Int} (hμ : μ1 = ms μ 2 14 i v) (hdg : decode cc pc = .ok (.putfield idx, 3)) (kk : ∀ (H1 : Heap) (locs1 : List Loc), wdC G D cy ad A μ1 s H1 → va_S A s.heap H1 locs1 → W p l e R s m args below meth c H1 locs1 cells slots Q (F0 m (pc + 3) ls rest)) : W p l e R s m args below meth c H locs cells slots Q (F0 m pc ls (.int (iI v) :: .ref (ad 2 i) :: rest)) := by
  by_cases h0 : G 1 i = 0
  · omega
  · skip
    by_cases h1 : G 1 i = 1
    · refine g_put F hw hS (k := 2) (i := i) hi (ci := 4) (Nf := 15) (C := RX4) (T := TX4) (by show cfT G ad (μ 2) i = _; rw [cfT, if_neg h0, if_pos h1]) rfl inU4 tyX4 tyX4_ok nmX4 14 (by decide) hl hsame rfl rfl rfl (Nat.le_of_ble_eq_true rfl) hdg (fun H1 locs1 h oq hS1 => kk H1 locs1 ?_ hS1)
      rw [hμ, ms_eq]
      refine hw.put (k0 := 2) (i0 := i) hi oq ?_ (fun _ => Iff.rfl) (fun i' hi' _ a H2 q => by rw [show cfC G cy ad 2 (up2 (μ 2) 14 i v) i' = cfC G cy ad 2 (μ 2) i' from cfT_congr (fun c' => up2_ne hi')]; exact q)
      show va_at D vwCl (ad 2 i, cfT G ad (up2 (μ 2) 14 i v) i) H1
      rw [cfT, if_neg h0, if_pos h1]
      simpa [up2] using h
    · skip
      by_cases h2 : G 1 i = 2
      · omega
      · skip
        refine g_put F hw hS (k := 2) (i := i) hi (ci := 0) (Nf := 17) (C := RX0) (T := TX0) (by show cfT G ad (μ 2) i = _; rw [cfT, if_neg h0, if_neg h1, if_neg h2]) rfl inU0 tyX0 tyX0_ok nmX0 0 (by decide) hl hsame rfl rfl rfl (Nat.le_of_ble_eq_true rfl) hdg (fun H1 locs1 h oq hS1 => kk H1 locs1 ?_ hS1)
        rw [hμ, ms_eq]
        refine hw.put (k0 := 2) (i0 := i) hi oq ?_ (fun _ => Iff.rfl) (fun i' hi' _ a H2 q => by rw [show cfC G cy ad 2 (up2 (μ 2) 14 i v) i' = cfC G cy ad 2 (μ 2) i' from cfT_congr (fun c' => up2_ne hi')]; exact q)
        show va_at D vwCl (ad 2 i, cfT G ad (up2 (μ 2) 14 i v) i) H1
        rw [cfT, if_neg h0, if_neg h1, if_neg h2]
        simpa [up2] using h
theorem gC_T_pins (F : CallFix p m c cc nL s args uw own) (hw : wdC G D cy ad A μ s H) (hi : 0 ≤ i ∧ i < G 0 0) (hk : G 1 i = 3) (hl : Cond.fieldLink own idx ref "pins" "[I" ∈ uw) (hsame : ∀ x, s.fieldFound? "HammerTowers$Barrel" "pins" "[I" = some x → s.fieldFound? ref "pins" "[I" = some x) (hdg : decode cc pc = .ok (.getfield idx, 3)) (kk : W p l e R s m args below meth c H locs cells slots Q (F0 m (pc + 3) ls (.ref (ad 10 i) :: rest))) : W p l e R s m args below meth c H locs cells slots Q (F0 m pc ls (.ref (ad 2 i) :: rest)) := by
  by_cases h0 : G 1 i = 0
  · omega
  · skip
    by_cases h1 : G 1 i = 1
    · omega
    · skip
      by_cases h2 : G 1 i = 2
      · omega
      · skip
        exact g_get F hw (k := 2) (i := i) hi (ci := 0) (Nf := 17) (C := RX0) (T := TX0) (by show cfT G ad (μ 2) i = _; rw [cfT, if_neg h0, if_neg h1, if_neg h2]) rfl inU0 15 (by decide) hl hsame rfl hdg kk
theorem gC_T_pin (F : CallFix p m c cc nL s args uw own) (hw : wdC G D cy ad A μ s H) (hi : 0 ≤ i ∧ i < G 0 0) (hk : G 1 i = 3) (hl : Cond.fieldLink own idx ref "pin" "I" ∈ uw) (hsame : ∀ x, s.fieldFound? "HammerTowers$Barrel" "pin" "I" = some x → s.fieldFound? ref "pin" "I" = some x) (hdg : decode cc pc = .ok (.getfield idx, 3)) (kk : W p l e R s m args below meth c H locs cells slots Q (F0 m (pc + 3) ls (.int (iI (μ 2 16 i)) :: rest))) : W p l e R s m args below meth c H locs cells slots Q (F0 m pc ls (.ref (ad 2 i) :: rest)) := by
  by_cases h0 : G 1 i = 0
  · omega
  · skip
    by_cases h1 : G 1 i = 1
    · omega
    · skip
      by_cases h2 : G 1 i = 2
      · omega
      · skip
        exact g_get F hw (k := 2) (i := i) hi (ci := 0) (Nf := 17) (C := RX0) (T := TX0) (by show cfT G ad (μ 2) i = _; rw [cfT, if_neg h0, if_neg h1, if_neg h2]) rfl inU0 16 (by decide) hl hsame rfl hdg kk
theorem pC_T_pin (F : CallFix p m c cc nL s args uw own) (hw : wdC G D cy ad A μ s H) (hS : va_S A s.heap H locs) (hi : 0 ≤ i ∧ i < G 0 0) (hk : G 1 i = 3) (hl : Cond.fieldLink own idx ref "pin" "I" ∈ uw) (hsame : ∀ x, s.fieldFound? "HammerTowers$Barrel" "pin" "I" = some x → s.fieldFound? ref "pin" "I" = some x) {v : Int} (hμ : μ1 = ms μ 2 16 i v) (hdg : decode cc pc = .ok (.putfield idx, 3)) (kk : ∀ (H1 : Heap) (locs1 : List Loc), wdC G D cy ad A μ1 s H1 → va_S A s.heap H1 locs1 → W p l e R s m args below meth c H1 locs1 cells slots Q (F0 m (pc + 3) ls rest)) : W p l e R s m args below meth c H locs cells slots Q (F0 m pc ls (.int (iI v) :: .ref (ad 2 i) :: rest)) := by
  by_cases h0 : G 1 i = 0
  · omega
  · skip
    by_cases h1 : G 1 i = 1
    · omega
    · skip
      by_cases h2 : G 1 i = 2
      · omega
      · skip
        refine g_put F hw hS (k := 2) (i := i) hi (ci := 0) (Nf := 17) (C := RX0) (T := TX0) (by show cfT G ad (μ 2) i = _; rw [cfT, if_neg h0, if_neg h1, if_neg h2]) rfl inU0 tyX0 tyX0_ok nmX0 16 (by decide) hl hsame rfl rfl rfl (Nat.le_of_ble_eq_true rfl) hdg (fun H1 locs1 h oq hS1 => kk H1 locs1 ?_ hS1)
        rw [hμ, ms_eq]
        refine hw.put (k0 := 2) (i0 := i) hi oq ?_ (fun _ => Iff.rfl) (fun i' hi' _ a H2 q => by rw [show cfC G cy ad 2 (up2 (μ 2) 16 i v) i' = cfC G cy ad 2 (μ 2) i' from cfT_congr (fun c' => up2_ne hi')]; exact q)
        show va_at D vwCl (ad 2 i, cfT G ad (up2 (μ 2) 16 i v) i) H1
        rw [cfT, if_neg h0, if_neg h1, if_neg h2]
        simpa [up2] using h
theorem aC_8_ld (hx : p.tables.exec = Jvm.exec) (hb : c.code = cc) (hw : wdC G D cy ad A μ s H) (hi : 0 ≤ i ∧ i < 8) {a : Int} (h0 : 0 ≤ a) (h1 : a < 48) (hdg : decode cc pc = .ok (.baload, 1)) (kk : W p l e R s m args below meth c H locs cells slots Q (F0 m (pc + 1) ls (.int (iI (μ 8 0 (48 * i + a))) :: rest))) : W p l e R s m args below meth c H locs cells slots Q (F0 m pc ls (.int (iI a) :: .ref (ad 8 i) :: rest)) := by
  exact g_bald (ty := tyC) hx hb hw (k := 8) (i := i) hi rfl 1 rfl h0 (by omega) (by decide) (by show iI (μ 8 0 (48 * i + ((a.toNat : Nat) : Int))) = _; rw [Int.toNat_of_nonneg h0]) hdg kk
theorem aC_8_ln (hx : p.tables.exec = Jvm.exec) (hb : c.code = cc) (hw : wdC G D cy ad A μ s H) (hi : 0 ≤ i ∧ i < 8) (hdg : decode cc pc = .ok (.arraylength, 1)) (kk : W p l e R s m args below meth c H locs cells slots Q (F0 m (pc + 1) ls (.int (iI (48)) :: rest))) : W p l e R s m args below meth c H locs cells slots Q (F0 m pc ls (.ref (ad 8 i) :: rest)) := by
  exact g_alen (ty := tyC) hx hb hw (k := 8) (i := i) hi rfl 1 rfl rfl hdg kk
theorem aC_8_st (hx : p.tables.exec = Jvm.exec) (hb : c.code = cc) (hw : wdC G D cy ad A μ s H) (hS : va_S A s.heap H locs) (hi : 0 ≤ i ∧ i < 8) {a v : Int} (h0 : 0 ≤ a) (h1 : a < 48) (hμ : μ1 = ms μ 8 0 (48 * i + a) (i2b v)) (hdg : decode cc pc = .ok (.bastore, 1)) (kk : ∀ (H1 : Heap) (locs1 : List Loc), wdC G D cy ad A μ1 s H1 → va_S A s.heap H1 locs1 → W p l e R s m args below meth c H1 locs1 cells slots Q (F0 m (pc + 1) ls rest)) : W p l e R s m args below meth c H locs cells slots Q (F0 m pc ls (.int (iI v) :: .int (iI a) :: .ref (ad 8 i) :: rest)) := by
  have hd : dmC G 8 (μ 8) i := hi
  refine g_bast (ty := tyC) hx hb hw hS hd rfl 1 rfl h0 (by omega) (by decide) hdg (fun H1 locs1 h oq hS1 => kk H1 locs1 ?_ hS1)
  rw [hμ, ms_eq]
  refine hw.put hd oq ?_ (fun _ => Iff.rfl) (fun i' hi' hd' a2 H2 q => cell_congr (fun j hj => ?_) q)
  · rw [updS (μ 8) (48 * i) h0] at h
    exact h
  · show iI (μ 8 0 (48 * i' + (j : Int))) = iI (up2 (μ 8) 0 (48 * i + a) (i2b v) 0 (48 * i' + (j : Int)))
    rw [up2_ne (show (48 * i' + (j : Int)) ≠ 48 * i + a by omega)]
theorem aC_9_ld (hx : p.tables.exec = Jvm.exec) (hb : c.code = cc) (hw : wdC G D cy ad A μ s H) (hi : 0 ≤ i ∧ i < (G 0 0)) {a : Int} (h0 : 0 ≤ a) (h1 : a < G 2 i) (hdg : decode cc pc = .ok (.iaload, 1)) (kk : W p l e R s m args below meth c H locs cells slots Q (F0 m (pc + 1) ls (.int (iI (μ 9 0 (24 * i + a))) :: rest))) : W p l e R s m args below meth c H locs cells slots Q (F0 m pc ls (.int (iI a) :: .ref (ad 9 i) :: rest)) := by
  have hG := hw.2.1.2.1 i hi.1 hi.2
  exact g_iald (ty := tyC) hx hb hw (k := 9) (i := i) hi rfl 0 rfl h0 (by omega) (by omega) (by show iI (μ 9 0 (24 * i + ((a.toNat : Nat) : Int))) = _; rw [Int.toNat_of_nonneg h0]) hdg kk
theorem aC_9_ln (hx : p.tables.exec = Jvm.exec) (hb : c.code = cc) (hw : wdC G D cy ad A μ s H) (hi : 0 ≤ i ∧ i < (G 0 0)) (hdg : decode cc pc = .ok (.arraylength, 1)) (kk : W p l e R s m args below meth c H locs cells slots Q (F0 m (pc + 1) ls (.int (iI (G 2 i)) :: rest))) : W p l e R s m args below meth c H locs cells slots Q (F0 m pc ls (.ref (ad 9 i) :: rest)) := by
  have hG := hw.2.1.2.1 i hi.1 hi.2
  exact g_alen (ty := tyC) hx hb hw (k := 9) (i := i) hi rfl 0 rfl (Int.toNat_of_nonneg (by omega)) hdg kk
theorem aC_9_st (hx : p.tables.exec = Jvm.exec) (hb : c.code = cc) (hw : wdC G D cy ad A μ s H) (hS : va_S A s.heap H locs) (hi : 0 ≤ i ∧ i < (G 0 0)) {a v : Int} (h0 : 0 ≤ a) (h1 : a < G 2 i) (hμ : μ1 = ms μ 9 0 (24 * i + a) (v)) (hdg : decode cc pc = .ok (.iastore, 1)) (kk : ∀ (H1 : Heap) (locs1 : List Loc), wdC G D cy ad A μ1 s H1 → va_S A s.heap H1 locs1 → W p l e R s m args below meth c H1 locs1 cells slots Q (F0 m (pc + 1) ls rest)) : W p l e R s m args below meth c H locs cells slots Q (F0 m pc ls (.int (iI v) :: .int (iI a) :: .ref (ad 9 i) :: rest)) := by
  have hG := hw.2.1.2.1 i hi.1 hi.2
  have hd : dmC G 9 (μ 9) i := hi
  refine g_iast (ty := tyC) hx hb hw hS hd rfl 0 rfl h0 (by omega) (by omega) hdg (fun H1 locs1 h oq hS1 => kk H1 locs1 ?_ hS1)
  rw [hμ, ms_eq]
  refine hw.put hd oq ?_ (fun _ => Iff.rfl) (fun i' hi' hd' a2 H2 q => cell_congr (fun j hj => ?_) q)
  · rw [updS (μ 9) (24 * i) h0] at h
    exact h
  · show iI (μ 9 0 (24 * i' + (j : Int))) = iI (up2 (μ 9) 0 (24 * i + a) (v) 0 (24 * i' + (j : Int)))
    have hG' := hw.2.1.2.1 i' hd'.1 hd'.2
    rw [up2_ne (show (24 * i' + (j : Int)) ≠ 24 * i + a by omega)]
theorem aC_10_ld (hx : p.tables.exec = Jvm.exec) (hb : c.code = cc) (hw : wdC G D cy ad A μ s H) (hi : 0 ≤ i ∧ i < (G 0 0)) (hk : G 1 i = 3) {a : Int} (h0 : 0 ≤ a) (h1 : a < G 3 i) (hdg : decode cc pc = .ok (.iaload, 1)) (kk : W p l e R s m args below meth c H locs cells slots Q (F0 m (pc + 1) ls (.int (iI (μ 10 0 (48 * i + a))) :: rest))) : W p l e R s m args below meth c H locs cells slots Q (F0 m pc ls (.int (iI a) :: .ref (ad 10 i) :: rest)) := by
  have hG := hw.2.1.2.1 i hi.1 hi.2
  exact g_iald (ty := tyC) hx hb hw (k := 10) (i := i) ⟨hi, hk⟩ rfl 0 rfl h0 (by omega) (by omega) (by show iI (μ 10 0 (48 * i + ((a.toNat : Nat) : Int))) = _; rw [Int.toNat_of_nonneg h0]) hdg kk
theorem aC_10_ln (hx : p.tables.exec = Jvm.exec) (hb : c.code = cc) (hw : wdC G D cy ad A μ s H) (hi : 0 ≤ i ∧ i < (G 0 0)) (hk : G 1 i = 3) (hdg : decode cc pc = .ok (.arraylength, 1)) (kk : W p l e R s m args below meth c H locs cells slots Q (F0 m (pc + 1) ls (.int (iI (G 3 i)) :: rest))) : W p l e R s m args below meth c H locs cells slots Q (F0 m pc ls (.ref (ad 10 i) :: rest)) := by
  have hG := hw.2.1.2.1 i hi.1 hi.2
  exact g_alen (ty := tyC) hx hb hw (k := 10) (i := i) ⟨hi, hk⟩ rfl 0 rfl (Int.toNat_of_nonneg (by omega)) hdg kk
theorem aC_10_st (hx : p.tables.exec = Jvm.exec) (hb : c.code = cc) (hw : wdC G D cy ad A μ s H) (hS : va_S A s.heap H locs) (hi : 0 ≤ i ∧ i < (G 0 0)) (hk : G 1 i = 3) {a v : Int} (h0 : 0 ≤ a) (h1 : a < G 3 i) (hμ : μ1 = ms μ 10 0 (48 * i + a) (v)) (hdg : decode cc pc = .ok (.iastore, 1)) (kk : ∀ (H1 : Heap) (locs1 : List Loc), wdC G D cy ad A μ1 s H1 → va_S A s.heap H1 locs1 → W p l e R s m args below meth c H1 locs1 cells slots Q (F0 m (pc + 1) ls rest)) : W p l e R s m args below meth c H locs cells slots Q (F0 m pc ls (.int (iI v) :: .int (iI a) :: .ref (ad 10 i) :: rest)) := by
  have hG := hw.2.1.2.1 i hi.1 hi.2
  have hd : dmC G 10 (μ 10) i := ⟨hi, hk⟩
  refine g_iast (ty := tyC) hx hb hw hS hd rfl 0 rfl h0 (by omega) (by omega) hdg (fun H1 locs1 h oq hS1 => kk H1 locs1 ?_ hS1)
  rw [hμ, ms_eq]
  refine hw.put hd oq ?_ (fun _ => Iff.rfl) (fun i' hi' hd' a2 H2 q => cell_congr (fun j hj => ?_) q)
  · rw [updS (μ 10) (48 * i) h0] at h
    exact h
  · show iI (μ 10 0 (48 * i' + (j : Int))) = iI (up2 (μ 10) 0 (48 * i + a) (v) 0 (48 * i' + (j : Int)))
    have hG' := hw.2.1.2.1 i' hd'.1.1 hd'.1.2
    rw [up2_ne (show (48 * i' + (j : Int)) ≠ 48 * i + a by omega)]
theorem aC_11_ld (hx : p.tables.exec = Jvm.exec) (hb : c.code = cc) (hw : wdC G D cy ad A μ s H) (hi : 0 ≤ i ∧ i < 4) {a : Int} (h0 : 0 ≤ a) (h1 : a < 60) (hdg : decode cc pc = .ok (.iaload, 1)) (kk : W p l e R s m args below meth c H locs cells slots Q (F0 m (pc + 1) ls (.int (iI (μ 11 0 (60 * i + a))) :: rest))) : W p l e R s m args below meth c H locs cells slots Q (F0 m pc ls (.int (iI a) :: .ref (ad 11 i) :: rest)) := by
  exact g_iald (ty := tyC) hx hb hw (k := 11) (i := i) hi rfl 0 rfl h0 (by omega) (by decide) (by show iI (μ 11 0 (60 * i + ((a.toNat : Nat) : Int))) = _; rw [Int.toNat_of_nonneg h0]) hdg kk
theorem aC_11_ln (hx : p.tables.exec = Jvm.exec) (hb : c.code = cc) (hw : wdC G D cy ad A μ s H) (hi : 0 ≤ i ∧ i < 4) (hdg : decode cc pc = .ok (.arraylength, 1)) (kk : W p l e R s m args below meth c H locs cells slots Q (F0 m (pc + 1) ls (.int (iI (60)) :: rest))) : W p l e R s m args below meth c H locs cells slots Q (F0 m pc ls (.ref (ad 11 i) :: rest)) := by
  exact g_alen (ty := tyC) hx hb hw (k := 11) (i := i) hi rfl 0 rfl rfl hdg kk
theorem aC_11_st (hx : p.tables.exec = Jvm.exec) (hb : c.code = cc) (hw : wdC G D cy ad A μ s H) (hS : va_S A s.heap H locs) (hi : 0 ≤ i ∧ i < 4) {a v : Int} (h0 : 0 ≤ a) (h1 : a < 60) (hμ : μ1 = ms μ 11 0 (60 * i + a) (v)) (hdg : decode cc pc = .ok (.iastore, 1)) (kk : ∀ (H1 : Heap) (locs1 : List Loc), wdC G D cy ad A μ1 s H1 → va_S A s.heap H1 locs1 → W p l e R s m args below meth c H1 locs1 cells slots Q (F0 m (pc + 1) ls rest)) : W p l e R s m args below meth c H locs cells slots Q (F0 m pc ls (.int (iI v) :: .int (iI a) :: .ref (ad 11 i) :: rest)) := by
  have hd : dmC G 11 (μ 11) i := hi
  refine g_iast (ty := tyC) hx hb hw hS hd rfl 0 rfl h0 (by omega) (by decide) hdg (fun H1 locs1 h oq hS1 => kk H1 locs1 ?_ hS1)
  rw [hμ, ms_eq]
  refine hw.put hd oq ?_ (fun _ => Iff.rfl) (fun i' hi' hd' a2 H2 q => cell_congr (fun j hj => ?_) q)
  · rw [updS (μ 11) (60 * i) h0] at h
    exact h
  · show iI (μ 11 0 (60 * i' + (j : Int))) = iI (up2 (μ 11) 0 (60 * i + a) (v) 0 (60 * i' + (j : Int)))
    rw [up2_ne (show (60 * i' + (j : Int)) ≠ 60 * i + a by omega)]
theorem aC_12_ld (hx : p.tables.exec = Jvm.exec) (hb : c.code = cc) (hw : wdC G D cy ad A μ s H) (hi : 0 ≤ i ∧ i < 4) {a : Int} (h0 : 0 ≤ a) (h1 : a < 60) (hdg : decode cc pc = .ok (.iaload, 1)) (kk : W p l e R s m args below meth c H locs cells slots Q (F0 m (pc + 1) ls (.int (iI (μ 12 0 (60 * i + a))) :: rest))) : W p l e R s m args below meth c H locs cells slots Q (F0 m pc ls (.int (iI a) :: .ref (ad 12 i) :: rest)) := by
  exact g_iald (ty := tyC) hx hb hw (k := 12) (i := i) hi rfl 0 rfl h0 (by omega) (by decide) (by show iI (μ 12 0 (60 * i + ((a.toNat : Nat) : Int))) = _; rw [Int.toNat_of_nonneg h0]) hdg kk
theorem aC_12_ln (hx : p.tables.exec = Jvm.exec) (hb : c.code = cc) (hw : wdC G D cy ad A μ s H) (hi : 0 ≤ i ∧ i < 4) (hdg : decode cc pc = .ok (.arraylength, 1)) (kk : W p l e R s m args below meth c H locs cells slots Q (F0 m (pc + 1) ls (.int (iI (60)) :: rest))) : W p l e R s m args below meth c H locs cells slots Q (F0 m pc ls (.ref (ad 12 i) :: rest)) := by
  exact g_alen (ty := tyC) hx hb hw (k := 12) (i := i) hi rfl 0 rfl rfl hdg kk
theorem aC_12_st (hx : p.tables.exec = Jvm.exec) (hb : c.code = cc) (hw : wdC G D cy ad A μ s H) (hS : va_S A s.heap H locs) (hi : 0 ≤ i ∧ i < 4) {a v : Int} (h0 : 0 ≤ a) (h1 : a < 60) (hμ : μ1 = ms μ 12 0 (60 * i + a) (v)) (hdg : decode cc pc = .ok (.iastore, 1)) (kk : ∀ (H1 : Heap) (locs1 : List Loc), wdC G D cy ad A μ1 s H1 → va_S A s.heap H1 locs1 → W p l e R s m args below meth c H1 locs1 cells slots Q (F0 m (pc + 1) ls rest)) : W p l e R s m args below meth c H locs cells slots Q (F0 m pc ls (.int (iI v) :: .int (iI a) :: .ref (ad 12 i) :: rest)) := by
  have hd : dmC G 12 (μ 12) i := hi
  refine g_iast (ty := tyC) hx hb hw hS hd rfl 0 rfl h0 (by omega) (by decide) hdg (fun H1 locs1 h oq hS1 => kk H1 locs1 ?_ hS1)
  rw [hμ, ms_eq]
  refine hw.put hd oq ?_ (fun _ => Iff.rfl) (fun i' hi' hd' a2 H2 q => cell_congr (fun j hj => ?_) q)
  · rw [updS (μ 12) (60 * i) h0] at h
    exact h
  · show iI (μ 12 0 (60 * i' + (j : Int))) = iI (up2 (μ 12) 0 (60 * i + a) (v) 0 (60 * i' + (j : Int)))
    rw [up2_ne (show (60 * i' + (j : Int)) ≠ 60 * i + a by omega)]
theorem aC_13_ld (hx : p.tables.exec = Jvm.exec) (hb : c.code = cc) (hw : wdC G D cy ad A μ s H) (hi : 0 ≤ i ∧ i < 4) {a : Int} (h0 : 0 ≤ a) (h1 : a < 60) (hdg : decode cc pc = .ok (.iaload, 1)) (kk : W p l e R s m args below meth c H locs cells slots Q (F0 m (pc + 1) ls (.int (iI (μ 13 0 (60 * i + a))) :: rest))) : W p l e R s m args below meth c H locs cells slots Q (F0 m pc ls (.int (iI a) :: .ref (ad 13 i) :: rest)) := by
  exact g_iald (ty := tyC) hx hb hw (k := 13) (i := i) hi rfl 0 rfl h0 (by omega) (by decide) (by show iI (μ 13 0 (60 * i + ((a.toNat : Nat) : Int))) = _; rw [Int.toNat_of_nonneg h0]) hdg kk
theorem aC_13_ln (hx : p.tables.exec = Jvm.exec) (hb : c.code = cc) (hw : wdC G D cy ad A μ s H) (hi : 0 ≤ i ∧ i < 4) (hdg : decode cc pc = .ok (.arraylength, 1)) (kk : W p l e R s m args below meth c H locs cells slots Q (F0 m (pc + 1) ls (.int (iI (60)) :: rest))) : W p l e R s m args below meth c H locs cells slots Q (F0 m pc ls (.ref (ad 13 i) :: rest)) := by
  exact g_alen (ty := tyC) hx hb hw (k := 13) (i := i) hi rfl 0 rfl rfl hdg kk
theorem aC_13_st (hx : p.tables.exec = Jvm.exec) (hb : c.code = cc) (hw : wdC G D cy ad A μ s H) (hS : va_S A s.heap H locs) (hi : 0 ≤ i ∧ i < 4) {a v : Int} (h0 : 0 ≤ a) (h1 : a < 60) (hμ : μ1 = ms μ 13 0 (60 * i + a) (v)) (hdg : decode cc pc = .ok (.iastore, 1)) (kk : ∀ (H1 : Heap) (locs1 : List Loc), wdC G D cy ad A μ1 s H1 → va_S A s.heap H1 locs1 → W p l e R s m args below meth c H1 locs1 cells slots Q (F0 m (pc + 1) ls rest)) : W p l e R s m args below meth c H locs cells slots Q (F0 m pc ls (.int (iI v) :: .int (iI a) :: .ref (ad 13 i) :: rest)) := by
  have hd : dmC G 13 (μ 13) i := hi
  refine g_iast (ty := tyC) hx hb hw hS hd rfl 0 rfl h0 (by omega) (by decide) hdg (fun H1 locs1 h oq hS1 => kk H1 locs1 ?_ hS1)
  rw [hμ, ms_eq]
  refine hw.put hd oq ?_ (fun _ => Iff.rfl) (fun i' hi' hd' a2 H2 q => cell_congr (fun j hj => ?_) q)
  · rw [updS (μ 13) (60 * i) h0] at h
    exact h
  · show iI (μ 13 0 (60 * i' + (j : Int))) = iI (up2 (μ 13) 0 (60 * i + a) (v) 0 (60 * i' + (j : Int)))
    rw [up2_ne (show (60 * i' + (j : Int)) ≠ 60 * i + a by omega)]
theorem aC_14_ld (hx : p.tables.exec = Jvm.exec) (hb : c.code = cc) (hw : wdC G D cy ad A μ s H) (hi : 0 ≤ i ∧ i < 4) {a : Int} (h0 : 0 ≤ a) (h1 : a < 60) (hdg : decode cc pc = .ok (.iaload, 1)) (kk : W p l e R s m args below meth c H locs cells slots Q (F0 m (pc + 1) ls (.int (iI (μ 14 0 (60 * i + a))) :: rest))) : W p l e R s m args below meth c H locs cells slots Q (F0 m pc ls (.int (iI a) :: .ref (ad 14 i) :: rest)) := by
  exact g_iald (ty := tyC) hx hb hw (k := 14) (i := i) hi rfl 0 rfl h0 (by omega) (by decide) (by show iI (μ 14 0 (60 * i + ((a.toNat : Nat) : Int))) = _; rw [Int.toNat_of_nonneg h0]) hdg kk
theorem aC_14_ln (hx : p.tables.exec = Jvm.exec) (hb : c.code = cc) (hw : wdC G D cy ad A μ s H) (hi : 0 ≤ i ∧ i < 4) (hdg : decode cc pc = .ok (.arraylength, 1)) (kk : W p l e R s m args below meth c H locs cells slots Q (F0 m (pc + 1) ls (.int (iI (60)) :: rest))) : W p l e R s m args below meth c H locs cells slots Q (F0 m pc ls (.ref (ad 14 i) :: rest)) := by
  exact g_alen (ty := tyC) hx hb hw (k := 14) (i := i) hi rfl 0 rfl rfl hdg kk
theorem aC_14_st (hx : p.tables.exec = Jvm.exec) (hb : c.code = cc) (hw : wdC G D cy ad A μ s H) (hS : va_S A s.heap H locs) (hi : 0 ≤ i ∧ i < 4) {a v : Int} (h0 : 0 ≤ a) (h1 : a < 60) (hμ : μ1 = ms μ 14 0 (60 * i + a) (v)) (hdg : decode cc pc = .ok (.iastore, 1)) (kk : ∀ (H1 : Heap) (locs1 : List Loc), wdC G D cy ad A μ1 s H1 → va_S A s.heap H1 locs1 → W p l e R s m args below meth c H1 locs1 cells slots Q (F0 m (pc + 1) ls rest)) : W p l e R s m args below meth c H locs cells slots Q (F0 m pc ls (.int (iI v) :: .int (iI a) :: .ref (ad 14 i) :: rest)) := by
  have hd : dmC G 14 (μ 14) i := hi
  refine g_iast (ty := tyC) hx hb hw hS hd rfl 0 rfl h0 (by omega) (by decide) hdg (fun H1 locs1 h oq hS1 => kk H1 locs1 ?_ hS1)
  rw [hμ, ms_eq]
  refine hw.put hd oq ?_ (fun _ => Iff.rfl) (fun i' hi' hd' a2 H2 q => cell_congr (fun j hj => ?_) q)
  · rw [updS (μ 14) (60 * i) h0] at h
    exact h
  · show iI (μ 14 0 (60 * i' + (j : Int))) = iI (up2 (μ 14) 0 (60 * i + a) (v) 0 (60 * i' + (j : Int)))
    rw [up2_ne (show (60 * i' + (j : Int)) ≠ 60 * i + a by omega)]
theorem aC_15_ld (hx : p.tables.exec = Jvm.exec) (hb : c.code = cc) (hw : wdC G D cy ad A μ s H) {a : Int} (h0 : 0 ≤ a) (h1 : a < 12) (hdg : decode cc pc = .ok (.iaload, 1)) (kk : W p l e R s m args below meth c H locs cells slots Q (F0 m (pc + 1) ls (.int (iI (μ 15 0 (a))) :: rest))) : W p l e R s m args below meth c H locs cells slots Q (F0 m pc ls (.int (iI a) :: .ref (ad 15 0) :: rest)) := by
  exact g_iald (ty := tyC) hx hb hw (k := 15) (i := 0) rfl rfl 0 rfl h0 (by omega) (by decide) (by show iI (μ 15 0 ((a.toNat : Nat) : Int)) = _; rw [Int.toNat_of_nonneg h0]) hdg kk
theorem aC_15_ln (hx : p.tables.exec = Jvm.exec) (hb : c.code = cc) (hw : wdC G D cy ad A μ s H) (hdg : decode cc pc = .ok (.arraylength, 1)) (kk : W p l e R s m args below meth c H locs cells slots Q (F0 m (pc + 1) ls (.int (iI (12)) :: rest))) : W p l e R s m args below meth c H locs cells slots Q (F0 m pc ls (.ref (ad 15 0) :: rest)) := by
  exact g_alen (ty := tyC) hx hb hw (k := 15) (i := 0) rfl rfl 0 rfl rfl hdg kk
theorem aC_15_st (hx : p.tables.exec = Jvm.exec) (hb : c.code = cc) (hw : wdC G D cy ad A μ s H) (hS : va_S A s.heap H locs) {a v : Int} (h0 : 0 ≤ a) (h1 : a < 12) (hμ : μ1 = ms μ 15 0 (a) (v)) (hdg : decode cc pc = .ok (.iastore, 1)) (kk : ∀ (H1 : Heap) (locs1 : List Loc), wdC G D cy ad A μ1 s H1 → va_S A s.heap H1 locs1 → W p l e R s m args below meth c H1 locs1 cells slots Q (F0 m (pc + 1) ls rest)) : W p l e R s m args below meth c H locs cells slots Q (F0 m pc ls (.int (iI v) :: .int (iI a) :: .ref (ad 15 0) :: rest)) := by
  have hd : dmC G 15 (μ 15) 0 := rfl
  refine g_iast (ty := tyC) hx hb hw hS hd rfl 0 rfl h0 (by omega) (by decide) hdg (fun H1 locs1 h oq hS1 => kk H1 locs1 ?_ hS1)
  rw [hμ, ms_eq]
  refine hw.put hd oq ?_ (fun _ => Iff.rfl) (fun i hi q => absurd q hi)
  rw [updI (μ 15) h0] at h
  exact h
theorem aC_16_ld (hx : p.tables.exec = Jvm.exec) (hb : c.code = cc) (hw : wdC G D cy ad A μ s H) {a : Int} (h0 : 0 ≤ a) (h1 : a < 48) (hdg : decode cc pc = .ok (.iaload, 1)) (kk : W p l e R s m args below meth c H locs cells slots Q (F0 m (pc + 1) ls (.int (iI (μ 16 0 (a))) :: rest))) : W p l e R s m args below meth c H locs cells slots Q (F0 m pc ls (.int (iI a) :: .ref (ad 16 0) :: rest)) := by
  exact g_iald (ty := tyC) hx hb hw (k := 16) (i := 0) rfl rfl 0 rfl h0 (by omega) (by decide) (by show iI (μ 16 0 ((a.toNat : Nat) : Int)) = _; rw [Int.toNat_of_nonneg h0]) hdg kk
theorem aC_16_ln (hx : p.tables.exec = Jvm.exec) (hb : c.code = cc) (hw : wdC G D cy ad A μ s H) (hdg : decode cc pc = .ok (.arraylength, 1)) (kk : W p l e R s m args below meth c H locs cells slots Q (F0 m (pc + 1) ls (.int (iI (48)) :: rest))) : W p l e R s m args below meth c H locs cells slots Q (F0 m pc ls (.ref (ad 16 0) :: rest)) := by
  exact g_alen (ty := tyC) hx hb hw (k := 16) (i := 0) rfl rfl 0 rfl rfl hdg kk
theorem aC_16_st (hx : p.tables.exec = Jvm.exec) (hb : c.code = cc) (hw : wdC G D cy ad A μ s H) (hS : va_S A s.heap H locs) {a v : Int} (h0 : 0 ≤ a) (h1 : a < 48) (hμ : μ1 = ms μ 16 0 (a) (v)) (hdg : decode cc pc = .ok (.iastore, 1)) (kk : ∀ (H1 : Heap) (locs1 : List Loc), wdC G D cy ad A μ1 s H1 → va_S A s.heap H1 locs1 → W p l e R s m args below meth c H1 locs1 cells slots Q (F0 m (pc + 1) ls rest)) : W p l e R s m args below meth c H locs cells slots Q (F0 m pc ls (.int (iI v) :: .int (iI a) :: .ref (ad 16 0) :: rest)) := by
  have hd : dmC G 16 (μ 16) 0 := rfl
  refine g_iast (ty := tyC) hx hb hw hS hd rfl 0 rfl h0 (by omega) (by decide) hdg (fun H1 locs1 h oq hS1 => kk H1 locs1 ?_ hS1)
  rw [hμ, ms_eq]
  refine hw.put hd oq ?_ (fun _ => Iff.rfl) (fun i hi q => absurd q hi)
  rw [updI (μ 16) h0] at h
  exact h
theorem aC_17_ld (hx : p.tables.exec = Jvm.exec) (hb : c.code = cc) (hw : wdC G D cy ad A μ s H) {a : Int} (h0 : 0 ≤ a) (h1 : a < 12) (hdg : decode cc pc = .ok (.iaload, 1)) (kk : W p l e R s m args below meth c H locs cells slots Q (F0 m (pc + 1) ls (.int (iI (μ 17 0 (a))) :: rest))) : W p l e R s m args below meth c H locs cells slots Q (F0 m pc ls (.int (iI a) :: .ref (ad 17 0) :: rest)) := by
  exact g_iald (ty := tyC) hx hb hw (k := 17) (i := 0) rfl rfl 0 rfl h0 (by omega) (by decide) (by show iI (μ 17 0 ((a.toNat : Nat) : Int)) = _; rw [Int.toNat_of_nonneg h0]) hdg kk
theorem aC_17_ln (hx : p.tables.exec = Jvm.exec) (hb : c.code = cc) (hw : wdC G D cy ad A μ s H) (hdg : decode cc pc = .ok (.arraylength, 1)) (kk : W p l e R s m args below meth c H locs cells slots Q (F0 m (pc + 1) ls (.int (iI (12)) :: rest))) : W p l e R s m args below meth c H locs cells slots Q (F0 m pc ls (.ref (ad 17 0) :: rest)) := by
  exact g_alen (ty := tyC) hx hb hw (k := 17) (i := 0) rfl rfl 0 rfl rfl hdg kk
theorem aC_17_st (hx : p.tables.exec = Jvm.exec) (hb : c.code = cc) (hw : wdC G D cy ad A μ s H) (hS : va_S A s.heap H locs) {a v : Int} (h0 : 0 ≤ a) (h1 : a < 12) (hμ : μ1 = ms μ 17 0 (a) (v)) (hdg : decode cc pc = .ok (.iastore, 1)) (kk : ∀ (H1 : Heap) (locs1 : List Loc), wdC G D cy ad A μ1 s H1 → va_S A s.heap H1 locs1 → W p l e R s m args below meth c H1 locs1 cells slots Q (F0 m (pc + 1) ls rest)) : W p l e R s m args below meth c H locs cells slots Q (F0 m pc ls (.int (iI v) :: .int (iI a) :: .ref (ad 17 0) :: rest)) := by
  have hd : dmC G 17 (μ 17) 0 := rfl
  refine g_iast (ty := tyC) hx hb hw hS hd rfl 0 rfl h0 (by omega) (by decide) hdg (fun H1 locs1 h oq hS1 => kk H1 locs1 ?_ hS1)
  rw [hμ, ms_eq]
  refine hw.put hd oq ?_ (fun _ => Iff.rfl) (fun i hi q => absurd q hi)
  rw [updI (μ 17) h0] at h
  exact h
theorem aC_18_ld (hx : p.tables.exec = Jvm.exec) (hb : c.code = cc) (hw : wdC G D cy ad A μ s H) {a : Int} (h0 : 0 ≤ a) (h1 : a < 4) (hdg : decode cc pc = .ok (.iaload, 1)) (kk : W p l e R s m args below meth c H locs cells slots Q (F0 m (pc + 1) ls (.int (iI (μ 18 0 (a))) :: rest))) : W p l e R s m args below meth c H locs cells slots Q (F0 m pc ls (.int (iI a) :: .ref (ad 18 0) :: rest)) := by
  exact g_iald (ty := tyC) hx hb hw (k := 18) (i := 0) rfl rfl 0 rfl h0 (by omega) (by decide) (by show iI (μ 18 0 ((a.toNat : Nat) : Int)) = _; rw [Int.toNat_of_nonneg h0]) hdg kk
theorem aC_18_ln (hx : p.tables.exec = Jvm.exec) (hb : c.code = cc) (hw : wdC G D cy ad A μ s H) (hdg : decode cc pc = .ok (.arraylength, 1)) (kk : W p l e R s m args below meth c H locs cells slots Q (F0 m (pc + 1) ls (.int (iI (4)) :: rest))) : W p l e R s m args below meth c H locs cells slots Q (F0 m pc ls (.ref (ad 18 0) :: rest)) := by
  exact g_alen (ty := tyC) hx hb hw (k := 18) (i := 0) rfl rfl 0 rfl rfl hdg kk
theorem aC_18_st (hx : p.tables.exec = Jvm.exec) (hb : c.code = cc) (hw : wdC G D cy ad A μ s H) (hS : va_S A s.heap H locs) {a v : Int} (h0 : 0 ≤ a) (h1 : a < 4) (hμ : μ1 = ms μ 18 0 (a) (v)) (hdg : decode cc pc = .ok (.iastore, 1)) (kk : ∀ (H1 : Heap) (locs1 : List Loc), wdC G D cy ad A μ1 s H1 → va_S A s.heap H1 locs1 → W p l e R s m args below meth c H1 locs1 cells slots Q (F0 m (pc + 1) ls rest)) : W p l e R s m args below meth c H locs cells slots Q (F0 m pc ls (.int (iI v) :: .int (iI a) :: .ref (ad 18 0) :: rest)) := by
  have hd : dmC G 18 (μ 18) 0 := rfl
  refine g_iast (ty := tyC) hx hb hw hS hd rfl 0 rfl h0 (by omega) (by decide) hdg (fun H1 locs1 h oq hS1 => kk H1 locs1 ?_ hS1)
  rw [hμ, ms_eq]
  refine hw.put hd oq ?_ (fun _ => Iff.rfl) (fun i hi q => absurd q hi)
  rw [updI (μ 18) h0] at h
  exact h
theorem aC_19_ld (hx : p.tables.exec = Jvm.exec) (hb : c.code = cc) (hw : wdC G D cy ad A μ s H) {a : Int} (h0 : 0 ≤ a) (h1 : a < 6) (hdg : decode cc pc = .ok (.iaload, 1)) (kk : W p l e R s m args below meth c H locs cells slots Q (F0 m (pc + 1) ls (.int (iI (μ 19 0 (a))) :: rest))) : W p l e R s m args below meth c H locs cells slots Q (F0 m pc ls (.int (iI a) :: .ref (ad 19 0) :: rest)) := by
  exact g_iald (ty := tyC) hx hb hw (k := 19) (i := 0) rfl rfl 0 rfl h0 (by omega) (by decide) (by show iI (μ 19 0 ((a.toNat : Nat) : Int)) = _; rw [Int.toNat_of_nonneg h0]) hdg kk
theorem aC_19_ln (hx : p.tables.exec = Jvm.exec) (hb : c.code = cc) (hw : wdC G D cy ad A μ s H) (hdg : decode cc pc = .ok (.arraylength, 1)) (kk : W p l e R s m args below meth c H locs cells slots Q (F0 m (pc + 1) ls (.int (iI (6)) :: rest))) : W p l e R s m args below meth c H locs cells slots Q (F0 m pc ls (.ref (ad 19 0) :: rest)) := by
  exact g_alen (ty := tyC) hx hb hw (k := 19) (i := 0) rfl rfl 0 rfl rfl hdg kk
theorem aC_19_st (hx : p.tables.exec = Jvm.exec) (hb : c.code = cc) (hw : wdC G D cy ad A μ s H) (hS : va_S A s.heap H locs) {a v : Int} (h0 : 0 ≤ a) (h1 : a < 6) (hμ : μ1 = ms μ 19 0 (a) (v)) (hdg : decode cc pc = .ok (.iastore, 1)) (kk : ∀ (H1 : Heap) (locs1 : List Loc), wdC G D cy ad A μ1 s H1 → va_S A s.heap H1 locs1 → W p l e R s m args below meth c H1 locs1 cells slots Q (F0 m (pc + 1) ls rest)) : W p l e R s m args below meth c H locs cells slots Q (F0 m pc ls (.int (iI v) :: .int (iI a) :: .ref (ad 19 0) :: rest)) := by
  have hd : dmC G 19 (μ 19) 0 := rfl
  refine g_iast (ty := tyC) hx hb hw hS hd rfl 0 rfl h0 (by omega) (by decide) hdg (fun H1 locs1 h oq hS1 => kk H1 locs1 ?_ hS1)
  rw [hμ, ms_eq]
  refine hw.put hd oq ?_ (fun _ => Iff.rfl) (fun i hi q => absurd q hi)
  rw [updI (μ 19) h0] at h
  exact h
theorem aC_20_ld (hx : p.tables.exec = Jvm.exec) (hb : c.code = cc) (hw : wdC G D cy ad A μ s H) {a : Int} (h0 : 0 ≤ a) (h1 : a < 8) (hdg : decode cc pc = .ok (.aaload, 1)) (kk : W p l e R s m args below meth c H locs cells slots Q (F0 m (pc + 1) ls (.ref (ad 1 a) :: rest))) : W p l e R s m args below meth c H locs cells slots Q (F0 m pc ls (.int (iI a) :: .ref (ad 20 0) :: rest)) := g_aald (ty := tyC) hx hb hw (k := 20) (i := 0) (k2 := 1) (v := a) rfl rfl 2 rfl h0 (by omega) (by decide) (by show (some (ad 1 ((a.toNat : Nat) : Int)) : Option Nat) = ro ad 1 a; rw [Int.toNat_of_nonneg h0]; exact (if_neg (by omega)).symm) hdg (by rw [rf_pos h0]; exact kk)
theorem aC_20_ln (hx : p.tables.exec = Jvm.exec) (hb : c.code = cc) (hw : wdC G D cy ad A μ s H) (hdg : decode cc pc = .ok (.arraylength, 1)) (kk : W p l e R s m args below meth c H locs cells slots Q (F0 m (pc + 1) ls (.int (iI 8) :: rest))) : W p l e R s m args below meth c H locs cells slots Q (F0 m pc ls (.ref (ad 20 0) :: rest)) := g_alen (ty := tyC) hx hb hw (k := 20) (i := 0) rfl rfl 2 rfl rfl hdg kk
theorem aC_21_ld (hx : p.tables.exec = Jvm.exec) (hb : c.code = cc) (hw : wdC G D cy ad A μ s H) {a : Int} (h0 : 0 ≤ a) (h1 : a < 16) (hdg : decode cc pc = .ok (.aaload, 1)) (kk : W p l e R s m args below meth c H locs cells slots Q (F0 m (pc + 1) ls (rf ad 2 (μ 21 0 a) :: rest))) : W p l e R s m args below meth c H locs cells slots Q (F0 m pc ls (.int (iI a) :: .ref (ad 21 0) :: rest)) := g_aald (ty := tyC) hx hb hw (k := 21) (i := 0) (k2 := 2) (v := μ 21 0 a) rfl rfl 3 rfl h0 (by omega) (by decide) (by show ro ad 2 (μ 21 0 ((a.toNat : Nat) : Int)) = _; rw [Int.toNat_of_nonneg h0]) hdg kk
theorem aC_21_ln (hx : p.tables.exec = Jvm.exec) (hb : c.code = cc) (hw : wdC G D cy ad A μ s H) (hdg : decode cc pc = .ok (.arraylength, 1)) (kk : W p l e R s m args below meth c H locs cells slots Q (F0 m (pc + 1) ls (.int (iI 16) :: rest))) : W p l e R s m args below meth c H locs cells slots Q (F0 m pc ls (.ref (ad 21 0) :: rest)) := g_alen (ty := tyC) hx hb hw (k := 21) (i := 0) rfl rfl 3 rfl rfl hdg kk
theorem aC_22_ld (hx : p.tables.exec = Jvm.exec) (hb : c.code = cc) (hw : wdC G D cy ad A μ s H) {a : Int} (h0 : 0 ≤ a) (h1 : a < 4) (hdg : decode cc pc = .ok (.aaload, 1)) (kk : W p l e R s m args below meth c H locs cells slots Q (F0 m (pc + 1) ls (.ref (ad 3 a) :: rest))) : W p l e R s m args below meth c H locs cells slots Q (F0 m pc ls (.int (iI a) :: .ref (ad 22 0) :: rest)) := g_aald (ty := tyC) hx hb hw (k := 22) (i := 0) (k2 := 3) (v := a) rfl rfl 4 rfl h0 (by omega) (by decide) (by show (some (ad 3 ((a.toNat : Nat) : Int)) : Option Nat) = ro ad 3 a; rw [Int.toNat_of_nonneg h0]; exact (if_neg (by omega)).symm) hdg (by rw [rf_pos h0]; exact kk)
theorem aC_22_ln (hx : p.tables.exec = Jvm.exec) (hb : c.code = cc) (hw : wdC G D cy ad A μ s H) (hdg : decode cc pc = .ok (.arraylength, 1)) (kk : W p l e R s m args below meth c H locs cells slots Q (F0 m (pc + 1) ls (.int (iI 4) :: rest))) : W p l e R s m args below meth c H locs cells slots Q (F0 m pc ls (.ref (ad 22 0) :: rest)) := g_alen (ty := tyC) hx hb hw (k := 22) (i := 0) rfl rfl 4 rfl rfl hdg kk
theorem recvT (hw : wdC G D cy ad A μ s H) (hi : 0 ≤ i ∧ i < G 0 0) {C : String} (hC : (G 1 i = 0 ∧ C = RX9) ∨ (G 1 i = 1 ∧ C = RX4) ∨ (G 1 i = 2 ∧ C = RX7) ∨ (G 1 i = 3 ∧ C = RX0)) : ∃ cell : Cell, H[ad 2 i]? = some cell ∧ cell.vm.isStatics = false ∧ s.vm.findClass C = some cell.cls := by
  rcases hC with ⟨h, rfl⟩ | ⟨h, rfl⟩ | ⟨h, rfl⟩ | ⟨h, rfl⟩
  · exact hw.recv (k := 2) (i := i) hi (ci := 9) (T := TX9) (Nf := 14) (by show cfT G ad (μ 2) i = _; rw [cfT, if_pos h]) rfl
  · exact hw.recv (k := 2) (i := i) hi (ci := 4) (T := TX4) (Nf := 15) (by show cfT G ad (μ 2) i = _; rw [cfT, if_neg (by omega), if_pos h]) rfl
  · exact hw.recv (k := 2) (i := i) hi (ci := 7) (T := TX7) (Nf := 14) (by show cfT G ad (μ 2) i = _; rw [cfT, if_neg (by omega), if_neg (by omega), if_pos h]) rfl
  · exact hw.recv (k := 2) (i := i) hi (ci := 0) (T := TX0) (Nf := 17) (by show cfT G ad (μ 2) i = _; rw [cfT, if_neg (by omega), if_neg (by omega), if_neg (by omega)]) rfl
theorem inst_Plate (F : CallFix p m c cc nL s args uw own) (hw : wdC G D cy ad A μ s H) (hi : 0 ≤ i ∧ i < G 0 0) (hl : Cond.classLink own idx RX4 ∈ uw) (hdg : decode cc pc = .ok (.instanceof idx, 3)) (ky : (G 1 i = 1 ∨ G 1 i = 3) → W p l e R s m args below meth c H locs cells slots Q (F0 m (pc + 3) ls (.int (iI 1) :: rest))) (kn : ¬ (G 1 i = 1 ∨ G 1 i = 3) → W p l e R s m args below meth c H locs cells slots Q (F0 m (pc + 3) ls (.int (iI 0) :: rest))) : W p l e R s m args below meth c H locs cells slots Q (F0 m pc ls (.ref (ad 2 i) :: rest)) := by
  have hG := (hw.2.1.2.1 i hi.1 hi.2).1
  obtain ⟨h0, h1, h2, h3, h4, h5, h6, h7, h8, h9, h10, h11, h12, h13⟩ := hw.2.1.2
  rcases (show G 1 i = 0 ∨ G 1 i = 1 ∨ G 1 i = 2 ∨ G 1 i = 3 by omega) with q | q | q | q
  · exact va_instNo F.1 F.2.1 F.2.2.2.1 (F.2.2.2.2 _ hl) h6 (recvT hw hi (C := RX9) (Or.inl ⟨q, rfl⟩)) hdg (kn (by omega))
  · exact va_instS F.1 F.2.1 F.2.2.2.1 (F.2.2.2.2 _ hl) (hw.2.1.1.1 4 _ rfl).2 (recvT hw hi (C := RX4) (Or.inr (Or.inl ⟨q, rfl⟩))) hdg (ky (by omega))
  · exact va_instNo F.1 F.2.1 F.2.2.2.1 (F.2.2.2.2 _ hl) h7 (recvT hw hi (C := RX7) (Or.inr (Or.inr (Or.inl ⟨q, rfl⟩)))) hdg (kn (by omega))
  · exact va_instY F.1 F.2.1 F.2.2.2.1 (F.2.2.2.2 _ hl) h1 (recvT hw hi (C := RX0) (Or.inr (Or.inr (Or.inr ⟨q, rfl⟩)))) hdg (ky (by omega))
theorem cast_Plate (F : CallFix p m c cc nL s args uw own) (hw : wdC G D cy ad A μ s H) (hi : 0 ≤ i ∧ i < G 0 0) (hk : G 1 i = 1 ∨ G 1 i = 3) (hl : Cond.classLink own idx RX4 ∈ uw) (hdg : decode cc pc = .ok (.checkcast idx, 3)) (kk : W p l e R s m args below meth c H locs cells slots Q (F0 m (pc + 3) ls (.ref (ad 2 i) :: rest))) : W p l e R s m args below meth c H locs cells slots Q (F0 m pc ls (.ref (ad 2 i) :: rest)) := by
  obtain ⟨h0, h1, h2, h3, h4, h5, h6, h7, h8, h9, h10, h11, h12, h13⟩ := hw.2.1.2
  rcases hk with q | q
  · exact va_castS F.1 F.2.1 F.2.2.2.1 (F.2.2.2.2 _ hl) (hw.2.1.1.1 4 _ rfl).2 (recvT hw hi (C := RX4) (Or.inr (Or.inl ⟨q, rfl⟩))) hdg kk
  · exact va_castY F.1 F.2.1 F.2.2.2.1 (F.2.2.2.2 _ hl) h1 (recvT hw hi (C := RX0) (Or.inr (Or.inr (Or.inr ⟨q, rfl⟩)))) hdg kk
theorem inst_Snail (F : CallFix p m c cc nL s args uw own) (hw : wdC G D cy ad A μ s H) (hi : 0 ≤ i ∧ i < G 0 0) (hl : Cond.classLink own idx RX7 ∈ uw) (hdg : decode cc pc = .ok (.instanceof idx, 3)) (ky : (G 1 i = 2) → W p l e R s m args below meth c H locs cells slots Q (F0 m (pc + 3) ls (.int (iI 1) :: rest))) (kn : ¬ (G 1 i = 2) → W p l e R s m args below meth c H locs cells slots Q (F0 m (pc + 3) ls (.int (iI 0) :: rest))) : W p l e R s m args below meth c H locs cells slots Q (F0 m pc ls (.ref (ad 2 i) :: rest)) := by
  have hG := (hw.2.1.2.1 i hi.1 hi.2).1
  obtain ⟨h0, h1, h2, h3, h4, h5, h6, h7, h8, h9, h10, h11, h12, h13⟩ := hw.2.1.2
  rcases (show G 1 i = 0 ∨ G 1 i = 1 ∨ G 1 i = 2 ∨ G 1 i = 3 by omega) with q | q | q | q
  · exact va_instNo F.1 F.2.1 F.2.2.2.1 (F.2.2.2.2 _ hl) h8 (recvT hw hi (C := RX9) (Or.inl ⟨q, rfl⟩)) hdg (kn (by omega))
  · exact va_instNo F.1 F.2.1 F.2.2.2.1 (F.2.2.2.2 _ hl) h9 (recvT hw hi (C := RX4) (Or.inr (Or.inl ⟨q, rfl⟩))) hdg (kn (by omega))
  · exact va_instS F.1 F.2.1 F.2.2.2.1 (F.2.2.2.2 _ hl) (hw.2.1.1.1 7 _ rfl).2 (recvT hw hi (C := RX7) (Or.inr (Or.inr (Or.inl ⟨q, rfl⟩)))) hdg (ky (by omega))
  · exact va_instNo F.1 F.2.1 F.2.2.2.1 (F.2.2.2.2 _ hl) h10 (recvT hw hi (C := RX0) (Or.inr (Or.inr (Or.inr ⟨q, rfl⟩)))) hdg (kn (by omega))
theorem cast_Snail (F : CallFix p m c cc nL s args uw own) (hw : wdC G D cy ad A μ s H) (hi : 0 ≤ i ∧ i < G 0 0) (hk : G 1 i = 2) (hl : Cond.classLink own idx RX7 ∈ uw) (hdg : decode cc pc = .ok (.checkcast idx, 3)) (kk : W p l e R s m args below meth c H locs cells slots Q (F0 m (pc + 3) ls (.ref (ad 2 i) :: rest))) : W p l e R s m args below meth c H locs cells slots Q (F0 m pc ls (.ref (ad 2 i) :: rest)) := by
  obtain ⟨h0, h1, h2, h3, h4, h5, h6, h7, h8, h9, h10, h11, h12, h13⟩ := hw.2.1.2
  exact va_castS F.1 F.2.1 F.2.2.2.1 (F.2.2.2.2 _ hl) (hw.2.1.1.1 7 _ rfl).2 (recvT hw hi (C := RX7) (Or.inr (Or.inr (Or.inl ⟨hk, rfl⟩)))) hdg kk
theorem inst_Barrel (F : CallFix p m c cc nL s args uw own) (hw : wdC G D cy ad A μ s H) (hi : 0 ≤ i ∧ i < G 0 0) (hl : Cond.classLink own idx RX0 ∈ uw) (hdg : decode cc pc = .ok (.instanceof idx, 3)) (ky : (G 1 i = 3) → W p l e R s m args below meth c H locs cells slots Q (F0 m (pc + 3) ls (.int (iI 1) :: rest))) (kn : ¬ (G 1 i = 3) → W p l e R s m args below meth c H locs cells slots Q (F0 m (pc + 3) ls (.int (iI 0) :: rest))) : W p l e R s m args below meth c H locs cells slots Q (F0 m pc ls (.ref (ad 2 i) :: rest)) := by
  have hG := (hw.2.1.2.1 i hi.1 hi.2).1
  obtain ⟨h0, h1, h2, h3, h4, h5, h6, h7, h8, h9, h10, h11, h12, h13⟩ := hw.2.1.2
  rcases (show G 1 i = 0 ∨ G 1 i = 1 ∨ G 1 i = 2 ∨ G 1 i = 3 by omega) with q | q | q | q
  · exact va_instNo F.1 F.2.1 F.2.2.2.1 (F.2.2.2.2 _ hl) h11 (recvT hw hi (C := RX9) (Or.inl ⟨q, rfl⟩)) hdg (kn (by omega))
  · exact va_instNo F.1 F.2.1 F.2.2.2.1 (F.2.2.2.2 _ hl) h12 (recvT hw hi (C := RX4) (Or.inr (Or.inl ⟨q, rfl⟩))) hdg (kn (by omega))
  · exact va_instNo F.1 F.2.1 F.2.2.2.1 (F.2.2.2.2 _ hl) h13 (recvT hw hi (C := RX7) (Or.inr (Or.inr (Or.inl ⟨q, rfl⟩)))) hdg (kn (by omega))
  · exact va_instS F.1 F.2.1 F.2.2.2.1 (F.2.2.2.2 _ hl) (hw.2.1.1.1 0 _ rfl).2 (recvT hw hi (C := RX0) (Or.inr (Or.inr (Or.inr ⟨q, rfl⟩)))) hdg (ky (by omega))
theorem cast_Barrel (F : CallFix p m c cc nL s args uw own) (hw : wdC G D cy ad A μ s H) (hi : 0 ≤ i ∧ i < G 0 0) (hk : G 1 i = 3) (hl : Cond.classLink own idx RX0 ∈ uw) (hdg : decode cc pc = .ok (.checkcast idx, 3)) (kk : W p l e R s m args below meth c H locs cells slots Q (F0 m (pc + 3) ls (.ref (ad 2 i) :: rest))) : W p l e R s m args below meth c H locs cells slots Q (F0 m pc ls (.ref (ad 2 i) :: rest)) := by
  obtain ⟨h0, h1, h2, h3, h4, h5, h6, h7, h8, h9, h10, h11, h12, h13⟩ := hw.2.1.2
  exact va_castS F.1 F.2.1 F.2.2.2.1 (F.2.2.2.2 _ hl) (hw.2.1.1.1 0 _ rfl).2 (recvT hw hi (C := RX0) (Or.inr (Or.inr (Or.inr ⟨hk, rfl⟩)))) hdg kk
theorem acmp_T (hx : p.tables.exec = Jvm.exec) (hb : c.code = cc) (hw : wdC G D cy ad A μ s H) {x y : Int} (hi : 0 ≤ x ∧ x < G 0 0) (hy : y < G 0 0) {off : Int} {tgt : Nat} (hdg : decode cc pc = .ok (.if_acmp .ne off, 3)) (ht : (pc : Int) + off = (tgt : Int)) (kt : ¬ x = y → W p l e R s m args below meth c H locs cells slots Q (F0 m tgt ls rest)) (kf : x = y → W p l e R s m args below meth c H locs cells slots Q (F0 m (pc + 3) ls rest)) : W p l e R s m args below meth c H locs cells slots Q (F0 m pc ls (rf ad 2 y :: .ref (ad 2 x) :: rest)) := by
  rw [← rf_ro]
  refine lv_acmp_ne (rx := some (ad 2 x)) (ry := ro ad 2 y) hx hb hdg ht (fun h => kt (fun q => h ?_)) (fun h => kf ?_)
  · subst q
    exact (if_neg (by omega)).symm
  · by_cases hn : y < 0
    · rw [show ro ad 2 y = none from if_pos hn] at h
      cases h
    · rw [show ro ad 2 y = some (ad 2 y) from if_neg hn] at h
      exact (hw.2.2.1 2 x 2 y hi ⟨by omega, hy⟩ (Option.some.inj h)).2
end
