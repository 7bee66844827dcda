section
variable {p : Program} {l : Launch} {e : Env} {R : Room} {s : State} {m : MethodId} {args : Array Value} {below : List Frame} {meth : Method} {c : Code} {Qf : State → Prop} {D : va_G} {cy : Nat → ClassId} {ad : AD} {A : Nat → Prop}
def wpX11_costOf (x1 : Int) (x2 : Int) (x3 : Int) (μ : MM) (Q : Int → MM → Prop) : Prop := rg x3 ∧ (if x3 = 2 then (Q ((1000 * 0) + 1) μ) else (rg x2 ∧ (0 ≤ ((24 * x1) + (Int.tdiv x2 12)) ∧ ((24 * x1) + (Int.tdiv x2 12) < 384 ∧ (Q ((1000 * (μ 13 0 ((24 * x1) + (Int.tdiv x2 12)))) + 1) μ)))))
set_option maxRecDepth 100000 in
set_option maxHeartbeats 4000000 in
theorem wX11_costOf {Q : Int → MM → Prop} {x1 : Int} {x2 : Int} {x3 : Int} {μ : MM} {H : Heap} {locs : List Loc} {ls : Array Slot} (F : CallFix p m c cX11_costOf 4 s args uw RX11) (hA : ∀ q : Nat, s.heap.size ≤ q → A q) (hR : 0 ≤ R.frames ∧ 0 ≤ R.locals) (ret : RetI p l e R s m args below meth c cX11_costOf Qf dmR cfR tyR exR D cy ad A Q) (h : wpX11_costOf x1 x2 x3 μ Q) (hw : wdR D cy ad A μ s H) (hS : va_S A s.heap H locs) (hl : lv_has ls 4 [(0, .ref (ad 0 0)), (1, .int (iI x1)), (2, .int (iI x2)), (3, .int (iI x3))]) : W p l e R s m args below meth c H locs 0 0 Qf (F0 m 0 ls []) := by
  have hx := F.1
  have hb := F.2.1
  have hown := F.2.2.2.1
  have hts := F.2.2.2.2
  refine q_sipush hx hb (by decide) dX11_costOf_0 ?_
  refine lv_iload_n hx hb dX11_costOf_3 rfl (lv_at hl 3 rfl) ?_
  refine q_iconst hx hb dX11_costOf_4 ?_
  obtain ⟨g1, h⟩ := h
  refine q_icmp_ne (tgt := 12) hx hb g1 (by decide) dX11_costOf_5 (by decide) (fun c2 => ?_) (fun c2 => ?_)
  · have h := ite_f c2 h
    refine lv_aload_n hx hb dX11_costOf_12 rfl (lv_at hl 0 rfl) ?_
    refine gR_notches F hw tw5_151 dX11_costOf_13 ?_
    refine q_bipush hx hb (by decide) dX11_costOf_16 ?_
    refine lv_iload_n hx hb dX11_costOf_18 rfl (lv_at hl 1 rfl) ?_
    refine q_imul hx hb dX11_costOf_19 ?_
    refine lv_iload_n hx hb dX11_costOf_20 rfl (lv_at hl 2 rfl) ?_
    refine q_bipush hx hb (by decide) dX11_costOf_21 ?_
    obtain ⟨g3, h⟩ := h
    refine q_idiv hx hb g3 (by decide) (by decide) dX11_costOf_23 ?_
    refine q_iadd hx hb dX11_costOf_24 ?_
    obtain ⟨g4, h⟩ := h
    obtain ⟨g5, h⟩ := h
    refine aR_ild (L := 384) hx hb hw 12 rfl rfl (by decide) g4 g5 dX11_costOf_25 ?_
    refine q_imul hx hb dX11_costOf_26 ?_
    refine q_iconst hx hb dX11_costOf_27 ?_
    refine q_iadd hx hb dX11_costOf_28 ?_
    exact ret _ _ _ _ _ _ h hw hS dX11_costOf_29
  · have h := ite_t c2 h
    refine q_iconst hx hb dX11_costOf_8 ?_
    refine lv_goto (tgt := 26) hx hb dX11_costOf_9 (by decide) ?_
    refine q_imul hx hb dX11_costOf_26 ?_
    refine q_iconst hx hb dX11_costOf_27 ?_
    refine q_iadd hx hb dX11_costOf_28 ?_
    exact ret _ _ _ _ _ _ h hw hS dX11_costOf_29
set_option maxRecDepth 100000 in
set_option maxHeartbeats 4000000 in
theorem kX11_costOf {l : Launch} {D : va_G} {cy : Nat → ClassId} {ad : AD} {A : Nat → Prop} {x1 : Int} {x2 : Int} {x3 : Int} {μ : MM} {Q : Int → MM → Prop} (h : wpX11_costOf x1 x2 x3 μ Q) : Met l yX11_costOf (Cond.code yX11_costOf cX11_costOf 4 (some .int) :: uw) (rmm 0 0) (wPc [.ref (ad 0 0), .int (iI x1), .int (iI x2), .int (iI x3)] dmR cfR tyR exR D cy ad A μ) (wQ vI Q dmR cfR D cy ad A) 0 0 A :=
  met_of (by decide) (Nat.le_of_ble_eq_true rfl) (fun p e R s m args below meth c ls hr hk hRR F hA hw hS hl => wX11_costOf F hA (by subst hRR; exact ⟨Nat.le_refl _, Nat.le_refl _⟩) (retI_of F hr hk) h hw hS hl)
theorem hdX11_costOf : yX11_costOf.cls ≠ "java/lang/invoke/MethodHandle" ∧ yX11_costOf.cls ≠ "java/lang/invoke/VarHandle" ∧ (parseMethodDescriptor yX11_costOf.desc).map (fun d => d.parameters.length) = some 3 := by decide +kernel
def wpX11_count_J110 (k89 : Int → Int → MM → Prop) (Q : Int → MM → Prop) (x3 : Int) (t0 : Int) (t1 : Int) (μ : MM) : Prop := k89 (t0 + t1) (x3 + 1) μ
set_option maxRecDepth 100000 in
set_option maxHeartbeats 4000000 in
theorem wX11_count_J110 {k89 : Int → Int → MM → Prop} {Q : Int → MM → Prop} {x3 : Int} {t0 : Int} {t1 : Int} {μ : MM} {H : Heap} {locs : List Loc} {ls : Array Slot} (F : CallFix p m c cX11_count 4 s args uw RX11) (hA : ∀ q : Nat, s.heap.size ≤ q → A q) (hR : 0 ≤ R.frames ∧ 0 ≤ R.locals) (ret : RetI p l e R s m args below meth c cX11_count Qf dmR cfR tyR exR D cy ad A Q) (hk89 : ∀ (x2' x3' : Int) (μ' : MM) (H : Heap) (locs : List Loc) (ls : Array Slot), k89 x2' x3' μ' → wdR D cy ad A μ' s H → va_S A s.heap H locs → lv_has ls 4 [(0, .ref (ad 0 0)), (2, .int (iI (x2'))), (3, .int (iI (x3')))] → W p l e R s m args below meth c H locs 0 0 Qf (F0 m 89 ls [])) (h : wpX11_count_J110 k89 Q x3 t0 t1 μ) (hw : wdR D cy ad A μ s H) (hS : va_S A s.heap H locs) (hl : lv_has ls 4 [(0, .ref (ad 0 0)), (3, .int (iI x3))]) : W p l e R s m args below meth c H locs 0 0 Qf (F0 m 110 ls [.int (iI t1), .int (iI t0)]) := by
  have hx := F.1
  have hb := F.2.1
  have hown := F.2.2.2.1
  have hts := F.2.2.2.2
  refine q_iadd hx hb dX11_count_110 ?_
  refine lv_istore_n (lv' := [(2, .int (iI (t0 + t1))), (0, .ref (ad 0 0)), (3, .int (iI x3))]) hx hb dX11_count_111 rfl hl (by decide) rfl (fun ls hl => ?_)
  refine q_iinc (k := 2) (lv' := [(3, .int (iI (x3 + 1))), (2, .int (iI (t0 + t1))), (0, .ref (ad 0 0))]) hx hb dX11_count_112 hl rfl (by decide) rfl (fun ls hl => ?_)
  refine lv_goto (tgt := 89) hx hb dX11_count_115 (by decide) ?_
  exact hk89 (t0 + t1) (x3 + 1) _ _ _ _ h hw hS (lv_sub hl [2, 1, 0] rfl)
def wpX11_count_L89 (Q : Int → MM → Prop) : Nat → Int → Int → MM → Prop
  | 0, _, _, _ => False
  | n + 1, x2, x3, μ => rg x3 ∧ (if 8 ≤ x3 then (Q x2 μ) else (0 ≤ x3 ∧ (x3 < 8 ∧ (rg (μ 7 0 x3) ∧ (if (μ 7 0 x3) < 0 then (wpX11_count_J110 (fun x2' x3' μ' => wpX11_count_L89 Q n x2' x3' μ') Q x3 x2 0 μ) else (wpX11_count_J110 (fun x2' x3' μ' => wpX11_count_L89 Q n x2' x3' μ') Q x3 x2 1 μ))))))
set_option maxRecDepth 100000 in
set_option maxHeartbeats 4000000 in
theorem wX11_count_L89 {Q : Int → MM → Prop} (F : CallFix p m c cX11_count 4 s args uw RX11) (hA : ∀ q : Nat, s.heap.size ≤ q → A q) (hR : 0 ≤ R.frames ∧ 0 ≤ R.locals) (ret : RetI p l e R s m args below meth c cX11_count Qf dmR cfR tyR exR D cy ad A Q) : ∀ (n : Nat) (x2 x3 : Int) (μ : MM) (H : Heap) (locs : List Loc) (ls : Array Slot), wpX11_count_L89 Q n x2 x3 μ → wdR D cy ad A μ s H → va_S A s.heap H locs → lv_has ls 4 [(0, .ref (ad 0 0)), (2, .int (iI x2)), (3, .int (iI x3))] → W p l e R s m args below meth c H locs 0 0 Qf (F0 m 89 ls []) := by
  have hx := F.1
  have hb := F.2.1
  have hown := F.2.2.2.1
  have hts := F.2.2.2.2
  intro n
  induction n with
  | zero =>
    intro x2 x3 μ H locs ls h hw hS hl
    exact h.elim
  | succ n ih =>
    intro x2 x3 μ H locs ls h hw hS hl
    refine lv_iload_n hx hb dX11_count_89 rfl (lv_at hl 2 rfl) ?_
    refine q_bipush hx hb (by decide) dX11_count_90 ?_
    obtain ⟨g1, h⟩ := h
    refine q_icmp_ge (tgt := 118) hx hb g1 (by decide) dX11_count_92 (by decide) (fun c2 => ?_) (fun c2 => ?_)
    · have h := ite_t c2 h
      refine lv_iload_n hx hb dX11_count_118 rfl (lv_at hl 1 rfl) ?_
      exact ret _ _ _ _ _ _ h hw hS dX11_count_119
    · have h := ite_f c2 h
      refine lv_iload_n hx hb dX11_count_95 rfl (lv_at hl 1 rfl) ?_
      refine lv_aload_n hx hb dX11_count_96 rfl (lv_at hl 0 rfl) ?_
      refine gR_sizes F hw tw5_145 dX11_count_97 ?_
      refine lv_iload_n hx hb dX11_count_100 rfl (lv_at hl 2 rfl) ?_
      obtain ⟨g3, h⟩ := h
      obtain ⟨g4, h⟩ := h
      refine aR_ild (L := 8) hx hb hw 6 rfl rfl (by decide) g3 g4 dX11_count_101 ?_
      obtain ⟨g5, h⟩ := h
      refine q_if_lt (tgt := 109) hx hb g5 dX11_count_102 (by decide) (fun c6 => ?_) (fun c6 => ?_)
      · have h := ite_t c6 h
        refine q_iconst hx hb dX11_count_109 ?_
        exact wX11_count_J110 F hA hR ret (fun x2 x3 => ih x2 x3) h hw hS (lv_sub hl [0, 2] rfl)
      · have h := ite_f c6 h
        refine q_iconst hx hb dX11_count_105 ?_
        refine lv_goto (tgt := 110) hx hb dX11_count_106 (by decide) ?_
        exact wX11_count_J110 F hA hR ret (fun x2 x3 => ih x2 x3) h hw hS (lv_sub hl [0, 2] rfl)
def wpX11_count_J72 (k52 : Int → Int → MM → Prop) (Q : Int → MM → Prop) (x3 : Int) (t0 : Int) (t1 : Int) (μ : MM) : Prop := k52 (t0 + t1) (x3 + 1) μ
set_option maxRecDepth 100000 in
set_option maxHeartbeats 4000000 in
theorem wX11_count_J72 {k52 : Int → Int → MM → Prop} {Q : Int → MM → Prop} {x3 : Int} {t0 : Int} {t1 : Int} {μ : MM} {H : Heap} {locs : List Loc} {ls : Array Slot} (F : CallFix p m c cX11_count 4 s args uw RX11) (hA : ∀ q : Nat, s.heap.size ≤ q → A q) (hR : 0 ≤ R.frames ∧ 0 ≤ R.locals) (ret : RetI p l e R s m args below meth c cX11_count Qf dmR cfR tyR exR D cy ad A Q) (hk52 : ∀ (x2' x3' : Int) (μ' : MM) (H : Heap) (locs : List Loc) (ls : Array Slot), k52 x2' x3' μ' → wdR D cy ad A μ' s H → va_S A s.heap H locs → lv_has ls 4 [(0, .ref (ad 0 0)), (2, .int (iI (x2'))), (3, .int (iI (x3')))] → W p l e R s m args below meth c H locs 0 0 Qf (F0 m 52 ls [])) (h : wpX11_count_J72 k52 Q x3 t0 t1 μ) (hw : wdR D cy ad A μ s H) (hS : va_S A s.heap H locs) (hl : lv_has ls 4 [(0, .ref (ad 0 0)), (3, .int (iI x3))]) : W p l e R s m args below meth c H locs 0 0 Qf (F0 m 72 ls [.int (iI t1), .int (iI t0)]) := by
  have hx := F.1
  have hb := F.2.1
  have hown := F.2.2.2.1
  have hts := F.2.2.2.2
  refine q_iadd hx hb dX11_count_72 ?_
  refine lv_istore_n (lv' := [(2, .int (iI (t0 + t1))), (0, .ref (ad 0 0)), (3, .int (iI x3))]) hx hb dX11_count_73 rfl hl (by decide) rfl (fun ls hl => ?_)
  refine q_iinc (k := 2) (lv' := [(3, .int (iI (x3 + 1))), (2, .int (iI (t0 + t1))), (0, .ref (ad 0 0))]) hx hb dX11_count_74 hl rfl (by decide) rfl (fun ls hl => ?_)
  refine lv_goto (tgt := 52) hx hb dX11_count_77 (by decide) ?_
  exact hk52 (t0 + t1) (x3 + 1) _ _ _ _ h hw hS (lv_sub hl [2, 1, 0] rfl)
def wpX11_count_L52 (Q : Int → MM → Prop) : Nat → Int → Int → MM → Prop
  | 0, _, _, _ => False
  | n + 1, x2, x3, μ => rg x3 ∧ (if 4 ≤ x3 then (Q x2 μ) else (0 ≤ x3 ∧ (x3 < 4 ∧ (rg (μ 26 0 x3) ∧ (if (μ 26 0 x3) = 0 then (wpX11_count_J72 (fun x2' x3' μ' => wpX11_count_L52 Q n x2' x3' μ') Q x3 x2 0 μ) else (wpX11_count_J72 (fun x2' x3' μ' => wpX11_count_L52 Q n x2' x3' μ') Q x3 x2 1 μ))))))
set_option maxRecDepth 100000 in
set_option maxHeartbeats 4000000 in
theorem wX11_count_L52 {Q : Int → MM → Prop} (F : CallFix p m c cX11_count 4 s args uw RX11) (hA : ∀ q : Nat, s.heap.size ≤ q → A q) (hR : 0 ≤ R.frames ∧ 0 ≤ R.locals) (ret : RetI p l e R s m args below meth c cX11_count Qf dmR cfR tyR exR D cy ad A Q) : ∀ (n : Nat) (x2 x3 : Int) (μ : MM) (H : Heap) (locs : List Loc) (ls : Array Slot), wpX11_count_L52 Q n x2 x3 μ → wdR D cy ad A μ s H → va_S A s.heap H locs → lv_has ls 4 [(0, .ref (ad 0 0)), (2, .int (iI x2)), (3, .int (iI x3))] → W p l e R s m args below meth c H locs 0 0 Qf (F0 m 52 ls []) := by
  have hx := F.1
  have hb := F.2.1
  have hown := F.2.2.2.1
  have hts := F.2.2.2.2
  intro n
  induction n with
  | zero =>
    intro x2 x3 μ H locs ls h hw hS hl
    exact h.elim
  | succ n ih =>
    intro x2 x3 μ H locs ls h hw hS hl
    refine lv_iload_n hx hb dX11_count_52 rfl (lv_at hl 2 rfl) ?_
    refine q_iconst hx hb dX11_count_53 ?_
    obtain ⟨g1, h⟩ := h
    refine q_icmp_ge (tgt := 80) hx hb g1 (by decide) dX11_count_54 (by decide) (fun c2 => ?_) (fun c2 => ?_)
    · have h := ite_t c2 h
      refine lv_iload_n hx hb dX11_count_80 rfl (lv_at hl 1 rfl) ?_
      exact ret _ _ _ _ _ _ h hw hS dX11_count_81
    · have h := ite_f c2 h
      refine lv_iload_n hx hb dX11_count_57 rfl (lv_at hl 1 rfl) ?_
      refine lv_aload_n hx hb dX11_count_58 rfl (lv_at hl 0 rfl) ?_
      refine gR_isTower F hw tw5_164 dX11_count_59 ?_
      refine lv_iload_n hx hb dX11_count_62 rfl (lv_at hl 2 rfl) ?_
      obtain ⟨g3, h⟩ := h
      obtain ⟨g4, h⟩ := h
      refine aR_zld (L := 4) hx hb hw 25 rfl rfl (by decide) g3 g4 dX11_count_63 ?_
      obtain ⟨g5, h⟩ := h
      refine q_if_eq (tgt := 71) hx hb g5 dX11_count_64 (by decide) (fun c6 => ?_) (fun c6 => ?_)
      · have h := ite_t c6 h
        refine q_iconst hx hb dX11_count_71 ?_
        exact wX11_count_J72 F hA hR ret (fun x2 x3 => ih x2 x3) h hw hS (lv_sub hl [0, 2] rfl)
      · have h := ite_f c6 h
        refine q_iconst hx hb dX11_count_67 ?_
        refine lv_goto (tgt := 72) hx hb dX11_count_68 (by decide) ?_
        exact wX11_count_J72 F hA hR ret (fun x2 x3 => ih x2 x3) h hw hS (lv_sub hl [0, 2] rfl)
def wpX11_count (x1 : Int) (μ : MM) (Q : Int → MM → Prop) : Prop := rg x1 ∧ (if x1 = 0 then (Q (μ 0 5 0) μ) else (if x1 = 1 then (Q (μ 0 10 0) μ) else (if x1 = 2 then (∃ n5 : Nat, wpX11_count_L52 Q n5 0 0 μ) else (if x1 = 3 then (Q (μ 0 48 0) μ) else (if x1 = 4 then (∃ n8 : Nat, wpX11_count_L89 Q n8 0 0 μ) else (if x1 = 5 then (Q (μ 0 6 0) μ) else (Q (-1) μ)))))))
set_option maxRecDepth 100000 in
set_option maxHeartbeats 4000000 in
theorem wX11_count {Q : Int → MM → Prop} {x1 : Int} {μ : MM} {H : Heap} {locs : List Loc} {ls : Array Slot} (F : CallFix p m c cX11_count 4 s args uw RX11) (hA : ∀ q : Nat, s.heap.size ≤ q → A q) (hR : 0 ≤ R.frames ∧ 0 ≤ R.locals) (ret : RetI p l e R s m args below meth c cX11_count Qf dmR cfR tyR exR D cy ad A Q) (h : wpX11_count x1 μ Q) (hw : wdR D cy ad A μ s H) (hS : va_S A s.heap H locs) (hl : lv_has ls 4 [(0, .ref (ad 0 0)), (1, .int (iI x1))]) : W p l e R s m args below meth c H locs 0 0 Qf (F0 m 0 ls []) := by
  have hx := F.1
  have hb := F.2.1
  have hown := F.2.2.2.1
  have hts := F.2.2.2.2
  refine q_iconst hx hb dX11_count_0 ?_
  refine lv_istore_n (lv' := [(2, .int (iI 0)), (0, .ref (ad 0 0)), (1, .int (iI x1))]) hx hb dX11_count_1 rfl hl (by decide) rfl (fun ls hl => ?_)
  refine lv_iload_n hx hb dX11_count_2 rfl (lv_at hl 2 rfl) ?_
  obtain ⟨g1, h⟩ := h
  by_cases c2 : x1 = 0
  · have h := ite_t c2 h
    refine q_tswIn (tgt := 40) hx hb g1 dX11_count_3 0 (by rw [c2]; decide) (by decide) rfl (by decide) ?_
    refine lv_aload_n hx hb dX11_count_40 rfl (lv_at hl 1 rfl) ?_
    refine gR_now F hw tw5_143 dX11_count_41 ?_
    exact ret _ _ _ _ _ _ h hw hS dX11_count_44
  · have h := ite_f c2 h
    by_cases c3 : x1 = 1
    · have h := ite_t c3 h
      refine q_tswIn (tgt := 45) hx hb g1 dX11_count_3 1 (by rw [c3]; decide) (by decide) rfl (by decide) ?_
      refine lv_aload_n hx hb dX11_count_45 rfl (lv_at hl 1 rfl) ?_
      refine gR_trains F hw tw5_148 dX11_count_46 ?_
      exact ret _ _ _ _ _ _ h hw hS dX11_count_49
    · have h := ite_f c3 h
      by_cases c4 : x1 = 2
      · have h := ite_t c4 h
        refine q_tswIn (tgt := 50) hx hb g1 dX11_count_3 2 (by rw [c4]; decide) (by decide) rfl (by decide) ?_
        refine q_iconst hx hb dX11_count_50 ?_
        refine lv_istore_n (lv' := [(3, .int (iI 0)), (2, .int (iI 0)), (0, .ref (ad 0 0)), (1, .int (iI x1))]) hx hb dX11_count_51 rfl hl (by decide) rfl (fun ls hl => ?_)
        obtain ⟨n5, h⟩ := h
        exact wX11_count_L52 F hA hR ret n5 0 0 _ _ _ _ h hw hS (lv_sub hl [2, 1, 0] rfl)
      · have h := ite_f c4 h
        by_cases c6 : x1 = 3
        · have h := ite_t c6 h
          refine q_tswIn (tgt := 82) hx hb g1 dX11_count_3 3 (by rw [c6]; decide) (by decide) rfl (by decide) ?_
          refine lv_aload_n hx hb dX11_count_82 rfl (lv_at hl 1 rfl) ?_
          refine gR_wheels F hw tw5_186 dX11_count_83 ?_
          exact ret _ _ _ _ _ _ h hw hS dX11_count_86
        · have h := ite_f c6 h
          by_cases c7 : x1 = 4
          · have h := ite_t c7 h
            refine q_tswIn (tgt := 87) hx hb g1 dX11_count_3 4 (by rw [c7]; decide) (by decide) rfl (by decide) ?_
            refine q_iconst hx hb dX11_count_87 ?_
            refine lv_istore_n (lv' := [(3, .int (iI 0)), (2, .int (iI 0)), (0, .ref (ad 0 0)), (1, .int (iI x1))]) hx hb dX11_count_88 rfl hl (by decide) rfl (fun ls hl => ?_)
            obtain ⟨n8, h⟩ := h
            exact wX11_count_L89 F hA hR ret n8 0 0 _ _ _ _ h hw hS (lv_sub hl [2, 1, 0] rfl)
          · have h := ite_f c7 h
            by_cases c9 : x1 = 5
            · have h := ite_t c9 h
              refine q_tswIn (tgt := 120) hx hb g1 dX11_count_3 5 (by rw [c9]; decide) (by decide) rfl (by decide) ?_
              refine lv_aload_n hx hb dX11_count_120 rfl (lv_at hl 1 rfl) ?_
              refine gR_struckEver F hw tw5_144 dX11_count_121 ?_
              exact ret _ _ _ _ _ _ h hw hS dX11_count_124
            · have h := ite_f c9 h
              refine q_tswOut (tgt := 125) hx hb g1 dX11_count_3 (by omega) (by decide) ?_
              refine q_iconst hx hb dX11_count_125 ?_
              exact ret _ _ _ _ _ _ h hw hS dX11_count_126
set_option maxRecDepth 100000 in
set_option maxHeartbeats 4000000 in
theorem kX11_count {l : Launch} {D : va_G} {cy : Nat → ClassId} {ad : AD} {A : Nat → Prop} {x1 : Int} {μ : MM} {Q : Int → MM → Prop} (h : wpX11_count x1 μ Q) : Met l yX11_count (Cond.code yX11_count cX11_count 4 (some .int) :: uw) (rmm 0 0) (wPc [.ref (ad 0 0), .int (iI x1)] dmR cfR tyR exR D cy ad A μ) (wQ vI Q dmR cfR D cy ad A) 0 0 A :=
  met_of (by decide) (Nat.le_of_ble_eq_true rfl) (fun p e R s m args below meth c ls hr hk hRR F hA hw hS hl => wX11_count F hA (by subst hRR; exact ⟨Nat.le_refl _, Nat.le_refl _⟩) (retI_of F hr hk) h hw hS hl)
theorem hdX11_count : yX11_count.cls ≠ "java/lang/invoke/MethodHandle" ∧ yX11_count.cls ≠ "java/lang/invoke/VarHandle" ∧ (parseMethodDescriptor yX11_count.desc).map (fun d => d.parameters.length) = some 1 := by decide +kernel
def wpX11_cut (x1 : Int) (x2 : Int) (x3 : Int) (μ : MM) (Q : Int → MM → Prop) : Prop := wpX11_in x3 1 24 μ (fun v1 μ2 => if v1 = 0 then (Q (-1) μ2) else (wpX11_askedNotch x1 x2 μ2 (fun v5 μ6 => rg v5 ∧ (if 0 ≤ v5 then (0 ≤ ((24 * x1) + x2) ∧ ((24 * x1) + x2 < 384 ∧ (∀ y11 : Int, y11 = μ6 13 0 ((24 * x1) + x2) → (∀ μ12 : MM, μ12 = ms μ6 13 0 ((24 * x1) + x2) x3 → (Q y11 μ12))))) else (Q v5 μ6)))))
set_option maxRecDepth 100000 in
set_option maxHeartbeats 4000000 in
theorem wX11_cut {Q : Int → MM → Prop} {x1 : Int} {x2 : Int} {x3 : Int} {μ : MM} {H : Heap} {locs : List Loc} {ls : Array Slot} (F : CallFix p m c cX11_cut 6 s args uw RX11) (hA : ∀ q : Nat, s.heap.size ≤ q → A q) (hR : 3 ≤ R.frames ∧ 65 ≤ R.locals) (ret : RetI p l e R s m args below meth c cX11_cut Qf dmR cfR tyR exR D cy ad A Q) (h : wpX11_cut x1 x2 x3 μ Q) (hw : wdR D cy ad A μ s H) (hS : va_S A s.heap H locs) (hl : lv_has ls 6 [(0, .ref (ad 0 0)), (1, .int (iI x1)), (2, .int (iI x2)), (3, .int (iI x3))]) : W p l e R s m args below meth c H locs 0 0 Qf (F0 m 0 ls []) := by
  have hx := F.1
  have hb := F.2.1
  have hown := F.2.2.2.1
  have hts := F.2.2.2.2
  refine lv_iload_n hx hb dX11_cut_0 rfl (lv_at hl 3 rfl) ?_
  refine q_iconst hx hb dX11_cut_1 ?_
  refine q_bipush hx hb (by decide) dX11_cut_2 ?_
  refine call_S hexR F (kX11_in h) 3 tw6_77 tw1_8 tw6_76 tw6_75 hdX11_in ⟨Nat.le_trans (by decide) hR.1, Nat.le_trans (by decide) hR.2⟩ hA hw hS rfl hl.1 rfl (Nat.le_of_ble_eq_true rfl) dX11_cut_4 (fun v1 μ2 H locs h hw hS => ?_)
  obtain ⟨z3, h⟩ := h
  refine q_if_ne (tgt := 12) hx hb (rgB z3) dX11_cut_7 (by decide) (fun c4 => ?_) (fun c4 => ?_)
  · have h := ite_f c4 h
    refine lv_aload_n hx hb dX11_cut_12 rfl (lv_at hl 0 rfl) ?_
    refine lv_iload_n hx hb dX11_cut_13 rfl (lv_at hl 1 rfl) ?_
    refine lv_iload_n hx hb dX11_cut_14 rfl (lv_at hl 2 rfl) ?_
    refine call_V hexR F (kX11_askedNotch h) 2 tw6_174 tw1_8 tw6_173 tws3_4 tw6_171 hdX11_askedNotch ⟨Nat.le_trans (by decide) hR.1, Nat.le_trans (by decide) hR.2⟩ (hw.recv (k := 0) (i := 0) ⟨rfl, Or.inl rfl⟩ rfl rfl) hA hw hS rfl hl.1 rfl (Nat.le_of_ble_eq_true rfl) dX11_cut_15 (fun v5 μ6 H locs h hw hS => ?_)
    refine lv_istore (lv' := [(4, .int (iI v5)), (0, .ref (ad 0 0)), (1, .int (iI x1)), (2, .int (iI x2)), (3, .int (iI x3))]) hx hb dX11_cut_18 hl (by decide) rfl (fun ls hl => ?_)
    refine lv_iload hx hb dX11_cut_20 (lv_at hl 0 rfl) ?_
    obtain ⟨g7, h⟩ := h
    refine q_if_ge (tgt := 28) hx hb g7 dX11_cut_22 (by decide) (fun c8 => ?_) (fun c8 => ?_)
    · have h := ite_t c8 h
      refine lv_aload_n hx hb dX11_cut_28 rfl (lv_at hl 1 rfl) ?_
      refine gR_notches F hw tw5_151 dX11_cut_29 ?_
      refine q_bipush hx hb (by decide) dX11_cut_32 ?_
      refine lv_iload_n hx hb dX11_cut_34 rfl (lv_at hl 2 rfl) ?_
      refine q_imul hx hb dX11_cut_35 ?_
      refine lv_iload_n hx hb dX11_cut_36 rfl (lv_at hl 3 rfl) ?_
      refine q_iadd hx hb dX11_cut_37 ?_
      obtain ⟨g9, h⟩ := h
      obtain ⟨g10, h⟩ := h
      refine aR_ild (L := 384) hx hb hw 12 rfl rfl (by decide) g9 g10 dX11_cut_38 ?_
      obtain ⟨y11, ey11⟩ : ∃ z : Int, z = μ6 13 0 ((24 * x1) + x2) := ⟨_, rfl⟩
      have h := h y11 ey11
      refine q_nmI ey11 ?_
      refine lv_istore (lv' := [(5, .int (iI y11)), (4, .int (iI v5)), (0, .ref (ad 0 0)), (1, .int (iI x1)), (2, .int (iI x2)), (3, .int (iI x3))]) hx hb dX11_cut_39 hl (by decide) rfl (fun ls hl => ?_)
      refine lv_aload_n hx hb dX11_cut_41 rfl (lv_at hl 2 rfl) ?_
      refine gR_notches F hw tw5_151 dX11_cut_42 ?_
      refine q_bipush hx hb (by decide) dX11_cut_45 ?_
      refine lv_iload_n hx hb dX11_cut_47 rfl (lv_at hl 3 rfl) ?_
      refine q_imul hx hb dX11_cut_48 ?_
      refine lv_iload_n hx hb dX11_cut_49 rfl (lv_at hl 4 rfl) ?_
      refine q_iadd hx hb dX11_cut_50 ?_
      refine lv_iload_n hx hb dX11_cut_51 rfl (lv_at hl 5 rfl) ?_
      obtain ⟨μ12, eμ12⟩ : ∃ z : MM, z = ms μ6 13 0 ((24 * x1) + x2) x3 := ⟨_, rfl⟩
      have h := h μ12 eμ12
      refine aR_ist (L := 384) hx hb hw hS 12 rfl rfl (by decide) g9 g10 eμ12 dX11_cut_52 (fun H locs hw hS => ?_)
      refine lv_iload hx hb dX11_cut_53 (lv_at hl 0 rfl) ?_
      exact ret _ _ _ _ _ _ h hw hS dX11_cut_55
    · have h := ite_f c8 h
      refine lv_iload hx hb dX11_cut_25 (lv_at hl 0 rfl) ?_
      exact ret _ _ _ _ _ _ h hw hS dX11_cut_27
  · have h := ite_t c4 h
    refine q_iconst hx hb dX11_cut_10 ?_
    exact ret _ _ _ _ _ _ h hw hS dX11_cut_11
set_option maxRecDepth 100000 in
set_option maxHeartbeats 4000000 in
theorem kX11_cut {l : Launch} {D : va_G} {cy : Nat → ClassId} {ad : AD} {A : Nat → Prop} {x1 : Int} {x2 : Int} {x3 : Int} {μ : MM} {Q : Int → MM → Prop} (h : wpX11_cut x1 x2 x3 μ Q) : Met l yX11_cut (Cond.code yX11_cut cX11_cut 6 (some .int) :: uw) (rmm 3 65) (wPc [.ref (ad 0 0), .int (iI x1), .int (iI x2), .int (iI x3)] dmR cfR tyR exR D cy ad A μ) (wQ vI Q dmR cfR D cy ad A) 0 0 A :=
  met_of (by decide) (Nat.le_of_ble_eq_true rfl) (fun p e R s m args below meth c ls hr hk hRR F hA hw hS hl => wX11_cut F hA (by subst hRR; exact ⟨Nat.le_refl _, Nat.le_refl _⟩) (retI_of F hr hk) h hw hS hl)
theorem hdX11_cut : yX11_cut.cls ≠ "java/lang/invoke/MethodHandle" ∧ yX11_cut.cls ≠ "java/lang/invoke/VarHandle" ∧ (parseMethodDescriptor yX11_cut.desc).map (fun d => d.parameters.length) = some 3 := by decide +kernel
def wpX11_dayOf_J102 (k19 : Int → Int → Int → Int → Int → Int → MM → Prop) (Q : Int → MM → Prop) (x1 : Int) (x2 : Int) (x3 : Int) (x5 : Int) (x6 : Int) (t0 : Int) (t1 : Int) (μ : MM) : Prop := k19 x1 x2 x3 (t0 + t1) x5 (x6 + 1) μ
set_option maxRecDepth 100000 in
set_option maxHeartbeats 4000000 in
theorem wX11_dayOf_J102 {k19 : Int → Int → Int → Int → Int → Int → MM → Prop} {Q : Int → MM → Prop} {x1 : Int} {x2 : Int} {x3 : Int} {x5 : Int} {x6 : Int} {t0 : Int} {t1 : Int} {μ : MM} {H : Heap} {locs : List Loc} {ls : Array Slot} (F : CallFix p m c cX11_dayOf 8 s args uw RX11) (hA : ∀ q : Nat, s.heap.size ≤ q → A q) (hR : 0 ≤ R.frames ∧ 0 ≤ R.locals) (ret : RetI p l e R s m args below meth c cX11_dayOf Qf dmR cfR tyR exR D cy ad A Q) (hk19 : ∀ (x1' x2' x3' x4' x5' x6' : Int) (μ' : MM) (H : Heap) (locs : List Loc) (ls : Array Slot), k19 x1' x2' x3' x4' x5' x6' μ' → wdR D cy ad A μ' s H → va_S A s.heap H locs → lv_has ls 8 [(0, .ref (ad 0 0)), (1, .int (iI (x1'))), (2, .int (iI (x2'))), (3, .int (iI (x3'))), (4, .int (iI (x4'))), (5, .int (iI (x5'))), (6, .int (iI (x6')))] → W p l e R s m args below meth c H locs 0 0 Qf (F0 m 19 ls [])) (h : wpX11_dayOf_J102 k19 Q x1 x2 x3 x5 x6 t0 t1 μ) (hw : wdR D cy ad A μ s H) (hS : va_S A s.heap H locs) (hl : lv_has ls 8 [(0, .ref (ad 0 0)), (1, .int (iI x1)), (2, .int (iI x2)), (3, .int (iI x3)), (5, .int (iI x5)), (6, .int (iI x6))]) : W p l e R s m args below meth c H locs 0 0 Qf (F0 m 102 ls [.int (iI t1), .int (iI t0)]) := by
  have hx := F.1
  have hb := F.2.1
  have hown := F.2.2.2.1
  have hts := F.2.2.2.2
  refine q_iadd hx hb dX11_dayOf_102 ?_
  refine lv_istore (lv' := [(4, .int (iI (t0 + t1))), (0, .ref (ad 0 0)), (1, .int (iI x1)), (2, .int (iI x2)), (3, .int (iI x3)), (5, .int (iI x5)), (6, .int (iI x6))]) hx hb dX11_dayOf_103 hl (by decide) rfl (fun ls hl => ?_)
  refine q_iinc (k := 6) (lv' := [(6, .int (iI (x6 + 1))), (4, .int (iI (t0 + t1))), (0, .ref (ad 0 0)), (1, .int (iI x1)), (2, .int (iI x2)), (3, .int (iI x3)), (5, .int (iI x5))]) hx hb dX11_dayOf_105 hl rfl (by decide) rfl (fun ls hl => ?_)
  refine lv_goto (tgt := 19) hx hb dX11_dayOf_108 (by decide) ?_
  exact hk19 x1 x2 x3 (t0 + t1) x5 (x6 + 1) _ _ _ _ h hw hS (lv_sub hl [2, 3, 4, 5, 1, 6, 0] rfl)
def wpX11_dayOf_J100 (k19 : Int → Int → Int → Int → Int → Int → MM → Prop) (Q : Int → MM → Prop) (x1 : Int) (x2 : Int) (x3 : Int) (x5 : Int) (x6 : Int) (t0 : Int) (t2 : Int) (t3 : Int) (μ : MM) : Prop := 0 ≤ (t2 + t3) ∧ (t2 + t3 < 384 ∧ (wpX11_dayOf_J102 k19 Q x1 x2 x3 x5 x6 t0 (μ 13 0 (t2 + t3)) μ))
set_option maxRecDepth 100000 in
set_option maxHeartbeats 4000000 in
theorem wX11_dayOf_J100 {k19 : Int → Int → Int → Int → Int → Int → MM → Prop} {Q : Int → MM → Prop} {x1 : Int} {x2 : Int} {x3 : Int} {x5 : Int} {x6 : Int} {t0 : Int} {t2 : Int} {t3 : Int} {μ : MM} {H : Heap} {locs : List Loc} {ls : Array Slot} (F : CallFix p m c cX11_dayOf 8 s args uw RX11) (hA : ∀ q : Nat, s.heap.size ≤ q → A q) (hR : 0 ≤ R.frames ∧ 0 ≤ R.locals) (ret : RetI p l e R s m args below meth c cX11_dayOf Qf dmR cfR tyR exR D cy ad A Q) (hk19 : ∀ (x1' x2' x3' x4' x5' x6' : Int) (μ' : MM) (H : Heap) (locs : List Loc) (ls : Array Slot), k19 x1' x2' x3' x4' x5' x6' μ' → wdR D cy ad A μ' s H → va_S A s.heap H locs → lv_has ls 8 [(0, .ref (ad 0 0)), (1, .int (iI (x1'))), (2, .int (iI (x2'))), (3, .int (iI (x3'))), (4, .int (iI (x4'))), (5, .int (iI (x5'))), (6, .int (iI (x6')))] → W p l e R s m args below meth c H locs 0 0 Qf (F0 m 19 ls [])) (h : wpX11_dayOf_J100 k19 Q x1 x2 x3 x5 x6 t0 t2 t3 μ) (hw : wdR D cy ad A μ s H) (hS : va_S A s.heap H locs) (hl : lv_has ls 8 [(0, .ref (ad 0 0)), (1, .int (iI x1)), (2, .int (iI x2)), (3, .int (iI x3)), (5, .int (iI x5)), (6, .int (iI x6))]) : W p l e R s m args below meth c H locs 0 0 Qf (F0 m 100 ls [.int (iI t3), .int (iI t2), .ref (ad 13 0), .int (iI t0)]) := by
  have hx := F.1
  have hb := F.2.1
  have hown := F.2.2.2.1
  have hts := F.2.2.2.2
  refine q_iadd hx hb dX11_dayOf_100 ?_
  obtain ⟨g1, h⟩ := h
  obtain ⟨g2, h⟩ := h
  refine aR_ild (L := 384) hx hb hw 12 rfl rfl (by decide) g1 g2 dX11_dayOf_101 ?_
  exact wX11_dayOf_J102 F hA hR ret hk19 h hw hS (lv_sub hl [0, 1, 2, 3, 4, 5] rfl)
def wpX11_dayOf_J42 (k19 : Int → Int → Int → Int → Int → Int → MM → Prop) (Q : Int → MM → Prop) (x1 : Int) (x2 : Int) (x3 : Int) (x4 : Int) (x5 : Int) (x6 : Int) (t0 : Int) (μ : MM) : Prop := 0 ≤ x1 ∧ (x1 < 16 ∧ (rg (μ 11 0 x1) ∧ (if (μ 11 0 x1) = 0 then (wpX11_dayOf_J102 k19 Q x1 x2 x3 x5 x6 x4 1 μ) else (if (μ 11 0 x1) = 2 then (rg t0 ∧ (rg (μ 12 0 x1) ∧ ((μ 12 0 x1) ≠ 0 ∧ (wpX11_dayOf_J100 k19 Q x1 x2 x3 x5 x6 x4 (24 * x1) (Int.tmod t0 (μ 12 0 x1)) μ)))) else (rg (x3 + x6) ∧ (rg (μ 12 0 x1) ∧ ((μ 12 0 x1) ≠ 0 ∧ (wpX11_dayOf_J100 k19 Q x1 x2 x3 x5 x6 x4 (24 * x1) (Int.tmod (x3 + x6) (μ 12 0 x1)) μ))))))))
set_option maxRecDepth 100000 in
set_option maxHeartbeats 4000000 in
theorem wX11_dayOf_J42 {k19 : Int → Int → Int → Int → Int → Int → MM → Prop} {Q : Int → MM → Prop} {x1 : Int} {x2 : Int} {x3 : Int} {x4 : Int} {x5 : Int} {x6 : Int} {t0 : Int} {μ : MM} {H : Heap} {locs : List Loc} {ls : Array Slot} (F : CallFix p m c cX11_dayOf 8 s args uw RX11) (hA : ∀ q : Nat, s.heap.size ≤ q → A q) (hR : 0 ≤ R.frames ∧ 0 ≤ R.locals) (ret : RetI p l e R s m args below meth c cX11_dayOf Qf dmR cfR tyR exR D cy ad A Q) (hk19 : ∀ (x1' x2' x3' x4' x5' x6' : Int) (μ' : MM) (H : Heap) (locs : List Loc) (ls : Array Slot), k19 x1' x2' x3' x4' x5' x6' μ' → wdR D cy ad A μ' s H → va_S A s.heap H locs → lv_has ls 8 [(0, .ref (ad 0 0)), (1, .int (iI (x1'))), (2, .int (iI (x2'))), (3, .int (iI (x3'))), (4, .int (iI (x4'))), (5, .int (iI (x5'))), (6, .int (iI (x6')))] → W p l e R s m args below meth c H locs 0 0 Qf (F0 m 19 ls [])) (h : wpX11_dayOf_J42 k19 Q x1 x2 x3 x4 x5 x6 t0 μ) (hw : wdR D cy ad A μ s H) (hS : va_S A s.heap H locs) (hl : lv_has ls 8 [(0, .ref (ad 0 0)), (1, .int (iI x1)), (2, .int (iI x2)), (3, .int (iI x3)), (4, .int (iI x4)), (5, .int (iI x5)), (6, .int (iI x6))]) : W p l e R s m args below meth c H locs 0 0 Qf (F0 m 42 ls [.int (iI t0)]) := by
  have hx := F.1
  have hb := F.2.1
  have hown := F.2.2.2.1
  have hts := F.2.2.2.2
  refine lv_istore (lv' := [(7, .int (iI t0)), (0, .ref (ad 0 0)), (1, .int (iI x1)), (2, .int (iI x2)), (3, .int (iI x3)), (4, .int (iI x4)), (5, .int (iI x5)), (6, .int (iI x6))]) hx hb dX11_dayOf_42 hl (by decide) rfl (fun ls hl => ?_)
  refine lv_iload hx hb dX11_dayOf_44 (lv_at hl 5 rfl) ?_
  refine lv_aload_n hx hb dX11_dayOf_46 rfl (lv_at hl 1 rfl) ?_
  refine gR_kinds F hw tw5_149 dX11_dayOf_47 ?_
  refine lv_iload_n hx hb dX11_dayOf_50 rfl (lv_at hl 2 rfl) ?_
  obtain ⟨g1, h⟩ := h
  obtain ⟨g2, h⟩ := h
  refine aR_ild (L := 16) hx hb hw 10 rfl rfl (by decide) g1 g2 dX11_dayOf_51 ?_
  obtain ⟨g3, h⟩ := h
  refine q_if_ne (tgt := 59) hx hb g3 dX11_dayOf_52 (by decide) (fun c4 => ?_) (fun c4 => ?_)
  · have h := ite_f c4 h
    refine lv_aload_n hx hb dX11_dayOf_59 rfl (lv_at hl 1 rfl) ?_
    refine gR_notches F hw tw5_151 dX11_dayOf_60 ?_
    refine q_bipush hx hb (by decide) dX11_dayOf_63 ?_
    refine lv_iload_n hx hb dX11_dayOf_65 rfl (lv_at hl 2 rfl) ?_
    refine q_imul hx hb dX11_dayOf_66 ?_
    refine lv_aload_n hx hb dX11_dayOf_67 rfl (lv_at hl 1 rfl) ?_
    refine gR_kinds F hw tw5_149 dX11_dayOf_68 ?_
    refine lv_iload_n hx hb dX11_dayOf_71 rfl (lv_at hl 2 rfl) ?_
    refine aR_ild (L := 16) hx hb hw 10 rfl rfl (by decide) g1 g2 dX11_dayOf_72 ?_
    refine q_iconst hx hb dX11_dayOf_73 ?_
    refine q_icmp_ne (tgt := 89) hx hb g3 (by decide) dX11_dayOf_74 (by decide) (fun c5 => ?_) (fun c5 => ?_)
    · have h := ite_f c5 h
      refine lv_iload_n hx hb dX11_dayOf_89 rfl (lv_at hl 4 rfl) ?_
      refine lv_iload hx hb dX11_dayOf_90 (lv_at hl 7 rfl) ?_
      refine q_iadd hx hb dX11_dayOf_92 ?_
      refine lv_aload_n hx hb dX11_dayOf_93 rfl (lv_at hl 1 rfl) ?_
      refine gR_many F hw tw5_150 dX11_dayOf_94 ?_
      refine lv_iload_n hx hb dX11_dayOf_97 rfl (lv_at hl 2 rfl) ?_
      refine aR_ild (L := 16) hx hb hw 11 rfl rfl (by decide) g1 g2 dX11_dayOf_98 ?_
      obtain ⟨g6, h⟩ := h
      obtain ⟨g7, h⟩ := h
      obtain ⟨g8, h⟩ := h
      refine q_irem hx hb g6 g7 g8 dX11_dayOf_99 ?_
      exact wX11_dayOf_J100 F hA hR ret hk19 h hw hS (lv_sub hl [1, 2, 3, 4, 6, 7] rfl)
    · have h := ite_t c5 h
      refine lv_iload hx hb dX11_dayOf_77 (lv_at hl 0 rfl) ?_
      refine lv_aload_n hx hb dX11_dayOf_79 rfl (lv_at hl 1 rfl) ?_
      refine gR_many F hw tw5_150 dX11_dayOf_80 ?_
      refine lv_iload_n hx hb dX11_dayOf_83 rfl (lv_at hl 2 rfl) ?_
      refine aR_ild (L := 16) hx hb hw 11 rfl rfl (by decide) g1 g2 dX11_dayOf_84 ?_
      obtain ⟨g9, h⟩ := h
      obtain ⟨g10, h⟩ := h
      obtain ⟨g11, h⟩ := h
      refine q_irem hx hb g9 g10 g11 dX11_dayOf_85 ?_
      refine lv_goto (tgt := 100) hx hb dX11_dayOf_86 (by decide) ?_
      exact wX11_dayOf_J100 F hA hR ret hk19 h hw hS (lv_sub hl [1, 2, 3, 4, 6, 7] rfl)
  · have h := ite_t c4 h
    refine q_iconst hx hb dX11_dayOf_55 ?_
    refine lv_goto (tgt := 102) hx hb dX11_dayOf_56 (by decide) ?_
    exact wX11_dayOf_J102 F hA hR ret hk19 h hw hS (lv_sub hl [1, 2, 3, 4, 6, 7] rfl)
def wpX11_dayOf_L19 (Q : Int → MM → Prop) : Nat → Int → Int → Int → Int → Int → Int → MM → Prop
  | 0, _, _, _, _, _, _, _ => False
  | n + 1, x1, x2, x3, x4, x5, x6, μ => rg x6 ∧ (rg x5 ∧ (if x5 ≤ x6 then (Q x4 μ) else (rg x2 ∧ (if x2 = 0 then (wpX11_dayOf_J42 (fun x1' x2' x3' x4' x5' x6' μ' => wpX11_dayOf_L19 Q n x1' x2' x3' x4' x5' x6' μ') Q x1 x2 x3 x4 x5 x6 (Int.tmod x6 12) μ) else (wpX11_dayOf_J42 (fun x1' x2' x3' x4' x5' x6' μ' => wpX11_dayOf_L19 Q n x1' x2' x3' x4' x5' x6' μ') Q x1 x2 x3 x4 x5 x6 (Int.tmod x6 4) μ)))))
set_option maxRecDepth 100000 in
set_option maxHeartbeats 4000000 in
theorem wX11_dayOf_L19 {Q : Int → MM → Prop} (F : CallFix p m c cX11_dayOf 8 s args uw RX11) (hA : ∀ q : Nat, s.heap.size ≤ q → A q) (hR : 0 ≤ R.frames ∧ 0 ≤ R.locals) (ret : RetI p l e R s m args below meth c cX11_dayOf Qf dmR cfR tyR exR D cy ad A Q) : ∀ (n : Nat) (x1 x2 x3 x4 x5 x6 : Int) (μ : MM) (H : Heap) (locs : List Loc) (ls : Array Slot), wpX11_dayOf_L19 Q n x1 x2 x3 x4 x5 x6 μ → wdR D cy ad A μ s H → va_S A s.heap H locs → lv_has ls 8 [(0, .ref (ad 0 0)), (1, .int (iI x1)), (2, .int (iI x2)), (3, .int (iI x3)), (4, .int (iI x4)), (5, .int (iI x5)), (6, .int (iI x6))] → W p l e R s m args below meth c H locs 0 0 Qf (F0 m 19 ls []) := by
  have hx := F.1
  have hb := F.2.1
  have hown := F.2.2.2.1
  have hts := F.2.2.2.2
  intro n
  induction n with
  | zero =>
    intro x1 x2 x3 x4 x5 x6 μ H locs ls h hw hS hl
    exact h.elim
  | succ n ih =>
    intro x1 x2 x3 x4 x5 x6 μ H locs ls h hw hS hl
    refine lv_iload hx hb dX11_dayOf_19 (lv_at hl 6 rfl) ?_
    refine lv_iload hx hb dX11_dayOf_21 (lv_at hl 5 rfl) ?_
    obtain ⟨g1, h⟩ := h
    obtain ⟨g2, h⟩ := h
    refine q_icmp_ge (tgt := 111) hx hb g1 g2 dX11_dayOf_23 (by decide) (fun c3 => ?_) (fun c3 => ?_)
    · have h := ite_t c3 h
      refine lv_iload hx hb dX11_dayOf_111 (lv_at hl 4 rfl) ?_
      exact ret _ _ _ _ _ _ h hw hS dX11_dayOf_113
    · have h := ite_f c3 h
      refine lv_iload_n hx hb dX11_dayOf_26 rfl (lv_at hl 2 rfl) ?_
      obtain ⟨g4, h⟩ := h
      refine q_if_eq (tgt := 37) hx hb g4 dX11_dayOf_27 (by decide) (fun c5 => ?_) (fun c5 => ?_)
      · have h := ite_t c5 h
        refine lv_iload hx hb dX11_dayOf_37 (lv_at hl 6 rfl) ?_
        refine q_bipush hx hb (by decide) dX11_dayOf_39 ?_
        refine q_irem hx hb g1 (by decide) (by decide) dX11_dayOf_41 ?_
        exact wX11_dayOf_J42 F hA hR ret (fun x1 x2 x3 x4 x5 x6 => ih x1 x2 x3 x4 x5 x6) h hw hS (lv_sub hl [0, 1, 2, 3, 4, 5, 6] rfl)
      · have h := ite_f c5 h
        refine lv_iload hx hb dX11_dayOf_30 (lv_at hl 6 rfl) ?_
        refine q_iconst hx hb dX11_dayOf_32 ?_
        refine q_irem hx hb g1 (by decide) (by decide) dX11_dayOf_33 ?_
        refine lv_goto (tgt := 42) hx hb dX11_dayOf_34 (by decide) ?_
        exact wX11_dayOf_J42 F hA hR ret (fun x1 x2 x3 x4 x5 x6 => ih x1 x2 x3 x4 x5 x6) h hw hS (lv_sub hl [0, 1, 2, 3, 4, 5, 6] rfl)
def wpX11_dayOf_J14 (Q : Int → MM → Prop) (x1 : Int) (x2 : Int) (x3 : Int) (x4 : Int) (t0 : Int) (μ : MM) : Prop := ∃ n1 : Nat, wpX11_dayOf_L19 Q n1 x1 x2 x3 x4 t0 0 μ
set_option maxRecDepth 100000 in
set_option maxHeartbeats 4000000 in
theorem wX11_dayOf_J14 {Q : Int → MM → Prop} {x1 : Int} {x2 : Int} {x3 : Int} {x4 : Int} {t0 : Int} {μ : MM} {H : Heap} {locs : List Loc} {ls : Array Slot} (F : CallFix p m c cX11_dayOf 8 s args uw RX11) (hA : ∀ q : Nat, s.heap.size ≤ q → A q) (hR : 0 ≤ R.frames ∧ 0 ≤ R.locals) (ret : RetI p l e R s m args below meth c cX11_dayOf Qf dmR cfR tyR exR D cy ad A Q) (h : wpX11_dayOf_J14 Q x1 x2 x3 x4 t0 μ) (hw : wdR D cy ad A μ s H) (hS : va_S A s.heap H locs) (hl : lv_has ls 8 [(0, .ref (ad 0 0)), (1, .int (iI x1)), (2, .int (iI x2)), (3, .int (iI x3)), (4, .int (iI x4))]) : W p l e R s m args below meth c H locs 0 0 Qf (F0 m 14 ls [.int (iI t0)]) := by
  have hx := F.1
  have hb := F.2.1
  have hown := F.2.2.2.1
  have hts := F.2.2.2.2
  refine lv_istore (lv' := [(5, .int (iI t0)), (0, .ref (ad 0 0)), (1, .int (iI x1)), (2, .int (iI x2)), (3, .int (iI x3)), (4, .int (iI x4))]) hx hb dX11_dayOf_14 hl (by decide) rfl (fun ls hl => ?_)
  refine q_iconst hx hb dX11_dayOf_16 ?_
  refine lv_istore (lv' := [(6, .int (iI 0)), (5, .int (iI t0)), (0, .ref (ad 0 0)), (1, .int (iI x1)), (2, .int (iI x2)), (3, .int (iI x3)), (4, .int (iI x4))]) hx hb dX11_dayOf_17 hl (by decide) rfl (fun ls hl => ?_)
  obtain ⟨n1, h⟩ := h
  exact wX11_dayOf_L19 F hA hR ret n1 x1 x2 x3 x4 t0 0 _ _ _ _ h hw hS (lv_sub hl [2, 3, 4, 5, 6, 1, 0] rfl)
def wpX11_dayOf (x1 : Int) (x2 : Int) (x3 : Int) (μ : MM) (Q : Int → MM → Prop) : Prop := rg x2 ∧ (if x2 = 0 then (wpX11_dayOf_J14 Q x1 x2 x3 0 24 μ) else (wpX11_dayOf_J14 Q x1 x2 x3 0 96 μ))
set_option maxRecDepth 100000 in
set_option maxHeartbeats 4000000 in
theorem wX11_dayOf {Q : Int → MM → Prop} {x1 : Int} {x2 : Int} {x3 : Int} {μ : MM} {H : Heap} {locs : List Loc} {ls : Array Slot} (F : CallFix p m c cX11_dayOf 8 s args uw RX11) (hA : ∀ q : Nat, s.heap.size ≤ q → A q) (hR : 0 ≤ R.frames ∧ 0 ≤ R.locals) (ret : RetI p l e R s m args below meth c cX11_dayOf Qf dmR cfR tyR exR D cy ad A Q) (h : wpX11_dayOf x1 x2 x3 μ Q) (hw : wdR D cy ad A μ s H) (hS : va_S A s.heap H locs) (hl : lv_has ls 8 [(0, .ref (ad 0 0)), (1, .int (iI x1)), (2, .int (iI x2)), (3, .int (iI x3))]) : W p l e R s m args below meth c H locs 0 0 Qf (F0 m 0 ls []) := by
  have hx := F.1
  have hb := F.2.1
  have hown := F.2.2.2.1
  have hts := F.2.2.2.2
  refine q_iconst hx hb dX11_dayOf_0 ?_
  refine lv_istore (lv' := [(4, .int (iI 0)), (0, .ref (ad 0 0)), (1, .int (iI x1)), (2, .int (iI x2)), (3, .int (iI x3))]) hx hb dX11_dayOf_1 hl (by decide) rfl (fun ls hl => ?_)
  refine lv_iload_n hx hb dX11_dayOf_3 rfl (lv_at hl 3 rfl) ?_
  obtain ⟨g1, h⟩ := h
  refine q_if_eq (tgt := 12) hx hb g1 dX11_dayOf_4 (by decide) (fun c2 => ?_) (fun c2 => ?_)
  · have h := ite_t c2 h
    refine q_bipush hx hb (by decide) dX11_dayOf_12 ?_
    exact wX11_dayOf_J14 F hA hR ret h hw hS (lv_sub hl [1, 2, 3, 4, 0] rfl)
  · have h := ite_f c2 h
    refine q_bipush hx hb (by decide) dX11_dayOf_7 ?_
    refine lv_goto (tgt := 14) hx hb dX11_dayOf_9 (by decide) ?_
    exact wX11_dayOf_J14 F hA hR ret h hw hS (lv_sub hl [1, 2, 3, 4, 0] rfl)
set_option maxRecDepth 100000 in
set_option maxHeartbeats 4000000 in
theorem kX11_dayOf {l : Launch} {D : va_G} {cy : Nat → ClassId} {ad : AD} {A : Nat → Prop} {x1 : Int} {x2 : Int} {x3 : Int} {μ : MM} {Q : Int → MM → Prop} (h : wpX11_dayOf x1 x2 x3 μ Q) : Met l yX11_dayOf (Cond.code yX11_dayOf cX11_dayOf 8 (some .int) :: uw) (rmm 0 0) (wPc [.ref (ad 0 0), .int (iI x1), .int (iI x2), .int (iI x3)] dmR cfR tyR exR D cy ad A μ) (wQ vI Q dmR cfR D cy ad A) 0 0 A :=
  met_of (by decide) (Nat.le_of_ble_eq_true rfl) (fun p e R s m args below meth c ls hr hk hRR F hA hw hS hl => wX11_dayOf F hA (by subst hRR; exact ⟨Nat.le_refl _, Nat.le_refl _⟩) (retI_of F hr hk) h hw hS hl)
theorem hdX11_dayOf : yX11_dayOf.cls ≠ "java/lang/invoke/MethodHandle" ∧ yX11_dayOf.cls ≠ "java/lang/invoke/VarHandle" ∧ (parseMethodDescriptor yX11_dayOf.desc).map (fun d => d.parameters.length) = some 3 := by decide +kernel
def wpX11_daily (x1 : Int) (x2 : Int) (μ : MM) (Q : Int → MM → Prop) : Prop := wpX11_isTrain x1 μ (fun v1 μ2 => if v1 = 0 then (Q (-1) μ2) else (0 ≤ x1 ∧ (x1 < 16 ∧ (wpX11_dayOf x1 x2 (μ2 14 0 x1) μ2 (fun v7 μ8 => Q v7 μ8)))))
set_option maxRecDepth 100000 in
set_option maxHeartbeats 4000000 in
theorem wX11_daily {Q : Int → MM → Prop} {x1 : Int} {x2 : Int} {μ : MM} {H : Heap} {locs : List Loc} {ls : Array Slot} (F : CallFix p m c cX11_daily 3 s args uw RX11) (hA : ∀ q : Nat, s.heap.size ≤ q → A q) (hR : 2 ≤ R.frames ∧ 43 ≤ R.locals) (ret : RetI p l e R s m args below meth c cX11_daily Qf dmR cfR tyR exR D cy ad A Q) (h : wpX11_daily x1 x2 μ Q) (hw : wdR D cy ad A μ s H) (hS : va_S A s.heap H locs) (hl : lv_has ls 3 [(0, .ref (ad 0 0)), (1, .int (iI x1)), (2, .int (iI x2))]) : W p l e R s m args below meth c H locs 0 0 Qf (F0 m 0 ls []) := by
  have hx := F.1
  have hb := F.2.1
  have hown := F.2.2.2.1
  have hts := F.2.2.2.2
  refine lv_aload_n hx hb dX11_daily_0 rfl (lv_at hl 0 rfl) ?_
  refine lv_iload_n hx hb dX11_daily_1 rfl (lv_at hl 1 rfl) ?_
  refine call_V hexR F (kX11_isTrain h) 1 tw6_137 tw1_8 tw6_136 tws3_0 tw6_134 hdX11_isTrain ⟨Nat.le_trans (by decide) hR.1, Nat.le_trans (by decide) hR.2⟩ (hw.recv (k := 0) (i := 0) ⟨rfl, Or.inl rfl⟩ rfl rfl) hA hw hS rfl hl.1 rfl (Nat.le_of_ble_eq_true rfl) dX11_daily_2 (fun v1 μ2 H locs h hw hS => ?_)
  obtain ⟨z3, h⟩ := h
  refine q_if_eq (tgt := 23) hx hb (rgB z3) dX11_daily_5 (by decide) (fun c4 => ?_) (fun c4 => ?_)
  · have h := ite_t c4 h
    refine q_iconst hx hb dX11_daily_23 ?_
    exact ret _ _ _ _ _ _ h hw hS dX11_daily_24
  · have h := ite_f c4 h
    refine lv_aload_n hx hb dX11_daily_8 rfl (lv_at hl 0 rfl) ?_
    refine lv_iload_n hx hb dX11_daily_9 rfl (lv_at hl 1 rfl) ?_
    refine lv_iload_n hx hb dX11_daily_10 rfl (lv_at hl 2 rfl) ?_
    refine lv_aload_n hx hb dX11_daily_11 rfl (lv_at hl 0 rfl) ?_
    refine gR_stands F hw tw5_152 dX11_daily_12 ?_
    refine lv_iload_n hx hb dX11_daily_15 rfl (lv_at hl 1 rfl) ?_
    obtain ⟨g5, h⟩ := h
    obtain ⟨g6, h⟩ := h
    refine aR_ild (L := 16) hx hb hw 13 rfl rfl (by decide) g5 g6 dX11_daily_16 ?_
    refine call_V hexR F (kX11_dayOf h) 3 tw7_197 tw1_8 tw7_196 tws4_12 tw7_194 hdX11_dayOf ⟨Nat.le_trans (by decide) hR.1, Nat.le_trans (by decide) hR.2⟩ (hw.recv (k := 0) (i := 0) ⟨rfl, Or.inl rfl⟩ rfl rfl) hA hw hS rfl hl.1 rfl (Nat.le_of_ble_eq_true rfl) dX11_daily_17 (fun v7 μ8 H locs h hw hS => ?_)
    refine lv_goto (tgt := 24) hx hb dX11_daily_20 (by decide) ?_
    exact ret _ _ _ _ _ _ h hw hS dX11_daily_24
set_option maxRecDepth 100000 in
set_option maxHeartbeats 4000000 in
theorem kX11_daily {l : Launch} {D : va_G} {cy : Nat → ClassId} {ad : AD} {A : Nat → Prop} {x1 : Int} {x2 : Int} {μ : MM} {Q : Int → MM → Prop} (h : wpX11_daily x1 x2 μ Q) : Met l yX11_daily (Cond.code yX11_daily cX11_daily 3 (some .int) :: uw) (rmm 2 43) (wPc [.ref (ad 0 0), .int (iI x1), .int (iI x2)] dmR cfR tyR exR D cy ad A μ) (wQ vI Q dmR cfR D cy ad A) 0 0 A :=
  met_of (by decide) (Nat.le_of_ble_eq_true rfl) (fun p e R s m args below meth c ls hr hk hRR F hA hw hS hl => wX11_daily F hA (by subst hRR; exact ⟨Nat.le_refl _, Nat.le_refl _⟩) (retI_of F hr hk) h hw hS hl)
theorem hdX11_daily : yX11_daily.cls ≠ "java/lang/invoke/MethodHandle" ∧ yX11_daily.cls ≠ "java/lang/invoke/VarHandle" ∧ (parseMethodDescriptor yX11_daily.desc).map (fun d => d.parameters.length) = some 2 := by decide +kernel
def wpX11_differs (x0 : Int) (x2 : Int) (x4 : Int) (x6 : Int) (μ : MM) (Q : Int → MM → Prop) : Prop := ∀ y1 : Int, y1 = (x0 * x6) - (x4 * x2) → (rl y1 ∧ (if 0 ≤ y1 then (Q y1 μ) else (Q (-y1) μ)))
set_option maxRecDepth 100000 in
set_option maxHeartbeats 4000000 in
theorem wX11_differs {Q : Int → MM → Prop} {x0 : Int} {x2 : Int} {x4 : Int} {x6 : Int} {μ : MM} {H : Heap} {locs : List Loc} {ls : Array Slot} (F : CallFix p m c cX11_differs 10 s args uw RX11) (hA : ∀ q : Nat, s.heap.size ≤ q → A q) (hR : 0 ≤ R.frames ∧ 0 ≤ R.locals) (ret : RetL p l e R s m args below meth c cX11_differs Qf dmR cfR tyR exR D cy ad A Q) (h : wpX11_differs x0 x2 x4 x6 μ Q) (hw : wdR D cy ad A μ s H) (hS : va_S A s.heap H locs) (hl : lv_has ls 10 [(0, .long (lJ x0)), (2, .long (lJ x2)), (4, .long (lJ x4)), (6, .long (lJ x6))]) : W p l e R s m args below meth c H locs 0 0 Qf (F0 m 0 ls []) := by
  have hx := F.1
  have hb := F.2.1
  have hown := F.2.2.2.1
  have hts := F.2.2.2.2
  refine lv_lload_n hx hb dX11_differs_0 rfl (lv_at hl 0 rfl) ?_
  refine lv_lload hx hb dX11_differs_1 (lv_at hl 3 rfl) ?_
  refine q_lmul hx hb dX11_differs_3 ?_
  refine lv_lload hx hb dX11_differs_4 (lv_at hl 2 rfl) ?_
  refine lv_lload_n hx hb dX11_differs_6 rfl (lv_at hl 1 rfl) ?_
  refine q_lmul hx hb dX11_differs_7 ?_
  refine q_lsub hx hb dX11_differs_8 ?_
  obtain ⟨y1, ey1⟩ : ∃ z : Int, z = (x0 * x6) - (x4 * x2) := ⟨_, rfl⟩
  have h := h y1 ey1
  refine q_nmL ey1 ?_
  refine lv_lstore (lv' := [(8, .long (lJ y1)), (0, .long (lJ x0)), (2, .long (lJ x2)), (4, .long (lJ x4)), (6, .long (lJ x6))]) hx hb dX11_differs_9 hl (by decide) rfl (fun ls hl => ?_)
  refine lv_lload hx hb dX11_differs_11 (lv_at hl 0 rfl) ?_
  refine q_lconst (v := 0) hx hb (by decide) dX11_differs_13 ?_
  obtain ⟨g2, h⟩ := h
  refine q_lcmp_ge (tgt := 24) hx hb g2 (by decide) dX11_differs_14 dX11_differs_15 (by decide) (fun c3 => ?_) (fun c3 => ?_)
  · have h := ite_t c3 h
    refine lv_lload hx hb dX11_differs_24 (lv_at hl 0 rfl) ?_
    exact ret _ _ _ _ _ _ h hw hS dX11_differs_26
  · have h := ite_f c3 h
    refine lv_lload hx hb dX11_differs_18 (lv_at hl 0 rfl) ?_
    refine q_lneg hx hb dX11_differs_20 ?_
    refine lv_goto (tgt := 26) hx hb dX11_differs_21 (by decide) ?_
    exact ret _ _ _ _ _ _ h hw hS dX11_differs_26
set_option maxRecDepth 100000 in
set_option maxHeartbeats 4000000 in
theorem kX11_differs {l : Launch} {D : va_G} {cy : Nat → ClassId} {ad : AD} {A : Nat → Prop} {x0 : Int} {x2 : Int} {x4 : Int} {x6 : Int} {μ : MM} {Q : Int → MM → Prop} (h : wpX11_differs x0 x2 x4 x6 μ Q) : Met l yX11_differs (Cond.code yX11_differs cX11_differs 10 (some .long) :: uw) (rmm 0 0) (wPc [.long (lJ x0), .long (lJ x2), .long (lJ x4), .long (lJ x6)] dmR cfR tyR exR D cy ad A μ) (wQ vL Q dmR cfR D cy ad A) 0 0 A :=
  met_of (by decide) (Nat.le_of_ble_eq_true rfl) (fun p e R s m args below meth c ls hr hk hRR F hA hw hS hl => wX11_differs F hA (by subst hRR; exact ⟨Nat.le_refl _, Nat.le_refl _⟩) (retL_of F hr hk) h hw hS hl)
theorem hdX11_differs : yX11_differs.cls ≠ "java/lang/invoke/MethodHandle" ∧ yX11_differs.cls ≠ "java/lang/invoke/VarHandle" ∧ (parseMethodDescriptor yX11_differs.desc).map (fun d => d.parameters.length) = some 4 := by decide +kernel
def wpX11_silenceOf (x1 : Int) (μ : MM) (Q : Int → MM → Prop) : Prop := 0 ≤ x1 ∧ (x1 < 4 ∧ (rg (((μ 33 0 x1) + 24) - (μ 32 0 x1)) ∧ (∀ y4 : Int, y4 = Int.tmod (((μ 33 0 x1) + 24) - (μ 32 0 x1)) 24 → (rg (μ 27 0 x1) ∧ (rg (((Int.tdiv (μ 27 0 x1) 60) + 24) - (μ 32 0 x1)) ∧ (∀ y7 : Int, y7 = Int.tmod (((Int.tdiv (μ 27 0 x1) 60) + 24) - (μ 32 0 x1)) 24 → (rg y7 ∧ (rg y4 ∧ (if y4 ≤ y7 then (Q 0 μ) else (Q ((μ 34 0 x1) + 1) μ))))))))))
set_option maxRecDepth 100000 in
set_option maxHeartbeats 4000000 in
theorem wX11_silenceOf {Q : Int → MM → Prop} {x1 : Int} {μ : MM} {H : Heap} {locs : List Loc} {ls : Array Slot} (F : CallFix p m c cX11_silenceOf 4 s args uw RX11) (hA : ∀ q : Nat, s.heap.size ≤ q → A q) (hR : 0 ≤ R.frames ∧ 0 ≤ R.locals) (ret : RetI p l e R s m args below meth c cX11_silenceOf Qf dmR cfR tyR exR D cy ad A Q) (h : wpX11_silenceOf x1 μ Q) (hw : wdR D cy ad A μ s H) (hS : va_S A s.heap H locs) (hl : lv_has ls 4 [(0, .ref (ad 0 0)), (1, .int (iI x1))]) : W p l e R s m args below meth c H locs 0 0 Qf (F0 m 0 ls []) := by
  have hx := F.1
  have hb := F.2.1
  have hown := F.2.2.2.1
  have hts := F.2.2.2.2
  refine lv_aload_n hx hb dX11_silenceOf_0 rfl (lv_at hl 0 rfl) ?_
  refine gR_silentTo F hw tw5_171 dX11_silenceOf_1 ?_
  refine lv_iload_n hx hb dX11_silenceOf_4 rfl (lv_at hl 1 rfl) ?_
  obtain ⟨g1, h⟩ := h
  obtain ⟨g2, h⟩ := h
  refine aR_ild (L := 4) hx hb hw 32 rfl rfl (by decide) g1 g2 dX11_silenceOf_5 ?_
  refine q_bipush hx hb (by decide) dX11_silenceOf_6 ?_
  refine q_iadd hx hb dX11_silenceOf_8 ?_
  refine lv_aload_n hx hb dX11_silenceOf_9 rfl (lv_at hl 0 rfl) ?_
  refine gR_silentFrom F hw tw5_170 dX11_silenceOf_10 ?_
  refine lv_iload_n hx hb dX11_silenceOf_13 rfl (lv_at hl 1 rfl) ?_
  refine aR_ild (L := 4) hx hb hw 31 rfl rfl (by decide) g1 g2 dX11_silenceOf_14 ?_
  refine q_isub hx hb dX11_silenceOf_15 ?_
  refine q_bipush hx hb (by decide) dX11_silenceOf_16 ?_
  obtain ⟨g3, h⟩ := h
  refine q_irem hx hb g3 (by decide) (by decide) dX11_silenceOf_18 ?_
  obtain ⟨y4, ey4⟩ : ∃ z : Int, z = Int.tmod (((μ 33 0 x1) + 24) - (μ 32 0 x1)) 24 := ⟨_, rfl⟩
  have h := h y4 ey4
  refine q_nmI ey4 ?_
  refine lv_istore_n (lv' := [(2, .int (iI y4)), (0, .ref (ad 0 0)), (1, .int (iI x1))]) hx hb dX11_silenceOf_19 rfl hl (by decide) rfl (fun ls hl => ?_)
  refine lv_aload_n hx hb dX11_silenceOf_20 rfl (lv_at hl 1 rfl) ?_
  refine gR_handsAt F hw tw5_165 dX11_silenceOf_21 ?_
  refine lv_iload_n hx hb dX11_silenceOf_24 rfl (lv_at hl 2 rfl) ?_
  refine aR_ild (L := 4) hx hb hw 26 rfl rfl (by decide) g1 g2 dX11_silenceOf_25 ?_
  refine q_bipush hx hb (by decide) dX11_silenceOf_26 ?_
  obtain ⟨g5, h⟩ := h
  refine q_idiv hx hb g5 (by decide) (by decide) dX11_silenceOf_28 ?_
  refine q_bipush hx hb (by decide) dX11_silenceOf_29 ?_
  refine q_iadd hx hb dX11_silenceOf_31 ?_
  refine lv_aload_n hx hb dX11_silenceOf_32 rfl (lv_at hl 1 rfl) ?_
  refine gR_silentFrom F hw tw5_170 dX11_silenceOf_33 ?_
  refine lv_iload_n hx hb dX11_silenceOf_36 rfl (lv_at hl 2 rfl) ?_
  refine aR_ild (L := 4) hx hb hw 31 rfl rfl (by decide) g1 g2 dX11_silenceOf_37 ?_
  refine q_isub hx hb dX11_silenceOf_38 ?_
  refine q_bipush hx hb (by decide) dX11_silenceOf_39 ?_
  obtain ⟨g6, h⟩ := h
  refine q_irem hx hb g6 (by decide) (by decide) dX11_silenceOf_41 ?_
  obtain ⟨y7, ey7⟩ : ∃ z : Int, z = Int.tmod (((Int.tdiv (μ 27 0 x1) 60) + 24) - (μ 32 0 x1)) 24 := ⟨_, rfl⟩
  have h := h y7 ey7
  refine q_nmI ey7 ?_
  refine lv_istore_n (lv' := [(3, .int (iI y7)), (2, .int (iI y4)), (0, .ref (ad 0 0)), (1, .int (iI x1))]) hx hb dX11_silenceOf_42 rfl hl (by decide) rfl (fun ls hl => ?_)
  refine lv_iload_n hx hb dX11_silenceOf_43 rfl (lv_at hl 0 rfl) ?_
  refine lv_iload_n hx hb dX11_silenceOf_44 rfl (lv_at hl 1 rfl) ?_
  obtain ⟨g8, h⟩ := h
  obtain ⟨g9, h⟩ := h
  refine q_icmp_ge (tgt := 59) hx hb g8 g9 dX11_silenceOf_45 (by decide) (fun c10 => ?_) (fun c10 => ?_)
  · have h := ite_t c10 h
    refine q_iconst hx hb dX11_silenceOf_59 ?_
    exact ret _ _ _ _ _ _ h hw hS dX11_silenceOf_60
  · have h := ite_f c10 h
    refine lv_aload_n hx hb dX11_silenceOf_48 rfl (lv_at hl 2 rfl) ?_
    refine gR_silentSort F hw tw5_172 dX11_silenceOf_49 ?_
    refine lv_iload_n hx hb dX11_silenceOf_52 rfl (lv_at hl 3 rfl) ?_
    refine aR_ild (L := 4) hx hb hw 33 rfl rfl (by decide) g1 g2 dX11_silenceOf_53 ?_
    refine q_iconst hx hb dX11_silenceOf_54 ?_
    refine q_iadd hx hb dX11_silenceOf_55 ?_
    refine lv_goto (tgt := 60) hx hb dX11_silenceOf_56 (by decide) ?_
    exact ret _ _ _ _ _ _ h hw hS dX11_silenceOf_60
set_option maxRecDepth 100000 in
set_option maxHeartbeats 4000000 in
theorem kX11_silenceOf {l : Launch} {D : va_G} {cy : Nat → ClassId} {ad : AD} {A : Nat → Prop} {x1 : Int} {μ : MM} {Q : Int → MM → Prop} (h : wpX11_silenceOf x1 μ Q) : Met l yX11_silenceOf (Cond.code yX11_silenceOf cX11_silenceOf 4 (some .int) :: uw) (rmm 0 0) (wPc [.ref (ad 0 0), .int (iI x1)] dmR cfR tyR exR D cy ad A μ) (wQ vI Q dmR cfR D cy ad A) 0 0 A :=
  met_of (by decide) (Nat.le_of_ble_eq_true rfl) (fun p e R s m args below meth c ls hr hk hRR F hA hw hS hl => wX11_silenceOf F hA (by subst hRR; exact ⟨Nat.le_refl _, Nat.le_refl _⟩) (retI_of F hr hk) h hw hS hl)
theorem hdX11_silenceOf : yX11_silenceOf.cls ≠ "java/lang/invoke/MethodHandle" ∧ yX11_silenceOf.cls ≠ "java/lang/invoke/VarHandle" ∧ (parseMethodDescriptor yX11_silenceOf.desc).map (fun d => d.parameters.length) = some 1 := by decide +kernel
def wpX11_towerTells (x1 : Int) (x2 : Int) (μ : MM) (Q : Int → MM → Prop) : Prop := rg x2 ∧ (if x2 = 0 then (0 ≤ x1 ∧ (x1 < 4 ∧ (Q (μ 27 0 x1) μ))) else (if x2 = 1 then (0 ≤ x1 ∧ (x1 < 4 ∧ (Q (μ 30 0 x1) μ))) else (if x2 = 2 then (0 ≤ x1 ∧ (x1 < 4 ∧ (Q (μ 29 0 x1) μ))) else (if x2 = 3 then (0 ≤ x1 ∧ (x1 < 4 ∧ (rg (μ 31 0 x1) ∧ (if (μ 31 0 x1) = 0 then (Q 0 μ) else (Q 1 μ))))) else (if x2 = 4 then (0 ≤ (2 * x1) ∧ (2 * x1 < 8 ∧ (Q (μ 35 0 (2 * x1)) μ))) else (if x2 = 5 then (0 ≤ ((2 * x1) + 1) ∧ ((2 * x1) + 1 < 8 ∧ (Q (μ 35 0 ((2 * x1) + 1)) μ))) else (if x2 = 6 then (0 ≤ (2 * x1) ∧ (2 * x1 < 8 ∧ (rg (μ 36 0 (2 * x1)) ∧ (if (μ 36 0 (2 * x1)) = 0 then (Q 0 μ) else (Q 1 μ))))) else (if x2 = 7 then (0 ≤ ((2 * x1) + 1) ∧ ((2 * x1) + 1 < 8 ∧ (rg (μ 36 0 ((2 * x1) + 1)) ∧ (if (μ 36 0 ((2 * x1) + 1)) = 0 then (Q 0 μ) else (Q 1 μ))))) else (wpX11_silenceOf x1 μ (fun v32 μ33 => Q v32 μ33))))))))))
set_option maxRecDepth 100000 in
set_option maxHeartbeats 4000000 in
theorem wX11_towerTells {Q : Int → MM → Prop} {x1 : Int} {x2 : Int} {μ : MM} {H : Heap} {locs : List Loc} {ls : Array Slot} (F : CallFix p m c cX11_towerTells 3 s args uw RX11) (hA : ∀ q : Nat, s.heap.size ≤ q → A q) (hR : 1 ≤ R.frames ∧ 23 ≤ R.locals) (ret : RetI p l e R s m args below meth c cX11_towerTells Qf dmR cfR tyR exR D cy ad A Q) (h : wpX11_towerTells x1 x2 μ Q) (hw : wdR D cy ad A μ s H) (hS : va_S A s.heap H locs) (hl : lv_has ls 3 [(0, .ref (ad 0 0)), (1, .int (iI x1)), (2, .int (iI x2))]) : W p l e R s m args below meth c H locs 0 0 Qf (F0 m 0 ls []) := by
  have hx := F.1
  have hb := F.2.1
  have hown := F.2.2.2.1
  have hts := F.2.2.2.2
  refine lv_iload_n hx hb dX11_towerTells_0 rfl (lv_at hl 2 rfl) ?_
  obtain ⟨g1, h⟩ := h
  by_cases c2 : x2 = 0
  · have h := ite_t c2 h
    refine q_tswIn (tgt := 48) hx hb g1 dX11_towerTells_1 0 (by rw [c2]; decide) (by decide) rfl (by decide) ?_
    refine lv_aload_n hx hb dX11_towerTells_48 rfl (lv_at hl 0 rfl) ?_
    refine gR_handsAt F hw tw5_165 dX11_towerTells_49 ?_
    refine lv_iload_n hx hb dX11_towerTells_52 rfl (lv_at hl 1 rfl) ?_
    obtain ⟨g3, h⟩ := h
    obtain ⟨g4, h⟩ := h
    refine aR_ild (L := 4) hx hb hw 26 rfl rfl (by decide) g3 g4 dX11_towerTells_53 ?_
    exact ret _ _ _ _ _ _ h hw hS dX11_towerTells_54
  · have h := ite_f c2 h
    by_cases c5 : x2 = 1
    · have h := ite_t c5 h
      refine q_tswIn (tgt := 55) hx hb g1 dX11_towerTells_1 1 (by rw [c5]; decide) (by decide) rfl (by decide) ?_
      refine lv_aload_n hx hb dX11_towerTells_55 rfl (lv_at hl 0 rfl) ?_
      refine gR_sums F hw tw5_168 dX11_towerTells_56 ?_
      refine lv_iload_n hx hb dX11_towerTells_59 rfl (lv_at hl 1 rfl) ?_
      obtain ⟨g6, h⟩ := h
      obtain ⟨g7, h⟩ := h
      refine aR_ild (L := 4) hx hb hw 29 rfl rfl (by decide) g6 g7 dX11_towerTells_60 ?_
      exact ret _ _ _ _ _ _ h hw hS dX11_towerTells_61
    · have h := ite_f c5 h
      by_cases c8 : x2 = 2
      · have h := ite_t c8 h
        refine q_tswIn (tgt := 62) hx hb g1 dX11_towerTells_1 2 (by rw [c8]; decide) (by decide) rfl (by decide) ?_
        refine lv_aload_n hx hb dX11_towerTells_62 rfl (lv_at hl 0 rfl) ?_
        refine gR_goings F hw tw5_167 dX11_towerTells_63 ?_
        refine lv_iload_n hx hb dX11_towerTells_66 rfl (lv_at hl 1 rfl) ?_
        obtain ⟨g9, h⟩ := h
        obtain ⟨g10, h⟩ := h
        refine aR_ild (L := 4) hx hb hw 28 rfl rfl (by decide) g9 g10 dX11_towerTells_67 ?_
        exact ret _ _ _ _ _ _ h hw hS dX11_towerTells_68
      · have h := ite_f c8 h
        by_cases c11 : x2 = 3
        · have h := ite_t c11 h
          refine q_tswIn (tgt := 69) hx hb g1 dX11_towerTells_1 3 (by rw [c11]; decide) (by decide) rfl (by decide) ?_
          refine lv_aload_n hx hb dX11_towerTells_69 rfl (lv_at hl 0 rfl) ?_
          refine gR_goes F hw tw5_169 dX11_towerTells_70 ?_
          refine lv_iload_n hx hb dX11_towerTells_73 rfl (lv_at hl 1 rfl) ?_
          obtain ⟨g12, h⟩ := h
          obtain ⟨g13, h⟩ := h
          refine aR_zld (L := 4) hx hb hw 30 rfl rfl (by decide) g12 g13 dX11_towerTells_74 ?_
          obtain ⟨g14, h⟩ := h
          refine q_if_eq (tgt := 82) hx hb g14 dX11_towerTells_75 (by decide) (fun c15 => ?_) (fun c15 => ?_)
          · have h := ite_t c15 h
            refine q_iconst hx hb dX11_towerTells_82 ?_
            exact ret _ _ _ _ _ _ h hw hS dX11_towerTells_83
          · have h := ite_f c15 h
            refine q_iconst hx hb dX11_towerTells_78 ?_
            refine lv_goto (tgt := 83) hx hb dX11_towerTells_79 (by decide) ?_
            exact ret _ _ _ _ _ _ h hw hS dX11_towerTells_83
        · have h := ite_f c11 h
          by_cases c16 : x2 = 4
          · have h := ite_t c16 h
            refine q_tswIn (tgt := 84) hx hb g1 dX11_towerTells_1 4 (by rw [c16]; decide) (by decide) rfl (by decide) ?_
            refine lv_aload_n hx hb dX11_towerTells_84 rfl (lv_at hl 0 rfl) ?_
            refine gR_hung F hw tw5_173 dX11_towerTells_85 ?_
            refine q_iconst hx hb dX11_towerTells_88 ?_
            refine lv_iload_n hx hb dX11_towerTells_89 rfl (lv_at hl 1 rfl) ?_
            refine q_imul hx hb dX11_towerTells_90 ?_
            obtain ⟨g17, h⟩ := h
            obtain ⟨g18, h⟩ := h
            refine aR_ild (L := 8) hx hb hw 34 rfl rfl (by decide) g17 g18 dX11_towerTells_91 ?_
            exact ret _ _ _ _ _ _ h hw hS dX11_towerTells_92
          · have h := ite_f c16 h
            by_cases c19 : x2 = 5
            · have h := ite_t c19 h
              refine q_tswIn (tgt := 93) hx hb g1 dX11_towerTells_1 5 (by rw [c19]; decide) (by decide) rfl (by decide) ?_
              refine lv_aload_n hx hb dX11_towerTells_93 rfl (lv_at hl 0 rfl) ?_
              refine gR_hung F hw tw5_173 dX11_towerTells_94 ?_
              refine q_iconst hx hb dX11_towerTells_97 ?_
              refine lv_iload_n hx hb dX11_towerTells_98 rfl (lv_at hl 1 rfl) ?_
              refine q_imul hx hb dX11_towerTells_99 ?_
              refine q_iconst hx hb dX11_towerTells_100 ?_
              refine q_iadd hx hb dX11_towerTells_101 ?_
              obtain ⟨g20, h⟩ := h
              obtain ⟨g21, h⟩ := h
              refine aR_ild (L := 8) hx hb hw 34 rfl rfl (by decide) g20 g21 dX11_towerTells_102 ?_
              exact ret _ _ _ _ _ _ h hw hS dX11_towerTells_103
            · have h := ite_f c19 h
              by_cases c22 : x2 = 6
              · have h := ite_t c22 h
                refine q_tswIn (tgt := 104) hx hb g1 dX11_towerTells_1 6 (by rw [c22]; decide) (by decide) rfl (by decide) ?_
                refine lv_aload_n hx hb dX11_towerTells_104 rfl (lv_at hl 0 rfl) ?_
                refine gR_isWarned F hw tw5_174 dX11_towerTells_105 ?_
                refine q_iconst hx hb dX11_towerTells_108 ?_
                refine lv_iload_n hx hb dX11_towerTells_109 rfl (lv_at hl 1 rfl) ?_
                refine q_imul hx hb dX11_towerTells_110 ?_
                obtain ⟨g23, h⟩ := h
                obtain ⟨g24, h⟩ := h
                refine aR_zld (L := 8) hx hb hw 35 rfl rfl (by decide) g23 g24 dX11_towerTells_111 ?_
                obtain ⟨g25, h⟩ := h
                refine q_if_eq (tgt := 119) hx hb g25 dX11_towerTells_112 (by decide) (fun c26 => ?_) (fun c26 => ?_)
                · have h := ite_t c26 h
                  refine q_iconst hx hb dX11_towerTells_119 ?_
                  exact ret _ _ _ _ _ _ h hw hS dX11_towerTells_120
                · have h := ite_f c26 h
                  refine q_iconst hx hb dX11_towerTells_115 ?_
                  refine lv_goto (tgt := 120) hx hb dX11_towerTells_116 (by decide) ?_
                  exact ret _ _ _ _ _ _ h hw hS dX11_towerTells_120
              · have h := ite_f c22 h
                by_cases c27 : x2 = 7
                · have h := ite_t c27 h
                  refine q_tswIn (tgt := 121) hx hb g1 dX11_towerTells_1 7 (by rw [c27]; decide) (by decide) rfl (by decide) ?_
                  refine lv_aload_n hx hb dX11_towerTells_121 rfl (lv_at hl 0 rfl) ?_
                  refine gR_isWarned F hw tw5_174 dX11_towerTells_122 ?_
                  refine q_iconst hx hb dX11_towerTells_125 ?_
                  refine lv_iload_n hx hb dX11_towerTells_126 rfl (lv_at hl 1 rfl) ?_
                  refine q_imul hx hb dX11_towerTells_127 ?_
                  refine q_iconst hx hb dX11_towerTells_128 ?_
                  refine q_iadd hx hb dX11_towerTells_129 ?_
                  obtain ⟨g28, h⟩ := h
                  obtain ⟨g29, h⟩ := h
                  refine aR_zld (L := 8) hx hb hw 35 rfl rfl (by decide) g28 g29 dX11_towerTells_130 ?_
                  obtain ⟨g30, h⟩ := h
                  refine q_if_eq (tgt := 138) hx hb g30 dX11_towerTells_131 (by decide) (fun c31 => ?_) (fun c31 => ?_)
                  · have h := ite_t c31 h
                    refine q_iconst hx hb dX11_towerTells_138 ?_
                    exact ret _ _ _ _ _ _ h hw hS dX11_towerTells_139
                  · have h := ite_f c31 h
                    refine q_iconst hx hb dX11_towerTells_134 ?_
                    refine lv_goto (tgt := 139) hx hb dX11_towerTells_135 (by decide) ?_
                    exact ret _ _ _ _ _ _ h hw hS dX11_towerTells_139
                · have h := ite_f c27 h
                  refine q_tswOut (tgt := 140) hx hb g1 dX11_towerTells_1 (by omega) (by decide) ?_
                  refine lv_aload_n hx hb dX11_towerTells_140 rfl (lv_at hl 0 rfl) ?_
                  refine lv_iload_n hx hb dX11_towerTells_141 rfl (lv_at hl 1 rfl) ?_
                  refine call_V hexR F (kX11_silenceOf h) 1 tw6_236 tw1_8 tw6_235 tws3_10 tw6_233 hdX11_silenceOf ⟨Nat.le_trans (by decide) hR.1, Nat.le_trans (by decide) hR.2⟩ (hw.recv (k := 0) (i := 0) ⟨rfl, Or.inl rfl⟩ rfl rfl) hA hw hS rfl hl.1 rfl (Nat.le_of_ble_eq_true rfl) dX11_towerTells_142 (fun v32 μ33 H locs h hw hS => ?_)
                  exact ret _ _ _ _ _ _ h hw hS dX11_towerTells_145
set_option maxRecDepth 100000 in
set_option maxHeartbeats 4000000 in
theorem kX11_towerTells {l : Launch} {D : va_G} {cy : Nat → ClassId} {ad : AD} {A : Nat → Prop} {x1 : Int} {x2 : Int} {μ : MM} {Q : Int → MM → Prop} (h : wpX11_towerTells x1 x2 μ Q) : Met l yX11_towerTells (Cond.code yX11_towerTells cX11_towerTells 3 (some .int) :: uw) (rmm 1 23) (wPc [.ref (ad 0 0), .int (iI x1), .int (iI x2)] dmR cfR tyR exR D cy ad A μ) (wQ vI Q dmR cfR D cy ad A) 0 0 A :=
  met_of (by decide) (Nat.le_of_ble_eq_true rfl) (fun p e R s m args below meth c ls hr hk hRR F hA hw hS hl => wX11_towerTells F hA (by subst hRR; exact ⟨Nat.le_refl _, Nat.le_refl _⟩) (retI_of F hr hk) h hw hS hl)
theorem hdX11_towerTells : yX11_towerTells.cls ≠ "java/lang/invoke/MethodHandle" ∧ yX11_towerTells.cls ≠ "java/lang/invoke/VarHandle" ∧ (parseMethodDescriptor yX11_towerTells.desc).map (fun d => d.parameters.length) = some 2 := by decide +kernel
end
