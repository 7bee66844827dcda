section
variable {p : Program} {l : Launch} {e : Env} {R : Room} {s : State} {m : MethodId} {args : Array Value} {below : List Frame} {meth : Method} {c : Code} {Qf : State → Prop} {D : va_G} {cy : Nat → ClassId} {ad : AD} {A : Nat → Prop}
def wpX11_in (x0 : Int) (x1 : Int) (x2 : Int) (μ : MM) (Q : Int → MM → Prop) : Prop := rg x0 ∧ (rg x1 ∧ (if x0 < x1 then (Q 0 μ) else (rg x2 ∧ (if x2 < x0 then (Q 0 μ) else (Q 1 μ)))))
set_option maxRecDepth 100000 in
set_option maxHeartbeats 4000000 in
theorem wX11_in {Q : Int → MM → Prop} {x0 : Int} {x1 : Int} {x2 : Int} {μ : MM} {H : Heap} {locs : List Loc} {ls : Array Slot} (F : CallFix p m c cX11_in 3 s args uw RX11) (hA : ∀ q : Nat, s.heap.size ≤ q → A q) (hR : 0 ≤ R.frames ∧ 0 ≤ R.locals) (ret : RetZ p l e R s m args below meth c cX11_in Qf dmR cfR tyR exR D cy ad A Q) (h : wpX11_in x0 x1 x2 μ Q) (hw : wdR D cy ad A μ s H) (hS : va_S A s.heap H locs) (hl : lv_has ls 3 [(0, .int (iI x0)), (1, .int (iI x1)), (2, .int (iI x2))]) : W p l e R s m args below meth c H locs 0 0 Qf (F0 m 0 ls []) := by
  have hx := F.1
  have hb := F.2.1
  have hown := F.2.2.2.1
  have hts := F.2.2.2.2
  refine lv_iload_n hx hb dX11_in_0 rfl (lv_at hl 0 rfl) ?_
  refine lv_iload_n hx hb dX11_in_1 rfl (lv_at hl 1 rfl) ?_
  obtain ⟨g1, h⟩ := h
  obtain ⟨g2, h⟩ := h
  refine q_icmp_lt (tgt := 14) hx hb g1 g2 dX11_in_2 (by decide) (fun c3 => ?_) (fun c3 => ?_)
  · have h := ite_t c3 h
    refine q_iconst hx hb dX11_in_14 ?_
    exact ret _ _ _ _ _ _ (Or.inl rfl) h hw hS dX11_in_15
  · have h := ite_f c3 h
    refine lv_iload_n hx hb dX11_in_5 rfl (lv_at hl 0 rfl) ?_
    refine lv_iload_n hx hb dX11_in_6 rfl (lv_at hl 2 rfl) ?_
    obtain ⟨g4, h⟩ := h
    refine q_icmp_gt (tgt := 14) hx hb g1 g4 dX11_in_7 (by decide) (fun c5 => ?_) (fun c5 => ?_)
    · have h := ite_t c5 h
      refine q_iconst hx hb dX11_in_14 ?_
      exact ret _ _ _ _ _ _ (Or.inl rfl) h hw hS dX11_in_15
    · have h := ite_f c5 h
      refine q_iconst hx hb dX11_in_10 ?_
      refine lv_goto (tgt := 15) hx hb dX11_in_11 (by decide) ?_
      exact ret _ _ _ _ _ _ (Or.inr rfl) h hw hS dX11_in_15
set_option maxRecDepth 100000 in
set_option maxHeartbeats 4000000 in
theorem kX11_in {l : Launch} {D : va_G} {cy : Nat → ClassId} {ad : AD} {A : Nat → Prop} {x0 : Int} {x1 : Int} {x2 : Int} {μ : MM} {Q : Int → MM → Prop} (h : wpX11_in x0 x1 x2 μ Q) : Met l yX11_in (Cond.code yX11_in cX11_in 3 (some .boolean) :: uw) (rmm 0 0) (wPc [.int (iI x0), .int (iI x1), .int (iI x2)] dmR cfR tyR exR D cy ad A μ) (wQ vI (fun v u => (v = 0 ∨ v = 1) ∧ Q v u) dmR cfR D cy ad A) 0 0 A :=
  met_of (by decide) (Nat.le_of_ble_eq_true rfl) (fun p e R s m args below meth c ls hr hk hRR F hA hw hS hl => wX11_in F hA (by subst hRR; exact ⟨Nat.le_refl _, Nat.le_refl _⟩) (retZ2_of F hr hk) h hw hS hl)
theorem hdX11_in : yX11_in.cls ≠ "java/lang/invoke/MethodHandle" ∧ yX11_in.cls ≠ "java/lang/invoke/VarHandle" ∧ (parseMethodDescriptor yX11_in.desc).map (fun d => d.parameters.length) = some 3 := by decide +kernel
def wpX11_act (x1 : Int) (μ : MM) (Q : Int → MM → Prop) : Prop := wpX11_in x1 0 ((μ 0 40 0) - 1) μ (fun v1 μ2 => if v1 = 0 then (Q (-9) μ2) else (0 ≤ x1 ∧ (x1 < 144 ∧ (Q (μ2 41 0 x1) μ2))))
set_option maxRecDepth 100000 in
set_option maxHeartbeats 4000000 in
theorem wX11_act {Q : Int → MM → Prop} {x1 : Int} {μ : MM} {H : Heap} {locs : List Loc} {ls : Array Slot} (F : CallFix p m c cX11_act 2 s args uw RX11) (hA : ∀ q : Nat, s.heap.size ≤ q → A q) (hR : 1 ≤ R.frames ∧ 22 ≤ R.locals) (ret : RetI p l e R s m args below meth c cX11_act Qf dmR cfR tyR exR D cy ad A Q) (h : wpX11_act x1 μ Q) (hw : wdR D cy ad A μ s H) (hS : va_S A s.heap H locs) (hl : lv_has ls 2 [(0, .ref (ad 0 0)), (1, .int (iI x1))]) : W p l e R s m args below meth c H locs 0 0 Qf (F0 m 0 ls []) := by
  have hx := F.1
  have hb := F.2.1
  have hown := F.2.2.2.1
  have hts := F.2.2.2.2
  refine lv_iload_n hx hb dX11_act_0 rfl (lv_at hl 1 rfl) ?_
  refine q_iconst hx hb dX11_act_1 ?_
  refine lv_aload_n hx hb dX11_act_2 rfl (lv_at hl 0 rfl) ?_
  refine gR_acts F hw tw5_178 dX11_act_3 ?_
  refine q_iconst hx hb dX11_act_6 ?_
  refine q_isub hx hb dX11_act_7 ?_
  refine call_S hexR F (kX11_in h) 3 tw6_77 tw1_8 tw6_76 tw6_75 hdX11_in ⟨Nat.le_trans (by decide) hR.1, Nat.le_trans (by decide) hR.2⟩ hA hw hS rfl hl.1 rfl (Nat.le_of_ble_eq_true rfl) dX11_act_8 (fun v1 μ2 H locs h hw hS => ?_)
  obtain ⟨z3, h⟩ := h
  refine q_if_eq (tgt := 23) hx hb (rgB z3) dX11_act_11 (by decide) (fun c4 => ?_) (fun c4 => ?_)
  · have h := ite_t c4 h
    refine q_bipush hx hb (by decide) dX11_act_23 ?_
    exact ret _ _ _ _ _ _ h hw hS dX11_act_25
  · have h := ite_f c4 h
    refine lv_aload_n hx hb dX11_act_14 rfl (lv_at hl 0 rfl) ?_
    refine gR_actRow F hw tw5_179 dX11_act_15 ?_
    refine lv_iload_n hx hb dX11_act_18 rfl (lv_at hl 1 rfl) ?_
    obtain ⟨g5, h⟩ := h
    obtain ⟨g6, h⟩ := h
    refine aR_ild (L := 144) hx hb hw 40 rfl rfl (by decide) g5 g6 dX11_act_19 ?_
    refine lv_goto (tgt := 25) hx hb dX11_act_20 (by decide) ?_
    exact ret _ _ _ _ _ _ h hw hS dX11_act_25
set_option maxRecDepth 100000 in
set_option maxHeartbeats 4000000 in
theorem kX11_act {l : Launch} {D : va_G} {cy : Nat → ClassId} {ad : AD} {A : Nat → Prop} {x1 : Int} {μ : MM} {Q : Int → MM → Prop} (h : wpX11_act x1 μ Q) : Met l yX11_act (Cond.code yX11_act cX11_act 2 (some .int) :: uw) (rmm 1 22) (wPc [.ref (ad 0 0), .int (iI x1)] dmR cfR tyR exR D cy ad A μ) (wQ vI Q dmR cfR D cy ad A) 0 0 A :=
  met_of (by decide) (Nat.le_of_ble_eq_true rfl) (fun p e R s m args below meth c ls hr hk hRR F hA hw hS hl => wX11_act F hA (by subst hRR; exact ⟨Nat.le_refl _, Nat.le_refl _⟩) (retI_of F hr hk) h hw hS hl)
theorem hdX11_act : yX11_act.cls ≠ "java/lang/invoke/MethodHandle" ∧ yX11_act.cls ≠ "java/lang/invoke/VarHandle" ∧ (parseMethodDescriptor yX11_act.desc).map (fun d => d.parameters.length) = some 1 := by decide +kernel
def wpX11_after (x0 : Int) (x1 : Int) (μ : MM) (Q : Int → MM → Prop) : Prop := rg x0 ∧ (∀ y2 : Int, y2 = Int.tdiv x0 12 → (∀ y3 : Int, y3 = Int.tmod x0 12 → (rg x1 ∧ (if x1 = 0 then (rg (y2 + 1) ∧ (Q ((12 * (Int.tmod (y2 + 1) 12)) + y3) μ)) else (if x1 = 1 then (rg (y2 + 1) ∧ (rg (y3 + 1) ∧ (Q ((12 * (Int.tmod (y2 + 1) 12)) + (Int.tmod (y3 + 1) 12)) μ))) else (rg (y3 + 11) ∧ (Q ((12 * y2) + (Int.tmod (y3 + 11) 12)) μ)))))))
set_option maxRecDepth 100000 in
set_option maxHeartbeats 4000000 in
theorem wX11_after {Q : Int → MM → Prop} {x0 : Int} {x1 : Int} {μ : MM} {H : Heap} {locs : List Loc} {ls : Array Slot} (F : CallFix p m c cX11_after 4 s args uw RX11) (hA : ∀ q : Nat, s.heap.size ≤ q → A q) (hR : 0 ≤ R.frames ∧ 0 ≤ R.locals) (ret : RetI p l e R s m args below meth c cX11_after Qf dmR cfR tyR exR D cy ad A Q) (h : wpX11_after x0 x1 μ Q) (hw : wdR D cy ad A μ s H) (hS : va_S A s.heap H locs) (hl : lv_has ls 4 [(0, .int (iI x0)), (1, .int (iI x1))]) : W p l e R s m args below meth c H locs 0 0 Qf (F0 m 0 ls []) := by
  have hx := F.1
  have hb := F.2.1
  have hown := F.2.2.2.1
  have hts := F.2.2.2.2
  refine lv_iload_n hx hb dX11_after_0 rfl (lv_at hl 0 rfl) ?_
  refine q_bipush hx hb (by decide) dX11_after_1 ?_
  obtain ⟨g1, h⟩ := h
  refine q_idiv hx hb g1 (by decide) (by decide) dX11_after_3 ?_
  obtain ⟨y2, ey2⟩ : ∃ z : Int, z = Int.tdiv x0 12 := ⟨_, rfl⟩
  have h := h y2 ey2
  refine q_nmI ey2 ?_
  refine lv_istore_n (lv' := [(2, .int (iI y2)), (0, .int (iI x0)), (1, .int (iI x1))]) hx hb dX11_after_4 rfl hl (by decide) rfl (fun ls hl => ?_)
  refine lv_iload_n hx hb dX11_after_5 rfl (lv_at hl 1 rfl) ?_
  refine q_bipush hx hb (by decide) dX11_after_6 ?_
  refine q_irem hx hb g1 (by decide) (by decide) dX11_after_8 ?_
  obtain ⟨y3, ey3⟩ : ∃ z : Int, z = Int.tmod x0 12 := ⟨_, rfl⟩
  have h := h y3 ey3
  refine q_nmI ey3 ?_
  refine lv_istore_n (lv' := [(3, .int (iI y3)), (2, .int (iI y2)), (0, .int (iI x0)), (1, .int (iI x1))]) hx hb dX11_after_9 rfl hl (by decide) rfl (fun ls hl => ?_)
  refine lv_iload_n hx hb dX11_after_10 rfl (lv_at hl 3 rfl) ?_
  obtain ⟨g4, h⟩ := h
  refine q_if_ne (tgt := 28) hx hb g4 dX11_after_11 (by decide) (fun c5 => ?_) (fun c5 => ?_)
  · have h := ite_f c5 h
    refine lv_iload_n hx hb dX11_after_28 rfl (lv_at hl 3 rfl) ?_
    refine q_iconst hx hb dX11_after_29 ?_
    refine q_icmp_ne (tgt := 52) hx hb g4 (by decide) dX11_after_30 (by decide) (fun c6 => ?_) (fun c6 => ?_)
    · have h := ite_f c6 h
      refine q_bipush hx hb (by decide) dX11_after_52 ?_
      refine lv_iload_n hx hb dX11_after_54 rfl (lv_at hl 1 rfl) ?_
      refine q_imul hx hb dX11_after_55 ?_
      refine lv_iload_n hx hb dX11_after_56 rfl (lv_at hl 0 rfl) ?_
      refine q_bipush hx hb (by decide) dX11_after_57 ?_
      refine q_iadd hx hb dX11_after_59 ?_
      refine q_bipush hx hb (by decide) dX11_after_60 ?_
      obtain ⟨g7, h⟩ := h
      refine q_irem hx hb g7 (by decide) (by decide) dX11_after_62 ?_
      refine q_iadd hx hb dX11_after_63 ?_
      exact ret _ _ _ _ _ _ h hw hS dX11_after_64
    · have h := ite_t c6 h
      refine q_bipush hx hb (by decide) dX11_after_33 ?_
      refine lv_iload_n hx hb dX11_after_35 rfl (lv_at hl 1 rfl) ?_
      refine q_iconst hx hb dX11_after_36 ?_
      refine q_iadd hx hb dX11_after_37 ?_
      refine q_bipush hx hb (by decide) dX11_after_38 ?_
      obtain ⟨g8, h⟩ := h
      refine q_irem hx hb g8 (by decide) (by decide) dX11_after_40 ?_
      refine q_imul hx hb dX11_after_41 ?_
      refine lv_iload_n hx hb dX11_after_42 rfl (lv_at hl 0 rfl) ?_
      refine q_iconst hx hb dX11_after_43 ?_
      refine q_iadd hx hb dX11_after_44 ?_
      refine q_bipush hx hb (by decide) dX11_after_45 ?_
      obtain ⟨g9, h⟩ := h
      refine q_irem hx hb g9 (by decide) (by decide) dX11_after_47 ?_
      refine q_iadd hx hb dX11_after_48 ?_
      refine lv_goto (tgt := 64) hx hb dX11_after_49 (by decide) ?_
      exact ret _ _ _ _ _ _ h hw hS dX11_after_64
  · have h := ite_t c5 h
    refine q_bipush hx hb (by decide) dX11_after_14 ?_
    refine lv_iload_n hx hb dX11_after_16 rfl (lv_at hl 1 rfl) ?_
    refine q_iconst hx hb dX11_after_17 ?_
    refine q_iadd hx hb dX11_after_18 ?_
    refine q_bipush hx hb (by decide) dX11_after_19 ?_
    obtain ⟨g10, h⟩ := h
    refine q_irem hx hb g10 (by decide) (by decide) dX11_after_21 ?_
    refine q_imul hx hb dX11_after_22 ?_
    refine lv_iload_n hx hb dX11_after_23 rfl (lv_at hl 0 rfl) ?_
    refine q_iadd hx hb dX11_after_24 ?_
    refine lv_goto (tgt := 64) hx hb dX11_after_25 (by decide) ?_
    exact ret _ _ _ _ _ _ h hw hS dX11_after_64
set_option maxRecDepth 100000 in
set_option maxHeartbeats 4000000 in
theorem kX11_after {l : Launch} {D : va_G} {cy : Nat → ClassId} {ad : AD} {A : Nat → Prop} {x0 : Int} {x1 : Int} {μ : MM} {Q : Int → MM → Prop} (h : wpX11_after x0 x1 μ Q) : Met l yX11_after (Cond.code yX11_after cX11_after 4 (some .int) :: uw) (rmm 0 0) (wPc [.int (iI x0), .int (iI x1)] dmR cfR tyR exR D cy ad A μ) (wQ vI Q dmR cfR D cy ad A) 0 0 A :=
  met_of (by decide) (Nat.le_of_ble_eq_true rfl) (fun p e R s m args below meth c ls hr hk hRR F hA hw hS hl => wX11_after F hA (by subst hRR; exact ⟨Nat.le_refl _, Nat.le_refl _⟩) (retI_of F hr hk) h hw hS hl)
theorem hdX11_after : yX11_after.cls ≠ "java/lang/invoke/MethodHandle" ∧ yX11_after.cls ≠ "java/lang/invoke/VarHandle" ∧ (parseMethodDescriptor yX11_after.desc).map (fun d => d.parameters.length) = some 2 := by decide +kernel
def wpX11_isNumber (x0 : Int) (μ : MM) (Q : Int → MM → Prop) : Prop := wpX11_in x0 0 3 μ (fun v1 μ2 => Q v1 μ2)
set_option maxRecDepth 100000 in
set_option maxHeartbeats 4000000 in
theorem wX11_isNumber {Q : Int → MM → Prop} {x0 : Int} {μ : MM} {H : Heap} {locs : List Loc} {ls : Array Slot} (F : CallFix p m c cX11_isNumber 1 s args uw RX11) (hA : ∀ q : Nat, s.heap.size ≤ q → A q) (hR : 1 ≤ R.frames ∧ 22 ≤ R.locals) (ret : RetZ p l e R s m args below meth c cX11_isNumber Qf dmR cfR tyR exR D cy ad A Q) (h : wpX11_isNumber x0 μ Q) (hw : wdR D cy ad A μ s H) (hS : va_S A s.heap H locs) (hl : lv_has ls 1 [(0, .int (iI x0))]) : W p l e R s m args below meth c H locs 0 0 Qf (F0 m 0 ls []) := by
  have hx := F.1
  have hb := F.2.1
  have hown := F.2.2.2.1
  have hts := F.2.2.2.2
  refine lv_iload_n hx hb dX11_isNumber_0 rfl (lv_at hl 0 rfl) ?_
  refine q_iconst hx hb dX11_isNumber_1 ?_
  refine q_iconst hx hb dX11_isNumber_2 ?_
  refine call_S hexR F (kX11_in h) 3 tw6_77 tw1_8 tw6_76 tw6_75 hdX11_in ⟨Nat.le_trans (by decide) hR.1, Nat.le_trans (by decide) hR.2⟩ hA hw hS rfl hl.1 rfl (Nat.le_of_ble_eq_true rfl) dX11_isNumber_3 (fun v1 μ2 H locs h hw hS => ?_)
  obtain ⟨z3, h⟩ := h
  exact ret _ _ _ _ _ _ z3 h hw hS dX11_isNumber_6
set_option maxRecDepth 100000 in
set_option maxHeartbeats 4000000 in
theorem kX11_isNumber {l : Launch} {D : va_G} {cy : Nat → ClassId} {ad : AD} {A : Nat → Prop} {x0 : Int} {μ : MM} {Q : Int → MM → Prop} (h : wpX11_isNumber x0 μ Q) : Met l yX11_isNumber (Cond.code yX11_isNumber cX11_isNumber 1 (some .boolean) :: uw) (rmm 1 22) (wPc [.int (iI x0)] dmR cfR tyR exR D cy ad A μ) (wQ vI (fun v u => (v = 0 ∨ v = 1) ∧ Q v u) dmR cfR D cy ad A) 0 0 A :=
  met_of (by decide) (Nat.le_of_ble_eq_true rfl) (fun p e R s m args below meth c ls hr hk hRR F hA hw hS hl => wX11_isNumber F hA (by subst hRR; exact ⟨Nat.le_refl _, Nat.le_refl _⟩) (retZ2_of F hr hk) h hw hS hl)
theorem hdX11_isNumber : yX11_isNumber.cls ≠ "java/lang/invoke/MethodHandle" ∧ yX11_isNumber.cls ≠ "java/lang/invoke/VarHandle" ∧ (parseMethodDescriptor yX11_isNumber.desc).map (fun d => d.parameters.length) = some 1 := by decide +kernel
def wpX11_meets (x1 : Int) (μ : MM) (Q : Int → MM → Prop) : Prop := ∀ μ1 : MM, μ1 = ms μ 0 0 0 x1 → (0 ≤ x1 ∧ (x1 < 6 ∧ (∀ μ4 : MM, μ4 = ms μ1 1 0 x1 ((μ1 1 0 x1) + 1) → (Q (-3) μ4))))
set_option maxRecDepth 100000 in
set_option maxHeartbeats 4000000 in
theorem wX11_meets {Q : Int → MM → Prop} {x1 : Int} {μ : MM} {H : Heap} {locs : List Loc} {ls : Array Slot} (F : CallFix p m c cX11_meets 2 s args uw RX11) (hA : ∀ q : Nat, s.heap.size ≤ q → A q) (hR : 0 ≤ R.frames ∧ 0 ≤ R.locals) (ret : RetI p l e R s m args below meth c cX11_meets Qf dmR cfR tyR exR D cy ad A Q) (h : wpX11_meets x1 μ Q) (hw : wdR D cy ad A μ s H) (hS : va_S A s.heap H locs) (hl : lv_has ls 2 [(0, .ref (ad 0 0)), (1, .int (iI x1))]) : W p l e R s m args below meth c H locs 0 0 Qf (F0 m 0 ls []) := by
  have hx := F.1
  have hb := F.2.1
  have hown := F.2.2.2.1
  have hts := F.2.2.2.2
  refine lv_aload_n hx hb dX11_meets_0 rfl (lv_at hl 0 rfl) ?_
  refine lv_iload_n hx hb dX11_meets_1 rfl (lv_at hl 1 rfl) ?_
  obtain ⟨μ1, eμ1⟩ : ∃ z : MM, z = ms μ 0 0 0 x1 := ⟨_, rfl⟩
  have h := h μ1 eμ1
  refine pR_finding F hw hS tw5_138 eμ1 dX11_meets_2 (fun H locs hw hS => ?_)
  refine lv_aload_n hx hb dX11_meets_5 rfl (lv_at hl 0 rfl) ?_
  refine gR_findings F hw tw5_139 dX11_meets_6 ?_
  refine lv_iload_n hx hb dX11_meets_9 rfl (lv_at hl 1 rfl) ?_
  refine lv_dup2_11 hx hb dX11_meets_10 rfl rfl ?_
  obtain ⟨g2, h⟩ := h
  obtain ⟨g3, h⟩ := h
  refine aR_ild (L := 6) hx hb hw 0 rfl rfl (by decide) g2 g3 dX11_meets_11 ?_
  refine q_iconst hx hb dX11_meets_12 ?_
  refine q_iadd hx hb dX11_meets_13 ?_
  obtain ⟨μ4, eμ4⟩ : ∃ z : MM, z = ms μ1 1 0 x1 ((μ1 1 0 x1) + 1) := ⟨_, rfl⟩
  have h := h μ4 eμ4
  refine aR_ist (L := 6) hx hb hw hS 0 rfl rfl (by decide) g2 g3 eμ4 dX11_meets_14 (fun H locs hw hS => ?_)
  refine q_bipush hx hb (by decide) dX11_meets_15 ?_
  exact ret _ _ _ _ _ _ h hw hS dX11_meets_17
set_option maxRecDepth 100000 in
set_option maxHeartbeats 4000000 in
theorem kX11_meets {l : Launch} {D : va_G} {cy : Nat → ClassId} {ad : AD} {A : Nat → Prop} {x1 : Int} {μ : MM} {Q : Int → MM → Prop} (h : wpX11_meets x1 μ Q) : Met l yX11_meets (Cond.code yX11_meets cX11_meets 2 (some .int) :: uw) (rmm 0 0) (wPc [.ref (ad 0 0), .int (iI x1)] dmR cfR tyR exR D cy ad A μ) (wQ vI Q dmR cfR D cy ad A) 0 0 A :=
  met_of (by decide) (Nat.le_of_ble_eq_true rfl) (fun p e R s m args below meth c ls hr hk hRR F hA hw hS hl => wX11_meets F hA (by subst hRR; exact ⟨Nat.le_refl _, Nat.le_refl _⟩) (retI_of F hr hk) h hw hS hl)
theorem hdX11_meets : yX11_meets.cls ≠ "java/lang/invoke/MethodHandle" ∧ yX11_meets.cls ≠ "java/lang/invoke/VarHandle" ∧ (parseMethodDescriptor yX11_meets.desc).map (fun d => d.parameters.length) = some 1 := by decide +kernel
def wpX11_askedTwo_J40 (Q : Int → MM → Prop) (μ : MM) : Prop := wpX11_meets 1 μ (fun v1 μ2 => Q v1 μ2)
set_option maxRecDepth 100000 in
set_option maxHeartbeats 4000000 in
theorem wX11_askedTwo_J40 {Q : Int → MM → Prop} {μ : MM} {H : Heap} {locs : List Loc} {ls : Array Slot} (F : CallFix p m c cX11_askedTwo 3 s args uw RX11) (hA : ∀ q : Nat, s.heap.size ≤ q → A q) (hR : 2 ≤ R.frames ∧ 42 ≤ R.locals) (ret : RetI p l e R s m args below meth c cX11_askedTwo Qf dmR cfR tyR exR D cy ad A Q) (h : wpX11_askedTwo_J40 Q μ) (hw : wdR D cy ad A μ s H) (hS : va_S A s.heap H locs) (hl : lv_has ls 3 [(0, .ref (ad 0 0))]) : W p l e R s m args below meth c H locs 0 0 Qf (F0 m 40 ls []) := by
  have hx := F.1
  have hb := F.2.1
  have hown := F.2.2.2.1
  have hts := F.2.2.2.2
  refine lv_aload_n hx hb dX11_askedTwo_40 rfl (lv_at hl 0 rfl) ?_
  refine q_iconst hx hb dX11_askedTwo_41 ?_
  refine call_V hexR F (kX11_meets h) 1 tw6_81 tw1_8 tw6_80 tws2_10 tw6_78 hdX11_meets ⟨Nat.le_trans (by decide) hR.1, Nat.le_trans (by decide) hR.2⟩ (hw.recv (k := 0) (i := 0) ⟨rfl, Or.inl rfl⟩ rfl rfl) hA hw hS rfl hl.1 rfl (Nat.le_of_ble_eq_true rfl) dX11_askedTwo_42 (fun v1 μ2 H locs h hw hS => ?_)
  exact ret _ _ _ _ _ _ h hw hS dX11_askedTwo_45
def wpX11_askedTwo_J14 (Q : Int → MM → Prop) (μ : MM) : Prop := Q (-1) μ
set_option maxRecDepth 100000 in
set_option maxHeartbeats 4000000 in
theorem wX11_askedTwo_J14 {Q : Int → MM → Prop} {μ : MM} {H : Heap} {locs : List Loc} {ls : Array Slot} (F : CallFix p m c cX11_askedTwo 3 s args uw RX11) (hA : ∀ q : Nat, s.heap.size ≤ q → A q) (hR : 2 ≤ R.frames ∧ 42 ≤ R.locals) (ret : RetI p l e R s m args below meth c cX11_askedTwo Qf dmR cfR tyR exR D cy ad A Q) (h : wpX11_askedTwo_J14 Q μ) (hw : wdR D cy ad A μ s H) (hS : va_S A s.heap H locs) (hl : lv_has ls 3 []) : W p l e R s m args below meth c H locs 0 0 Qf (F0 m 14 ls []) := by
  have hx := F.1
  have hb := F.2.1
  have hown := F.2.2.2.1
  have hts := F.2.2.2.2
  refine q_iconst hx hb dX11_askedTwo_14 ?_
  refine lv_goto (tgt := 45) hx hb dX11_askedTwo_15 (by decide) ?_
  exact ret _ _ _ _ _ _ h hw hS dX11_askedTwo_45
def wpX11_askedTwo (x1 : Int) (x2 : Int) (μ : MM) (Q : Int → MM → Prop) : Prop := wpX11_isNumber x1 μ (fun v1 μ2 => if v1 = 0 then (wpX11_askedTwo_J14 Q  μ2) else (wpX11_isNumber x2 μ2 (fun v5 μ6 => if v5 = 0 then (wpX11_askedTwo_J14 Q  μ6) else (0 ≤ x1 ∧ (x1 < 4 ∧ (rg (μ6 26 0 x1) ∧ (if (μ6 26 0 x1) = 0 then (wpX11_askedTwo_J40 Q  μ6) else (0 ≤ x2 ∧ (x2 < 4 ∧ (rg (μ6 26 0 x2) ∧ (if (μ6 26 0 x2) = 0 then (wpX11_askedTwo_J40 Q  μ6) else (Q 0 μ6))))))))))))
set_option maxRecDepth 100000 in
set_option maxHeartbeats 4000000 in
theorem wX11_askedTwo {Q : Int → MM → Prop} {x1 : Int} {x2 : Int} {μ : MM} {H : Heap} {locs : List Loc} {ls : Array Slot} (F : CallFix p m c cX11_askedTwo 3 s args uw RX11) (hA : ∀ q : Nat, s.heap.size ≤ q → A q) (hR : 2 ≤ R.frames ∧ 42 ≤ R.locals) (ret : RetI p l e R s m args below meth c cX11_askedTwo Qf dmR cfR tyR exR D cy ad A Q) (h : wpX11_askedTwo x1 x2 μ Q) (hw : wdR D cy ad A μ s H) (hS : va_S A s.heap H locs) (hl : lv_has ls 3 [(0, .ref (ad 0 0)), (1, .int (iI x1)), (2, .int (iI x2))]) : W p l e R s m args below meth c H locs 0 0 Qf (F0 m 0 ls []) := by
  have hx := F.1
  have hb := F.2.1
  have hown := F.2.2.2.1
  have hts := F.2.2.2.2
  refine lv_iload_n hx hb dX11_askedTwo_0 rfl (lv_at hl 1 rfl) ?_
  refine call_S hexR F (kX11_isNumber h) 1 tw6_193 tw1_8 tw6_192 tw6_191 hdX11_isNumber ⟨Nat.le_trans (by decide) hR.1, Nat.le_trans (by decide) hR.2⟩ hA hw hS rfl hl.1 rfl (Nat.le_of_ble_eq_true rfl) dX11_askedTwo_1 (fun v1 μ2 H locs h hw hS => ?_)
  obtain ⟨z3, h⟩ := h
  refine q_if_eq (tgt := 14) hx hb (rgB z3) dX11_askedTwo_4 (by decide) (fun c4 => ?_) (fun c4 => ?_)
  · have h := ite_t c4 h
    exact wX11_askedTwo_J14 F hA hR ret h hw hS (lv_sub hl [] rfl)
  · have h := ite_f c4 h
    refine lv_iload_n hx hb dX11_askedTwo_7 rfl (lv_at hl 2 rfl) ?_
    refine call_S hexR F (kX11_isNumber h) 1 tw6_193 tw1_8 tw6_192 tw6_191 hdX11_isNumber ⟨Nat.le_trans (by decide) hR.1, Nat.le_trans (by decide) hR.2⟩ hA hw hS rfl hl.1 rfl (Nat.le_of_ble_eq_true rfl) dX11_askedTwo_8 (fun v5 μ6 H locs h hw hS => ?_)
    obtain ⟨z7, h⟩ := h
    refine q_if_ne (tgt := 18) hx hb (rgB z7) dX11_askedTwo_11 (by decide) (fun c8 => ?_) (fun c8 => ?_)
    · have h := ite_f c8 h
      refine lv_aload_n hx hb dX11_askedTwo_18 rfl (lv_at hl 0 rfl) ?_
      refine gR_isTower F hw tw5_164 dX11_askedTwo_19 ?_
      refine lv_iload_n hx hb dX11_askedTwo_22 rfl (lv_at hl 1 rfl) ?_
      obtain ⟨g9, h⟩ := h
      obtain ⟨g10, h⟩ := h
      refine aR_zld (L := 4) hx hb hw 25 rfl rfl (by decide) g9 g10 dX11_askedTwo_23 ?_
      obtain ⟨g11, h⟩ := h
      refine q_if_eq (tgt := 40) hx hb g11 dX11_askedTwo_24 (by decide) (fun c12 => ?_) (fun c12 => ?_)
      · have h := ite_t c12 h
        exact wX11_askedTwo_J40 F hA hR ret h hw hS (lv_sub hl [0] rfl)
      · have h := ite_f c12 h
        refine lv_aload_n hx hb dX11_askedTwo_27 rfl (lv_at hl 0 rfl) ?_
        refine gR_isTower F hw tw5_164 dX11_askedTwo_28 ?_
        refine lv_iload_n hx hb dX11_askedTwo_31 rfl (lv_at hl 2 rfl) ?_
        obtain ⟨g13, h⟩ := h
        obtain ⟨g14, h⟩ := h
        refine aR_zld (L := 4) hx hb hw 25 rfl rfl (by decide) g13 g14 dX11_askedTwo_32 ?_
        obtain ⟨g15, h⟩ := h
        refine q_if_eq (tgt := 40) hx hb g15 dX11_askedTwo_33 (by decide) (fun c16 => ?_) (fun c16 => ?_)
        · have h := ite_t c16 h
          exact wX11_askedTwo_J40 F hA hR ret h hw hS (lv_sub hl [0] rfl)
        · have h := ite_f c16 h
          refine q_iconst hx hb dX11_askedTwo_36 ?_
          refine lv_goto (tgt := 45) hx hb dX11_askedTwo_37 (by decide) ?_
          exact ret _ _ _ _ _ _ h hw hS dX11_askedTwo_45
    · have h := ite_t c8 h
      exact wX11_askedTwo_J14 F hA hR ret h hw hS (lv_sub hl [] rfl)
set_option maxRecDepth 100000 in
set_option maxHeartbeats 4000000 in
theorem kX11_askedTwo {l : Launch} {D : va_G} {cy : Nat → ClassId} {ad : AD} {A : Nat → Prop} {x1 : Int} {x2 : Int} {μ : MM} {Q : Int → MM → Prop} (h : wpX11_askedTwo x1 x2 μ Q) : Met l yX11_askedTwo (Cond.code yX11_askedTwo cX11_askedTwo 3 (some .int) :: uw) (rmm 2 42) (wPc [.ref (ad 0 0), .int (iI x1), .int (iI x2)] dmR cfR tyR exR D cy ad A μ) (wQ vI Q dmR cfR D cy ad A) 0 0 A :=
  met_of (by decide) (Nat.le_of_ble_eq_true rfl) (fun p e R s m args below meth c ls hr hk hRR F hA hw hS hl => wX11_askedTwo F hA (by subst hRR; exact ⟨Nat.le_refl _, Nat.le_refl _⟩) (retI_of F hr hk) h hw hS hl)
theorem hdX11_askedTwo : yX11_askedTwo.cls ≠ "java/lang/invoke/MethodHandle" ∧ yX11_askedTwo.cls ≠ "java/lang/invoke/VarHandle" ∧ (parseMethodDescriptor yX11_askedTwo.desc).map (fun d => d.parameters.length) = some 2 := by decide +kernel
def wpX11_ahead (x1 : Int) (x2 : Int) (μ : MM) (Q : Int → MM → Prop) : Prop := wpX11_askedTwo x1 x2 μ (fun v1 μ2 => rg v1 ∧ (if 0 ≤ v1 then (0 ≤ x1 ∧ (x1 < 4 ∧ (0 ≤ x2 ∧ (x2 < 4 ∧ (rg (((μ2 27 0 x1) + 1440) - (μ2 27 0 x2)) ∧ (∀ y10 : Int, y10 = Int.tmod (((μ2 27 0 x1) + 1440) - (μ2 27 0 x2)) 1440 → (rg y10 ∧ (if y10 ≤ 720 then (Q y10 μ2) else (Q (y10 - 1440) μ2))))))))) else (Q v1 μ2)))
set_option maxRecDepth 100000 in
set_option maxHeartbeats 4000000 in
theorem wX11_ahead {Q : Int → MM → Prop} {x1 : Int} {x2 : Int} {μ : MM} {H : Heap} {locs : List Loc} {ls : Array Slot} (F : CallFix p m c cX11_ahead 5 s args uw RX11) (hA : ∀ q : Nat, s.heap.size ≤ q → A q) (hR : 3 ≤ R.frames ∧ 64 ≤ R.locals) (ret : RetI p l e R s m args below meth c cX11_ahead Qf dmR cfR tyR exR D cy ad A Q) (h : wpX11_ahead x1 x2 μ Q) (hw : wdR D cy ad A μ s H) (hS : va_S A s.heap H locs) (hl : lv_has ls 5 [(0, .ref (ad 0 0)), (1, .int (iI x1)), (2, .int (iI x2))]) : W p l e R s m args below meth c H locs 0 0 Qf (F0 m 0 ls []) := by
  have hx := F.1
  have hb := F.2.1
  have hown := F.2.2.2.1
  have hts := F.2.2.2.2
  refine lv_aload_n hx hb dX11_ahead_0 rfl (lv_at hl 0 rfl) ?_
  refine lv_iload_n hx hb dX11_ahead_1 rfl (lv_at hl 1 rfl) ?_
  refine lv_iload_n hx hb dX11_ahead_2 rfl (lv_at hl 2 rfl) ?_
  refine call_V hexR F (kX11_askedTwo h) 2 tw7_82 tw1_8 tw7_81 tws4_2 tw7_79 hdX11_askedTwo ⟨Nat.le_trans (by decide) hR.1, Nat.le_trans (by decide) hR.2⟩ (hw.recv (k := 0) (i := 0) ⟨rfl, Or.inl rfl⟩ rfl rfl) hA hw hS rfl hl.1 rfl (Nat.le_of_ble_eq_true rfl) dX11_ahead_3 (fun v1 μ2 H locs h hw hS => ?_)
  refine lv_istore_n (lv' := [(3, .int (iI v1)), (0, .ref (ad 0 0)), (1, .int (iI x1)), (2, .int (iI x2))]) hx hb dX11_ahead_6 rfl hl (by decide) rfl (fun ls hl => ?_)
  refine lv_iload_n hx hb dX11_ahead_7 rfl (lv_at hl 0 rfl) ?_
  obtain ⟨g3, h⟩ := h
  refine q_if_ge (tgt := 13) hx hb g3 dX11_ahead_8 (by decide) (fun c4 => ?_) (fun c4 => ?_)
  · have h := ite_t c4 h
    refine lv_aload_n hx hb dX11_ahead_13 rfl (lv_at hl 1 rfl) ?_
    refine gR_handsAt F hw tw5_165 dX11_ahead_14 ?_
    refine lv_iload_n hx hb dX11_ahead_17 rfl (lv_at hl 2 rfl) ?_
    obtain ⟨g5, h⟩ := h
    obtain ⟨g6, h⟩ := h
    refine aR_ild (L := 4) hx hb hw 26 rfl rfl (by decide) g5 g6 dX11_ahead_18 ?_
    refine q_sipush hx hb (by decide) dX11_ahead_19 ?_
    refine q_iadd hx hb dX11_ahead_22 ?_
    refine lv_aload_n hx hb dX11_ahead_23 rfl (lv_at hl 1 rfl) ?_
    refine gR_handsAt F hw tw5_165 dX11_ahead_24 ?_
    refine lv_iload_n hx hb dX11_ahead_27 rfl (lv_at hl 3 rfl) ?_
    obtain ⟨g7, h⟩ := h
    obtain ⟨g8, h⟩ := h
    refine aR_ild (L := 4) hx hb hw 26 rfl rfl (by decide) g7 g8 dX11_ahead_28 ?_
    refine q_isub hx hb dX11_ahead_29 ?_
    refine q_sipush hx hb (by decide) dX11_ahead_30 ?_
    obtain ⟨g9, h⟩ := h
    refine q_irem hx hb g9 (by decide) (by decide) dX11_ahead_33 ?_
    obtain ⟨y10, ey10⟩ : ∃ z : Int, z = Int.tmod (((μ2 27 0 x1) + 1440) - (μ2 27 0 x2)) 1440 := ⟨_, rfl⟩
    have h := h y10 ey10
    refine q_nmI ey10 ?_
    refine lv_istore (lv' := [(4, .int (iI y10)), (3, .int (iI v1)), (0, .ref (ad 0 0)), (1, .int (iI x1)), (2, .int (iI x2))]) hx hb dX11_ahead_34 hl (by decide) rfl (fun ls hl => ?_)
    refine lv_iload hx hb dX11_ahead_36 (lv_at hl 0 rfl) ?_
    refine q_sipush hx hb (by decide) dX11_ahead_38 ?_
    obtain ⟨g11, h⟩ := h
    refine q_icmp_le (tgt := 53) hx hb g11 (by decide) dX11_ahead_41 (by decide) (fun c12 => ?_) (fun c12 => ?_)
    · have h := ite_t c12 h
      refine lv_iload hx hb dX11_ahead_53 (lv_at hl 0 rfl) ?_
      exact ret _ _ _ _ _ _ h hw hS dX11_ahead_55
    · have h := ite_f c12 h
      refine lv_iload hx hb dX11_ahead_44 (lv_at hl 0 rfl) ?_
      refine q_sipush hx hb (by decide) dX11_ahead_46 ?_
      refine q_isub hx hb dX11_ahead_49 ?_
      refine lv_goto (tgt := 55) hx hb dX11_ahead_50 (by decide) ?_
      exact ret _ _ _ _ _ _ h hw hS dX11_ahead_55
  · have h := ite_f c4 h
    refine lv_iload_n hx hb dX11_ahead_11 rfl (lv_at hl 0 rfl) ?_
    exact ret _ _ _ _ _ _ h hw hS dX11_ahead_12
set_option maxRecDepth 100000 in
set_option maxHeartbeats 4000000 in
theorem kX11_ahead {l : Launch} {D : va_G} {cy : Nat → ClassId} {ad : AD} {A : Nat → Prop} {x1 : Int} {x2 : Int} {μ : MM} {Q : Int → MM → Prop} (h : wpX11_ahead x1 x2 μ Q) : Met l yX11_ahead (Cond.code yX11_ahead cX11_ahead 5 (some .int) :: uw) (rmm 3 64) (wPc [.ref (ad 0 0), .int (iI x1), .int (iI x2)] dmR cfR tyR exR D cy ad A μ) (wQ vI Q dmR cfR D cy ad A) 0 0 A :=
  met_of (by decide) (Nat.le_of_ble_eq_true rfl) (fun p e R s m args below meth c ls hr hk hRR F hA hw hS hl => wX11_ahead F hA (by subst hRR; exact ⟨Nat.le_refl _, Nat.le_refl _⟩) (retI_of F hr hk) h hw hS hl)
theorem hdX11_ahead : yX11_ahead.cls ≠ "java/lang/invoke/MethodHandle" ∧ yX11_ahead.cls ≠ "java/lang/invoke/VarHandle" ∧ (parseMethodDescriptor yX11_ahead.desc).map (fun d => d.parameters.length) = some 2 := by decide +kernel
def wpX11_areNotches_J54 (k15 : Int → Int → Int → MM → Prop) (Q : Int → MM → Prop) (x1 : Int) (x3 : Int) (t0 : Int) (μ : MM) : Prop := k15 x1 t0 (x3 + 1) μ
set_option maxRecDepth 100000 in
set_option maxHeartbeats 4000000 in
theorem wX11_areNotches_J54 {k15 : Int → Int → Int → MM → Prop} {Q : Int → MM → Prop} {x1 : Int} {x3 : Int} {t0 : Int} {μ : MM} {H : Heap} {locs : List Loc} {ls : Array Slot} (F : CallFix p m c cX11_areNotches 4 s args uw RX11) (hA : ∀ q : Nat, s.heap.size ≤ q → A q) (hR : 1 ≤ R.frames ∧ 22 ≤ R.locals) (ret : RetZ p l e R s m args below meth c cX11_areNotches Qf dmR cfR tyR exR D cy ad A Q) (hk15 : ∀ (x1' x2' x3' : Int) (μ' : MM) (H : Heap) (locs : List Loc) (ls : Array Slot), k15 x1' x2' x3' μ' → wdR D cy ad A μ' s H → va_S A s.heap H locs → lv_has ls 4 [(0, .ref (ad 0 0)), (1, .int (iI (x1'))), (2, .int (iI (x2'))), (3, .int (iI (x3')))] → W p l e R s m args below meth c H locs 0 0 Qf (F0 m 15 ls [])) (h : wpX11_areNotches_J54 k15 Q x1 x3 t0 μ) (hw : wdR D cy ad A μ s H) (hS : va_S A s.heap H locs) (hl : lv_has ls 4 [(0, .ref (ad 0 0)), (1, .int (iI x1)), (3, .int (iI x3))]) : W p l e R s m args below meth c H locs 0 0 Qf (F0 m 54 ls [.int (iI t0)]) := by
  have hx := F.1
  have hb := F.2.1
  have hown := F.2.2.2.1
  have hts := F.2.2.2.2
  refine lv_istore_n (lv' := [(2, .int (iI t0)), (0, .ref (ad 0 0)), (1, .int (iI x1)), (3, .int (iI x3))]) hx hb dX11_areNotches_54 rfl hl (by decide) rfl (fun ls hl => ?_)
  refine q_iinc (k := 3) (lv' := [(3, .int (iI (x3 + 1))), (2, .int (iI t0)), (0, .ref (ad 0 0)), (1, .int (iI x1))]) hx hb dX11_areNotches_55 hl rfl (by decide) rfl (fun ls hl => ?_)
  refine lv_goto (tgt := 15) hx hb dX11_areNotches_58 (by decide) ?_
  exact hk15 x1 t0 (x3 + 1) _ _ _ _ h hw hS (lv_sub hl [2, 3, 1, 0] rfl)
def wpX11_areNotches_J53 (k15 : Int → Int → Int → MM → Prop) (Q : Int → MM → Prop) (x1 : Int) (x3 : Int) (μ : MM) : Prop := wpX11_areNotches_J54 k15 Q x1 x3 0 μ
set_option maxRecDepth 100000 in
set_option maxHeartbeats 4000000 in
theorem wX11_areNotches_J53 {k15 : Int → Int → Int → MM → Prop} {Q : Int → MM → Prop} {x1 : Int} {x3 : Int} {μ : MM} {H : Heap} {locs : List Loc} {ls : Array Slot} (F : CallFix p m c cX11_areNotches 4 s args uw RX11) (hA : ∀ q : Nat, s.heap.size ≤ q → A q) (hR : 1 ≤ R.frames ∧ 22 ≤ R.locals) (ret : RetZ p l e R s m args below meth c cX11_areNotches Qf dmR cfR tyR exR D cy ad A Q) (hk15 : ∀ (x1' x2' x3' : Int) (μ' : MM) (H : Heap) (locs : List Loc) (ls : Array Slot), k15 x1' x2' x3' μ' → wdR D cy ad A μ' s H → va_S A s.heap H locs → lv_has ls 4 [(0, .ref (ad 0 0)), (1, .int (iI (x1'))), (2, .int (iI (x2'))), (3, .int (iI (x3')))] → W p l e R s m args below meth c H locs 0 0 Qf (F0 m 15 ls [])) (h : wpX11_areNotches_J53 k15 Q x1 x3 μ) (hw : wdR D cy ad A μ s H) (hS : va_S A s.heap H locs) (hl : lv_has ls 4 [(0, .ref (ad 0 0)), (1, .int (iI x1)), (3, .int (iI x3))]) : W p l e R s m args below meth c H locs 0 0 Qf (F0 m 53 ls []) := by
  have hx := F.1
  have hb := F.2.1
  have hown := F.2.2.2.1
  have hts := F.2.2.2.2
  refine q_iconst hx hb dX11_areNotches_53 ?_
  exact wX11_areNotches_J54 F hA hR ret hk15 h hw hS (lv_sub hl [0, 1, 2] rfl)
def wpX11_areNotches_L15 (Q : Int → MM → Prop) : Nat → Int → Int → Int → MM → Prop
  | 0, _, _, _, _ => False
  | n + 1, x1, x2, x3, μ => 0 ≤ x1 ∧ (x1 < 8 ∧ (rg x3 ∧ (rg (μ 7 0 x1) ∧ (if (μ 7 0 x1) ≤ x3 then ((x2 = 0 ∨ x2 = 1) ∧ (Q x2 μ)) else (rg x2 ∧ (if x2 = 0 then (wpX11_areNotches_J53 (fun x1' x2' x3' μ' => wpX11_areNotches_L15 Q n x1' x2' x3' μ') Q x1 x3 μ) else (0 ≤ ((48 * x1) + x3) ∧ ((48 * x1) + x3 < 384 ∧ (wpX11_in (μ 8 0 ((48 * x1) + x3)) 1 24 μ (fun v11 μ12 => if v11 = 0 then (wpX11_areNotches_J53 (fun x1' x2' x3' μ' => wpX11_areNotches_L15 Q n x1' x2' x3' μ') Q x1 x3 μ12) else (wpX11_areNotches_J54 (fun x1' x2' x3' μ' => wpX11_areNotches_L15 Q n x1' x2' x3' μ') Q x1 x3 1 μ12)))))))))))
set_option maxRecDepth 100000 in
set_option maxHeartbeats 4000000 in
theorem wX11_areNotches_L15 {Q : Int → MM → Prop} (F : CallFix p m c cX11_areNotches 4 s args uw RX11) (hA : ∀ q : Nat, s.heap.size ≤ q → A q) (hR : 1 ≤ R.frames ∧ 22 ≤ R.locals) (ret : RetZ p l e R s m args below meth c cX11_areNotches Qf dmR cfR tyR exR D cy ad A Q) : ∀ (n : Nat) (x1 x2 x3 : Int) (μ : MM) (H : Heap) (locs : List Loc) (ls : Array Slot), wpX11_areNotches_L15 Q n x1 x2 x3 μ → wdR D cy ad A μ s H → va_S A s.heap H locs → lv_has ls 4 [(0, .ref (ad 0 0)), (1, .int (iI x1)), (2, .int (iI x2)), (3, .int (iI x3))] → W p l e R s m args below meth c H locs 0 0 Qf (F0 m 15 ls []) := by
  have hx := F.1
  have hb := F.2.1
  have hown := F.2.2.2.1
  have hts := F.2.2.2.2
  intro n
  induction n with
  | zero =>
    intro x1 x2 x3 μ H locs ls h hw hS hl
    exact h.elim
  | succ n ih =>
    intro x1 x2 x3 μ H locs ls h hw hS hl
    refine lv_iload_n hx hb dX11_areNotches_15 rfl (lv_at hl 3 rfl) ?_
    refine lv_aload_n hx hb dX11_areNotches_16 rfl (lv_at hl 0 rfl) ?_
    refine gR_sizes F hw tw5_145 dX11_areNotches_17 ?_
    refine lv_iload_n hx hb dX11_areNotches_20 rfl (lv_at hl 1 rfl) ?_
    obtain ⟨g1, h⟩ := h
    obtain ⟨g2, h⟩ := h
    refine aR_ild (L := 8) hx hb hw 6 rfl rfl (by decide) g1 g2 dX11_areNotches_21 ?_
    obtain ⟨g3, h⟩ := h
    obtain ⟨g4, h⟩ := h
    refine q_icmp_ge (tgt := 61) hx hb g3 g4 dX11_areNotches_22 (by decide) (fun c5 => ?_) (fun c5 => ?_)
    · have h := ite_t c5 h
      refine lv_iload_n hx hb dX11_areNotches_61 rfl (lv_at hl 2 rfl) ?_
      obtain ⟨g6, h⟩ := h
      exact ret _ _ _ _ _ _ g6 h hw hS dX11_areNotches_62
    · have h := ite_f c5 h
      refine lv_iload_n hx hb dX11_areNotches_25 rfl (lv_at hl 2 rfl) ?_
      obtain ⟨g7, h⟩ := h
      refine q_if_eq (tgt := 53) hx hb g7 dX11_areNotches_26 (by decide) (fun c8 => ?_) (fun c8 => ?_)
      · have h := ite_t c8 h
        exact wX11_areNotches_J53 F hA hR ret (fun x1 x2 x3 => ih x1 x2 x3) h hw hS (lv_sub hl [0, 1, 3] rfl)
      · have h := ite_f c8 h
        refine lv_aload_n hx hb dX11_areNotches_29 rfl (lv_at hl 0 rfl) ?_
        refine gR_rows F hw tw5_146 dX11_areNotches_30 ?_
        refine q_bipush hx hb (by decide) dX11_areNotches_33 ?_
        refine lv_iload_n hx hb dX11_areNotches_35 rfl (lv_at hl 1 rfl) ?_
        refine q_imul hx hb dX11_areNotches_36 ?_
        refine lv_iload_n hx hb dX11_areNotches_37 rfl (lv_at hl 3 rfl) ?_
        refine q_iadd hx hb dX11_areNotches_38 ?_
        obtain ⟨g9, h⟩ := h
        obtain ⟨g10, h⟩ := h
        refine aR_ild (L := 384) hx hb hw 7 rfl rfl (by decide) g9 g10 dX11_areNotches_39 ?_
        refine q_iconst hx hb dX11_areNotches_40 ?_
        refine q_bipush hx hb (by decide) dX11_areNotches_41 ?_
        refine call_S hexR F (kX11_in h) 3 tw6_77 tw1_8 tw6_76 tw6_75 hdX11_in ⟨Nat.le_trans (by decide) hR.1, Nat.le_trans (by decide) hR.2⟩ hA hw hS rfl hl.1 rfl (Nat.le_of_ble_eq_true rfl) dX11_areNotches_43 (fun v11 μ12 H locs h hw hS => ?_)
        obtain ⟨z13, h⟩ := h
        refine q_if_eq (tgt := 53) hx hb (rgB z13) dX11_areNotches_46 (by decide) (fun c14 => ?_) (fun c14 => ?_)
        · have h := ite_t c14 h
          exact wX11_areNotches_J53 F hA hR ret (fun x1 x2 x3 => ih x1 x2 x3) h hw hS (lv_sub hl [0, 1, 3] rfl)
        · have h := ite_f c14 h
          refine q_iconst hx hb dX11_areNotches_49 ?_
          refine lv_goto (tgt := 54) hx hb dX11_areNotches_50 (by decide) ?_
          exact wX11_areNotches_J54 F hA hR ret (fun x1 x2 x3 => ih x1 x2 x3) h hw hS (lv_sub hl [0, 1, 3] rfl)
def wpX11_areNotches (x1 : Int) (μ : MM) (Q : Int → MM → Prop) : Prop := 0 ≤ x1 ∧ (x1 < 8 ∧ (wpX11_in (μ 7 0 x1) 1 24 μ (fun v3 μ4 => ∃ n6 : Nat, wpX11_areNotches_L15 Q n6 x1 v3 0 μ4)))
set_option maxRecDepth 100000 in
set_option maxHeartbeats 4000000 in
theorem wX11_areNotches {Q : Int → MM → Prop} {x1 : Int} {μ : MM} {H : Heap} {locs : List Loc} {ls : Array Slot} (F : CallFix p m c cX11_areNotches 4 s args uw RX11) (hA : ∀ q : Nat, s.heap.size ≤ q → A q) (hR : 1 ≤ R.frames ∧ 22 ≤ R.locals) (ret : RetZ p l e R s m args below meth c cX11_areNotches Qf dmR cfR tyR exR D cy ad A Q) (h : wpX11_areNotches x1 μ Q) (hw : wdR D cy ad A μ s H) (hS : va_S A s.heap H locs) (hl : lv_has ls 4 [(0, .ref (ad 0 0)), (1, .int (iI x1))]) : W p l e R s m args below meth c H locs 0 0 Qf (F0 m 0 ls []) := by
  have hx := F.1
  have hb := F.2.1
  have hown := F.2.2.2.1
  have hts := F.2.2.2.2
  refine lv_aload_n hx hb dX11_areNotches_0 rfl (lv_at hl 0 rfl) ?_
  refine gR_sizes F hw tw5_145 dX11_areNotches_1 ?_
  refine lv_iload_n hx hb dX11_areNotches_4 rfl (lv_at hl 1 rfl) ?_
  obtain ⟨g1, h⟩ := h
  obtain ⟨g2, h⟩ := h
  refine aR_ild (L := 8) hx hb hw 6 rfl rfl (by decide) g1 g2 dX11_areNotches_5 ?_
  refine q_iconst hx hb dX11_areNotches_6 ?_
  refine q_bipush hx hb (by decide) dX11_areNotches_7 ?_
  refine call_S hexR F (kX11_in h) 3 tw6_77 tw1_8 tw6_76 tw6_75 hdX11_in ⟨Nat.le_trans (by decide) hR.1, Nat.le_trans (by decide) hR.2⟩ hA hw hS rfl hl.1 rfl (Nat.le_of_ble_eq_true rfl) dX11_areNotches_9 (fun v3 μ4 H locs h hw hS => ?_)
  obtain ⟨z5, h⟩ := h
  refine lv_istore_n (lv' := [(2, .int (iI v3)), (0, .ref (ad 0 0)), (1, .int (iI x1))]) hx hb dX11_areNotches_12 rfl hl (by decide) rfl (fun ls hl => ?_)
  refine q_iconst hx hb dX11_areNotches_13 ?_
  refine lv_istore_n (lv' := [(3, .int (iI 0)), (2, .int (iI v3)), (0, .ref (ad 0 0)), (1, .int (iI x1))]) hx hb dX11_areNotches_14 rfl hl (by decide) rfl (fun ls hl => ?_)
  obtain ⟨n6, h⟩ := h
  exact wX11_areNotches_L15 F hA hR ret n6 x1 v3 0 _ _ _ _ h hw hS (lv_sub hl [2, 3, 1, 0] rfl)
set_option maxRecDepth 100000 in
set_option maxHeartbeats 4000000 in
theorem kX11_areNotches {l : Launch} {D : va_G} {cy : Nat → ClassId} {ad : AD} {A : Nat → Prop} {x1 : Int} {μ : MM} {Q : Int → MM → Prop} (h : wpX11_areNotches x1 μ Q) : Met l yX11_areNotches (Cond.code yX11_areNotches cX11_areNotches 4 (some .boolean) :: uw) (rmm 1 22) (wPc [.ref (ad 0 0), .int (iI x1)] dmR cfR tyR exR D cy ad A μ) (wQ vI (fun v u => (v = 0 ∨ v = 1) ∧ Q v u) dmR cfR D cy ad A) 0 0 A :=
  met_of (by decide) (Nat.le_of_ble_eq_true rfl) (fun p e R s m args below meth c ls hr hk hRR F hA hw hS hl => wX11_areNotches F hA (by subst hRR; exact ⟨Nat.le_refl _, Nat.le_refl _⟩) (retZ2_of F hr hk) h hw hS hl)
theorem hdX11_areNotches : yX11_areNotches.cls ≠ "java/lang/invoke/MethodHandle" ∧ yX11_areNotches.cls ≠ "java/lang/invoke/VarHandle" ∧ (parseMethodDescriptor yX11_areNotches.desc).map (fun d => d.parameters.length) = some 1 := by decide +kernel
def wpX11_asked (μ : MM) (Q : Int → MM → Prop) : Prop := Q (μ 0 2 0) μ
set_option maxRecDepth 100000 in
set_option maxHeartbeats 4000000 in
theorem wX11_asked {Q : Int → MM → Prop} {μ : MM} {H : Heap} {locs : List Loc} {ls : Array Slot} (F : CallFix p m c cX11_asked 1 s args uw RX11) (hA : ∀ q : Nat, s.heap.size ≤ q → A q) (hR : 0 ≤ R.frames ∧ 0 ≤ R.locals) (ret : RetI p l e R s m args below meth c cX11_asked Qf dmR cfR tyR exR D cy ad A Q) (h : wpX11_asked μ Q) (hw : wdR D cy ad A μ s H) (hS : va_S A s.heap H locs) (hl : lv_has ls 1 [(0, .ref (ad 0 0))]) : W p l e R s m args below meth c H locs 0 0 Qf (F0 m 0 ls []) := by
  have hx := F.1
  have hb := F.2.1
  have hown := F.2.2.2.1
  have hts := F.2.2.2.2
  refine lv_aload_n hx hb dX11_asked_0 rfl (lv_at hl 0 rfl) ?_
  refine gR_asked F hw tw5_140 dX11_asked_1 ?_
  exact ret _ _ _ _ _ _ h hw hS dX11_asked_4
set_option maxRecDepth 100000 in
set_option maxHeartbeats 4000000 in
theorem kX11_asked {l : Launch} {D : va_G} {cy : Nat → ClassId} {ad : AD} {A : Nat → Prop} {μ : MM} {Q : Int → MM → Prop} (h : wpX11_asked μ Q) : Met l yX11_asked (Cond.code yX11_asked cX11_asked 1 (some .int) :: uw) (rmm 0 0) (wPc [.ref (ad 0 0)] dmR cfR tyR exR D cy ad A μ) (wQ vI Q dmR cfR D cy ad A) 0 0 A :=
  met_of (by decide) (Nat.le_of_ble_eq_true rfl) (fun p e R s m args below meth c ls hr hk hRR F hA hw hS hl => wX11_asked F hA (by subst hRR; exact ⟨Nat.le_refl _, Nat.le_refl _⟩) (retI_of F hr hk) h hw hS hl)
theorem hdX11_asked : yX11_asked.cls ≠ "java/lang/invoke/MethodHandle" ∧ yX11_asked.cls ≠ "java/lang/invoke/VarHandle" ∧ (parseMethodDescriptor yX11_asked.desc).map (fun d => d.parameters.length) = some 0 := by decide +kernel
def wpX11_askedFor (x1 : Int) (μ : MM) (Q : Int → MM → Prop) : Prop := wpX11_isNumber x1 μ (fun v1 μ2 => if v1 = 0 then (Q (-1) μ2) else (0 ≤ x1 ∧ (x1 < 4 ∧ (rg (μ2 26 0 x1) ∧ (if (μ2 26 0 x1) = 0 then (wpX11_meets 1 μ2 (fun v9 μ10 => Q v9 μ10)) else (Q 0 μ2))))))
set_option maxRecDepth 100000 in
set_option maxHeartbeats 4000000 in
theorem wX11_askedFor {Q : Int → MM → Prop} {x1 : Int} {μ : MM} {H : Heap} {locs : List Loc} {ls : Array Slot} (F : CallFix p m c cX11_askedFor 2 s args uw RX11) (hA : ∀ q : Nat, s.heap.size ≤ q → A q) (hR : 2 ≤ R.frames ∧ 42 ≤ R.locals) (ret : RetI p l e R s m args below meth c cX11_askedFor Qf dmR cfR tyR exR D cy ad A Q) (h : wpX11_askedFor x1 μ Q) (hw : wdR D cy ad A μ s H) (hS : va_S A s.heap H locs) (hl : lv_has ls 2 [(0, .ref (ad 0 0)), (1, .int (iI x1))]) : W p l e R s m args below meth c H locs 0 0 Qf (F0 m 0 ls []) := by
  have hx := F.1
  have hb := F.2.1
  have hown := F.2.2.2.1
  have hts := F.2.2.2.2
  refine lv_iload_n hx hb dX11_askedFor_0 rfl (lv_at hl 1 rfl) ?_
  refine call_S hexR F (kX11_isNumber h) 1 tw6_193 tw1_8 tw6_192 tw6_191 hdX11_isNumber ⟨Nat.le_trans (by decide) hR.1, Nat.le_trans (by decide) hR.2⟩ hA hw hS rfl hl.1 rfl (Nat.le_of_ble_eq_true rfl) dX11_askedFor_1 (fun v1 μ2 H locs h hw hS => ?_)
  obtain ⟨z3, h⟩ := h
  refine q_if_ne (tgt := 11) hx hb (rgB z3) dX11_askedFor_4 (by decide) (fun c4 => ?_) (fun c4 => ?_)
  · have h := ite_f c4 h
    refine lv_aload_n hx hb dX11_askedFor_11 rfl (lv_at hl 0 rfl) ?_
    refine gR_isTower F hw tw5_164 dX11_askedFor_12 ?_
    refine lv_iload_n hx hb dX11_askedFor_15 rfl (lv_at hl 1 rfl) ?_
    obtain ⟨g5, h⟩ := h
    obtain ⟨g6, h⟩ := h
    refine aR_zld (L := 4) hx hb hw 25 rfl rfl (by decide) g5 g6 dX11_askedFor_16 ?_
    obtain ⟨g7, h⟩ := h
    refine q_if_eq (tgt := 24) hx hb g7 dX11_askedFor_17 (by decide) (fun c8 => ?_) (fun c8 => ?_)
    · have h := ite_t c8 h
      refine lv_aload_n hx hb dX11_askedFor_24 rfl (lv_at hl 0 rfl) ?_
      refine q_iconst hx hb dX11_askedFor_25 ?_
      refine call_V hexR F (kX11_meets h) 1 tw6_81 tw1_8 tw6_80 tws2_10 tw6_78 hdX11_meets ⟨Nat.le_trans (by decide) hR.1, Nat.le_trans (by decide) hR.2⟩ (hw.recv (k := 0) (i := 0) ⟨rfl, Or.inl rfl⟩ rfl rfl) hA hw hS rfl hl.1 rfl (Nat.le_of_ble_eq_true rfl) dX11_askedFor_26 (fun v9 μ10 H locs h hw hS => ?_)
      exact ret _ _ _ _ _ _ h hw hS dX11_askedFor_29
    · have h := ite_f c8 h
      refine q_iconst hx hb dX11_askedFor_20 ?_
      refine lv_goto (tgt := 29) hx hb dX11_askedFor_21 (by decide) ?_
      exact ret _ _ _ _ _ _ h hw hS dX11_askedFor_29
  · have h := ite_t c4 h
    refine q_iconst hx hb dX11_askedFor_7 ?_
    refine lv_goto (tgt := 29) hx hb dX11_askedFor_8 (by decide) ?_
    exact ret _ _ _ _ _ _ h hw hS dX11_askedFor_29
set_option maxRecDepth 100000 in
set_option maxHeartbeats 4000000 in
theorem kX11_askedFor {l : Launch} {D : va_G} {cy : Nat → ClassId} {ad : AD} {A : Nat → Prop} {x1 : Int} {μ : MM} {Q : Int → MM → Prop} (h : wpX11_askedFor x1 μ Q) : Met l yX11_askedFor (Cond.code yX11_askedFor cX11_askedFor 2 (some .int) :: uw) (rmm 2 42) (wPc [.ref (ad 0 0), .int (iI x1)] dmR cfR tyR exR D cy ad A μ) (wQ vI Q dmR cfR D cy ad A) 0 0 A :=
  met_of (by decide) (Nat.le_of_ble_eq_true rfl) (fun p e R s m args below meth c ls hr hk hRR F hA hw hS hl => wX11_askedFor F hA (by subst hRR; exact ⟨Nat.le_refl _, Nat.le_refl _⟩) (retI_of F hr hk) h hw hS hl)
theorem hdX11_askedFor : yX11_askedFor.cls ≠ "java/lang/invoke/MethodHandle" ∧ yX11_askedFor.cls ≠ "java/lang/invoke/VarHandle" ∧ (parseMethodDescriptor yX11_askedFor.desc).map (fun d => d.parameters.length) = some 1 := by decide +kernel
def wpX11_isTrain (x1 : Int) (μ : MM) (Q : Int → MM → Prop) : Prop := wpX11_in x1 0 ((μ 0 10 0) - 1) μ (fun v1 μ2 => Q v1 μ2)
set_option maxRecDepth 100000 in
set_option maxHeartbeats 4000000 in
theorem wX11_isTrain {Q : Int → MM → Prop} {x1 : Int} {μ : MM} {H : Heap} {locs : List Loc} {ls : Array Slot} (F : CallFix p m c cX11_isTrain 2 s args uw RX11) (hA : ∀ q : Nat, s.heap.size ≤ q → A q) (hR : 1 ≤ R.frames ∧ 22 ≤ R.locals) (ret : RetZ p l e R s m args below meth c cX11_isTrain Qf dmR cfR tyR exR D cy ad A Q) (h : wpX11_isTrain x1 μ Q) (hw : wdR D cy ad A μ s H) (hS : va_S A s.heap H locs) (hl : lv_has ls 2 [(0, .ref (ad 0 0)), (1, .int (iI x1))]) : W p l e R s m args below meth c H locs 0 0 Qf (F0 m 0 ls []) := by
  have hx := F.1
  have hb := F.2.1
  have hown := F.2.2.2.1
  have hts := F.2.2.2.2
  refine lv_iload_n hx hb dX11_isTrain_0 rfl (lv_at hl 1 rfl) ?_
  refine q_iconst hx hb dX11_isTrain_1 ?_
  refine lv_aload_n hx hb dX11_isTrain_2 rfl (lv_at hl 0 rfl) ?_
  refine gR_trains F hw tw5_148 dX11_isTrain_3 ?_
  refine q_iconst hx hb dX11_isTrain_6 ?_
  refine q_isub hx hb dX11_isTrain_7 ?_
  refine call_S hexR F (kX11_in h) 3 tw6_77 tw1_8 tw6_76 tw6_75 hdX11_in ⟨Nat.le_trans (by decide) hR.1, Nat.le_trans (by decide) hR.2⟩ hA hw hS rfl hl.1 rfl (Nat.le_of_ble_eq_true rfl) dX11_isTrain_8 (fun v1 μ2 H locs h hw hS => ?_)
  obtain ⟨z3, h⟩ := h
  exact ret _ _ _ _ _ _ z3 h hw hS dX11_isTrain_11
set_option maxRecDepth 100000 in
set_option maxHeartbeats 4000000 in
theorem kX11_isTrain {l : Launch} {D : va_G} {cy : Nat → ClassId} {ad : AD} {A : Nat → Prop} {x1 : Int} {μ : MM} {Q : Int → MM → Prop} (h : wpX11_isTrain x1 μ Q) : Met l yX11_isTrain (Cond.code yX11_isTrain cX11_isTrain 2 (some .boolean) :: uw) (rmm 1 22) (wPc [.ref (ad 0 0), .int (iI x1)] dmR cfR tyR exR D cy ad A μ) (wQ vI (fun v u => (v = 0 ∨ v = 1) ∧ Q v u) dmR cfR D cy ad A) 0 0 A :=
  met_of (by decide) (Nat.le_of_ble_eq_true rfl) (fun p e R s m args below meth c ls hr hk hRR F hA hw hS hl => wX11_isTrain F hA (by subst hRR; exact ⟨Nat.le_refl _, Nat.le_refl _⟩) (retZ2_of F hr hk) h hw hS hl)
theorem hdX11_isTrain : yX11_isTrain.cls ≠ "java/lang/invoke/MethodHandle" ∧ yX11_isTrain.cls ≠ "java/lang/invoke/VarHandle" ∧ (parseMethodDescriptor yX11_isTrain.desc).map (fun d => d.parameters.length) = some 1 := by decide +kernel
def wpX11_askedNotch (x1 : Int) (x2 : Int) (μ : MM) (Q : Int → MM → Prop) : Prop := wpX11_isTrain x1 μ (fun v1 μ2 => if v1 = 0 then (Q (-1) μ2) else (0 ≤ x1 ∧ (x1 < 16 ∧ (rg (μ2 11 0 x1) ∧ (if (μ2 11 0 x1) = 0 then (wpX11_meets 3 μ2 (fun v15 μ16 => Q v15 μ16)) else (wpX11_in x2 0 ((μ2 12 0 x1) - 1) μ2 (fun v9 μ10 => if v9 = 0 then (wpX11_meets 2 μ10 (fun v13 μ14 => Q v13 μ14)) else (Q 0 μ10))))))))
set_option maxRecDepth 100000 in
set_option maxHeartbeats 4000000 in
theorem wX11_askedNotch {Q : Int → MM → Prop} {x1 : Int} {x2 : Int} {μ : MM} {H : Heap} {locs : List Loc} {ls : Array Slot} (F : CallFix p m c cX11_askedNotch 3 s args uw RX11) (hA : ∀ q : Nat, s.heap.size ≤ q → A q) (hR : 2 ≤ R.frames ∧ 43 ≤ R.locals) (ret : RetI p l e R s m args below meth c cX11_askedNotch Qf dmR cfR tyR exR D cy ad A Q) (h : wpX11_askedNotch x1 x2 μ Q) (hw : wdR D cy ad A μ s H) (hS : va_S A s.heap H locs) (hl : lv_has ls 3 [(0, .ref (ad 0 0)), (1, .int (iI x1)), (2, .int (iI x2))]) : W p l e R s m args below meth c H locs 0 0 Qf (F0 m 0 ls []) := by
  have hx := F.1
  have hb := F.2.1
  have hown := F.2.2.2.1
  have hts := F.2.2.2.2
  refine lv_aload_n hx hb dX11_askedNotch_0 rfl (lv_at hl 0 rfl) ?_
  refine lv_iload_n hx hb dX11_askedNotch_1 rfl (lv_at hl 1 rfl) ?_
  refine call_V hexR F (kX11_isTrain h) 1 tw6_137 tw1_8 tw6_136 tws3_0 tw6_134 hdX11_isTrain ⟨Nat.le_trans (by decide) hR.1, Nat.le_trans (by decide) hR.2⟩ (hw.recv (k := 0) (i := 0) ⟨rfl, Or.inl rfl⟩ rfl rfl) hA hw hS rfl hl.1 rfl (Nat.le_of_ble_eq_true rfl) dX11_askedNotch_2 (fun v1 μ2 H locs h hw hS => ?_)
  obtain ⟨z3, h⟩ := h
  refine q_if_ne (tgt := 12) hx hb (rgB z3) dX11_askedNotch_5 (by decide) (fun c4 => ?_) (fun c4 => ?_)
  · have h := ite_f c4 h
    refine lv_aload_n hx hb dX11_askedNotch_12 rfl (lv_at hl 0 rfl) ?_
    refine gR_kinds F hw tw5_149 dX11_askedNotch_13 ?_
    refine lv_iload_n hx hb dX11_askedNotch_16 rfl (lv_at hl 1 rfl) ?_
    obtain ⟨g5, h⟩ := h
    obtain ⟨g6, h⟩ := h
    refine aR_ild (L := 16) hx hb hw 10 rfl rfl (by decide) g5 g6 dX11_askedNotch_17 ?_
    obtain ⟨g7, h⟩ := h
    refine q_if_ne (tgt := 29) hx hb g7 dX11_askedNotch_18 (by decide) (fun c8 => ?_) (fun c8 => ?_)
    · have h := ite_f c8 h
      refine lv_iload_n hx hb dX11_askedNotch_29 rfl (lv_at hl 2 rfl) ?_
      refine q_iconst hx hb dX11_askedNotch_30 ?_
      refine lv_aload_n hx hb dX11_askedNotch_31 rfl (lv_at hl 0 rfl) ?_
      refine gR_many F hw tw5_150 dX11_askedNotch_32 ?_
      refine lv_iload_n hx hb dX11_askedNotch_35 rfl (lv_at hl 1 rfl) ?_
      refine aR_ild (L := 16) hx hb hw 11 rfl rfl (by decide) g5 g6 dX11_askedNotch_36 ?_
      refine q_iconst hx hb dX11_askedNotch_37 ?_
      refine q_isub hx hb dX11_askedNotch_38 ?_
      refine call_S hexR F (kX11_in h) 3 tw6_77 tw1_8 tw6_76 tw6_75 hdX11_in ⟨Nat.le_trans (by decide) hR.1, Nat.le_trans (by decide) hR.2⟩ hA hw hS rfl hl.1 rfl (Nat.le_of_ble_eq_true rfl) dX11_askedNotch_39 (fun v9 μ10 H locs h hw hS => ?_)
      obtain ⟨z11, h⟩ := h
      refine q_if_eq (tgt := 49) hx hb (rgB z11) dX11_askedNotch_42 (by decide) (fun c12 => ?_) (fun c12 => ?_)
      · have h := ite_t c12 h
        refine lv_aload_n hx hb dX11_askedNotch_49 rfl (lv_at hl 0 rfl) ?_
        refine q_iconst hx hb dX11_askedNotch_50 ?_
        refine call_V hexR F (kX11_meets h) 1 tw6_81 tw1_8 tw6_80 tws2_10 tw6_78 hdX11_meets ⟨Nat.le_trans (by decide) hR.1, Nat.le_trans (by decide) hR.2⟩ (hw.recv (k := 0) (i := 0) ⟨rfl, Or.inl rfl⟩ rfl rfl) hA hw hS rfl hl.1 rfl (Nat.le_of_ble_eq_true rfl) dX11_askedNotch_51 (fun v13 μ14 H locs h hw hS => ?_)
        exact ret _ _ _ _ _ _ h hw hS dX11_askedNotch_54
      · have h := ite_f c12 h
        refine q_iconst hx hb dX11_askedNotch_45 ?_
        refine lv_goto (tgt := 54) hx hb dX11_askedNotch_46 (by decide) ?_
        exact ret _ _ _ _ _ _ h hw hS dX11_askedNotch_54
    · have h := ite_t c8 h
      refine lv_aload_n hx hb dX11_askedNotch_21 rfl (lv_at hl 0 rfl) ?_
      refine q_iconst hx hb dX11_askedNotch_22 ?_
      refine call_V hexR F (kX11_meets h) 1 tw6_81 tw1_8 tw6_80 tws2_10 tw6_78 hdX11_meets ⟨Nat.le_trans (by decide) hR.1, Nat.le_trans (by decide) hR.2⟩ (hw.recv (k := 0) (i := 0) ⟨rfl, Or.inl rfl⟩ rfl rfl) hA hw hS rfl hl.1 rfl (Nat.le_of_ble_eq_true rfl) dX11_askedNotch_23 (fun v15 μ16 H locs h hw hS => ?_)
      refine lv_goto (tgt := 54) hx hb dX11_askedNotch_26 (by decide) ?_
      exact ret _ _ _ _ _ _ h hw hS dX11_askedNotch_54
  · have h := ite_t c4 h
    refine q_iconst hx hb dX11_askedNotch_8 ?_
    refine lv_goto (tgt := 54) hx hb dX11_askedNotch_9 (by decide) ?_
    exact ret _ _ _ _ _ _ h hw hS dX11_askedNotch_54
set_option maxRecDepth 100000 in
set_option maxHeartbeats 4000000 in
theorem kX11_askedNotch {l : Launch} {D : va_G} {cy : Nat → ClassId} {ad : AD} {A : Nat → Prop} {x1 : Int} {x2 : Int} {μ : MM} {Q : Int → MM → Prop} (h : wpX11_askedNotch x1 x2 μ Q) : Met l yX11_askedNotch (Cond.code yX11_askedNotch cX11_askedNotch 3 (some .int) :: uw) (rmm 2 43) (wPc [.ref (ad 0 0), .int (iI x1), .int (iI x2)] dmR cfR tyR exR D cy ad A μ) (wQ vI Q dmR cfR D cy ad A) 0 0 A :=
  met_of (by decide) (Nat.le_of_ble_eq_true rfl) (fun p e R s m args below meth c ls hr hk hRR F hA hw hS hl => wX11_askedNotch F hA (by subst hRR; exact ⟨Nat.le_refl _, Nat.le_refl _⟩) (retI_of F hr hk) h hw hS hl)
theorem hdX11_askedNotch : yX11_askedNotch.cls ≠ "java/lang/invoke/MethodHandle" ∧ yX11_askedNotch.cls ≠ "java/lang/invoke/VarHandle" ∧ (parseMethodDescriptor yX11_askedNotch.desc).map (fun d => d.parameters.length) = some 2 := by decide +kernel
def wpX11_placeOf (x0 : Int) (x1 : Int) (μ : MM) (Q : Int → MM → Prop) : Prop := rg x1 ∧ (if x1 = 0 then (Q ((2 * x0) + 0) μ) else (Q ((2 * x0) + 1) μ))
set_option maxRecDepth 100000 in
set_option maxHeartbeats 4000000 in
theorem wX11_placeOf {Q : Int → MM → Prop} {x0 : Int} {x1 : Int} {μ : MM} {H : Heap} {locs : List Loc} {ls : Array Slot} (F : CallFix p m c cX11_placeOf 2 s args uw RX11) (hA : ∀ q : Nat, s.heap.size ≤ q → A q) (hR : 0 ≤ R.frames ∧ 0 ≤ R.locals) (ret : RetI p l e R s m args below meth c cX11_placeOf Qf dmR cfR tyR exR D cy ad A Q) (h : wpX11_placeOf x0 x1 μ Q) (hw : wdR D cy ad A μ s H) (hS : va_S A s.heap H locs) (hl : lv_has ls 2 [(0, .int (iI x0)), (1, .int (iI x1))]) : W p l e R s m args below meth c H locs 0 0 Qf (F0 m 0 ls []) := by
  have hx := F.1
  have hb := F.2.1
  have hown := F.2.2.2.1
  have hts := F.2.2.2.2
  refine q_iconst hx hb dX11_placeOf_0 ?_
  refine lv_iload_n hx hb dX11_placeOf_1 rfl (lv_at hl 0 rfl) ?_
  refine q_imul hx hb dX11_placeOf_2 ?_
  refine lv_iload_n hx hb dX11_placeOf_3 rfl (lv_at hl 1 rfl) ?_
  obtain ⟨g1, h⟩ := h
  refine q_if_eq (tgt := 11) hx hb g1 dX11_placeOf_4 (by decide) (fun c2 => ?_) (fun c2 => ?_)
  · have h := ite_t c2 h
    refine q_iconst hx hb dX11_placeOf_11 ?_
    refine q_iadd hx hb dX11_placeOf_12 ?_
    exact ret _ _ _ _ _ _ h hw hS dX11_placeOf_13
  · have h := ite_f c2 h
    refine q_iconst hx hb dX11_placeOf_7 ?_
    refine lv_goto (tgt := 12) hx hb dX11_placeOf_8 (by decide) ?_
    refine q_iadd hx hb dX11_placeOf_12 ?_
    exact ret _ _ _ _ _ _ h hw hS dX11_placeOf_13
set_option maxRecDepth 100000 in
set_option maxHeartbeats 4000000 in
theorem kX11_placeOf {l : Launch} {D : va_G} {cy : Nat → ClassId} {ad : AD} {A : Nat → Prop} {x0 : Int} {x1 : Int} {μ : MM} {Q : Int → MM → Prop} (h : wpX11_placeOf x0 x1 μ Q) : Met l yX11_placeOf (Cond.code yX11_placeOf cX11_placeOf 2 (some .int) :: uw) (rmm 0 0) (wPc [.int (iI x0), .int (iI x1)] dmR cfR tyR exR D cy ad A μ) (wQ vI Q dmR cfR D cy ad A) 0 0 A :=
  met_of (by decide) (Nat.le_of_ble_eq_true rfl) (fun p e R s m args below meth c ls hr hk hRR F hA hw hS hl => wX11_placeOf F hA (by subst hRR; exact ⟨Nat.le_refl _, Nat.le_refl _⟩) (retI_of F hr hk) h hw hS hl)
theorem hdX11_placeOf : yX11_placeOf.cls ≠ "java/lang/invoke/MethodHandle" ∧ yX11_placeOf.cls ≠ "java/lang/invoke/VarHandle" ∧ (parseMethodDescriptor yX11_placeOf.desc).map (fun d => d.parameters.length) = some 2 := by decide +kernel
def wpX11_askedPlace (x1 : Int) (x2 : Int) (μ : MM) (Q : Int → MM → Prop) : Prop := wpX11_askedFor x1 μ (fun v1 μ2 => rg v1 ∧ (if 0 ≤ v1 then (wpX11_placeOf x1 x2 μ2 (fun v5 μ6 => 0 ≤ v5 ∧ (v5 < 8 ∧ (rg (μ6 35 0 v5) ∧ (if 0 ≤ (μ6 35 0 v5) then (Q 0 μ6) else (wpX11_meets 1 μ6 (fun v11 μ12 => Q v11 μ12))))))) else (Q v1 μ2)))
set_option maxRecDepth 100000 in
set_option maxHeartbeats 4000000 in
theorem wX11_askedPlace {Q : Int → MM → Prop} {x1 : Int} {x2 : Int} {μ : MM} {H : Heap} {locs : List Loc} {ls : Array Slot} (F : CallFix p m c cX11_askedPlace 4 s args uw RX11) (hA : ∀ q : Nat, s.heap.size ≤ q → A q) (hR : 3 ≤ R.frames ∧ 63 ≤ R.locals) (ret : RetI p l e R s m args below meth c cX11_askedPlace Qf dmR cfR tyR exR D cy ad A Q) (h : wpX11_askedPlace x1 x2 μ Q) (hw : wdR D cy ad A μ s H) (hS : va_S A s.heap H locs) (hl : lv_has ls 4 [(0, .ref (ad 0 0)), (1, .int (iI x1)), (2, .int (iI x2))]) : W p l e R s m args below meth c H locs 0 0 Qf (F0 m 0 ls []) := by
  have hx := F.1
  have hb := F.2.1
  have hown := F.2.2.2.1
  have hts := F.2.2.2.2
  refine lv_aload_n hx hb dX11_askedPlace_0 rfl (lv_at hl 0 rfl) ?_
  refine lv_iload_n hx hb dX11_askedPlace_1 rfl (lv_at hl 1 rfl) ?_
  refine call_V hexR F (kX11_askedFor h) 1 tw6_216 tw1_8 tw6_215 tws3_7 tw6_213 hdX11_askedFor ⟨Nat.le_trans (by decide) hR.1, Nat.le_trans (by decide) hR.2⟩ (hw.recv (k := 0) (i := 0) ⟨rfl, Or.inl rfl⟩ rfl rfl) hA hw hS rfl hl.1 rfl (Nat.le_of_ble_eq_true rfl) dX11_askedPlace_2 (fun v1 μ2 H locs h hw hS => ?_)
  refine lv_istore_n (lv' := [(3, .int (iI v1)), (0, .ref (ad 0 0)), (1, .int (iI x1)), (2, .int (iI x2))]) hx hb dX11_askedPlace_5 rfl hl (by decide) rfl (fun ls hl => ?_)
  refine lv_iload_n hx hb dX11_askedPlace_6 rfl (lv_at hl 0 rfl) ?_
  obtain ⟨g3, h⟩ := h
  refine q_if_ge (tgt := 14) hx hb g3 dX11_askedPlace_7 (by decide) (fun c4 => ?_) (fun c4 => ?_)
  · have h := ite_t c4 h
    refine lv_aload_n hx hb dX11_askedPlace_14 rfl (lv_at hl 1 rfl) ?_
    refine gR_hung F hw tw5_173 dX11_askedPlace_15 ?_
    refine lv_iload_n hx hb dX11_askedPlace_18 rfl (lv_at hl 2 rfl) ?_
    refine lv_iload_n hx hb dX11_askedPlace_19 rfl (lv_at hl 3 rfl) ?_
    refine call_S hexR F (kX11_placeOf h) 2 tw6_204 tw1_8 tw6_203 tw6_202 hdX11_placeOf ⟨Nat.le_trans (by decide) hR.1, Nat.le_trans (by decide) hR.2⟩ hA hw hS rfl hl.1 rfl (Nat.le_of_ble_eq_true rfl) dX11_askedPlace_20 (fun v5 μ6 H locs h hw hS => ?_)
    obtain ⟨g7, h⟩ := h
    obtain ⟨g8, h⟩ := h
    refine aR_ild (L := 8) hx hb hw 34 rfl rfl (by decide) g7 g8 dX11_askedPlace_23 ?_
    obtain ⟨g9, h⟩ := h
    refine q_if_ge (tgt := 35) hx hb g9 dX11_askedPlace_24 (by decide) (fun c10 => ?_) (fun c10 => ?_)
    · have h := ite_t c10 h
      refine q_iconst hx hb dX11_askedPlace_35 ?_
      exact ret _ _ _ _ _ _ h hw hS dX11_askedPlace_36
    · have h := ite_f c10 h
      refine lv_aload_n hx hb dX11_askedPlace_27 rfl (lv_at hl 1 rfl) ?_
      refine q_iconst hx hb dX11_askedPlace_28 ?_
      refine call_V hexR F (kX11_meets h) 1 tw6_81 tw1_8 tw6_80 tws2_10 tw6_78 hdX11_meets ⟨Nat.le_trans (by decide) hR.1, Nat.le_trans (by decide) hR.2⟩ (hw.recv (k := 0) (i := 0) ⟨rfl, Or.inl rfl⟩ rfl rfl) hA hw hS rfl hl.1 rfl (Nat.le_of_ble_eq_true rfl) dX11_askedPlace_29 (fun v11 μ12 H locs h hw hS => ?_)
      refine lv_goto (tgt := 36) hx hb dX11_askedPlace_32 (by decide) ?_
      exact ret _ _ _ _ _ _ h hw hS dX11_askedPlace_36
  · have h := ite_f c4 h
    refine lv_iload_n hx hb dX11_askedPlace_10 rfl (lv_at hl 0 rfl) ?_
    refine lv_goto (tgt := 36) hx hb dX11_askedPlace_11 (by decide) ?_
    exact ret _ _ _ _ _ _ h hw hS dX11_askedPlace_36
set_option maxRecDepth 100000 in
set_option maxHeartbeats 4000000 in
theorem kX11_askedPlace {l : Launch} {D : va_G} {cy : Nat → ClassId} {ad : AD} {A : Nat → Prop} {x1 : Int} {x2 : Int} {μ : MM} {Q : Int → MM → Prop} (h : wpX11_askedPlace x1 x2 μ Q) : Met l yX11_askedPlace (Cond.code yX11_askedPlace cX11_askedPlace 4 (some .int) :: uw) (rmm 3 63) (wPc [.ref (ad 0 0), .int (iI x1), .int (iI x2)] dmR cfR tyR exR D cy ad A μ) (wQ vI Q dmR cfR D cy ad A) 0 0 A :=
  met_of (by decide) (Nat.le_of_ble_eq_true rfl) (fun p e R s m args below meth c ls hr hk hRR F hA hw hS hl => wX11_askedPlace F hA (by subst hRR; exact ⟨Nat.le_refl _, Nat.le_refl _⟩) (retI_of F hr hk) h hw hS hl)
theorem hdX11_askedPlace : yX11_askedPlace.cls ≠ "java/lang/invoke/MethodHandle" ∧ yX11_askedPlace.cls ≠ "java/lang/invoke/VarHandle" ∧ (parseMethodDescriptor yX11_askedPlace.desc).map (fun d => d.parameters.length) = some 2 := by decide +kernel
def wpX11_isPlate_J20 (Q : Int → MM → Prop) (μ : MM) : Prop := Q 1 μ
set_option maxRecDepth 100000 in
set_option maxHeartbeats 4000000 in
theorem wX11_isPlate_J20 {Q : Int → MM → Prop} {μ : MM} {H : Heap} {locs : List Loc} {ls : Array Slot} (F : CallFix p m c cX11_isPlate 2 s args uw RX11) (hA : ∀ q : Nat, s.heap.size ≤ q → A q) (hR : 0 ≤ R.frames ∧ 0 ≤ R.locals) (ret : RetZ p l e R s m args below meth c cX11_isPlate Qf dmR cfR tyR exR D cy ad A Q) (h : wpX11_isPlate_J20 Q μ) (hw : wdR D cy ad A μ s H) (hS : va_S A s.heap H locs) (hl : lv_has ls 2 []) : W p l e R s m args below meth c H locs 0 0 Qf (F0 m 20 ls []) := by
  have hx := F.1
  have hb := F.2.1
  have hown := F.2.2.2.1
  have hts := F.2.2.2.2
  refine q_iconst hx hb dX11_isPlate_20 ?_
  refine lv_goto (tgt := 25) hx hb dX11_isPlate_21 (by decide) ?_
  exact ret _ _ _ _ _ _ (Or.inr rfl) h hw hS dX11_isPlate_25
def wpX11_isPlate (x1 : Int) (μ : MM) (Q : Int → MM → Prop) : Prop := 0 ≤ x1 ∧ (x1 < 16 ∧ (rg (μ 11 0 x1) ∧ (if (μ 11 0 x1) = 1 then (wpX11_isPlate_J20 Q  μ) else (if (μ 11 0 x1) = 3 then (wpX11_isPlate_J20 Q  μ) else (Q 0 μ)))))
set_option maxRecDepth 100000 in
set_option maxHeartbeats 4000000 in
theorem wX11_isPlate {Q : Int → MM → Prop} {x1 : Int} {μ : MM} {H : Heap} {locs : List Loc} {ls : Array Slot} (F : CallFix p m c cX11_isPlate 2 s args uw RX11) (hA : ∀ q : Nat, s.heap.size ≤ q → A q) (hR : 0 ≤ R.frames ∧ 0 ≤ R.locals) (ret : RetZ p l e R s m args below meth c cX11_isPlate Qf dmR cfR tyR exR D cy ad A Q) (h : wpX11_isPlate x1 μ Q) (hw : wdR D cy ad A μ s H) (hS : va_S A s.heap H locs) (hl : lv_has ls 2 [(0, .ref (ad 0 0)), (1, .int (iI x1))]) : W p l e R s m args below meth c H locs 0 0 Qf (F0 m 0 ls []) := by
  have hx := F.1
  have hb := F.2.1
  have hown := F.2.2.2.1
  have hts := F.2.2.2.2
  refine lv_aload_n hx hb dX11_isPlate_0 rfl (lv_at hl 0 rfl) ?_
  refine gR_kinds F hw tw5_149 dX11_isPlate_1 ?_
  refine lv_iload_n hx hb dX11_isPlate_4 rfl (lv_at hl 1 rfl) ?_
  obtain ⟨g1, h⟩ := h
  obtain ⟨g2, h⟩ := h
  refine aR_ild (L := 16) hx hb hw 10 rfl rfl (by decide) g1 g2 dX11_isPlate_5 ?_
  refine q_iconst hx hb dX11_isPlate_6 ?_
  obtain ⟨g3, h⟩ := h
  refine q_icmp_eq (tgt := 20) hx hb g3 (by decide) dX11_isPlate_7 (by decide) (fun c4 => ?_) (fun c4 => ?_)
  · have h := ite_t c4 h
    exact wX11_isPlate_J20 F hA hR ret h hw hS (lv_sub hl [] rfl)
  · have h := ite_f c4 h
    refine lv_aload_n hx hb dX11_isPlate_10 rfl (lv_at hl 0 rfl) ?_
    refine gR_kinds F hw tw5_149 dX11_isPlate_11 ?_
    refine lv_iload_n hx hb dX11_isPlate_14 rfl (lv_at hl 1 rfl) ?_
    refine aR_ild (L := 16) hx hb hw 10 rfl rfl (by decide) g1 g2 dX11_isPlate_15 ?_
    refine q_iconst hx hb dX11_isPlate_16 ?_
    refine q_icmp_ne (tgt := 24) hx hb g3 (by decide) dX11_isPlate_17 (by decide) (fun c5 => ?_) (fun c5 => ?_)
    · have h := ite_f c5 h
      refine q_iconst hx hb dX11_isPlate_24 ?_
      exact ret _ _ _ _ _ _ (Or.inl rfl) h hw hS dX11_isPlate_25
    · have h := ite_t c5 h
      exact wX11_isPlate_J20 F hA hR ret h hw hS (lv_sub hl [] rfl)
set_option maxRecDepth 100000 in
set_option maxHeartbeats 4000000 in
theorem kX11_isPlate {l : Launch} {D : va_G} {cy : Nat → ClassId} {ad : AD} {A : Nat → Prop} {x1 : Int} {μ : MM} {Q : Int → MM → Prop} (h : wpX11_isPlate x1 μ Q) : Met l yX11_isPlate (Cond.code yX11_isPlate cX11_isPlate 2 (some .boolean) :: uw) (rmm 0 0) (wPc [.ref (ad 0 0), .int (iI x1)] dmR cfR tyR exR D cy ad A μ) (wQ vI (fun v u => (v = 0 ∨ v = 1) ∧ Q v u) dmR cfR D cy ad A) 0 0 A :=
  met_of (by decide) (Nat.le_of_ble_eq_true rfl) (fun p e R s m args below meth c ls hr hk hRR F hA hw hS hl => wX11_isPlate F hA (by subst hRR; exact ⟨Nat.le_refl _, Nat.le_refl _⟩) (retZ2_of F hr hk) h hw hS hl)
theorem hdX11_isPlate : yX11_isPlate.cls ≠ "java/lang/invoke/MethodHandle" ∧ yX11_isPlate.cls ≠ "java/lang/invoke/VarHandle" ∧ (parseMethodDescriptor yX11_isPlate.desc).map (fun d => d.parameters.length) = some 1 := by decide +kernel
end
