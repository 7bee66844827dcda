section
variable {p : Program} {l : Launch} {e : Env} {R : Room} {s : State} {m : MethodId} {args : Array Value} {below : List Frame} {meth : Method} {c : Code} {Qf : State → Prop} {D : va_G} {cy : Nat → ClassId} {ad : AD} {A : Nat → Prop}
def wpX11_forward_L28 (Q : Int → MM → Prop) : Nat → Int → Int → Int → MM → Prop
  | 0, _, _, _, _ => False
  | n + 1, x1, x2, x4, μ => rg x4 ∧ (rg x2 ∧ (if x2 ≤ x4 then (0 ≤ x1 ∧ (x1 < 4 ∧ (Q (μ 27 0 x1) μ))) else (wpX11_stepOn x1 μ (fun v6 μ7 => wpX11_forward_L28 Q n x1 x2 (x4 + 1) μ7))))
set_option maxRecDepth 100000 in
set_option maxHeartbeats 4000000 in
theorem wX11_forward_L28 {Q : Int → MM → Prop} (F : CallFix p m c cX11_forward 5 s args uw RX11) (hA : ∀ q : Nat, s.heap.size ≤ q → A q) (hR : 5 ≤ R.frames ∧ 111 ≤ R.locals) (ret : RetI p l e R s m args below meth c cX11_forward Qf dmR cfR tyR exR D cy ad A Q) : ∀ (n : Nat) (x1 x2 x4 : Int) (μ : MM) (H : Heap) (locs : List Loc) (ls : Array Slot), wpX11_forward_L28 Q n x1 x2 x4 μ → wdR D cy ad A μ s H → va_S A s.heap H locs → lv_has ls 5 [(0, .ref (ad 0 0)), (1, .int (iI x1)), (2, .int (iI x2)), (4, .int (iI x4))] → W p l e R s m args below meth c H locs 0 0 Qf (F0 m 28 ls []) := by
  have hx := F.1
  have hb := F.2.1
  have hown := F.2.2.2.1
  have hts := F.2.2.2.2
  intro n
  induction n with
  | zero =>
    intro x1 x2 x4 μ H locs ls h hw hS hl
    exact h.elim
  | succ n ih =>
    intro x1 x2 x4 μ H locs ls h hw hS hl
    refine lv_iload hx hb dX11_forward_28 (lv_at hl 3 rfl) ?_
    refine lv_iload_n hx hb dX11_forward_30 rfl (lv_at hl 2 rfl) ?_
    obtain ⟨g1, h⟩ := h
    obtain ⟨g2, h⟩ := h
    refine q_icmp_ge (tgt := 45) hx hb g1 g2 dX11_forward_31 (by decide) (fun c3 => ?_) (fun c3 => ?_)
    · have h := ite_t c3 h
      refine lv_aload_n hx hb dX11_forward_45 rfl (lv_at hl 0 rfl) ?_
      refine gR_handsAt F hw tw5_165 dX11_forward_46 ?_
      refine lv_iload_n hx hb dX11_forward_49 rfl (lv_at hl 1 rfl) ?_
      obtain ⟨g4, h⟩ := h
      obtain ⟨g5, h⟩ := h
      refine aR_ild (L := 4) hx hb hw 26 rfl rfl (by decide) g4 g5 dX11_forward_50 ?_
      exact ret _ _ _ _ _ _ h hw hS dX11_forward_51
    · have h := ite_f c3 h
      refine lv_aload_n hx hb dX11_forward_34 rfl (lv_at hl 0 rfl) ?_
      refine lv_iload_n hx hb dX11_forward_35 rfl (lv_at hl 1 rfl) ?_
      refine call_V hexR F (kX11_stepOn h) 1 tw6_228 tw1_8 tw6_227 tws3_8 tw6_225 hdX11_stepOn ⟨Nat.le_trans (by decide) hR.1, Nat.le_trans (by decide) hR.2⟩ (hw.recv (k := 0) (i := 0) ⟨rfl, Or.inl rfl⟩ rfl rfl) hA hw hS rfl hl.1 rfl (Nat.le_of_ble_eq_true rfl) dX11_forward_36 (fun v6 μ7 H locs h hw hS => ?_)
      refine q_iinc (k := 3) (lv' := [(4, .int (iI (x4 + 1))), (0, .ref (ad 0 0)), (1, .int (iI x1)), (2, .int (iI x2))]) hx hb dX11_forward_39 hl rfl (by decide) rfl (fun ls hl => ?_)
      refine lv_goto (tgt := 28) hx hb dX11_forward_42 (by decide) ?_
      exact ih x1 x2 (x4 + 1) _ _ _ _ h hw hS (lv_sub hl [1, 2, 3, 0] rfl)
def wpX11_forward (x1 : Int) (x2 : Int) (μ : MM) (Q : Int → MM → Prop) : Prop := wpX11_in x2 0 1500 μ (fun v1 μ2 => if v1 = 0 then (Q (-1) μ2) else (wpX11_askedFor x1 μ2 (fun v5 μ6 => rg v5 ∧ (if 0 ≤ v5 then (∃ n9 : Nat, wpX11_forward_L28 Q n9 x1 x2 0 μ6) else (Q v5 μ6)))))
set_option maxRecDepth 100000 in
set_option maxHeartbeats 4000000 in
theorem wX11_forward {Q : Int → MM → Prop} {x1 : Int} {x2 : Int} {μ : MM} {H : Heap} {locs : List Loc} {ls : Array Slot} (F : CallFix p m c cX11_forward 5 s args uw RX11) (hA : ∀ q : Nat, s.heap.size ≤ q → A q) (hR : 5 ≤ R.frames ∧ 111 ≤ R.locals) (ret : RetI p l e R s m args below meth c cX11_forward Qf dmR cfR tyR exR D cy ad A Q) (h : wpX11_forward x1 x2 μ Q) (hw : wdR D cy ad A μ s H) (hS : va_S A s.heap H locs) (hl : lv_has ls 5 [(0, .ref (ad 0 0)), (1, .int (iI x1)), (2, .int (iI x2))]) : W p l e R s m args below meth c H locs 0 0 Qf (F0 m 0 ls []) := by
  have hx := F.1
  have hb := F.2.1
  have hown := F.2.2.2.1
  have hts := F.2.2.2.2
  refine lv_iload_n hx hb dX11_forward_0 rfl (lv_at hl 2 rfl) ?_
  refine q_iconst hx hb dX11_forward_1 ?_
  refine q_sipush hx hb (by decide) dX11_forward_2 ?_
  refine call_S hexR F (kX11_in h) 3 tw6_77 tw1_8 tw6_76 tw6_75 hdX11_in ⟨Nat.le_trans (by decide) hR.1, Nat.le_trans (by decide) hR.2⟩ hA hw hS rfl hl.1 rfl (Nat.le_of_ble_eq_true rfl) dX11_forward_5 (fun v1 μ2 H locs h hw hS => ?_)
  obtain ⟨z3, h⟩ := h
  refine q_if_ne (tgt := 13) hx hb (rgB z3) dX11_forward_8 (by decide) (fun c4 => ?_) (fun c4 => ?_)
  · have h := ite_f c4 h
    refine lv_aload_n hx hb dX11_forward_13 rfl (lv_at hl 0 rfl) ?_
    refine lv_iload_n hx hb dX11_forward_14 rfl (lv_at hl 1 rfl) ?_
    refine call_V hexR F (kX11_askedFor h) 1 tw6_216 tw1_8 tw6_215 tws3_7 tw6_213 hdX11_askedFor ⟨Nat.le_trans (by decide) hR.1, Nat.le_trans (by decide) hR.2⟩ (hw.recv (k := 0) (i := 0) ⟨rfl, Or.inl rfl⟩ rfl rfl) hA hw hS rfl hl.1 rfl (Nat.le_of_ble_eq_true rfl) dX11_forward_15 (fun v5 μ6 H locs h hw hS => ?_)
    refine lv_istore_n (lv' := [(3, .int (iI v5)), (0, .ref (ad 0 0)), (1, .int (iI x1)), (2, .int (iI x2))]) hx hb dX11_forward_18 rfl hl (by decide) rfl (fun ls hl => ?_)
    refine lv_iload_n hx hb dX11_forward_19 rfl (lv_at hl 0 rfl) ?_
    obtain ⟨g7, h⟩ := h
    refine q_if_ge (tgt := 25) hx hb g7 dX11_forward_20 (by decide) (fun c8 => ?_) (fun c8 => ?_)
    · have h := ite_t c8 h
      refine q_iconst hx hb dX11_forward_25 ?_
      refine lv_istore (lv' := [(4, .int (iI 0)), (3, .int (iI v5)), (0, .ref (ad 0 0)), (1, .int (iI x1)), (2, .int (iI x2))]) hx hb dX11_forward_26 hl (by decide) rfl (fun ls hl => ?_)
      obtain ⟨n9, h⟩ := h
      exact wX11_forward_L28 F hA hR ret n9 x1 x2 0 _ _ _ _ h hw hS (lv_sub hl [2, 3, 4, 0] rfl)
    · have h := ite_f c8 h
      refine lv_iload_n hx hb dX11_forward_23 rfl (lv_at hl 0 rfl) ?_
      exact ret _ _ _ _ _ _ h hw hS dX11_forward_24
  · have h := ite_t c4 h
    refine q_iconst hx hb dX11_forward_11 ?_
    exact ret _ _ _ _ _ _ h hw hS dX11_forward_12
set_option maxRecDepth 100000 in
set_option maxHeartbeats 4000000 in
theorem kX11_forward {l : Launch} {D : va_G} {cy : Nat → ClassId} {ad : AD} {A : Nat → Prop} {x1 : Int} {x2 : Int} {μ : MM} {Q : Int → MM → Prop} (h : wpX11_forward x1 x2 μ Q) : Met l yX11_forward (Cond.code yX11_forward cX11_forward 5 (some .int) :: uw) (rmm 5 111) (wPc [.ref (ad 0 0), .int (iI x1), .int (iI x2)] dmR cfR tyR exR D cy ad A μ) (wQ vI Q dmR cfR D cy ad A) 0 0 A :=
  met_of (by decide) (Nat.le_of_ble_eq_true rfl) (fun p e R s m args below meth c ls hr hk hRR F hA hw hS hl => wX11_forward F hA (by subst hRR; exact ⟨Nat.le_refl _, Nat.le_refl _⟩) (retI_of F hr hk) h hw hS hl)
theorem hdX11_forward : yX11_forward.cls ≠ "java/lang/invoke/MethodHandle" ∧ yX11_forward.cls ≠ "java/lang/invoke/VarHandle" ∧ (parseMethodDescriptor yX11_forward.desc).map (fun d => d.parameters.length) = some 2 := by decide +kernel
def wpX11_free_J22 (Q : Int → MM → Prop) (x1 : Int) (μ : MM) : Prop := 0 ≤ x1 ∧ (x1 < 8 ∧ (∀ μ3 : MM, μ3 = ms μ 35 0 x1 (-9) → (∀ μ4 : MM, μ4 = ms μ3 36 0 x1 0 → (Q 0 μ4))))
set_option maxRecDepth 100000 in
set_option maxHeartbeats 4000000 in
theorem wX11_free_J22 {Q : Int → MM → Prop} {x1 : Int} {μ : MM} {H : Heap} {locs : List Loc} {ls : Array Slot} (F : CallFix p m c cX11_free 2 s args uw RX11) (hA : ∀ q : Nat, s.heap.size ≤ q → A q) (hR : 0 ≤ R.frames ∧ 0 ≤ R.locals) (ret : RetV p l e R s m args below meth c cX11_free Qf dmR cfR tyR exR D cy ad A Q) (h : wpX11_free_J22 Q x1 μ) (hw : wdR D cy ad A μ s H) (hS : va_S A s.heap H locs) (hl : lv_has ls 2 [(0, .ref (ad 0 0)), (1, .int (iI x1))]) : W p l e R s m args below meth c H locs 0 0 Qf (F0 m 22 ls []) := by
  have hx := F.1
  have hb := F.2.1
  have hown := F.2.2.2.1
  have hts := F.2.2.2.2
  refine lv_aload_n hx hb dX11_free_22 rfl (lv_at hl 0 rfl) ?_
  refine gR_hung F hw tw5_173 dX11_free_23 ?_
  refine lv_iload_n hx hb dX11_free_26 rfl (lv_at hl 1 rfl) ?_
  refine q_bipush hx hb (by decide) dX11_free_27 ?_
  obtain ⟨g1, h⟩ := h
  obtain ⟨g2, h⟩ := h
  obtain ⟨μ3, eμ3⟩ : ∃ z : MM, z = ms μ 35 0 x1 (-9) := ⟨_, rfl⟩
  have h := h μ3 eμ3
  refine aR_ist (L := 8) hx hb hw hS 34 rfl rfl (by decide) g1 g2 eμ3 dX11_free_29 (fun H locs hw hS => ?_)
  refine lv_aload_n hx hb dX11_free_30 rfl (lv_at hl 0 rfl) ?_
  refine gR_isWarned F hw tw5_174 dX11_free_31 ?_
  refine lv_iload_n hx hb dX11_free_34 rfl (lv_at hl 1 rfl) ?_
  refine q_iconst hx hb dX11_free_35 ?_
  obtain ⟨μ4, eμ4⟩ : ∃ z : MM, z = ms μ3 36 0 x1 0 := ⟨_, rfl⟩
  have h := h μ4 eμ4
  refine aR_zst (L := 8) hx hb hw hS 35 rfl rfl (by decide) g1 g2 (Or.inl rfl) eμ4 dX11_free_36 (fun H locs hw hS => ?_)
  exact ret _ _ _ _ _ h hw hS dX11_free_37
def wpX11_free (x1 : Int) (μ : MM) (Q : Int → MM → Prop) : Prop := 0 ≤ x1 ∧ (x1 < 8 ∧ (rg (μ 35 0 x1) ∧ (if (μ 35 0 x1) < 0 then (wpX11_free_J22 Q x1 μ) else (0 ≤ (μ 35 0 x1) ∧ (μ 35 0 x1 < 16 ∧ (∀ μ7 : MM, μ7 = ms μ 22 0 (μ 35 0 x1) (-9) → (wpX11_free_J22 Q x1 μ7)))))))
set_option maxRecDepth 100000 in
set_option maxHeartbeats 4000000 in
theorem wX11_free {Q : Int → MM → Prop} {x1 : Int} {μ : MM} {H : Heap} {locs : List Loc} {ls : Array Slot} (F : CallFix p m c cX11_free 2 s args uw RX11) (hA : ∀ q : Nat, s.heap.size ≤ q → A q) (hR : 0 ≤ R.frames ∧ 0 ≤ R.locals) (ret : RetV p l e R s m args below meth c cX11_free Qf dmR cfR tyR exR D cy ad A Q) (h : wpX11_free x1 μ Q) (hw : wdR D cy ad A μ s H) (hS : va_S A s.heap H locs) (hl : lv_has ls 2 [(0, .ref (ad 0 0)), (1, .int (iI x1))]) : W p l e R s m args below meth c H locs 0 0 Qf (F0 m 0 ls []) := by
  have hx := F.1
  have hb := F.2.1
  have hown := F.2.2.2.1
  have hts := F.2.2.2.2
  refine lv_aload_n hx hb dX11_free_0 rfl (lv_at hl 0 rfl) ?_
  refine gR_hung F hw tw5_173 dX11_free_1 ?_
  refine lv_iload_n hx hb dX11_free_4 rfl (lv_at hl 1 rfl) ?_
  obtain ⟨g1, h⟩ := h
  obtain ⟨g2, h⟩ := h
  refine aR_ild (L := 8) hx hb hw 34 rfl rfl (by decide) g1 g2 dX11_free_5 ?_
  obtain ⟨g3, h⟩ := h
  refine q_if_lt (tgt := 22) hx hb g3 dX11_free_6 (by decide) (fun c4 => ?_) (fun c4 => ?_)
  · have h := ite_t c4 h
    exact wX11_free_J22 F hA hR ret h hw hS (lv_sub hl [0, 1] rfl)
  · have h := ite_f c4 h
    refine lv_aload_n hx hb dX11_free_9 rfl (lv_at hl 0 rfl) ?_
    refine gR_places F hw tw5_160 dX11_free_10 ?_
    refine lv_aload_n hx hb dX11_free_13 rfl (lv_at hl 0 rfl) ?_
    refine gR_hung F hw tw5_173 dX11_free_14 ?_
    refine lv_iload_n hx hb dX11_free_17 rfl (lv_at hl 1 rfl) ?_
    refine aR_ild (L := 8) hx hb hw 34 rfl rfl (by decide) g1 g2 dX11_free_18 ?_
    refine q_bipush hx hb (by decide) dX11_free_19 ?_
    obtain ⟨g5, h⟩ := h
    obtain ⟨g6, h⟩ := h
    obtain ⟨μ7, eμ7⟩ : ∃ z : MM, z = ms μ 22 0 (μ 35 0 x1) (-9) := ⟨_, rfl⟩
    have h := h μ7 eμ7
    refine aR_ist (L := 16) hx hb hw hS 21 rfl rfl (by decide) g5 g6 eμ7 dX11_free_21 (fun H locs hw hS => ?_)
    exact wX11_free_J22 F hA hR ret h hw hS (lv_sub hl [0, 1] rfl)
set_option maxRecDepth 100000 in
set_option maxHeartbeats 4000000 in
theorem kX11_free {l : Launch} {D : va_G} {cy : Nat → ClassId} {ad : AD} {A : Nat → Prop} {x1 : Int} {μ : MM} {Q : Int → MM → Prop} (h : wpX11_free x1 μ Q) : Met l yX11_free (Cond.code yX11_free cX11_free 2 none :: uw) (rmm 0 0) (wPc [.ref (ad 0 0), .int (iI x1)] dmR cfR tyR exR D cy ad A μ) (wQ vV Q dmR cfR D cy ad A) 0 0 A :=
  met_of (by decide) (Nat.le_of_ble_eq_true rfl) (fun p e R s m args below meth c ls hr hk hRR F hA hw hS hl => wX11_free F hA (by subst hRR; exact ⟨Nat.le_refl _, Nat.le_refl _⟩) (retV_of F hr hk) h hw hS hl)
theorem hdX11_free : yX11_free.cls ≠ "java/lang/invoke/MethodHandle" ∧ yX11_free.cls ≠ "java/lang/invoke/VarHandle" ∧ (parseMethodDescriptor yX11_free.desc).map (fun d => d.parameters.length) = some 1 := by decide +kernel
def wpX11_gear (x1 : Int) (x2 : Int) (x3 : Int) (μ : MM) (Q : Int → MM → Prop) : Prop := wpX11_isTrain x1 μ (fun v1 μ2 => if v1 = 0 then (Q (-1) μ2) else (wpX11_in x2 1 60 μ2 (fun v5 μ6 => if v5 = 0 then (Q (-1) μ6) else (wpX11_in x3 0 100000 μ6 (fun v9 μ10 => if v9 = 0 then (Q (-1) μ10) else (0 ≤ x1 ∧ (x1 < 16 ∧ (∀ y15 : Int, y15 = μ10 20 0 x1 → (∀ μ16 : MM, μ16 = ms μ10 18 0 x1 x2 → (∀ μ17 : MM, μ17 = ms μ16 19 0 x1 x3 → (∀ μ18 : MM, μ18 = ms μ17 20 0 x1 x3 → (Q y15 μ18))))))))))))
set_option maxRecDepth 100000 in
set_option maxHeartbeats 4000000 in
theorem wX11_gear {Q : Int → MM → Prop} {x1 : Int} {x2 : Int} {x3 : Int} {μ : MM} {H : Heap} {locs : List Loc} {ls : Array Slot} (F : CallFix p m c cX11_gear 5 s args uw RX11) (hA : ∀ q : Nat, s.heap.size ≤ q → A q) (hR : 2 ≤ R.frames ∧ 43 ≤ R.locals) (ret : RetI p l e R s m args below meth c cX11_gear Qf dmR cfR tyR exR D cy ad A Q) (h : wpX11_gear x1 x2 x3 μ Q) (hw : wdR D cy ad A μ s H) (hS : va_S A s.heap H locs) (hl : lv_has ls 5 [(0, .ref (ad 0 0)), (1, .int (iI x1)), (2, .int (iI x2)), (3, .int (iI x3))]) : W p l e R s m args below meth c H locs 0 0 Qf (F0 m 0 ls []) := by
  have hx := F.1
  have hb := F.2.1
  have hown := F.2.2.2.1
  have hts := F.2.2.2.2
  refine lv_aload_n hx hb dX11_gear_0 rfl (lv_at hl 0 rfl) ?_
  refine lv_iload_n hx hb dX11_gear_1 rfl (lv_at hl 1 rfl) ?_
  refine call_V hexR F (kX11_isTrain h) 1 tw6_137 tw1_8 tw6_136 tws3_0 tw6_134 hdX11_isTrain ⟨Nat.le_trans (by decide) hR.1, Nat.le_trans (by decide) hR.2⟩ (hw.recv (k := 0) (i := 0) ⟨rfl, Or.inl rfl⟩ rfl rfl) hA hw hS rfl hl.1 rfl (Nat.le_of_ble_eq_true rfl) dX11_gear_2 (fun v1 μ2 H locs h hw hS => ?_)
  obtain ⟨z3, h⟩ := h
  refine q_if_eq (tgt := 28) hx hb (rgB z3) dX11_gear_5 (by decide) (fun c4 => ?_) (fun c4 => ?_)
  · have h := ite_t c4 h
    refine q_iconst hx hb dX11_gear_28 ?_
    exact ret _ _ _ _ _ _ h hw hS dX11_gear_29
  · have h := ite_f c4 h
    refine lv_iload_n hx hb dX11_gear_8 rfl (lv_at hl 2 rfl) ?_
    refine q_iconst hx hb dX11_gear_9 ?_
    refine q_bipush hx hb (by decide) dX11_gear_10 ?_
    refine call_S hexR F (kX11_in h) 3 tw6_77 tw1_8 tw6_76 tw6_75 hdX11_in ⟨Nat.le_trans (by decide) hR.1, Nat.le_trans (by decide) hR.2⟩ hA hw hS rfl hl.1 rfl (Nat.le_of_ble_eq_true rfl) dX11_gear_12 (fun v5 μ6 H locs h hw hS => ?_)
    obtain ⟨z7, h⟩ := h
    refine q_if_eq (tgt := 28) hx hb (rgB z7) dX11_gear_15 (by decide) (fun c8 => ?_) (fun c8 => ?_)
    · have h := ite_t c8 h
      refine q_iconst hx hb dX11_gear_28 ?_
      exact ret _ _ _ _ _ _ h hw hS dX11_gear_29
    · have h := ite_f c8 h
      refine lv_iload_n hx hb dX11_gear_18 rfl (lv_at hl 3 rfl) ?_
      refine q_iconst hx hb dX11_gear_19 ?_
      refine q_ldc (n := 100000) hx hb hown (hts _ tw6_138) (by decide) dX11_gear_20 ?_
      refine call_S hexR F (kX11_in h) 3 tw6_77 tw1_8 tw6_76 tw6_75 hdX11_in ⟨Nat.le_trans (by decide) hR.1, Nat.le_trans (by decide) hR.2⟩ hA hw hS rfl hl.1 rfl (Nat.le_of_ble_eq_true rfl) dX11_gear_22 (fun v9 μ10 H locs h hw hS => ?_)
      obtain ⟨z11, h⟩ := h
      refine q_if_ne (tgt := 30) hx hb (rgB z11) dX11_gear_25 (by decide) (fun c12 => ?_) (fun c12 => ?_)
      · have h := ite_f c12 h
        refine lv_aload_n hx hb dX11_gear_30 rfl (lv_at hl 0 rfl) ?_
        refine gR_weights F hw tw5_158 dX11_gear_31 ?_
        refine lv_iload_n hx hb dX11_gear_34 rfl (lv_at hl 1 rfl) ?_
        obtain ⟨g13, h⟩ := h
        obtain ⟨g14, h⟩ := h
        refine aR_ild (L := 16) hx hb hw 19 rfl rfl (by decide) g13 g14 dX11_gear_35 ?_
        obtain ⟨y15, ey15⟩ : ∃ z : Int, z = μ10 20 0 x1 := ⟨_, rfl⟩
        have h := h y15 ey15
        refine q_nmI ey15 ?_
        refine lv_istore (lv' := [(4, .int (iI y15)), (0, .ref (ad 0 0)), (1, .int (iI x1)), (2, .int (iI x2)), (3, .int (iI x3))]) hx hb dX11_gear_36 hl (by decide) rfl (fun ls hl => ?_)
        refine lv_aload_n hx hb dX11_gear_38 rfl (lv_at hl 1 rfl) ?_
        refine gR_paces F hw tw5_156 dX11_gear_39 ?_
        refine lv_iload_n hx hb dX11_gear_42 rfl (lv_at hl 2 rfl) ?_
        refine lv_iload_n hx hb dX11_gear_43 rfl (lv_at hl 3 rfl) ?_
        obtain ⟨μ16, eμ16⟩ : ∃ z : MM, z = ms μ10 18 0 x1 x2 := ⟨_, rfl⟩
        have h := h μ16 eμ16
        refine aR_ist (L := 16) hx hb hw hS 17 rfl rfl (by decide) g13 g14 eμ16 dX11_gear_44 (fun H locs hw hS => ?_)
        refine lv_aload_n hx hb dX11_gear_45 rfl (lv_at hl 1 rfl) ?_
        refine gR_falls F hw tw5_157 dX11_gear_46 ?_
        refine lv_iload_n hx hb dX11_gear_49 rfl (lv_at hl 2 rfl) ?_
        refine lv_iload_n hx hb dX11_gear_50 rfl (lv_at hl 4 rfl) ?_
        obtain ⟨μ17, eμ17⟩ : ∃ z : MM, z = ms μ16 19 0 x1 x3 := ⟨_, rfl⟩
        have h := h μ17 eμ17
        refine aR_ist (L := 16) hx hb hw hS 18 rfl rfl (by decide) g13 g14 eμ17 dX11_gear_51 (fun H locs hw hS => ?_)
        refine lv_aload_n hx hb dX11_gear_52 rfl (lv_at hl 1 rfl) ?_
        refine gR_weights F hw tw5_158 dX11_gear_53 ?_
        refine lv_iload_n hx hb dX11_gear_56 rfl (lv_at hl 2 rfl) ?_
        refine lv_iload_n hx hb dX11_gear_57 rfl (lv_at hl 4 rfl) ?_
        obtain ⟨μ18, eμ18⟩ : ∃ z : MM, z = ms μ17 20 0 x1 x3 := ⟨_, rfl⟩
        have h := h μ18 eμ18
        refine aR_ist (L := 16) hx hb hw hS 19 rfl rfl (by decide) g13 g14 eμ18 dX11_gear_58 (fun H locs hw hS => ?_)
        refine lv_iload hx hb dX11_gear_59 (lv_at hl 0 rfl) ?_
        exact ret _ _ _ _ _ _ h hw hS dX11_gear_61
      · have h := ite_t c12 h
        refine q_iconst hx hb dX11_gear_28 ?_
        exact ret _ _ _ _ _ _ h hw hS dX11_gear_29
set_option maxRecDepth 100000 in
set_option maxHeartbeats 4000000 in
theorem kX11_gear {l : Launch} {D : va_G} {cy : Nat → ClassId} {ad : AD} {A : Nat → Prop} {x1 : Int} {x2 : Int} {x3 : Int} {μ : MM} {Q : Int → MM → Prop} (h : wpX11_gear x1 x2 x3 μ Q) : Met l yX11_gear (Cond.code yX11_gear cX11_gear 5 (some .int) :: uw) (rmm 2 43) (wPc [.ref (ad 0 0), .int (iI x1), .int (iI x2), .int (iI x3)] dmR cfR tyR exR D cy ad A μ) (wQ vI Q dmR cfR D cy ad A) 0 0 A :=
  met_of (by decide) (Nat.le_of_ble_eq_true rfl) (fun p e R s m args below meth c ls hr hk hRR F hA hw hS hl => wX11_gear F hA (by subst hRR; exact ⟨Nat.le_refl _, Nat.le_refl _⟩) (retI_of F hr hk) h hw hS hl)
theorem hdX11_gear : yX11_gear.cls ≠ "java/lang/invoke/MethodHandle" ∧ yX11_gear.cls ≠ "java/lang/invoke/VarHandle" ∧ (parseMethodDescriptor yX11_gear.desc).map (fun d => d.parameters.length) = some 3 := by decide +kernel
def wpX11_go_J26 (Q : Int → MM → Prop) (x1 : Int) (x2 : Int) (t0 : Int) (μ : MM) : Prop := 0 ≤ x1 ∧ (x1 < 4 ∧ ((x2 = 0 ∨ x2 = 1) ∧ (∀ μ4 : MM, μ4 = ms μ 31 0 x1 x2 → (Q t0 μ4))))
set_option maxRecDepth 100000 in
set_option maxHeartbeats 4000000 in
theorem wX11_go_J26 {Q : Int → MM → Prop} {x1 : Int} {x2 : Int} {t0 : Int} {μ : MM} {H : Heap} {locs : List Loc} {ls : Array Slot} (F : CallFix p m c cX11_go 5 s args uw RX11) (hA : ∀ q : Nat, s.heap.size ≤ q → A q) (hR : 3 ≤ R.frames ∧ 63 ≤ R.locals) (ret : RetI p l e R s m args below meth c cX11_go Qf dmR cfR tyR exR D cy ad A Q) (h : wpX11_go_J26 Q x1 x2 t0 μ) (hw : wdR D cy ad A μ s H) (hS : va_S A s.heap H locs) (hl : lv_has ls 5 [(0, .ref (ad 0 0)), (1, .int (iI x1)), (2, .int (iI x2))]) : W p l e R s m args below meth c H locs 0 0 Qf (F0 m 26 ls [.int (iI t0)]) := by
  have hx := F.1
  have hb := F.2.1
  have hown := F.2.2.2.1
  have hts := F.2.2.2.2
  refine lv_istore (lv' := [(4, .int (iI t0)), (0, .ref (ad 0 0)), (1, .int (iI x1)), (2, .int (iI x2))]) hx hb dX11_go_26 hl (by decide) rfl (fun ls hl => ?_)
  refine lv_aload_n hx hb dX11_go_28 rfl (lv_at hl 1 rfl) ?_
  refine gR_goes F hw tw5_169 dX11_go_29 ?_
  refine lv_iload_n hx hb dX11_go_32 rfl (lv_at hl 2 rfl) ?_
  refine lv_iload_n hx hb dX11_go_33 rfl (lv_at hl 3 rfl) ?_
  obtain ⟨g1, h⟩ := h
  obtain ⟨g2, h⟩ := h
  obtain ⟨g3, h⟩ := h
  obtain ⟨μ4, eμ4⟩ : ∃ z : MM, z = ms μ 31 0 x1 x2 := ⟨_, rfl⟩
  have h := h μ4 eμ4
  refine aR_zst (L := 4) hx hb hw hS 30 rfl rfl (by decide) g1 g2 g3 eμ4 dX11_go_34 (fun H locs hw hS => ?_)
  refine lv_iload hx hb dX11_go_35 (lv_at hl 0 rfl) ?_
  exact ret _ _ _ _ _ _ h hw hS dX11_go_37
def wpX11_go (x1 : Int) (x2 : Int) (μ : MM) (Q : Int → MM → Prop) : Prop := wpX11_askedFor x1 μ (fun v1 μ2 => rg v1 ∧ (if 0 ≤ v1 then (0 ≤ x1 ∧ (x1 < 4 ∧ (rg (μ2 31 0 x1) ∧ (if (μ2 31 0 x1) = 0 then (wpX11_go_J26 Q x1 x2 0 μ2) else (wpX11_go_J26 Q x1 x2 1 μ2))))) else (Q v1 μ2)))
set_option maxRecDepth 100000 in
set_option maxHeartbeats 4000000 in
theorem wX11_go {Q : Int → MM → Prop} {x1 : Int} {x2 : Int} {μ : MM} {H : Heap} {locs : List Loc} {ls : Array Slot} (F : CallFix p m c cX11_go 5 s args uw RX11) (hA : ∀ q : Nat, s.heap.size ≤ q → A q) (hR : 3 ≤ R.frames ∧ 63 ≤ R.locals) (ret : RetI p l e R s m args below meth c cX11_go Qf dmR cfR tyR exR D cy ad A Q) (h : wpX11_go x1 x2 μ Q) (hw : wdR D cy ad A μ s H) (hS : va_S A s.heap H locs) (hl : lv_has ls 5 [(0, .ref (ad 0 0)), (1, .int (iI x1)), (2, .int (iI x2))]) : W p l e R s m args below meth c H locs 0 0 Qf (F0 m 0 ls []) := by
  have hx := F.1
  have hb := F.2.1
  have hown := F.2.2.2.1
  have hts := F.2.2.2.2
  refine lv_aload_n hx hb dX11_go_0 rfl (lv_at hl 0 rfl) ?_
  refine lv_iload_n hx hb dX11_go_1 rfl (lv_at hl 1 rfl) ?_
  refine call_V hexR F (kX11_askedFor h) 1 tw6_216 tw1_8 tw6_215 tws3_7 tw6_213 hdX11_askedFor ⟨Nat.le_trans (by decide) hR.1, Nat.le_trans (by decide) hR.2⟩ (hw.recv (k := 0) (i := 0) ⟨rfl, Or.inl rfl⟩ rfl rfl) hA hw hS rfl hl.1 rfl (Nat.le_of_ble_eq_true rfl) dX11_go_2 (fun v1 μ2 H locs h hw hS => ?_)
  refine lv_istore_n (lv' := [(3, .int (iI v1)), (0, .ref (ad 0 0)), (1, .int (iI x1)), (2, .int (iI x2))]) hx hb dX11_go_5 rfl hl (by decide) rfl (fun ls hl => ?_)
  refine lv_iload_n hx hb dX11_go_6 rfl (lv_at hl 0 rfl) ?_
  obtain ⟨g3, h⟩ := h
  refine q_if_ge (tgt := 12) hx hb g3 dX11_go_7 (by decide) (fun c4 => ?_) (fun c4 => ?_)
  · have h := ite_t c4 h
    refine lv_aload_n hx hb dX11_go_12 rfl (lv_at hl 1 rfl) ?_
    refine gR_goes F hw tw5_169 dX11_go_13 ?_
    refine lv_iload_n hx hb dX11_go_16 rfl (lv_at hl 2 rfl) ?_
    obtain ⟨g5, h⟩ := h
    obtain ⟨g6, h⟩ := h
    refine aR_zld (L := 4) hx hb hw 30 rfl rfl (by decide) g5 g6 dX11_go_17 ?_
    obtain ⟨g7, h⟩ := h
    refine q_if_eq (tgt := 25) hx hb g7 dX11_go_18 (by decide) (fun c8 => ?_) (fun c8 => ?_)
    · have h := ite_t c8 h
      refine q_iconst hx hb dX11_go_25 ?_
      exact wX11_go_J26 F hA hR ret h hw hS (lv_sub hl [1, 2, 3] rfl)
    · have h := ite_f c8 h
      refine q_iconst hx hb dX11_go_21 ?_
      refine lv_goto (tgt := 26) hx hb dX11_go_22 (by decide) ?_
      exact wX11_go_J26 F hA hR ret h hw hS (lv_sub hl [1, 2, 3] rfl)
  · have h := ite_f c4 h
    refine lv_iload_n hx hb dX11_go_10 rfl (lv_at hl 0 rfl) ?_
    exact ret _ _ _ _ _ _ h hw hS dX11_go_11
set_option maxRecDepth 100000 in
set_option maxHeartbeats 4000000 in
theorem kX11_go {l : Launch} {D : va_G} {cy : Nat → ClassId} {ad : AD} {A : Nat → Prop} {x1 : Int} {x2 : Int} {μ : MM} {Q : Int → MM → Prop} (h : wpX11_go x1 x2 μ Q) : Met l yX11_go (Cond.code yX11_go cX11_go 5 (some .int) :: uw) (rmm 3 63) (wPc [.ref (ad 0 0), .int (iI x1), .int (iI x2)] dmR cfR tyR exR D cy ad A μ) (wQ vI Q dmR cfR D cy ad A) 0 0 A :=
  met_of (by decide) (Nat.le_of_ble_eq_true rfl) (fun p e R s m args below meth c ls hr hk hRR F hA hw hS hl => wX11_go F hA (by subst hRR; exact ⟨Nat.le_refl _, Nat.le_refl _⟩) (retI_of F hr hk) h hw hS hl)
theorem hdX11_go : yX11_go.cls ≠ "java/lang/invoke/MethodHandle" ∧ yX11_go.cls ≠ "java/lang/invoke/VarHandle" ∧ (parseMethodDescriptor yX11_go.desc).map (fun d => d.parameters.length) = some 2 := by decide +kernel
def wpX11_hands (x1 : Int) (x2 : Int) (μ : MM) (Q : Int → MM → Prop) : Prop := wpX11_in x2 0 1439 μ (fun v1 μ2 => if v1 = 0 then (Q (-1) μ2) else (wpX11_askedFor x1 μ2 (fun v5 μ6 => rg v5 ∧ (if 0 ≤ v5 then (0 ≤ x1 ∧ (x1 < 4 ∧ (∀ μ11 : MM, μ11 = ms μ6 27 0 x1 x2 → (Q (μ6 27 0 x1) μ11)))) else (Q v5 μ6)))))
set_option maxRecDepth 100000 in
set_option maxHeartbeats 4000000 in
theorem wX11_hands {Q : Int → MM → Prop} {x1 : Int} {x2 : Int} {μ : MM} {H : Heap} {locs : List Loc} {ls : Array Slot} (F : CallFix p m c cX11_hands 5 s args uw RX11) (hA : ∀ q : Nat, s.heap.size ≤ q → A q) (hR : 3 ≤ R.frames ∧ 63 ≤ R.locals) (ret : RetI p l e R s m args below meth c cX11_hands Qf dmR cfR tyR exR D cy ad A Q) (h : wpX11_hands x1 x2 μ Q) (hw : wdR D cy ad A μ s H) (hS : va_S A s.heap H locs) (hl : lv_has ls 5 [(0, .ref (ad 0 0)), (1, .int (iI x1)), (2, .int (iI x2))]) : W p l e R s m args below meth c H locs 0 0 Qf (F0 m 0 ls []) := by
  have hx := F.1
  have hb := F.2.1
  have hown := F.2.2.2.1
  have hts := F.2.2.2.2
  refine lv_iload_n hx hb dX11_hands_0 rfl (lv_at hl 2 rfl) ?_
  refine q_iconst hx hb dX11_hands_1 ?_
  refine q_sipush hx hb (by decide) dX11_hands_2 ?_
  refine call_S hexR F (kX11_in h) 3 tw6_77 tw1_8 tw6_76 tw6_75 hdX11_in ⟨Nat.le_trans (by decide) hR.1, Nat.le_trans (by decide) hR.2⟩ hA hw hS rfl hl.1 rfl (Nat.le_of_ble_eq_true rfl) dX11_hands_5 (fun v1 μ2 H locs h hw hS => ?_)
  obtain ⟨z3, h⟩ := h
  refine q_if_ne (tgt := 13) hx hb (rgB z3) dX11_hands_8 (by decide) (fun c4 => ?_) (fun c4 => ?_)
  · have h := ite_f c4 h
    refine lv_aload_n hx hb dX11_hands_13 rfl (lv_at hl 0 rfl) ?_
    refine lv_iload_n hx hb dX11_hands_14 rfl (lv_at hl 1 rfl) ?_
    refine call_V hexR F (kX11_askedFor h) 1 tw6_216 tw1_8 tw6_215 tws3_7 tw6_213 hdX11_askedFor ⟨Nat.le_trans (by decide) hR.1, Nat.le_trans (by decide) hR.2⟩ (hw.recv (k := 0) (i := 0) ⟨rfl, Or.inl rfl⟩ rfl rfl) hA hw hS rfl hl.1 rfl (Nat.le_of_ble_eq_true rfl) dX11_hands_15 (fun v5 μ6 H locs h hw hS => ?_)
    refine lv_istore_n (lv' := [(3, .int (iI v5)), (0, .ref (ad 0 0)), (1, .int (iI x1)), (2, .int (iI x2))]) hx hb dX11_hands_18 rfl hl (by decide) rfl (fun ls hl => ?_)
    refine lv_iload_n hx hb dX11_hands_19 rfl (lv_at hl 0 rfl) ?_
    obtain ⟨g7, h⟩ := h
    refine q_if_ge (tgt := 25) hx hb g7 dX11_hands_20 (by decide) (fun c8 => ?_) (fun c8 => ?_)
    · have h := ite_t c8 h
      refine lv_aload_n hx hb dX11_hands_25 rfl (lv_at hl 1 rfl) ?_
      refine gR_handsAt F hw tw5_165 dX11_hands_26 ?_
      refine lv_iload_n hx hb dX11_hands_29 rfl (lv_at hl 2 rfl) ?_
      obtain ⟨g9, h⟩ := h
      obtain ⟨g10, h⟩ := h
      refine aR_ild (L := 4) hx hb hw 26 rfl rfl (by decide) g9 g10 dX11_hands_30 ?_
      refine lv_istore (lv' := [(4, .int (iI (μ6 27 0 x1))), (3, .int (iI v5)), (0, .ref (ad 0 0)), (1, .int (iI x1)), (2, .int (iI x2))]) hx hb dX11_hands_31 hl (by decide) rfl (fun ls hl => ?_)
      refine lv_aload_n hx hb dX11_hands_33 rfl (lv_at hl 2 rfl) ?_
      refine gR_handsAt F hw tw5_165 dX11_hands_34 ?_
      refine lv_iload_n hx hb dX11_hands_37 rfl (lv_at hl 3 rfl) ?_
      refine lv_iload_n hx hb dX11_hands_38 rfl (lv_at hl 4 rfl) ?_
      obtain ⟨μ11, eμ11⟩ : ∃ z : MM, z = ms μ6 27 0 x1 x2 := ⟨_, rfl⟩
      have h := h μ11 eμ11
      refine aR_ist (L := 4) hx hb hw hS 26 rfl rfl (by decide) g9 g10 eμ11 dX11_hands_39 (fun H locs hw hS => ?_)
      refine lv_iload hx hb dX11_hands_40 (lv_at hl 0 rfl) ?_
      exact ret _ _ _ _ _ _ h hw hS dX11_hands_42
    · have h := ite_f c8 h
      refine lv_iload_n hx hb dX11_hands_23 rfl (lv_at hl 0 rfl) ?_
      exact ret _ _ _ _ _ _ h hw hS dX11_hands_24
  · have h := ite_t c4 h
    refine q_iconst hx hb dX11_hands_11 ?_
    exact ret _ _ _ _ _ _ h hw hS dX11_hands_12
set_option maxRecDepth 100000 in
set_option maxHeartbeats 4000000 in
theorem kX11_hands {l : Launch} {D : va_G} {cy : Nat → ClassId} {ad : AD} {A : Nat → Prop} {x1 : Int} {x2 : Int} {μ : MM} {Q : Int → MM → Prop} (h : wpX11_hands x1 x2 μ Q) : Met l yX11_hands (Cond.code yX11_hands cX11_hands 5 (some .int) :: uw) (rmm 3 63) (wPc [.ref (ad 0 0), .int (iI x1), .int (iI x2)] dmR cfR tyR exR D cy ad A μ) (wQ vI Q dmR cfR D cy ad A) 0 0 A :=
  met_of (by decide) (Nat.le_of_ble_eq_true rfl) (fun p e R s m args below meth c ls hr hk hRR F hA hw hS hl => wX11_hands F hA (by subst hRR; exact ⟨Nat.le_refl _, Nat.le_refl _⟩) (retI_of F hr hk) h hw hS hl)
theorem hdX11_hands : yX11_hands.cls ≠ "java/lang/invoke/MethodHandle" ∧ yX11_hands.cls ≠ "java/lang/invoke/VarHandle" ∧ (parseMethodDescriptor yX11_hands.desc).map (fun d => d.parameters.length) = some 2 := by decide +kernel
def wpX11_hang (x1 : Int) (x2 : Int) (x3 : Int) (μ : MM) (Q : Int → MM → Prop) : Prop := wpX11_isNumber x1 μ (fun v1 μ2 => if v1 = 0 then (Q (-1) μ2) else (wpX11_isTrain x2 μ2 (fun v5 μ6 => if v5 = 0 then (Q (-1) μ6) else (0 ≤ x1 ∧ (x1 < 4 ∧ (rg (μ6 26 0 x1) ∧ (if (μ6 26 0 x1) = 0 then (wpX11_meets 1 μ6 (fun v27 μ28 => Q v27 μ28)) else (0 ≤ x2 ∧ (x2 < 16 ∧ (rg (μ6 22 0 x2) ∧ (if (μ6 22 0 x2) < 0 then (wpX11_placeOf x1 x3 μ6 (fun v17 μ18 => 0 ≤ v17 ∧ (v17 < 8 ∧ (∀ y21 : Int, y21 = μ18 35 0 v17 → (wpX11_free v17 μ18 (fun v22 μ23 => ∀ μ24 : MM, μ24 = ms μ23 35 0 v17 x2 → (∀ μ25 : MM, μ25 = ms μ24 22 0 x2 v17 → (∀ μ26 : MM, μ26 = ms μ25 21 0 x2 0 → (Q y21 μ26))))))))) else (Q (-4) μ6))))))))))))
set_option maxRecDepth 100000 in
set_option maxHeartbeats 4000000 in
theorem wX11_hang {Q : Int → MM → Prop} {x1 : Int} {x2 : Int} {x3 : Int} {μ : MM} {H : Heap} {locs : List Loc} {ls : Array Slot} (F : CallFix p m c cX11_hang 6 s args uw RX11) (hA : ∀ q : Nat, s.heap.size ≤ q → A q) (hR : 2 ≤ R.frames ∧ 43 ≤ R.locals) (ret : RetI p l e R s m args below meth c cX11_hang Qf dmR cfR tyR exR D cy ad A Q) (h : wpX11_hang x1 x2 x3 μ Q) (hw : wdR D cy ad A μ s H) (hS : va_S A s.heap H locs) (hl : lv_has ls 6 [(0, .ref (ad 0 0)), (1, .int (iI x1)), (2, .int (iI x2)), (3, .int (iI x3))]) : W p l e R s m args below meth c H locs 0 0 Qf (F0 m 0 ls []) := by
  have hx := F.1
  have hb := F.2.1
  have hown := F.2.2.2.1
  have hts := F.2.2.2.2
  refine lv_iload_n hx hb dX11_hang_0 rfl (lv_at hl 1 rfl) ?_
  refine call_S hexR F (kX11_isNumber h) 1 tw6_193 tw1_8 tw6_192 tw6_191 hdX11_isNumber ⟨Nat.le_trans (by decide) hR.1, Nat.le_trans (by decide) hR.2⟩ hA hw hS rfl hl.1 rfl (Nat.le_of_ble_eq_true rfl) dX11_hang_1 (fun v1 μ2 H locs h hw hS => ?_)
  obtain ⟨z3, h⟩ := h
  refine q_if_eq (tgt := 15) hx hb (rgB z3) dX11_hang_4 (by decide) (fun c4 => ?_) (fun c4 => ?_)
  · have h := ite_t c4 h
    refine q_iconst hx hb dX11_hang_15 ?_
    exact ret _ _ _ _ _ _ h hw hS dX11_hang_16
  · have h := ite_f c4 h
    refine lv_aload_n hx hb dX11_hang_7 rfl (lv_at hl 0 rfl) ?_
    refine lv_iload_n hx hb dX11_hang_8 rfl (lv_at hl 2 rfl) ?_
    refine call_V hexR F (kX11_isTrain h) 1 tw6_137 tw1_8 tw6_136 tws3_0 tw6_134 hdX11_isTrain ⟨Nat.le_trans (by decide) hR.1, Nat.le_trans (by decide) hR.2⟩ (hw.recv (k := 0) (i := 0) ⟨rfl, Or.inl rfl⟩ rfl rfl) hA hw hS rfl hl.1 rfl (Nat.le_of_ble_eq_true rfl) dX11_hang_9 (fun v5 μ6 H locs h hw hS => ?_)
    obtain ⟨z7, h⟩ := h
    refine q_if_ne (tgt := 17) hx hb (rgB z7) dX11_hang_12 (by decide) (fun c8 => ?_) (fun c8 => ?_)
    · have h := ite_f c8 h
      refine lv_aload_n hx hb dX11_hang_17 rfl (lv_at hl 0 rfl) ?_
      refine gR_isTower F hw tw5_164 dX11_hang_18 ?_
      refine lv_iload_n hx hb dX11_hang_21 rfl (lv_at hl 1 rfl) ?_
      obtain ⟨g9, h⟩ := h
      obtain ⟨g10, h⟩ := h
      refine aR_zld (L := 4) hx hb hw 25 rfl rfl (by decide) g9 g10 dX11_hang_22 ?_
      obtain ⟨g11, h⟩ := h
      refine q_if_ne (tgt := 32) hx hb g11 dX11_hang_23 (by decide) (fun c12 => ?_) (fun c12 => ?_)
      · have h := ite_f c12 h
        refine lv_aload_n hx hb dX11_hang_32 rfl (lv_at hl 0 rfl) ?_
        refine gR_places F hw tw5_160 dX11_hang_33 ?_
        refine lv_iload_n hx hb dX11_hang_36 rfl (lv_at hl 2 rfl) ?_
        obtain ⟨g13, h⟩ := h
        obtain ⟨g14, h⟩ := h
        refine aR_ild (L := 16) hx hb hw 21 rfl rfl (by decide) g13 g14 dX11_hang_37 ?_
        obtain ⟨g15, h⟩ := h
        refine q_if_lt (tgt := 44) hx hb g15 dX11_hang_38 (by decide) (fun c16 => ?_) (fun c16 => ?_)
        · have h := ite_t c16 h
          refine lv_iload_n hx hb dX11_hang_44 rfl (lv_at hl 1 rfl) ?_
          refine lv_iload_n hx hb dX11_hang_45 rfl (lv_at hl 3 rfl) ?_
          refine call_S hexR F (kX11_placeOf h) 2 tw6_204 tw1_8 tw6_203 tw6_202 hdX11_placeOf ⟨Nat.le_trans (by decide) hR.1, Nat.le_trans (by decide) hR.2⟩ hA hw hS rfl hl.1 rfl (Nat.le_of_ble_eq_true rfl) dX11_hang_46 (fun v17 μ18 H locs h hw hS => ?_)
          refine lv_istore (lv' := [(4, .int (iI v17)), (0, .ref (ad 0 0)), (1, .int (iI x1)), (2, .int (iI x2)), (3, .int (iI x3))]) hx hb dX11_hang_49 hl (by decide) rfl (fun ls hl => ?_)
          refine lv_aload_n hx hb dX11_hang_51 rfl (lv_at hl 1 rfl) ?_
          refine gR_hung F hw tw5_173 dX11_hang_52 ?_
          refine lv_iload hx hb dX11_hang_55 (lv_at hl 0 rfl) ?_
          obtain ⟨g19, h⟩ := h
          obtain ⟨g20, h⟩ := h
          refine aR_ild (L := 8) hx hb hw 34 rfl rfl (by decide) g19 g20 dX11_hang_57 ?_
          obtain ⟨y21, ey21⟩ : ∃ z : Int, z = μ18 35 0 v17 := ⟨_, rfl⟩
          have h := h y21 ey21
          refine q_nmI ey21 ?_
          refine lv_istore (lv' := [(5, .int (iI y21)), (4, .int (iI v17)), (0, .ref (ad 0 0)), (1, .int (iI x1)), (2, .int (iI x2)), (3, .int (iI x3))]) hx hb dX11_hang_58 hl (by decide) rfl (fun ls hl => ?_)
          refine lv_aload_n hx hb dX11_hang_60 rfl (lv_at hl 2 rfl) ?_
          refine lv_iload hx hb dX11_hang_61 (lv_at hl 1 rfl) ?_
          refine call_V hexR F (kX11_free h) 1 tw6_197 tw1_8 tw6_196 tws3_5 tw6_194 hdX11_free ⟨Nat.le_trans (by decide) hR.1, Nat.le_trans (by decide) hR.2⟩ (hw.recv (k := 0) (i := 0) ⟨rfl, Or.inl rfl⟩ rfl rfl) hA hw hS rfl hl.1 rfl (Nat.le_of_ble_eq_true rfl) dX11_hang_63 (fun v22 μ23 H locs h hw hS => ?_)
          refine lv_aload_n hx hb dX11_hang_66 rfl (lv_at hl 2 rfl) ?_
          refine gR_hung F hw tw5_173 dX11_hang_67 ?_
          refine lv_iload hx hb dX11_hang_70 (lv_at hl 1 rfl) ?_
          refine lv_iload_n hx hb dX11_hang_72 rfl (lv_at hl 4 rfl) ?_
          obtain ⟨μ24, eμ24⟩ : ∃ z : MM, z = ms μ23 35 0 v17 x2 := ⟨_, rfl⟩
          have h := h μ24 eμ24
          refine aR_ist (L := 8) hx hb hw hS 34 rfl rfl (by decide) g19 g20 eμ24 dX11_hang_73 (fun H locs hw hS => ?_)
          refine lv_aload_n hx hb dX11_hang_74 rfl (lv_at hl 2 rfl) ?_
          refine gR_places F hw tw5_160 dX11_hang_75 ?_
          refine lv_iload_n hx hb dX11_hang_78 rfl (lv_at hl 4 rfl) ?_
          refine lv_iload hx hb dX11_hang_79 (lv_at hl 1 rfl) ?_
          obtain ⟨μ25, eμ25⟩ : ∃ z : MM, z = ms μ24 22 0 x2 v17 := ⟨_, rfl⟩
          have h := h μ25 eμ25
          refine aR_ist (L := 16) hx hb hw hS 21 rfl rfl (by decide) g13 g14 eμ25 dX11_hang_81 (fun H locs hw hS => ?_)
          refine lv_aload_n hx hb dX11_hang_82 rfl (lv_at hl 2 rfl) ?_
          refine gR_dues F hw tw5_159 dX11_hang_83 ?_
          refine lv_iload_n hx hb dX11_hang_86 rfl (lv_at hl 4 rfl) ?_
          refine q_iconst hx hb dX11_hang_87 ?_
          obtain ⟨μ26, eμ26⟩ : ∃ z : MM, z = ms μ25 21 0 x2 0 := ⟨_, rfl⟩
          have h := h μ26 eμ26
          refine aR_ist (L := 16) hx hb hw hS 20 rfl rfl (by decide) g13 g14 eμ26 dX11_hang_88 (fun H locs hw hS => ?_)
          refine lv_iload hx hb dX11_hang_89 (lv_at hl 0 rfl) ?_
          exact ret _ _ _ _ _ _ h hw hS dX11_hang_91
        · have h := ite_f c16 h
          refine q_bipush hx hb (by decide) dX11_hang_41 ?_
          exact ret _ _ _ _ _ _ h hw hS dX11_hang_43
      · have h := ite_t c12 h
        refine lv_aload_n hx hb dX11_hang_26 rfl (lv_at hl 0 rfl) ?_
        refine q_iconst hx hb dX11_hang_27 ?_
        refine call_V hexR F (kX11_meets h) 1 tw6_81 tw1_8 tw6_80 tws2_10 tw6_78 hdX11_meets ⟨Nat.le_trans (by decide) hR.1, Nat.le_trans (by decide) hR.2⟩ (hw.recv (k := 0) (i := 0) ⟨rfl, Or.inl rfl⟩ rfl rfl) hA hw hS rfl hl.1 rfl (Nat.le_of_ble_eq_true rfl) dX11_hang_28 (fun v27 μ28 H locs h hw hS => ?_)
        exact ret _ _ _ _ _ _ h hw hS dX11_hang_31
    · have h := ite_t c8 h
      refine q_iconst hx hb dX11_hang_15 ?_
      exact ret _ _ _ _ _ _ h hw hS dX11_hang_16
set_option maxRecDepth 100000 in
set_option maxHeartbeats 4000000 in
theorem kX11_hang {l : Launch} {D : va_G} {cy : Nat → ClassId} {ad : AD} {A : Nat → Prop} {x1 : Int} {x2 : Int} {x3 : Int} {μ : MM} {Q : Int → MM → Prop} (h : wpX11_hang x1 x2 x3 μ Q) : Met l yX11_hang (Cond.code yX11_hang cX11_hang 6 (some .int) :: uw) (rmm 2 43) (wPc [.ref (ad 0 0), .int (iI x1), .int (iI x2), .int (iI x3)] dmR cfR tyR exR D cy ad A μ) (wQ vI Q dmR cfR D cy ad A) 0 0 A :=
  met_of (by decide) (Nat.le_of_ble_eq_true rfl) (fun p e R s m args below meth c ls hr hk hRR F hA hw hS hl => wX11_hang F hA (by subst hRR; exact ⟨Nat.le_refl _, Nat.le_refl _⟩) (retI_of F hr hk) h hw hS hl)
theorem hdX11_hang : yX11_hang.cls ≠ "java/lang/invoke/MethodHandle" ∧ yX11_hang.cls ≠ "java/lang/invoke/VarHandle" ∧ (parseMethodDescriptor yX11_hang.desc).map (fun d => d.parameters.length) = some 3 := by decide +kernel
def wpX11_heard_J85 (k32 : Int → Int → Int → Int → Int → MM → Prop) (Q : Int → MM → Prop) (x1 : Int) (x2 : Int) (x3 : Int) (x6 : Int) (t0 : Int) (t1 : Int) (μ : MM) : Prop := k32 x1 x2 x3 (t0 + t1) (x6 + 1) μ
set_option maxRecDepth 100000 in
set_option maxHeartbeats 4000000 in
theorem wX11_heard_J85 {k32 : Int → Int → Int → Int → Int → MM → Prop} {Q : Int → MM → Prop} {x1 : Int} {x2 : Int} {x3 : Int} {x6 : Int} {t0 : Int} {t1 : Int} {μ : MM} {H : Heap} {locs : List Loc} {ls : Array Slot} (F : CallFix p m c cX11_heard 8 s args uw RX11) (hA : ∀ q : Nat, s.heap.size ≤ q → A q) (hR : 3 ≤ R.frames ∧ 63 ≤ R.locals) (ret : RetI p l e R s m args below meth c cX11_heard Qf dmR cfR tyR exR D cy ad A Q) (hk32 : ∀ (x1' x2' x3' x5' x6' : Int) (μ' : MM) (H : Heap) (locs : List Loc) (ls : Array Slot), k32 x1' x2' x3' x5' x6' μ' → wdR D cy ad A μ' s H → va_S A s.heap H locs → lv_has ls 8 [(0, .ref (ad 0 0)), (1, .int (iI (x1'))), (2, .int (iI (x2'))), (3, .int (iI (x3'))), (5, .int (iI (x5'))), (6, .int (iI (x6')))] → W p l e R s m args below meth c H locs 0 0 Qf (F0 m 32 ls [])) (h : wpX11_heard_J85 k32 Q x1 x2 x3 x6 t0 t1 μ) (hw : wdR D cy ad A μ s H) (hS : va_S A s.heap H locs) (hl : lv_has ls 8 [(0, .ref (ad 0 0)), (1, .int (iI x1)), (2, .int (iI x2)), (3, .int (iI x3)), (6, .int (iI x6))]) : W p l e R s m args below meth c H locs 0 0 Qf (F0 m 85 ls [.int (iI t1), .int (iI t0)]) := by
  have hx := F.1
  have hb := F.2.1
  have hown := F.2.2.2.1
  have hts := F.2.2.2.2
  refine q_iadd hx hb dX11_heard_85 ?_
  refine lv_istore (lv' := [(5, .int (iI (t0 + t1))), (0, .ref (ad 0 0)), (1, .int (iI x1)), (2, .int (iI x2)), (3, .int (iI x3)), (6, .int (iI x6))]) hx hb dX11_heard_86 hl (by decide) rfl (fun ls hl => ?_)
  refine q_iinc (k := 5) (lv' := [(6, .int (iI (x6 + 1))), (5, .int (iI (t0 + t1))), (0, .ref (ad 0 0)), (1, .int (iI x1)), (2, .int (iI x2)), (3, .int (iI x3))]) hx hb dX11_heard_88 hl rfl (by decide) rfl (fun ls hl => ?_)
  refine lv_goto (tgt := 32) hx hb dX11_heard_91 (by decide) ?_
  exact hk32 x1 x2 x3 (t0 + t1) (x6 + 1) _ _ _ _ h hw hS (lv_sub hl [2, 3, 4, 5, 1, 0] rfl)
def wpX11_heard_L32 (Q : Int → MM → Prop) : Nat → Int → Int → Int → Int → Int → MM → Prop
  | 0, _, _, _, _, _, _ => False
  | n + 1, x1, x2, x3, x5, x6, μ => 0 ≤ x1 ∧ (x1 < 4 ∧ (rg x6 ∧ (rg (μ 37 0 x1) ∧ (if (μ 37 0 x1) ≤ x6 then (Q x5 μ) else (∀ y6 : Int, y6 = (240 * x1) + (4 * x6) → (0 ≤ y6 ∧ (y6 < 960 ∧ (wpX11_in (μ 38 0 y6) x2 x3 μ (fun v9 μ10 => if v9 = 0 then (wpX11_heard_J85 (fun x1' x2' x3' x5' x6' μ' => wpX11_heard_L32 Q n x1' x2' x3' x5' x6' μ') Q x1 x2 x3 x6 x5 0 μ10) else (0 ≤ (y6 + 2) ∧ (y6 + 2 < 960 ∧ (wpX11_heard_J85 (fun x1' x2' x3' x5' x6' μ' => wpX11_heard_L32 Q n x1' x2' x3' x5' x6' μ') Q x1 x2 x3 x6 x5 (μ10 38 0 (y6 + 2)) μ10))))))))))))
set_option maxRecDepth 100000 in
set_option maxHeartbeats 4000000 in
theorem wX11_heard_L32 {Q : Int → MM → Prop} (F : CallFix p m c cX11_heard 8 s args uw RX11) (hA : ∀ q : Nat, s.heap.size ≤ q → A q) (hR : 3 ≤ R.frames ∧ 63 ≤ R.locals) (ret : RetI p l e R s m args below meth c cX11_heard Qf dmR cfR tyR exR D cy ad A Q) : ∀ (n : Nat) (x1 x2 x3 x5 x6 : Int) (μ : MM) (H : Heap) (locs : List Loc) (ls : Array Slot), wpX11_heard_L32 Q n x1 x2 x3 x5 x6 μ → wdR D cy ad A μ s H → va_S A s.heap H locs → lv_has ls 8 [(0, .ref (ad 0 0)), (1, .int (iI x1)), (2, .int (iI x2)), (3, .int (iI x3)), (5, .int (iI x5)), (6, .int (iI x6))] → W p l e R s m args below meth c H locs 0 0 Qf (F0 m 32 ls []) := by
  have hx := F.1
  have hb := F.2.1
  have hown := F.2.2.2.1
  have hts := F.2.2.2.2
  intro n
  induction n with
  | zero =>
    intro x1 x2 x3 x5 x6 μ H locs ls h hw hS hl
    exact h.elim
  | succ n ih =>
    intro x1 x2 x3 x5 x6 μ H locs ls h hw hS hl
    refine lv_iload hx hb dX11_heard_32 (lv_at hl 5 rfl) ?_
    refine lv_aload_n hx hb dX11_heard_34 rfl (lv_at hl 0 rfl) ?_
    refine gR_entries F hw tw5_175 dX11_heard_35 ?_
    refine lv_iload_n hx hb dX11_heard_38 rfl (lv_at hl 1 rfl) ?_
    obtain ⟨g1, h⟩ := h
    obtain ⟨g2, h⟩ := h
    refine aR_ild (L := 4) hx hb hw 36 rfl rfl (by decide) g1 g2 dX11_heard_39 ?_
    obtain ⟨g3, h⟩ := h
    obtain ⟨g4, h⟩ := h
    refine q_icmp_ge (tgt := 94) hx hb g3 g4 dX11_heard_40 (by decide) (fun c5 => ?_) (fun c5 => ?_)
    · have h := ite_t c5 h
      refine lv_iload hx hb dX11_heard_94 (lv_at hl 4 rfl) ?_
      exact ret _ _ _ _ _ _ h hw hS dX11_heard_96
    · have h := ite_f c5 h
      refine q_sipush hx hb (by decide) dX11_heard_43 ?_
      refine lv_iload_n hx hb dX11_heard_46 rfl (lv_at hl 1 rfl) ?_
      refine q_imul hx hb dX11_heard_47 ?_
      refine q_iconst hx hb dX11_heard_48 ?_
      refine lv_iload hx hb dX11_heard_49 (lv_at hl 5 rfl) ?_
      refine q_imul hx hb dX11_heard_51 ?_
      refine q_iadd hx hb dX11_heard_52 ?_
      obtain ⟨y6, ey6⟩ : ∃ z : Int, z = (240 * x1) + (4 * x6) := ⟨_, rfl⟩
      have h := h y6 ey6
      refine q_nmI ey6 ?_
      refine lv_istore (lv' := [(7, .int (iI y6)), (0, .ref (ad 0 0)), (1, .int (iI x1)), (2, .int (iI x2)), (3, .int (iI x3)), (5, .int (iI x5)), (6, .int (iI x6))]) hx hb dX11_heard_53 hl (by decide) rfl (fun ls hl => ?_)
      refine lv_iload hx hb dX11_heard_55 (lv_at hl 5 rfl) ?_
      refine lv_aload_n hx hb dX11_heard_57 rfl (lv_at hl 1 rfl) ?_
      refine gR_logs F hw tw5_176 dX11_heard_58 ?_
      refine lv_iload hx hb dX11_heard_61 (lv_at hl 0 rfl) ?_
      obtain ⟨g7, h⟩ := h
      obtain ⟨g8, h⟩ := h
      refine aR_ild (L := 960) hx hb hw 37 rfl rfl (by decide) g7 g8 dX11_heard_63 ?_
      refine lv_iload_n hx hb dX11_heard_64 rfl (lv_at hl 3 rfl) ?_
      refine lv_iload_n hx hb dX11_heard_65 rfl (lv_at hl 4 rfl) ?_
      refine call_S hexR F (kX11_in h) 3 tw6_77 tw1_8 tw6_76 tw6_75 hdX11_in ⟨Nat.le_trans (by decide) hR.1, Nat.le_trans (by decide) hR.2⟩ hA hw hS rfl hl.1 rfl (Nat.le_of_ble_eq_true rfl) dX11_heard_66 (fun v9 μ10 H locs h hw hS => ?_)
      obtain ⟨z11, h⟩ := h
      refine q_if_eq (tgt := 84) hx hb (rgB z11) dX11_heard_69 (by decide) (fun c12 => ?_) (fun c12 => ?_)
      · have h := ite_t c12 h
        refine q_iconst hx hb dX11_heard_84 ?_
        exact wX11_heard_J85 F hA hR ret (fun x1 x2 x3 x5 x6 => ih x1 x2 x3 x5 x6) h hw hS (lv_sub hl [1, 2, 3, 4, 6] rfl)
      · have h := ite_f c12 h
        refine lv_aload_n hx hb dX11_heard_72 rfl (lv_at hl 1 rfl) ?_
        refine gR_logs F hw tw5_176 dX11_heard_73 ?_
        refine lv_iload hx hb dX11_heard_76 (lv_at hl 0 rfl) ?_
        refine q_iconst hx hb dX11_heard_78 ?_
        refine q_iadd hx hb dX11_heard_79 ?_
        obtain ⟨g13, h⟩ := h
        obtain ⟨g14, h⟩ := h
        refine aR_ild (L := 960) hx hb hw 37 rfl rfl (by decide) g13 g14 dX11_heard_80 ?_
        refine lv_goto (tgt := 85) hx hb dX11_heard_81 (by decide) ?_
        exact wX11_heard_J85 F hA hR ret (fun x1 x2 x3 x5 x6 => ih x1 x2 x3 x5 x6) h hw hS (lv_sub hl [1, 2, 3, 4, 6] rfl)
def wpX11_heard (x1 : Int) (x2 : Int) (x3 : Int) (μ : MM) (Q : Int → MM → Prop) : Prop := rg x2 ∧ (if x2 < 0 then (Q (-1) μ) else (rg x3 ∧ (if x2 ≤ x3 then (wpX11_askedFor x1 μ (fun v5 μ6 => rg v5 ∧ (if 0 ≤ v5 then (∃ n9 : Nat, wpX11_heard_L32 Q n9 x1 x2 x3 0 0 μ6) else (Q v5 μ6)))) else (Q (-1) μ))))
set_option maxRecDepth 100000 in
set_option maxHeartbeats 4000000 in
theorem wX11_heard {Q : Int → MM → Prop} {x1 : Int} {x2 : Int} {x3 : Int} {μ : MM} {H : Heap} {locs : List Loc} {ls : Array Slot} (F : CallFix p m c cX11_heard 8 s args uw RX11) (hA : ∀ q : Nat, s.heap.size ≤ q → A q) (hR : 3 ≤ R.frames ∧ 63 ≤ R.locals) (ret : RetI p l e R s m args below meth c cX11_heard Qf dmR cfR tyR exR D cy ad A Q) (h : wpX11_heard x1 x2 x3 μ Q) (hw : wdR D cy ad A μ s H) (hS : va_S A s.heap H locs) (hl : lv_has ls 8 [(0, .ref (ad 0 0)), (1, .int (iI x1)), (2, .int (iI x2)), (3, .int (iI x3))]) : W p l e R s m args below meth c H locs 0 0 Qf (F0 m 0 ls []) := by
  have hx := F.1
  have hb := F.2.1
  have hown := F.2.2.2.1
  have hts := F.2.2.2.2
  refine lv_iload_n hx hb dX11_heard_0 rfl (lv_at hl 2 rfl) ?_
  obtain ⟨g1, h⟩ := h
  refine q_if_lt (tgt := 9) hx hb g1 dX11_heard_1 (by decide) (fun c2 => ?_) (fun c2 => ?_)
  · have h := ite_t c2 h
    refine q_iconst hx hb dX11_heard_9 ?_
    exact ret _ _ _ _ _ _ h hw hS dX11_heard_10
  · have h := ite_f c2 h
    refine lv_iload_n hx hb dX11_heard_4 rfl (lv_at hl 2 rfl) ?_
    refine lv_iload_n hx hb dX11_heard_5 rfl (lv_at hl 3 rfl) ?_
    obtain ⟨g3, h⟩ := h
    refine q_icmp_le (tgt := 11) hx hb g1 g3 dX11_heard_6 (by decide) (fun c4 => ?_) (fun c4 => ?_)
    · have h := ite_t c4 h
      refine lv_aload_n hx hb dX11_heard_11 rfl (lv_at hl 0 rfl) ?_
      refine lv_iload_n hx hb dX11_heard_12 rfl (lv_at hl 1 rfl) ?_
      refine call_V hexR F (kX11_askedFor h) 1 tw6_216 tw1_8 tw6_215 tws3_7 tw6_213 hdX11_askedFor ⟨Nat.le_trans (by decide) hR.1, Nat.le_trans (by decide) hR.2⟩ (hw.recv (k := 0) (i := 0) ⟨rfl, Or.inl rfl⟩ rfl rfl) hA hw hS rfl hl.1 rfl (Nat.le_of_ble_eq_true rfl) dX11_heard_13 (fun v5 μ6 H locs h hw hS => ?_)
      refine lv_istore (lv' := [(4, .int (iI v5)), (0, .ref (ad 0 0)), (1, .int (iI x1)), (2, .int (iI x2)), (3, .int (iI x3))]) hx hb dX11_heard_16 hl (by decide) rfl (fun ls hl => ?_)
      refine lv_iload hx hb dX11_heard_18 (lv_at hl 0 rfl) ?_
      obtain ⟨g7, h⟩ := h
      refine q_if_ge (tgt := 26) hx hb g7 dX11_heard_20 (by decide) (fun c8 => ?_) (fun c8 => ?_)
      · have h := ite_t c8 h
        refine q_iconst hx hb dX11_heard_26 ?_
        refine lv_istore (lv' := [(5, .int (iI 0)), (4, .int (iI v5)), (0, .ref (ad 0 0)), (1, .int (iI x1)), (2, .int (iI x2)), (3, .int (iI x3))]) hx hb dX11_heard_27 hl (by decide) rfl (fun ls hl => ?_)
        refine q_iconst hx hb dX11_heard_29 ?_
        refine lv_istore (lv' := [(6, .int (iI 0)), (5, .int (iI 0)), (4, .int (iI v5)), (0, .ref (ad 0 0)), (1, .int (iI x1)), (2, .int (iI x2)), (3, .int (iI x3))]) hx hb dX11_heard_30 hl (by decide) rfl (fun ls hl => ?_)
        obtain ⟨n9, h⟩ := h
        exact wX11_heard_L32 F hA hR ret n9 x1 x2 x3 0 0 _ _ _ _ h hw hS (lv_sub hl [3, 4, 5, 6, 1, 0] rfl)
      · have h := ite_f c8 h
        refine lv_iload hx hb dX11_heard_23 (lv_at hl 0 rfl) ?_
        exact ret _ _ _ _ _ _ h hw hS dX11_heard_25
    · have h := ite_f c4 h
      refine q_iconst hx hb dX11_heard_9 ?_
      exact ret _ _ _ _ _ _ h hw hS dX11_heard_10
set_option maxRecDepth 100000 in
set_option maxHeartbeats 4000000 in
theorem kX11_heard {l : Launch} {D : va_G} {cy : Nat → ClassId} {ad : AD} {A : Nat → Prop} {x1 : Int} {x2 : Int} {x3 : Int} {μ : MM} {Q : Int → MM → Prop} (h : wpX11_heard x1 x2 x3 μ Q) : Met l yX11_heard (Cond.code yX11_heard cX11_heard 8 (some .int) :: uw) (rmm 3 63) (wPc [.ref (ad 0 0), .int (iI x1), .int (iI x2), .int (iI x3)] dmR cfR tyR exR D cy ad A μ) (wQ vI Q dmR cfR D cy ad A) 0 0 A :=
  met_of (by decide) (Nat.le_of_ble_eq_true rfl) (fun p e R s m args below meth c ls hr hk hRR F hA hw hS hl => wX11_heard F hA (by subst hRR; exact ⟨Nat.le_refl _, Nat.le_refl _⟩) (retI_of F hr hk) h hw hS hl)
theorem hdX11_heard : yX11_heard.cls ≠ "java/lang/invoke/MethodHandle" ∧ yX11_heard.cls ≠ "java/lang/invoke/VarHandle" ∧ (parseMethodDescriptor yX11_heard.desc).map (fun d => d.parameters.length) = some 3 := by decide +kernel
def wpX11_lasting_J97 (Q : Int → MM → Prop) (t0 : Int) (μ : MM) : Prop := rl t0 ∧ (if t0 ≤ 1000000 then (Q t0 μ) else (Q 1000001 μ))
set_option maxRecDepth 100000 in
set_option maxHeartbeats 4000000 in
theorem wX11_lasting_J97 {Q : Int → MM → Prop} {t0 : Int} {μ : MM} {H : Heap} {locs : List Loc} {ls : Array Slot} (F : CallFix p m c cX11_lasting 9 s args uw RX11) (hA : ∀ q : Nat, s.heap.size ≤ q → A q) (hR : 3 ≤ R.frames ∧ 63 ≤ R.locals) (ret : RetI p l e R s m args below meth c cX11_lasting Qf dmR cfR tyR exR D cy ad A Q) (h : wpX11_lasting_J97 Q t0 μ) (hw : wdR D cy ad A μ s H) (hS : va_S A s.heap H locs) (hl : lv_has ls 9 []) : W p l e R s m args below meth c H locs 0 0 Qf (F0 m 97 ls [.long (lJ t0)]) := by
  have hx := F.1
  have hb := F.2.1
  have hown := F.2.2.2.1
  have hts := F.2.2.2.2
  refine lv_lstore (lv' := [(7, .long (lJ t0))]) hx hb dX11_lasting_97 hl (by decide) rfl (fun ls hl => ?_)
  refine lv_lload hx hb dX11_lasting_99 (lv_at hl 0 rfl) ?_
  refine q_ldc2 (n := 1000000) hx hb hown (hts _ tw7_202) (by decide) dX11_lasting_101 ?_
  obtain ⟨g1, h⟩ := h
  refine q_lcmp_le (tgt := 114) hx hb g1 (by decide) dX11_lasting_104 dX11_lasting_105 (by decide) (fun c2 => ?_) (fun c2 => ?_)
  · have h := ite_t c2 h
    refine lv_lload hx hb dX11_lasting_114 (lv_at hl 0 rfl) ?_
    refine q_l2i hx hb dX11_lasting_116 ?_
    exact ret _ _ _ _ _ _ h hw hS dX11_lasting_117
  · have h := ite_f c2 h
    refine q_ldcw (n := 1000001) hx hb hown (hts _ tw7_203) (by decide) dX11_lasting_108 ?_
    refine lv_goto (tgt := 117) hx hb dX11_lasting_111 (by decide) ?_
    exact ret _ _ _ _ _ _ h hw hS dX11_lasting_117
def wpX11_lasting_J30 (Q : Int → MM → Prop) (x1 : Int) (μ : MM) : Prop := 0 ≤ x1 ∧ (x1 < 4 ∧ (rg (μ 31 0 x1) ∧ (if (μ 31 0 x1) = 0 then (Q (-9) μ) else (Q 0 μ))))
set_option maxRecDepth 100000 in
set_option maxHeartbeats 4000000 in
theorem wX11_lasting_J30 {Q : Int → MM → Prop} {x1 : Int} {μ : MM} {H : Heap} {locs : List Loc} {ls : Array Slot} (F : CallFix p m c cX11_lasting 9 s args uw RX11) (hA : ∀ q : Nat, s.heap.size ≤ q → A q) (hR : 3 ≤ R.frames ∧ 63 ≤ R.locals) (ret : RetI p l e R s m args below meth c cX11_lasting Qf dmR cfR tyR exR D cy ad A Q) (h : wpX11_lasting_J30 Q x1 μ) (hw : wdR D cy ad A μ s H) (hS : va_S A s.heap H locs) (hl : lv_has ls 9 [(0, .ref (ad 0 0)), (1, .int (iI x1))]) : W p l e R s m args below meth c H locs 0 0 Qf (F0 m 30 ls []) := by
  have hx := F.1
  have hb := F.2.1
  have hown := F.2.2.2.1
  have hts := F.2.2.2.2
  refine lv_aload_n hx hb dX11_lasting_30 rfl (lv_at hl 0 rfl) ?_
  refine gR_goes F hw tw5_169 dX11_lasting_31 ?_
  refine lv_iload_n hx hb dX11_lasting_34 rfl (lv_at hl 1 rfl) ?_
  obtain ⟨g1, h⟩ := h
  obtain ⟨g2, h⟩ := h
  refine aR_zld (L := 4) hx hb hw 30 rfl rfl (by decide) g1 g2 dX11_lasting_35 ?_
  obtain ⟨g3, h⟩ := h
  refine q_if_eq (tgt := 43) hx hb g3 dX11_lasting_36 (by decide) (fun c4 => ?_) (fun c4 => ?_)
  · have h := ite_t c4 h
    refine q_bipush hx hb (by decide) dX11_lasting_43 ?_
    exact ret _ _ _ _ _ _ h hw hS dX11_lasting_45
  · have h := ite_f c4 h
    refine q_iconst hx hb dX11_lasting_39 ?_
    refine lv_goto (tgt := 45) hx hb dX11_lasting_40 (by decide) ?_
    exact ret _ _ _ _ _ _ h hw hS dX11_lasting_45
def wpX11_lasting (x1 : Int) (μ : MM) (Q : Int → MM → Prop) : Prop := wpX11_askedFor x1 μ (fun v1 μ2 => rg v1 ∧ (if 0 ≤ v1 then (0 ≤ x1 ∧ (x1 < 4 ∧ (rg (μ2 29 0 x1) ∧ (if (μ2 29 0 x1) = 0 then (wpX11_lasting_J30 Q x1 μ2) else (rg (μ2 31 0 x1) ∧ (if (μ2 31 0 x1) = 0 then (wpX11_lasting_J30 Q x1 μ2) else (rg (μ2 30 0 x1) ∧ (∀ y12 : Int, y12 = ((μ2 29 0 x1) * 86400) - (μ2 30 0 x1) → (rg (86400 + (μ2 28 0 x1)) ∧ (∀ y14 : Int, y14 = 86400 + (μ2 28 0 x1) → (rl y12 ∧ (if 0 < y12 then (rl ((y12 + y14) - 1) ∧ (rl y14 ∧ (y14 ≠ 0 ∧ (wpX11_lasting_J97 Q (Int.tdiv ((y12 + y14) - 1) y14) μ2)))) else (wpX11_lasting_J97 Q 1 μ2))))))))))))) else (Q v1 μ2)))
set_option maxRecDepth 100000 in
set_option maxHeartbeats 4000000 in
theorem wX11_lasting {Q : Int → MM → Prop} {x1 : Int} {μ : MM} {H : Heap} {locs : List Loc} {ls : Array Slot} (F : CallFix p m c cX11_lasting 9 s args uw RX11) (hA : ∀ q : Nat, s.heap.size ≤ q → A q) (hR : 3 ≤ R.frames ∧ 63 ≤ R.locals) (ret : RetI p l e R s m args below meth c cX11_lasting Qf dmR cfR tyR exR D cy ad A Q) (h : wpX11_lasting x1 μ Q) (hw : wdR D cy ad A μ s H) (hS : va_S A s.heap H locs) (hl : lv_has ls 9 [(0, .ref (ad 0 0)), (1, .int (iI x1))]) : W p l e R s m args below meth c H locs 0 0 Qf (F0 m 0 ls []) := by
  have hx := F.1
  have hb := F.2.1
  have hown := F.2.2.2.1
  have hts := F.2.2.2.2
  refine lv_aload_n hx hb dX11_lasting_0 rfl (lv_at hl 0 rfl) ?_
  refine lv_iload_n hx hb dX11_lasting_1 rfl (lv_at hl 1 rfl) ?_
  refine call_V hexR F (kX11_askedFor h) 1 tw6_216 tw1_8 tw6_215 tws3_7 tw6_213 hdX11_askedFor ⟨Nat.le_trans (by decide) hR.1, Nat.le_trans (by decide) hR.2⟩ (hw.recv (k := 0) (i := 0) ⟨rfl, Or.inl rfl⟩ rfl rfl) hA hw hS rfl hl.1 rfl (Nat.le_of_ble_eq_true rfl) dX11_lasting_2 (fun v1 μ2 H locs h hw hS => ?_)
  refine lv_istore_n (lv' := [(2, .int (iI v1)), (0, .ref (ad 0 0)), (1, .int (iI x1))]) hx hb dX11_lasting_5 rfl hl (by decide) rfl (fun ls hl => ?_)
  refine lv_iload_n hx hb dX11_lasting_6 rfl (lv_at hl 0 rfl) ?_
  obtain ⟨g3, h⟩ := h
  refine q_if_ge (tgt := 12) hx hb g3 dX11_lasting_7 (by decide) (fun c4 => ?_) (fun c4 => ?_)
  · have h := ite_t c4 h
    refine lv_aload_n hx hb dX11_lasting_12 rfl (lv_at hl 1 rfl) ?_
    refine gR_goings F hw tw5_167 dX11_lasting_13 ?_
    refine lv_iload_n hx hb dX11_lasting_16 rfl (lv_at hl 2 rfl) ?_
    obtain ⟨g5, h⟩ := h
    obtain ⟨g6, h⟩ := h
    refine aR_ild (L := 4) hx hb hw 28 rfl rfl (by decide) g5 g6 dX11_lasting_17 ?_
    obtain ⟨g7, h⟩ := h
    refine q_if_eq (tgt := 30) hx hb g7 dX11_lasting_18 (by decide) (fun c8 => ?_) (fun c8 => ?_)
    · have h := ite_t c8 h
      exact wX11_lasting_J30 F hA hR ret h hw hS (lv_sub hl [1, 2] rfl)
    · have h := ite_f c8 h
      refine lv_aload_n hx hb dX11_lasting_21 rfl (lv_at hl 1 rfl) ?_
      refine gR_goes F hw tw5_169 dX11_lasting_22 ?_
      refine lv_iload_n hx hb dX11_lasting_25 rfl (lv_at hl 2 rfl) ?_
      refine aR_zld (L := 4) hx hb hw 30 rfl rfl (by decide) g5 g6 dX11_lasting_26 ?_
      obtain ⟨g9, h⟩ := h
      refine q_if_ne (tgt := 46) hx hb g9 dX11_lasting_27 (by decide) (fun c10 => ?_) (fun c10 => ?_)
      · have h := ite_f c10 h
        refine lv_aload_n hx hb dX11_lasting_46 rfl (lv_at hl 1 rfl) ?_
        refine gR_goings F hw tw5_167 dX11_lasting_47 ?_
        refine lv_iload_n hx hb dX11_lasting_50 rfl (lv_at hl 2 rfl) ?_
        refine aR_ild (L := 4) hx hb hw 28 rfl rfl (by decide) g5 g6 dX11_lasting_51 ?_
        refine q_i2l hx hb g7 dX11_lasting_52 ?_
        refine q_ldc2 (n := 86400) hx hb hown (hts _ tw7_88) (by decide) dX11_lasting_53 ?_
        refine q_lmul hx hb dX11_lasting_56 ?_
        refine lv_aload_n hx hb dX11_lasting_57 rfl (lv_at hl 1 rfl) ?_
        refine gR_sums F hw tw5_168 dX11_lasting_58 ?_
        refine lv_iload_n hx hb dX11_lasting_61 rfl (lv_at hl 2 rfl) ?_
        refine aR_ild (L := 4) hx hb hw 29 rfl rfl (by decide) g5 g6 dX11_lasting_62 ?_
        obtain ⟨g11, h⟩ := h
        refine q_i2l hx hb g11 dX11_lasting_63 ?_
        refine q_lsub hx hb dX11_lasting_64 ?_
        obtain ⟨y12, ey12⟩ : ∃ z : Int, z = ((μ2 29 0 x1) * 86400) - (μ2 30 0 x1) := ⟨_, rfl⟩
        have h := h y12 ey12
        refine q_nmL ey12 ?_
        refine lv_lstore_n (lv' := [(3, .long (lJ y12)), (2, .int (iI v1)), (0, .ref (ad 0 0)), (1, .int (iI x1))]) hx hb dX11_lasting_65 rfl hl (by decide) rfl (fun ls hl => ?_)
        refine q_ldc (n := 86400) hx hb hown (hts _ tw7_58) (by decide) dX11_lasting_66 ?_
        refine lv_aload_n hx hb dX11_lasting_68 rfl (lv_at hl 2 rfl) ?_
        refine gR_rates F hw tw5_166 dX11_lasting_69 ?_
        refine lv_iload_n hx hb dX11_lasting_72 rfl (lv_at hl 3 rfl) ?_
        refine aR_ild (L := 4) hx hb hw 27 rfl rfl (by decide) g5 g6 dX11_lasting_73 ?_
        refine q_iadd hx hb dX11_lasting_74 ?_
        obtain ⟨g13, h⟩ := h
        refine q_i2l hx hb g13 dX11_lasting_75 ?_
        obtain ⟨y14, ey14⟩ : ∃ z : Int, z = 86400 + (μ2 28 0 x1) := ⟨_, rfl⟩
        have h := h y14 ey14
        refine q_nmL ey14 ?_
        refine lv_lstore (lv' := [(5, .long (lJ y14)), (3, .long (lJ y12)), (2, .int (iI v1)), (0, .ref (ad 0 0)), (1, .int (iI x1))]) hx hb dX11_lasting_76 hl (by decide) rfl (fun ls hl => ?_)
        refine lv_lload_n hx hb dX11_lasting_78 rfl (lv_at hl 1 rfl) ?_
        refine q_lconst (v := 0) hx hb (by decide) dX11_lasting_79 ?_
        obtain ⟨g15, h⟩ := h
        refine q_lcmp_gt (tgt := 88) hx hb g15 (by decide) dX11_lasting_80 dX11_lasting_81 (by decide) (fun c16 => ?_) (fun c16 => ?_)
        · have h := ite_t c16 h
          refine lv_lload_n hx hb dX11_lasting_88 rfl (lv_at hl 1 rfl) ?_
          refine lv_lload hx hb dX11_lasting_89 (lv_at hl 0 rfl) ?_
          refine q_ladd hx hb dX11_lasting_91 ?_
          refine q_lconst (v := 1) hx hb (by decide) dX11_lasting_92 ?_
          refine q_lsub hx hb dX11_lasting_93 ?_
          refine lv_lload hx hb dX11_lasting_94 (lv_at hl 0 rfl) ?_
          obtain ⟨g17, h⟩ := h
          obtain ⟨g18, h⟩ := h
          obtain ⟨g19, h⟩ := h
          refine q_ldiv hx hb g17 g18 g19 dX11_lasting_96 ?_
          exact wX11_lasting_J97 F hA hR ret h hw hS (lv_sub hl [] rfl)
        · have h := ite_f c16 h
          refine q_lconst (v := 1) hx hb (by decide) dX11_lasting_84 ?_
          refine lv_goto (tgt := 97) hx hb dX11_lasting_85 (by decide) ?_
          exact wX11_lasting_J97 F hA hR ret h hw hS (lv_sub hl [] rfl)
      · have h := ite_t c10 h
        exact wX11_lasting_J30 F hA hR ret h hw hS (lv_sub hl [1, 2] rfl)
  · have h := ite_f c4 h
    refine lv_iload_n hx hb dX11_lasting_10 rfl (lv_at hl 0 rfl) ?_
    exact ret _ _ _ _ _ _ h hw hS dX11_lasting_11
set_option maxRecDepth 100000 in
set_option maxHeartbeats 4000000 in
theorem kX11_lasting {l : Launch} {D : va_G} {cy : Nat → ClassId} {ad : AD} {A : Nat → Prop} {x1 : Int} {μ : MM} {Q : Int → MM → Prop} (h : wpX11_lasting x1 μ Q) : Met l yX11_lasting (Cond.code yX11_lasting cX11_lasting 9 (some .int) :: uw) (rmm 3 63) (wPc [.ref (ad 0 0), .int (iI x1)] dmR cfR tyR exR D cy ad A μ) (wQ vI Q dmR cfR D cy ad A) 0 0 A :=
  met_of (by decide) (Nat.le_of_ble_eq_true rfl) (fun p e R s m args below meth c ls hr hk hRR F hA hw hS hl => wX11_lasting F hA (by subst hRR; exact ⟨Nat.le_refl _, Nat.le_refl _⟩) (retI_of F hr hk) h hw hS hl)
theorem hdX11_lasting : yX11_lasting.cls ≠ "java/lang/invoke/MethodHandle" ∧ yX11_lasting.cls ≠ "java/lang/invoke/VarHandle" ∧ (parseMethodDescriptor yX11_lasting.desc).map (fun d => d.parameters.length) = some 1 := by decide +kernel
def wpX11_lastingDays_J86 (k38 : Int → Int → Int → Int → Int → Int → MM → Prop) (Q : Int → MM → Prop) (x1 : Int) (x2 : Int) (x3 : Int) (x5 : Int) (t0 : Int) (μ : MM) : Prop := wpX11_dayOf x1 x2 t0 μ (fun v1 μ2 => k38 x1 x2 x3 t0 x5 v1 μ2)
set_option maxRecDepth 100000 in
set_option maxHeartbeats 4000000 in
theorem wX11_lastingDays_J86 {k38 : Int → Int → Int → Int → Int → Int → MM → Prop} {Q : Int → MM → Prop} {x1 : Int} {x2 : Int} {x3 : Int} {x5 : Int} {t0 : Int} {μ : MM} {H : Heap} {locs : List Loc} {ls : Array Slot} (F : CallFix p m c cX11_lastingDays 7 s args uw RX11) (hA : ∀ q : Nat, s.heap.size ≤ q → A q) (hR : 2 ≤ R.frames ∧ 43 ≤ R.locals) (ret : RetI p l e R s m args below meth c cX11_lastingDays Qf dmR cfR tyR exR D cy ad A Q) (hk38 : ∀ (x1' x2' x3' x4' x5' x6' : Int) (μ' : MM) (H : Heap) (locs : List Loc) (ls : Array Slot), k38 x1' x2' x3' x4' x5' x6' μ' → wdR D cy ad A μ' s H → va_S A s.heap H locs → lv_has ls 7 [(0, .ref (ad 0 0)), (1, .int (iI (x1'))), (2, .int (iI (x2'))), (3, .int (iI (x3'))), (4, .int (iI (x4'))), (5, .int (iI (x5'))), (6, .int (iI (x6')))] → W p l e R s m args below meth c H locs 0 0 Qf (F0 m 38 ls [])) (h : wpX11_lastingDays_J86 k38 Q x1 x2 x3 x5 t0 μ) (hw : wdR D cy ad A μ s H) (hS : va_S A s.heap H locs) (hl : lv_has ls 7 [(0, .ref (ad 0 0)), (1, .int (iI x1)), (2, .int (iI x2)), (3, .int (iI x3)), (5, .int (iI x5))]) : W p l e R s m args below meth c H locs 0 0 Qf (F0 m 86 ls [.int (iI t0)]) := by
  have hx := F.1
  have hb := F.2.1
  have hown := F.2.2.2.1
  have hts := F.2.2.2.2
  refine lv_istore (lv' := [(4, .int (iI t0)), (0, .ref (ad 0 0)), (1, .int (iI x1)), (2, .int (iI x2)), (3, .int (iI x3)), (5, .int (iI x5))]) hx hb dX11_lastingDays_86 hl (by decide) rfl (fun ls hl => ?_)
  refine lv_aload_n hx hb dX11_lastingDays_88 rfl (lv_at hl 1 rfl) ?_
  refine lv_iload_n hx hb dX11_lastingDays_89 rfl (lv_at hl 2 rfl) ?_
  refine lv_iload_n hx hb dX11_lastingDays_90 rfl (lv_at hl 3 rfl) ?_
  refine lv_iload hx hb dX11_lastingDays_91 (lv_at hl 0 rfl) ?_
  refine call_V hexR F (kX11_dayOf h) 3 tw7_197 tw1_8 tw7_196 tws4_12 tw7_194 hdX11_dayOf ⟨Nat.le_trans (by decide) hR.1, Nat.le_trans (by decide) hR.2⟩ (hw.recv (k := 0) (i := 0) ⟨rfl, Or.inl rfl⟩ rfl rfl) hA hw hS rfl hl.1 rfl (Nat.le_of_ble_eq_true rfl) dX11_lastingDays_93 (fun v1 μ2 H locs h hw hS => ?_)
  refine lv_istore (lv' := [(6, .int (iI v1)), (4, .int (iI t0)), (0, .ref (ad 0 0)), (1, .int (iI x1)), (2, .int (iI x2)), (3, .int (iI x3)), (5, .int (iI x5))]) hx hb dX11_lastingDays_96 hl (by decide) rfl (fun ls hl => ?_)
  refine lv_goto (tgt := 38) hx hb dX11_lastingDays_98 (by decide) ?_
  exact hk38 x1 x2 x3 t0 x5 v1 _ _ _ _ h hw hS (lv_sub hl [2, 3, 4, 5, 1, 6, 0] rfl)
def wpX11_lastingDays_J78 (k38 : Int → Int → Int → Int → Int → Int → MM → Prop) (Q : Int → MM → Prop) (x1 : Int) (x2 : Int) (x3 : Int) (x5 : Int) (t0 : Int) (t1 : Int) (μ : MM) : Prop := 0 ≤ x1 ∧ (x1 < 16 ∧ (rg (t0 + t1) ∧ (rg (μ 12 0 x1) ∧ ((μ 12 0 x1) ≠ 0 ∧ (wpX11_lastingDays_J86 k38 Q x1 x2 x3 x5 (Int.tmod (t0 + t1) (μ 12 0 x1)) μ)))))
set_option maxRecDepth 100000 in
set_option maxHeartbeats 4000000 in
theorem wX11_lastingDays_J78 {k38 : Int → Int → Int → Int → Int → Int → MM → Prop} {Q : Int → MM → Prop} {x1 : Int} {x2 : Int} {x3 : Int} {x5 : Int} {t0 : Int} {t1 : Int} {μ : MM} {H : Heap} {locs : List Loc} {ls : Array Slot} (F : CallFix p m c cX11_lastingDays 7 s args uw RX11) (hA : ∀ q : Nat, s.heap.size ≤ q → A q) (hR : 2 ≤ R.frames ∧ 43 ≤ R.locals) (ret : RetI p l e R s m args below meth c cX11_lastingDays Qf dmR cfR tyR exR D cy ad A Q) (hk38 : ∀ (x1' x2' x3' x4' x5' x6' : Int) (μ' : MM) (H : Heap) (locs : List Loc) (ls : Array Slot), k38 x1' x2' x3' x4' x5' x6' μ' → wdR D cy ad A μ' s H → va_S A s.heap H locs → lv_has ls 7 [(0, .ref (ad 0 0)), (1, .int (iI (x1'))), (2, .int (iI (x2'))), (3, .int (iI (x3'))), (4, .int (iI (x4'))), (5, .int (iI (x5'))), (6, .int (iI (x6')))] → W p l e R s m args below meth c H locs 0 0 Qf (F0 m 38 ls [])) (h : wpX11_lastingDays_J78 k38 Q x1 x2 x3 x5 t0 t1 μ) (hw : wdR D cy ad A μ s H) (hS : va_S A s.heap H locs) (hl : lv_has ls 7 [(0, .ref (ad 0 0)), (1, .int (iI x1)), (2, .int (iI x2)), (3, .int (iI x3)), (5, .int (iI x5))]) : W p l e R s m args below meth c H locs 0 0 Qf (F0 m 78 ls [.int (iI t1), .int (iI t0)]) := by
  have hx := F.1
  have hb := F.2.1
  have hown := F.2.2.2.1
  have hts := F.2.2.2.2
  refine q_iadd hx hb dX11_lastingDays_78 ?_
  refine lv_aload_n hx hb dX11_lastingDays_79 rfl (lv_at hl 0 rfl) ?_
  refine gR_many F hw tw5_150 dX11_lastingDays_80 ?_
  refine lv_iload_n hx hb dX11_lastingDays_83 rfl (lv_at hl 1 rfl) ?_
  obtain ⟨g1, h⟩ := h
  obtain ⟨g2, h⟩ := h
  refine aR_ild (L := 16) hx hb hw 11 rfl rfl (by decide) g1 g2 dX11_lastingDays_84 ?_
  obtain ⟨g3, h⟩ := h
  obtain ⟨g4, h⟩ := h
  obtain ⟨g5, h⟩ := h
  refine q_irem hx hb g3 g4 g5 dX11_lastingDays_85 ?_
  exact wX11_lastingDays_J86 F hA hR ret hk38 h hw hS (lv_sub hl [0, 1, 2, 3, 4] rfl)
def wpX11_lastingDays_L38 (Q : Int → MM → Prop) : Nat → Int → Int → Int → Int → Int → Int → MM → Prop
  | 0, _, _, _, _, _, _, _ => False
  | n + 1, x1, x2, x3, x4, x5, x6, μ => rg x3 ∧ (rg x6 ∧ (if x3 < x6 then (Q x5 μ) else (0 ≤ x1 ∧ (x1 < 16 ∧ (rg (μ 12 0 x1) ∧ (if (μ 12 0 x1) = 0 then (wpX11_lastingDays_J86 (fun x1' x2' x3' x4' x5' x6' μ' => wpX11_lastingDays_L38 Q n x1' x2' x3' x4' x5' x6' μ') Q x1 x2 (x3 - x6) (x5 + 1) 0 μ) else (rg x2 ∧ (if x2 = 0 then (wpX11_lastingDays_J78 (fun x1' x2' x3' x4' x5' x6' μ' => wpX11_lastingDays_L38 Q n x1' x2' x3' x4' x5' x6' μ') Q x1 x2 (x3 - x6) (x5 + 1) x4 24 μ) else (wpX11_lastingDays_J78 (fun x1' x2' x3' x4' x5' x6' μ' => wpX11_lastingDays_L38 Q n x1' x2' x3' x4' x5' x6' μ') Q x1 x2 (x3 - x6) (x5 + 1) x4 96 μ)))))))))
set_option maxRecDepth 100000 in
set_option maxHeartbeats 4000000 in
theorem wX11_lastingDays_L38 {Q : Int → MM → Prop} (F : CallFix p m c cX11_lastingDays 7 s args uw RX11) (hA : ∀ q : Nat, s.heap.size ≤ q → A q) (hR : 2 ≤ R.frames ∧ 43 ≤ R.locals) (ret : RetI p l e R s m args below meth c cX11_lastingDays Qf dmR cfR tyR exR D cy ad A Q) : ∀ (n : Nat) (x1 x2 x3 x4 x5 x6 : Int) (μ : MM) (H : Heap) (locs : List Loc) (ls : Array Slot), wpX11_lastingDays_L38 Q n x1 x2 x3 x4 x5 x6 μ → wdR D cy ad A μ s H → va_S A s.heap H locs → lv_has ls 7 [(0, .ref (ad 0 0)), (1, .int (iI x1)), (2, .int (iI x2)), (3, .int (iI x3)), (4, .int (iI x4)), (5, .int (iI x5)), (6, .int (iI x6))] → W p l e R s m args below meth c H locs 0 0 Qf (F0 m 38 ls []) := by
  have hx := F.1
  have hb := F.2.1
  have hown := F.2.2.2.1
  have hts := F.2.2.2.2
  intro n
  induction n with
  | zero =>
    intro x1 x2 x3 x4 x5 x6 μ H locs ls h hw hS hl
    exact h.elim
  | succ n ih =>
    intro x1 x2 x3 x4 x5 x6 μ H locs ls h hw hS hl
    refine lv_iload_n hx hb dX11_lastingDays_38 rfl (lv_at hl 3 rfl) ?_
    refine lv_iload hx hb dX11_lastingDays_39 (lv_at hl 6 rfl) ?_
    obtain ⟨g1, h⟩ := h
    obtain ⟨g2, h⟩ := h
    refine q_icmp_lt (tgt := 101) hx hb g1 g2 dX11_lastingDays_41 (by decide) (fun c3 => ?_) (fun c3 => ?_)
    · have h := ite_t c3 h
      refine lv_iload hx hb dX11_lastingDays_101 (lv_at hl 5 rfl) ?_
      exact ret _ _ _ _ _ _ h hw hS dX11_lastingDays_103
    · have h := ite_f c3 h
      refine lv_iload_n hx hb dX11_lastingDays_44 rfl (lv_at hl 3 rfl) ?_
      refine lv_iload hx hb dX11_lastingDays_45 (lv_at hl 6 rfl) ?_
      refine q_isub hx hb dX11_lastingDays_47 ?_
      refine lv_istore_n (lv' := [(3, .int (iI (x3 - x6))), (0, .ref (ad 0 0)), (1, .int (iI x1)), (2, .int (iI x2)), (4, .int (iI x4)), (5, .int (iI x5)), (6, .int (iI x6))]) hx hb dX11_lastingDays_48 rfl hl (by decide) rfl (fun ls hl => ?_)
      refine q_iinc (k := 5) (lv' := [(5, .int (iI (x5 + 1))), (3, .int (iI (x3 - x6))), (0, .ref (ad 0 0)), (1, .int (iI x1)), (2, .int (iI x2)), (4, .int (iI x4)), (6, .int (iI x6))]) hx hb dX11_lastingDays_49 hl rfl (by decide) rfl (fun ls hl => ?_)
      refine lv_aload_n hx hb dX11_lastingDays_52 rfl (lv_at hl 2 rfl) ?_
      refine gR_many F hw tw5_150 dX11_lastingDays_53 ?_
      refine lv_iload_n hx hb dX11_lastingDays_56 rfl (lv_at hl 3 rfl) ?_
      obtain ⟨g4, h⟩ := h
      obtain ⟨g5, h⟩ := h
      refine aR_ild (L := 16) hx hb hw 11 rfl rfl (by decide) g4 g5 dX11_lastingDays_57 ?_
      obtain ⟨g6, h⟩ := h
      refine q_if_ne (tgt := 65) hx hb g6 dX11_lastingDays_58 (by decide) (fun c7 => ?_) (fun c7 => ?_)
      · have h := ite_f c7 h
        refine lv_iload hx hb dX11_lastingDays_65 (lv_at hl 5 rfl) ?_
        refine lv_iload_n hx hb dX11_lastingDays_67 rfl (lv_at hl 4 rfl) ?_
        obtain ⟨g8, h⟩ := h
        refine q_if_eq (tgt := 76) hx hb g8 dX11_lastingDays_68 (by decide) (fun c9 => ?_) (fun c9 => ?_)
        · have h := ite_t c9 h
          refine q_bipush hx hb (by decide) dX11_lastingDays_76 ?_
          exact wX11_lastingDays_J78 F hA hR ret (fun x1 x2 x3 x4 x5 x6 => ih x1 x2 x3 x4 x5 x6) h hw hS (lv_sub hl [2, 3, 4, 1, 0] rfl)
        · have h := ite_f c9 h
          refine q_bipush hx hb (by decide) dX11_lastingDays_71 ?_
          refine lv_goto (tgt := 78) hx hb dX11_lastingDays_73 (by decide) ?_
          exact wX11_lastingDays_J78 F hA hR ret (fun x1 x2 x3 x4 x5 x6 => ih x1 x2 x3 x4 x5 x6) h hw hS (lv_sub hl [2, 3, 4, 1, 0] rfl)
      · have h := ite_t c7 h
        refine q_iconst hx hb dX11_lastingDays_61 ?_
        refine lv_goto (tgt := 86) hx hb dX11_lastingDays_62 (by decide) ?_
        exact wX11_lastingDays_J86 F hA hR ret (fun x1 x2 x3 x4 x5 x6 => ih x1 x2 x3 x4 x5 x6) h hw hS (lv_sub hl [2, 3, 4, 1, 0] rfl)
def wpX11_lastingDays (x1 : Int) (x2 : Int) (μ : MM) (Q : Int → MM → Prop) : Prop := wpX11_isTrain x1 μ (fun v1 μ2 => if v1 = 0 then (Q (-1) μ2) else (0 ≤ x1 ∧ (x1 < 16 ∧ (wpX11_dayOf x1 x2 (μ2 14 0 x1) μ2 (fun v7 μ8 => ∃ n9 : Nat, wpX11_lastingDays_L38 Q n9 x1 x2 (μ2 20 0 x1) (μ2 14 0 x1) 0 v7 μ8)))))
set_option maxRecDepth 100000 in
set_option maxHeartbeats 4000000 in
theorem wX11_lastingDays {Q : Int → MM → Prop} {x1 : Int} {x2 : Int} {μ : MM} {H : Heap} {locs : List Loc} {ls : Array Slot} (F : CallFix p m c cX11_lastingDays 7 s args uw RX11) (hA : ∀ q : Nat, s.heap.size ≤ q → A q) (hR : 2 ≤ R.frames ∧ 43 ≤ R.locals) (ret : RetI p l e R s m args below meth c cX11_lastingDays Qf dmR cfR tyR exR D cy ad A Q) (h : wpX11_lastingDays x1 x2 μ Q) (hw : wdR D cy ad A μ s H) (hS : va_S A s.heap H locs) (hl : lv_has ls 7 [(0, .ref (ad 0 0)), (1, .int (iI x1)), (2, .int (iI x2))]) : W p l e R s m args below meth c H locs 0 0 Qf (F0 m 0 ls []) := by
  have hx := F.1
  have hb := F.2.1
  have hown := F.2.2.2.1
  have hts := F.2.2.2.2
  refine lv_aload_n hx hb dX11_lastingDays_0 rfl (lv_at hl 0 rfl) ?_
  refine lv_iload_n hx hb dX11_lastingDays_1 rfl (lv_at hl 1 rfl) ?_
  refine call_V hexR F (kX11_isTrain h) 1 tw6_137 tw1_8 tw6_136 tws3_0 tw6_134 hdX11_isTrain ⟨Nat.le_trans (by decide) hR.1, Nat.le_trans (by decide) hR.2⟩ (hw.recv (k := 0) (i := 0) ⟨rfl, Or.inl rfl⟩ rfl rfl) hA hw hS rfl hl.1 rfl (Nat.le_of_ble_eq_true rfl) dX11_lastingDays_2 (fun v1 μ2 H locs h hw hS => ?_)
  obtain ⟨z3, h⟩ := h
  refine q_if_ne (tgt := 10) hx hb (rgB z3) dX11_lastingDays_5 (by decide) (fun c4 => ?_) (fun c4 => ?_)
  · have h := ite_f c4 h
    refine lv_aload_n hx hb dX11_lastingDays_10 rfl (lv_at hl 0 rfl) ?_
    refine gR_weights F hw tw5_158 dX11_lastingDays_11 ?_
    refine lv_iload_n hx hb dX11_lastingDays_14 rfl (lv_at hl 1 rfl) ?_
    obtain ⟨g5, h⟩ := h
    obtain ⟨g6, h⟩ := h
    refine aR_ild (L := 16) hx hb hw 19 rfl rfl (by decide) g5 g6 dX11_lastingDays_15 ?_
    refine lv_istore_n (lv' := [(3, .int (iI (μ2 20 0 x1))), (0, .ref (ad 0 0)), (1, .int (iI x1)), (2, .int (iI x2))]) hx hb dX11_lastingDays_16 rfl hl (by decide) rfl (fun ls hl => ?_)
    refine lv_aload_n hx hb dX11_lastingDays_17 rfl (lv_at hl 1 rfl) ?_
    refine gR_stands F hw tw5_152 dX11_lastingDays_18 ?_
    refine lv_iload_n hx hb dX11_lastingDays_21 rfl (lv_at hl 2 rfl) ?_
    refine aR_ild (L := 16) hx hb hw 13 rfl rfl (by decide) g5 g6 dX11_lastingDays_22 ?_
    refine lv_istore (lv' := [(4, .int (iI (μ2 14 0 x1))), (3, .int (iI (μ2 20 0 x1))), (0, .ref (ad 0 0)), (1, .int (iI x1)), (2, .int (iI x2))]) hx hb dX11_lastingDays_23 hl (by decide) rfl (fun ls hl => ?_)
    refine q_iconst hx hb dX11_lastingDays_25 ?_
    refine lv_istore (lv' := [(5, .int (iI 0)), (4, .int (iI (μ2 14 0 x1))), (3, .int (iI (μ2 20 0 x1))), (0, .ref (ad 0 0)), (1, .int (iI x1)), (2, .int (iI x2))]) hx hb dX11_lastingDays_26 hl (by decide) rfl (fun ls hl => ?_)
    refine lv_aload_n hx hb dX11_lastingDays_28 rfl (lv_at hl 3 rfl) ?_
    refine lv_iload_n hx hb dX11_lastingDays_29 rfl (lv_at hl 4 rfl) ?_
    refine lv_iload_n hx hb dX11_lastingDays_30 rfl (lv_at hl 5 rfl) ?_
    refine lv_iload hx hb dX11_lastingDays_31 (lv_at hl 1 rfl) ?_
    refine call_V hexR F (kX11_dayOf h) 3 tw7_197 tw1_8 tw7_196 tws4_12 tw7_194 hdX11_dayOf ⟨Nat.le_trans (by decide) hR.1, Nat.le_trans (by decide) hR.2⟩ (hw.recv (k := 0) (i := 0) ⟨rfl, Or.inl rfl⟩ rfl rfl) hA hw hS rfl hl.1 rfl (Nat.le_of_ble_eq_true rfl) dX11_lastingDays_33 (fun v7 μ8 H locs h hw hS => ?_)
    refine lv_istore (lv' := [(6, .int (iI v7)), (5, .int (iI 0)), (4, .int (iI (μ2 14 0 x1))), (3, .int (iI (μ2 20 0 x1))), (0, .ref (ad 0 0)), (1, .int (iI x1)), (2, .int (iI x2))]) hx hb dX11_lastingDays_36 hl (by decide) rfl (fun ls hl => ?_)
    obtain ⟨n9, h⟩ := h
    exact wX11_lastingDays_L38 F hA hR ret n9 x1 x2 (μ2 20 0 x1) (μ2 14 0 x1) 0 v7 _ _ _ _ h hw hS (lv_sub hl [4, 5, 6, 3, 2, 1, 0] rfl)
  · have h := ite_t c4 h
    refine q_iconst hx hb dX11_lastingDays_8 ?_
    exact ret _ _ _ _ _ _ h hw hS dX11_lastingDays_9
set_option maxRecDepth 100000 in
set_option maxHeartbeats 4000000 in
theorem kX11_lastingDays {l : Launch} {D : va_G} {cy : Nat → ClassId} {ad : AD} {A : Nat → Prop} {x1 : Int} {x2 : Int} {μ : MM} {Q : Int → MM → Prop} (h : wpX11_lastingDays x1 x2 μ Q) : Met l yX11_lastingDays (Cond.code yX11_lastingDays cX11_lastingDays 7 (some .int) :: uw) (rmm 2 43) (wPc [.ref (ad 0 0), .int (iI x1), .int (iI x2)] dmR cfR tyR exR D cy ad A μ) (wQ vI Q dmR cfR D cy ad A) 0 0 A :=
  met_of (by decide) (Nat.le_of_ble_eq_true rfl) (fun p e R s m args below meth c ls hr hk hRR F hA hw hS hl => wX11_lastingDays F hA (by subst hRR; exact ⟨Nat.le_refl _, Nat.le_refl _⟩) (retI_of F hr hk) h hw hS hl)
theorem hdX11_lastingDays : yX11_lastingDays.cls ≠ "java/lang/invoke/MethodHandle" ∧ yX11_lastingDays.cls ≠ "java/lang/invoke/VarHandle" ∧ (parseMethodDescriptor yX11_lastingDays.desc).map (fun d => d.parameters.length) = some 2 := by decide +kernel
end
