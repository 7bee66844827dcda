section
variable {p : Program} {l : Launch} {e : Env} {R : Room} {s : State} {m : MethodId} {args : Array Value} {below : List Frame} {meth : Method} {c : Code} {Qf : State → Prop} {D : va_G} {cy : Nat → ClassId} {ad : AD} {A : Nat → Prop}
def wpX11_askedPlate (x1 : Int) (x2 : Int) (μ : MM) (Q : Int → MM → Prop) : Prop := wpX11_askedPlace x1 x2 μ (fun v1 μ2 => rg v1 ∧ (if 0 ≤ v1 then (wpX11_placeOf x1 x2 μ2 (fun v5 μ6 => 0 ≤ v5 ∧ (v5 < 8 ∧ (wpX11_isPlate (μ6 35 0 v5) μ6 (fun v9 μ10 => if v9 = 0 then (wpX11_meets 3 μ10 (fun v13 μ14 => Q v13 μ14)) else (Q 0 μ10)))))) else (Q v1 μ2)))
set_option maxRecDepth 100000 in
set_option maxHeartbeats 4000000 in
theorem wX11_askedPlate {Q : Int → MM → Prop} {x1 : Int} {x2 : Int} {μ : MM} {H : Heap} {locs : List Loc} {ls : Array Slot} (F : CallFix p m c cX11_askedPlate 4 s args uw RX11) (hA : ∀ q : Nat, s.heap.size ≤ q → A q) (hR : 4 ≤ R.frames ∧ 86 ≤ R.locals) (ret : RetI p l e R s m args below meth c cX11_askedPlate Qf dmR cfR tyR exR D cy ad A Q) (h : wpX11_askedPlate x1 x2 μ Q) (hw : wdR D cy ad A μ s H) (hS : va_S A s.heap H locs) (hl : lv_has ls 4 [(0, .ref (ad 0 0)), (1, .int (iI x1)), (2, .int (iI x2))]) : W p l e R s m args below meth c H locs 0 0 Qf (F0 m 0 ls []) := by
  have hx := F.1
  have hb := F.2.1
  have hown := F.2.2.2.1
  have hts := F.2.2.2.2
  refine lv_aload_n hx hb dX11_askedPlate_0 rfl (lv_at hl 0 rfl) ?_
  refine lv_iload_n hx hb dX11_askedPlate_1 rfl (lv_at hl 1 rfl) ?_
  refine lv_iload_n hx hb dX11_askedPlate_2 rfl (lv_at hl 2 rfl) ?_
  refine call_V hexR F (kX11_askedPlace h) 2 tw6_212 tw1_8 tw6_211 tws3_6 tw6_209 hdX11_askedPlace ⟨Nat.le_trans (by decide) hR.1, Nat.le_trans (by decide) hR.2⟩ (hw.recv (k := 0) (i := 0) ⟨rfl, Or.inl rfl⟩ rfl rfl) hA hw hS rfl hl.1 rfl (Nat.le_of_ble_eq_true rfl) dX11_askedPlate_3 (fun v1 μ2 H locs h hw hS => ?_)
  refine lv_istore_n (lv' := [(3, .int (iI v1)), (0, .ref (ad 0 0)), (1, .int (iI x1)), (2, .int (iI x2))]) hx hb dX11_askedPlate_6 rfl hl (by decide) rfl (fun ls hl => ?_)
  refine lv_iload_n hx hb dX11_askedPlate_7 rfl (lv_at hl 0 rfl) ?_
  obtain ⟨g3, h⟩ := h
  refine q_if_ge (tgt := 15) hx hb g3 dX11_askedPlate_8 (by decide) (fun c4 => ?_) (fun c4 => ?_)
  · have h := ite_t c4 h
    refine lv_aload_n hx hb dX11_askedPlate_15 rfl (lv_at hl 1 rfl) ?_
    refine lv_aload_n hx hb dX11_askedPlate_16 rfl (lv_at hl 1 rfl) ?_
    refine gR_hung F hw tw5_173 dX11_askedPlate_17 ?_
    refine lv_iload_n hx hb dX11_askedPlate_20 rfl (lv_at hl 2 rfl) ?_
    refine lv_iload_n hx hb dX11_askedPlate_21 rfl (lv_at hl 3 rfl) ?_
    refine call_S hexR F (kX11_placeOf h) 2 tw6_204 tw1_8 tw6_203 tw6_202 hdX11_placeOf ⟨Nat.le_trans (by decide) hR.1, Nat.le_trans (by decide) hR.2⟩ hA hw hS rfl hl.1 rfl (Nat.le_of_ble_eq_true rfl) dX11_askedPlate_22 (fun v5 μ6 H locs h hw hS => ?_)
    obtain ⟨g7, h⟩ := h
    obtain ⟨g8, h⟩ := h
    refine aR_ild (L := 8) hx hb hw 34 rfl rfl (by decide) g7 g8 dX11_askedPlate_25 ?_
    refine call_V hexR F (kX11_isPlate h) 1 tw6_158 tw1_8 tw6_157 tws3_2 tw6_155 hdX11_isPlate ⟨Nat.le_trans (by decide) hR.1, Nat.le_trans (by decide) hR.2⟩ (hw.recv (k := 0) (i := 0) ⟨rfl, Or.inl rfl⟩ rfl rfl) hA hw hS rfl hl.1 rfl (Nat.le_of_ble_eq_true rfl) dX11_askedPlate_26 (fun v9 μ10 H locs h hw hS => ?_)
    obtain ⟨z11, h⟩ := h
    refine q_if_eq (tgt := 36) hx hb (rgB z11) dX11_askedPlate_29 (by decide) (fun c12 => ?_) (fun c12 => ?_)
    · have h := ite_t c12 h
      refine lv_aload_n hx hb dX11_askedPlate_36 rfl (lv_at hl 1 rfl) ?_
      refine q_iconst hx hb dX11_askedPlate_37 ?_
      refine call_V hexR F (kX11_meets h) 1 tw6_81 tw1_8 tw6_80 tws2_10 tw6_78 hdX11_meets ⟨Nat.le_trans (by decide) hR.1, Nat.le_trans (by decide) hR.2⟩ (hw.recv (k := 0) (i := 0) ⟨rfl, Or.inl rfl⟩ rfl rfl) hA hw hS rfl hl.1 rfl (Nat.le_of_ble_eq_true rfl) dX11_askedPlate_38 (fun v13 μ14 H locs h hw hS => ?_)
      exact ret _ _ _ _ _ _ h hw hS dX11_askedPlate_41
    · have h := ite_f c12 h
      refine q_iconst hx hb dX11_askedPlate_32 ?_
      refine lv_goto (tgt := 41) hx hb dX11_askedPlate_33 (by decide) ?_
      exact ret _ _ _ _ _ _ h hw hS dX11_askedPlate_41
  · have h := ite_f c4 h
    refine lv_iload_n hx hb dX11_askedPlate_11 rfl (lv_at hl 0 rfl) ?_
    refine lv_goto (tgt := 41) hx hb dX11_askedPlate_12 (by decide) ?_
    exact ret _ _ _ _ _ _ h hw hS dX11_askedPlate_41
set_option maxRecDepth 100000 in
set_option maxHeartbeats 4000000 in
theorem kX11_askedPlate {l : Launch} {D : va_G} {cy : Nat → ClassId} {ad : AD} {A : Nat → Prop} {x1 : Int} {x2 : Int} {μ : MM} {Q : Int → MM → Prop} (h : wpX11_askedPlate x1 x2 μ Q) : Met l yX11_askedPlate (Cond.code yX11_askedPlate cX11_askedPlate 4 (some .int) :: uw) (rmm 4 86) (wPc [.ref (ad 0 0), .int (iI x1), .int (iI x2)] dmR cfR tyR exR D cy ad A μ) (wQ vI Q dmR cfR D cy ad A) 0 0 A :=
  met_of (by decide) (Nat.le_of_ble_eq_true rfl) (fun p e R s m args below meth c ls hr hk hRR F hA hw hS hl => wX11_askedPlate F hA (by subst hRR; exact ⟨Nat.le_refl _, Nat.le_refl _⟩) (retI_of F hr hk) h hw hS hl)
theorem hdX11_askedPlate : yX11_askedPlate.cls ≠ "java/lang/invoke/MethodHandle" ∧ yX11_askedPlate.cls ≠ "java/lang/invoke/VarHandle" ∧ (parseMethodDescriptor yX11_askedPlate.desc).map (fun d => d.parameters.length) = some 2 := by decide +kernel
def wpX11_back (x1 : Int) (x2 : Int) (μ : MM) (Q : Int → MM → Prop) : Prop := wpX11_in x2 0 1500 μ (fun v1 μ2 => if v1 = 0 then (Q (-1) μ2) else (wpX11_askedFor x1 μ2 (fun v5 μ6 => rg v5 ∧ (if 0 ≤ v5 then (0 ≤ x1 ∧ (x1 < 4 ∧ (rg (((μ6 27 0 x1) + 2880) - x2) ∧ (∀ μ12 : MM, μ12 = ms μ6 27 0 x1 (Int.tmod (((μ6 27 0 x1) + 2880) - x2) 1440) → (Q (μ12 27 0 x1) μ12))))) else (Q v5 μ6)))))
set_option maxRecDepth 100000 in
set_option maxHeartbeats 4000000 in
theorem wX11_back {Q : Int → MM → Prop} {x1 : Int} {x2 : Int} {μ : MM} {H : Heap} {locs : List Loc} {ls : Array Slot} (F : CallFix p m c cX11_back 4 s args uw RX11) (hA : ∀ q : Nat, s.heap.size ≤ q → A q) (hR : 3 ≤ R.frames ∧ 63 ≤ R.locals) (ret : RetI p l e R s m args below meth c cX11_back Qf dmR cfR tyR exR D cy ad A Q) (h : wpX11_back x1 x2 μ Q) (hw : wdR D cy ad A μ s H) (hS : va_S A s.heap H locs) (hl : lv_has ls 4 [(0, .ref (ad 0 0)), (1, .int (iI x1)), (2, .int (iI x2))]) : W p l e R s m args below meth c H locs 0 0 Qf (F0 m 0 ls []) := by
  have hx := F.1
  have hb := F.2.1
  have hown := F.2.2.2.1
  have hts := F.2.2.2.2
  refine lv_iload_n hx hb dX11_back_0 rfl (lv_at hl 2 rfl) ?_
  refine q_iconst hx hb dX11_back_1 ?_
  refine q_sipush hx hb (by decide) dX11_back_2 ?_
  refine call_S hexR F (kX11_in h) 3 tw6_77 tw1_8 tw6_76 tw6_75 hdX11_in ⟨Nat.le_trans (by decide) hR.1, Nat.le_trans (by decide) hR.2⟩ hA hw hS rfl hl.1 rfl (Nat.le_of_ble_eq_true rfl) dX11_back_5 (fun v1 μ2 H locs h hw hS => ?_)
  obtain ⟨z3, h⟩ := h
  refine q_if_ne (tgt := 13) hx hb (rgB z3) dX11_back_8 (by decide) (fun c4 => ?_) (fun c4 => ?_)
  · have h := ite_f c4 h
    refine lv_aload_n hx hb dX11_back_13 rfl (lv_at hl 0 rfl) ?_
    refine lv_iload_n hx hb dX11_back_14 rfl (lv_at hl 1 rfl) ?_
    refine call_V hexR F (kX11_askedFor h) 1 tw6_216 tw1_8 tw6_215 tws3_7 tw6_213 hdX11_askedFor ⟨Nat.le_trans (by decide) hR.1, Nat.le_trans (by decide) hR.2⟩ (hw.recv (k := 0) (i := 0) ⟨rfl, Or.inl rfl⟩ rfl rfl) hA hw hS rfl hl.1 rfl (Nat.le_of_ble_eq_true rfl) dX11_back_15 (fun v5 μ6 H locs h hw hS => ?_)
    refine lv_istore_n (lv' := [(3, .int (iI v5)), (0, .ref (ad 0 0)), (1, .int (iI x1)), (2, .int (iI x2))]) hx hb dX11_back_18 rfl hl (by decide) rfl (fun ls hl => ?_)
    refine lv_iload_n hx hb dX11_back_19 rfl (lv_at hl 0 rfl) ?_
    obtain ⟨g7, h⟩ := h
    refine q_if_ge (tgt := 25) hx hb g7 dX11_back_20 (by decide) (fun c8 => ?_) (fun c8 => ?_)
    · have h := ite_t c8 h
      refine lv_aload_n hx hb dX11_back_25 rfl (lv_at hl 1 rfl) ?_
      refine gR_handsAt F hw tw5_165 dX11_back_26 ?_
      refine lv_iload_n hx hb dX11_back_29 rfl (lv_at hl 2 rfl) ?_
      refine lv_aload_n hx hb dX11_back_30 rfl (lv_at hl 1 rfl) ?_
      refine gR_handsAt F hw tw5_165 dX11_back_31 ?_
      refine lv_iload_n hx hb dX11_back_34 rfl (lv_at hl 2 rfl) ?_
      obtain ⟨g9, h⟩ := h
      obtain ⟨g10, h⟩ := h
      refine aR_ild (L := 4) hx hb hw 26 rfl rfl (by decide) g9 g10 dX11_back_35 ?_
      refine q_sipush hx hb (by decide) dX11_back_36 ?_
      refine q_iadd hx hb dX11_back_39 ?_
      refine lv_iload_n hx hb dX11_back_40 rfl (lv_at hl 3 rfl) ?_
      refine q_isub hx hb dX11_back_41 ?_
      refine q_sipush hx hb (by decide) dX11_back_42 ?_
      obtain ⟨g11, h⟩ := h
      refine q_irem hx hb g11 (by decide) (by decide) dX11_back_45 ?_
      obtain ⟨μ12, eμ12⟩ : ∃ z : MM, z = ms μ6 27 0 x1 (Int.tmod (((μ6 27 0 x1) + 2880) - x2) 1440) := ⟨_, rfl⟩
      have h := h μ12 eμ12
      refine aR_ist (L := 4) hx hb hw hS 26 rfl rfl (by decide) g9 g10 eμ12 dX11_back_46 (fun H locs hw hS => ?_)
      refine lv_aload_n hx hb dX11_back_47 rfl (lv_at hl 1 rfl) ?_
      refine gR_handsAt F hw tw5_165 dX11_back_48 ?_
      refine lv_iload_n hx hb dX11_back_51 rfl (lv_at hl 2 rfl) ?_
      refine aR_ild (L := 4) hx hb hw 26 rfl rfl (by decide) g9 g10 dX11_back_52 ?_
      exact ret _ _ _ _ _ _ h hw hS dX11_back_53
    · have h := ite_f c8 h
      refine lv_iload_n hx hb dX11_back_23 rfl (lv_at hl 0 rfl) ?_
      exact ret _ _ _ _ _ _ h hw hS dX11_back_24
  · have h := ite_t c4 h
    refine q_iconst hx hb dX11_back_11 ?_
    exact ret _ _ _ _ _ _ h hw hS dX11_back_12
set_option maxRecDepth 100000 in
set_option maxHeartbeats 4000000 in
theorem kX11_back {l : Launch} {D : va_G} {cy : Nat → ClassId} {ad : AD} {A : Nat → Prop} {x1 : Int} {x2 : Int} {μ : MM} {Q : Int → MM → Prop} (h : wpX11_back x1 x2 μ Q) : Met l yX11_back (Cond.code yX11_back cX11_back 4 (some .int) :: uw) (rmm 3 63) (wPc [.ref (ad 0 0), .int (iI x1), .int (iI x2)] dmR cfR tyR exR D cy ad A μ) (wQ vI Q dmR cfR D cy ad A) 0 0 A :=
  met_of (by decide) (Nat.le_of_ble_eq_true rfl) (fun p e R s m args below meth c ls hr hk hRR F hA hw hS hl => wX11_back F hA (by subst hRR; exact ⟨Nat.le_refl _, Nat.le_refl _⟩) (retI_of F hr hk) h hw hS hl)
theorem hdX11_back : yX11_back.cls ≠ "java/lang/invoke/MethodHandle" ∧ yX11_back.cls ≠ "java/lang/invoke/VarHandle" ∧ (parseMethodDescriptor yX11_back.desc).map (fun d => d.parameters.length) = some 2 := by decide +kernel
def wpX11_makes (x1 : Int) (μ : MM) (Q : Int → MM → Prop) : Prop := 0 ≤ (μ 0 10 0) ∧ (μ 0 10 0 < 16 ∧ (∀ μ3 : MM, μ3 = ms μ 11 0 (μ 0 10 0) x1 → (0 ≤ (μ3 0 10 0) ∧ (μ3 0 10 0 < 16 ∧ (∀ μ6 : MM, μ6 = ms μ3 18 0 (μ3 0 10 0) 30 → (0 ≤ (μ6 0 10 0) ∧ (μ6 0 10 0 < 16 ∧ (∀ μ9 : MM, μ9 = ms μ6 19 0 (μ6 0 10 0) 1000 → (0 ≤ (μ9 0 10 0) ∧ (μ9 0 10 0 < 16 ∧ (∀ μ12 : MM, μ12 = ms μ9 20 0 (μ9 0 10 0) 1000 → (0 ≤ (μ12 0 10 0) ∧ (μ12 0 10 0 < 16 ∧ (∀ μ15 : MM, μ15 = ms μ12 22 0 (μ12 0 10 0) (-9) → (∀ μ16 : MM, μ16 = ms μ15 0 10 0 ((μ15 0 10 0) + 1) → (Q ((μ16 0 10 0) - 1) μ16))))))))))))))))
set_option maxRecDepth 100000 in
set_option maxHeartbeats 4000000 in
theorem wX11_makes {Q : Int → MM → Prop} {x1 : Int} {μ : MM} {H : Heap} {locs : List Loc} {ls : Array Slot} (F : CallFix p m c cX11_makes 2 s args uw RX11) (hA : ∀ q : Nat, s.heap.size ≤ q → A q) (hR : 0 ≤ R.frames ∧ 0 ≤ R.locals) (ret : RetI p l e R s m args below meth c cX11_makes Qf dmR cfR tyR exR D cy ad A Q) (h : wpX11_makes x1 μ Q) (hw : wdR D cy ad A μ s H) (hS : va_S A s.heap H locs) (hl : lv_has ls 2 [(0, .ref (ad 0 0)), (1, .int (iI x1))]) : W p l e R s m args below meth c H locs 0 0 Qf (F0 m 0 ls []) := by
  have hx := F.1
  have hb := F.2.1
  have hown := F.2.2.2.1
  have hts := F.2.2.2.2
  refine lv_aload_n hx hb dX11_makes_0 rfl (lv_at hl 0 rfl) ?_
  refine gR_kinds F hw tw5_149 dX11_makes_1 ?_
  refine lv_aload_n hx hb dX11_makes_4 rfl (lv_at hl 0 rfl) ?_
  refine gR_trains F hw tw5_148 dX11_makes_5 ?_
  refine lv_iload_n hx hb dX11_makes_8 rfl (lv_at hl 1 rfl) ?_
  obtain ⟨g1, h⟩ := h
  obtain ⟨g2, h⟩ := h
  obtain ⟨μ3, eμ3⟩ : ∃ z : MM, z = ms μ 11 0 (μ 0 10 0) x1 := ⟨_, rfl⟩
  have h := h μ3 eμ3
  refine aR_ist (L := 16) hx hb hw hS 10 rfl rfl (by decide) g1 g2 eμ3 dX11_makes_9 (fun H locs hw hS => ?_)
  refine lv_aload_n hx hb dX11_makes_10 rfl (lv_at hl 0 rfl) ?_
  refine gR_paces F hw tw5_156 dX11_makes_11 ?_
  refine lv_aload_n hx hb dX11_makes_14 rfl (lv_at hl 0 rfl) ?_
  refine gR_trains F hw tw5_148 dX11_makes_15 ?_
  refine q_bipush hx hb (by decide) dX11_makes_18 ?_
  obtain ⟨g4, h⟩ := h
  obtain ⟨g5, h⟩ := h
  obtain ⟨μ6, eμ6⟩ : ∃ z : MM, z = ms μ3 18 0 (μ3 0 10 0) 30 := ⟨_, rfl⟩
  have h := h μ6 eμ6
  refine aR_ist (L := 16) hx hb hw hS 17 rfl rfl (by decide) g4 g5 eμ6 dX11_makes_20 (fun H locs hw hS => ?_)
  refine lv_aload_n hx hb dX11_makes_21 rfl (lv_at hl 0 rfl) ?_
  refine gR_falls F hw tw5_157 dX11_makes_22 ?_
  refine lv_aload_n hx hb dX11_makes_25 rfl (lv_at hl 0 rfl) ?_
  refine gR_trains F hw tw5_148 dX11_makes_26 ?_
  refine q_sipush hx hb (by decide) dX11_makes_29 ?_
  obtain ⟨g7, h⟩ := h
  obtain ⟨g8, h⟩ := h
  obtain ⟨μ9, eμ9⟩ : ∃ z : MM, z = ms μ6 19 0 (μ6 0 10 0) 1000 := ⟨_, rfl⟩
  have h := h μ9 eμ9
  refine aR_ist (L := 16) hx hb hw hS 18 rfl rfl (by decide) g7 g8 eμ9 dX11_makes_32 (fun H locs hw hS => ?_)
  refine lv_aload_n hx hb dX11_makes_33 rfl (lv_at hl 0 rfl) ?_
  refine gR_weights F hw tw5_158 dX11_makes_34 ?_
  refine lv_aload_n hx hb dX11_makes_37 rfl (lv_at hl 0 rfl) ?_
  refine gR_trains F hw tw5_148 dX11_makes_38 ?_
  refine q_sipush hx hb (by decide) dX11_makes_41 ?_
  obtain ⟨g10, h⟩ := h
  obtain ⟨g11, h⟩ := h
  obtain ⟨μ12, eμ12⟩ : ∃ z : MM, z = ms μ9 20 0 (μ9 0 10 0) 1000 := ⟨_, rfl⟩
  have h := h μ12 eμ12
  refine aR_ist (L := 16) hx hb hw hS 19 rfl rfl (by decide) g10 g11 eμ12 dX11_makes_44 (fun H locs hw hS => ?_)
  refine lv_aload_n hx hb dX11_makes_45 rfl (lv_at hl 0 rfl) ?_
  refine gR_places F hw tw5_160 dX11_makes_46 ?_
  refine lv_aload_n hx hb dX11_makes_49 rfl (lv_at hl 0 rfl) ?_
  refine gR_trains F hw tw5_148 dX11_makes_50 ?_
  refine q_bipush hx hb (by decide) dX11_makes_53 ?_
  obtain ⟨g13, h⟩ := h
  obtain ⟨g14, h⟩ := h
  obtain ⟨μ15, eμ15⟩ : ∃ z : MM, z = ms μ12 22 0 (μ12 0 10 0) (-9) := ⟨_, rfl⟩
  have h := h μ15 eμ15
  refine aR_ist (L := 16) hx hb hw hS 21 rfl rfl (by decide) g13 g14 eμ15 dX11_makes_55 (fun H locs hw hS => ?_)
  refine lv_aload_n hx hb dX11_makes_56 rfl (lv_at hl 0 rfl) ?_
  refine lv_dup hx hb dX11_makes_57 rfl ?_
  refine gR_trains F hw tw5_148 dX11_makes_58 ?_
  refine q_iconst hx hb dX11_makes_61 ?_
  refine q_iadd hx hb dX11_makes_62 ?_
  obtain ⟨μ16, eμ16⟩ : ∃ z : MM, z = ms μ15 0 10 0 ((μ15 0 10 0) + 1) := ⟨_, rfl⟩
  have h := h μ16 eμ16
  refine pR_trains F hw hS tw5_148 eμ16 dX11_makes_63 (fun H locs hw hS => ?_)
  refine lv_aload_n hx hb dX11_makes_66 rfl (lv_at hl 0 rfl) ?_
  refine gR_trains F hw tw5_148 dX11_makes_67 ?_
  refine q_iconst hx hb dX11_makes_70 ?_
  refine q_isub hx hb dX11_makes_71 ?_
  exact ret _ _ _ _ _ _ h hw hS dX11_makes_72
set_option maxRecDepth 100000 in
set_option maxHeartbeats 4000000 in
theorem kX11_makes {l : Launch} {D : va_G} {cy : Nat → ClassId} {ad : AD} {A : Nat → Prop} {x1 : Int} {μ : MM} {Q : Int → MM → Prop} (h : wpX11_makes x1 μ Q) : Met l yX11_makes (Cond.code yX11_makes cX11_makes 2 (some .int) :: uw) (rmm 0 0) (wPc [.ref (ad 0 0), .int (iI x1)] dmR cfR tyR exR D cy ad A μ) (wQ vI Q dmR cfR D cy ad A) 0 0 A :=
  met_of (by decide) (Nat.le_of_ble_eq_true rfl) (fun p e R s m args below meth c ls hr hk hRR F hA hw hS hl => wX11_makes F hA (by subst hRR; exact ⟨Nat.le_refl _, Nat.le_refl _⟩) (retI_of F hr hk) h hw hS hl)
theorem hdX11_makes : yX11_makes.cls ≠ "java/lang/invoke/MethodHandle" ∧ yX11_makes.cls ≠ "java/lang/invoke/VarHandle" ∧ (parseMethodDescriptor yX11_makes.desc).map (fun d => d.parameters.length) = some 1 := by decide +kernel
def wpX11_cutOf_L17 (Q : Int → MM → Prop) : Nat → Int → Int → Int → MM → Prop
  | 0, _, _, _, _ => False
  | n + 1, x1, x2, x3, μ => 0 ≤ x1 ∧ (x1 < 8 ∧ (rg x3 ∧ (rg (μ 7 0 x1) ∧ (if (μ 7 0 x1) ≤ x3 then (wpX11_makes x2 μ (fun v6 μ7 => Q v6 μ7)) else (0 ≤ ((48 * x1) + x3) ∧ ((48 * x1) + x3 < 384 ∧ (0 ≤ ((24 * (μ 0 10 0)) + x3) ∧ ((24 * (μ 0 10 0)) + x3 < 384 ∧ (∀ μ12 : MM, μ12 = ms μ 13 0 ((24 * (μ 0 10 0)) + x3) (μ 8 0 ((48 * x1) + x3)) → (wpX11_cutOf_L17 Q n x1 x2 (x3 + 1) μ12))))))))))
set_option maxRecDepth 100000 in
set_option maxHeartbeats 4000000 in
theorem wX11_cutOf_L17 {Q : Int → MM → Prop} (F : CallFix p m c cX11_cutOf 4 s args uw RX11) (hA : ∀ q : Nat, s.heap.size ≤ q → A q) (hR : 1 ≤ R.frames ∧ 21 ≤ R.locals) (ret : RetI p l e R s m args below meth c cX11_cutOf Qf dmR cfR tyR exR D cy ad A Q) : ∀ (n : Nat) (x1 x2 x3 : Int) (μ : MM) (H : Heap) (locs : List Loc) (ls : Array Slot), wpX11_cutOf_L17 Q n x1 x2 x3 μ → wdR D cy ad A μ s H → va_S A s.heap H locs → lv_has ls 4 [(0, .ref (ad 0 0)), (1, .int (iI x1)), (2, .int (iI x2)), (3, .int (iI x3))] → W p l e R s m args below meth c H locs 0 0 Qf (F0 m 17 ls []) := by
  have hx := F.1
  have hb := F.2.1
  have hown := F.2.2.2.1
  have hts := F.2.2.2.2
  intro n
  induction n with
  | zero =>
    intro x1 x2 x3 μ H locs ls h hw hS hl
    exact h.elim
  | succ n ih =>
    intro x1 x2 x3 μ H locs ls h hw hS hl
    refine lv_iload_n hx hb dX11_cutOf_17 rfl (lv_at hl 3 rfl) ?_
    refine lv_aload_n hx hb dX11_cutOf_18 rfl (lv_at hl 0 rfl) ?_
    refine gR_sizes F hw tw5_145 dX11_cutOf_19 ?_
    refine lv_iload_n hx hb dX11_cutOf_22 rfl (lv_at hl 1 rfl) ?_
    obtain ⟨g1, h⟩ := h
    obtain ⟨g2, h⟩ := h
    refine aR_ild (L := 8) hx hb hw 6 rfl rfl (by decide) g1 g2 dX11_cutOf_23 ?_
    obtain ⟨g3, h⟩ := h
    obtain ⟨g4, h⟩ := h
    refine q_icmp_ge (tgt := 58) hx hb g3 g4 dX11_cutOf_24 (by decide) (fun c5 => ?_) (fun c5 => ?_)
    · have h := ite_t c5 h
      refine lv_aload_n hx hb dX11_cutOf_58 rfl (lv_at hl 0 rfl) ?_
      refine lv_iload_n hx hb dX11_cutOf_59 rfl (lv_at hl 2 rfl) ?_
      refine call_V hexR F (kX11_makes h) 1 tw6_105 tw1_8 tw6_104 tws2_12 tw6_102 hdX11_makes ⟨Nat.le_trans (by decide) hR.1, Nat.le_trans (by decide) hR.2⟩ (hw.recv (k := 0) (i := 0) ⟨rfl, Or.inl rfl⟩ rfl rfl) hA hw hS rfl hl.1 rfl (Nat.le_of_ble_eq_true rfl) dX11_cutOf_60 (fun v6 μ7 H locs h hw hS => ?_)
      exact ret _ _ _ _ _ _ h hw hS dX11_cutOf_63
    · have h := ite_f c5 h
      refine lv_aload_n hx hb dX11_cutOf_27 rfl (lv_at hl 0 rfl) ?_
      refine gR_notches F hw tw5_151 dX11_cutOf_28 ?_
      refine q_bipush hx hb (by decide) dX11_cutOf_31 ?_
      refine lv_aload_n hx hb dX11_cutOf_33 rfl (lv_at hl 0 rfl) ?_
      refine gR_trains F hw tw5_148 dX11_cutOf_34 ?_
      refine q_imul hx hb dX11_cutOf_37 ?_
      refine lv_iload_n hx hb dX11_cutOf_38 rfl (lv_at hl 3 rfl) ?_
      refine q_iadd hx hb dX11_cutOf_39 ?_
      refine lv_aload_n hx hb dX11_cutOf_40 rfl (lv_at hl 0 rfl) ?_
      refine gR_rows F hw tw5_146 dX11_cutOf_41 ?_
      refine q_bipush hx hb (by decide) dX11_cutOf_44 ?_
      refine lv_iload_n hx hb dX11_cutOf_46 rfl (lv_at hl 1 rfl) ?_
      refine q_imul hx hb dX11_cutOf_47 ?_
      refine lv_iload_n hx hb dX11_cutOf_48 rfl (lv_at hl 3 rfl) ?_
      refine q_iadd hx hb dX11_cutOf_49 ?_
      obtain ⟨g8, h⟩ := h
      obtain ⟨g9, h⟩ := h
      refine aR_ild (L := 384) hx hb hw 7 rfl rfl (by decide) g8 g9 dX11_cutOf_50 ?_
      obtain ⟨g10, h⟩ := h
      obtain ⟨g11, h⟩ := h
      obtain ⟨μ12, eμ12⟩ : ∃ z : MM, z = ms μ 13 0 ((24 * (μ 0 10 0)) + x3) (μ 8 0 ((48 * x1) + x3)) := ⟨_, rfl⟩
      have h := h μ12 eμ12
      refine aR_ist (L := 384) hx hb hw hS 12 rfl rfl (by decide) g10 g11 eμ12 dX11_cutOf_51 (fun H locs hw hS => ?_)
      refine q_iinc (k := 3) (lv' := [(3, .int (iI (x3 + 1))), (0, .ref (ad 0 0)), (1, .int (iI x1)), (2, .int (iI x2))]) hx hb dX11_cutOf_52 hl rfl (by decide) rfl (fun ls hl => ?_)
      refine lv_goto (tgt := 17) hx hb dX11_cutOf_55 (by decide) ?_
      exact ih x1 x2 (x3 + 1) _ _ _ _ h hw hS (lv_sub hl [1, 2, 3, 0] rfl)
def wpX11_cutOf (x1 : Int) (x2 : Int) (μ : MM) (Q : Int → MM → Prop) : Prop := 0 ≤ x1 ∧ (x1 < 8 ∧ (0 ≤ (μ 0 10 0) ∧ (μ 0 10 0 < 16 ∧ (∀ μ5 : MM, μ5 = ms μ 12 0 (μ 0 10 0) (μ 7 0 x1) → (∃ n6 : Nat, wpX11_cutOf_L17 Q n6 x1 x2 0 μ5)))))
set_option maxRecDepth 100000 in
set_option maxHeartbeats 4000000 in
theorem wX11_cutOf {Q : Int → MM → Prop} {x1 : Int} {x2 : Int} {μ : MM} {H : Heap} {locs : List Loc} {ls : Array Slot} (F : CallFix p m c cX11_cutOf 4 s args uw RX11) (hA : ∀ q : Nat, s.heap.size ≤ q → A q) (hR : 1 ≤ R.frames ∧ 21 ≤ R.locals) (ret : RetI p l e R s m args below meth c cX11_cutOf Qf dmR cfR tyR exR D cy ad A Q) (h : wpX11_cutOf x1 x2 μ Q) (hw : wdR D cy ad A μ s H) (hS : va_S A s.heap H locs) (hl : lv_has ls 4 [(0, .ref (ad 0 0)), (1, .int (iI x1)), (2, .int (iI x2))]) : W p l e R s m args below meth c H locs 0 0 Qf (F0 m 0 ls []) := by
  have hx := F.1
  have hb := F.2.1
  have hown := F.2.2.2.1
  have hts := F.2.2.2.2
  refine lv_aload_n hx hb dX11_cutOf_0 rfl (lv_at hl 0 rfl) ?_
  refine gR_many F hw tw5_150 dX11_cutOf_1 ?_
  refine lv_aload_n hx hb dX11_cutOf_4 rfl (lv_at hl 0 rfl) ?_
  refine gR_trains F hw tw5_148 dX11_cutOf_5 ?_
  refine lv_aload_n hx hb dX11_cutOf_8 rfl (lv_at hl 0 rfl) ?_
  refine gR_sizes F hw tw5_145 dX11_cutOf_9 ?_
  refine lv_iload_n hx hb dX11_cutOf_12 rfl (lv_at hl 1 rfl) ?_
  obtain ⟨g1, h⟩ := h
  obtain ⟨g2, h⟩ := h
  refine aR_ild (L := 8) hx hb hw 6 rfl rfl (by decide) g1 g2 dX11_cutOf_13 ?_
  obtain ⟨g3, h⟩ := h
  obtain ⟨g4, h⟩ := h
  obtain ⟨μ5, eμ5⟩ : ∃ z : MM, z = ms μ 12 0 (μ 0 10 0) (μ 7 0 x1) := ⟨_, rfl⟩
  have h := h μ5 eμ5
  refine aR_ist (L := 16) hx hb hw hS 11 rfl rfl (by decide) g3 g4 eμ5 dX11_cutOf_14 (fun H locs hw hS => ?_)
  refine q_iconst hx hb dX11_cutOf_15 ?_
  refine lv_istore_n (lv' := [(3, .int (iI 0)), (0, .ref (ad 0 0)), (1, .int (iI x1)), (2, .int (iI x2))]) hx hb dX11_cutOf_16 rfl hl (by decide) rfl (fun ls hl => ?_)
  obtain ⟨n6, h⟩ := h
  exact wX11_cutOf_L17 F hA hR ret n6 x1 x2 0 _ _ _ _ h hw hS (lv_sub hl [1, 2, 3, 0] rfl)
set_option maxRecDepth 100000 in
set_option maxHeartbeats 4000000 in
theorem kX11_cutOf {l : Launch} {D : va_G} {cy : Nat → ClassId} {ad : AD} {A : Nat → Prop} {x1 : Int} {x2 : Int} {μ : MM} {Q : Int → MM → Prop} (h : wpX11_cutOf x1 x2 μ Q) : Met l yX11_cutOf (Cond.code yX11_cutOf cX11_cutOf 4 (some .int) :: uw) (rmm 1 21) (wPc [.ref (ad 0 0), .int (iI x1), .int (iI x2)] dmR cfR tyR exR D cy ad A μ) (wQ vI Q dmR cfR D cy ad A) 0 0 A :=
  met_of (by decide) (Nat.le_of_ble_eq_true rfl) (fun p e R s m args below meth c ls hr hk hRR F hA hw hS hl => wX11_cutOf F hA (by subst hRR; exact ⟨Nat.le_refl _, Nat.le_refl _⟩) (retI_of F hr hk) h hw hS hl)
theorem hdX11_cutOf : yX11_cutOf.cls ≠ "java/lang/invoke/MethodHandle" ∧ yX11_cutOf.cls ≠ "java/lang/invoke/VarHandle" ∧ (parseMethodDescriptor yX11_cutOf.desc).map (fun d => d.parameters.length) = some 2 := by decide +kernel
def wpX11_isRow (x0 : Int) (μ : MM) (Q : Int → MM → Prop) : Prop := wpX11_in x0 0 7 μ (fun v1 μ2 => Q v1 μ2)
set_option maxRecDepth 100000 in
set_option maxHeartbeats 4000000 in
theorem wX11_isRow {Q : Int → MM → Prop} {x0 : Int} {μ : MM} {H : Heap} {locs : List Loc} {ls : Array Slot} (F : CallFix p m c cX11_isRow 1 s args uw RX11) (hA : ∀ q : Nat, s.heap.size ≤ q → A q) (hR : 1 ≤ R.frames ∧ 22 ≤ R.locals) (ret : RetZ p l e R s m args below meth c cX11_isRow Qf dmR cfR tyR exR D cy ad A Q) (h : wpX11_isRow x0 μ Q) (hw : wdR D cy ad A μ s H) (hS : va_S A s.heap H locs) (hl : lv_has ls 1 [(0, .int (iI x0))]) : W p l e R s m args below meth c H locs 0 0 Qf (F0 m 0 ls []) := by
  have hx := F.1
  have hb := F.2.1
  have hown := F.2.2.2.1
  have hts := F.2.2.2.2
  refine lv_iload_n hx hb dX11_isRow_0 rfl (lv_at hl 0 rfl) ?_
  refine q_iconst hx hb dX11_isRow_1 ?_
  refine q_bipush hx hb (by decide) dX11_isRow_2 ?_
  refine call_S hexR F (kX11_in h) 3 tw6_77 tw1_8 tw6_76 tw6_75 hdX11_in ⟨Nat.le_trans (by decide) hR.1, Nat.le_trans (by decide) hR.2⟩ hA hw hS rfl hl.1 rfl (Nat.le_of_ble_eq_true rfl) dX11_isRow_4 (fun v1 μ2 H locs h hw hS => ?_)
  obtain ⟨z3, h⟩ := h
  exact ret _ _ _ _ _ _ z3 h hw hS dX11_isRow_7
set_option maxRecDepth 100000 in
set_option maxHeartbeats 4000000 in
theorem kX11_isRow {l : Launch} {D : va_G} {cy : Nat → ClassId} {ad : AD} {A : Nat → Prop} {x0 : Int} {μ : MM} {Q : Int → MM → Prop} (h : wpX11_isRow x0 μ Q) : Met l yX11_isRow (Cond.code yX11_isRow cX11_isRow 1 (some .boolean) :: uw) (rmm 1 22) (wPc [.int (iI x0)] dmR cfR tyR exR D cy ad A μ) (wQ vI (fun v u => (v = 0 ∨ v = 1) ∧ Q v u) dmR cfR D cy ad A) 0 0 A :=
  met_of (by decide) (Nat.le_of_ble_eq_true rfl) (fun p e R s m args below meth c ls hr hk hRR F hA hw hS hl => wX11_isRow F hA (by subst hRR; exact ⟨Nat.le_refl _, Nat.le_refl _⟩) (retZ2_of F hr hk) h hw hS hl)
theorem hdX11_isRow : yX11_isRow.cls ≠ "java/lang/invoke/MethodHandle" ∧ yX11_isRow.cls ≠ "java/lang/invoke/VarHandle" ∧ (parseMethodDescriptor yX11_isRow.desc).map (fun d => d.parameters.length) = some 1 := by decide +kernel
def wpX11_barrel_L92 (Q : Int → MM → Prop) : Nat → Int → Int → Int → MM → Prop
  | 0, _, _, _, _ => False
  | n + 1, x1, x2, x3, μ => 0 ≤ x2 ∧ (x2 < 8 ∧ (rg x3 ∧ (rg (μ 7 0 x2) ∧ (if (μ 7 0 x2) ≤ x3 then (wpX11_cutOf x1 3 μ (fun v6 μ7 => Q v6 μ7)) else (0 ≤ ((48 * x2) + x3) ∧ ((48 * x2) + x3 < 384 ∧ (0 ≤ ((48 * (μ 0 10 0)) + x3) ∧ ((48 * (μ 0 10 0)) + x3 < 768 ∧ (∀ μ12 : MM, μ12 = ms μ 16 0 ((48 * (μ 0 10 0)) + x3) (iand (μ 8 0 ((48 * x2) + x3)) 255) → (wpX11_barrel_L92 Q n x1 x2 (x3 + 1) μ12))))))))))
set_option maxRecDepth 100000 in
set_option maxHeartbeats 4000000 in
theorem wX11_barrel_L92 {Q : Int → MM → Prop} (F : CallFix p m c cX11_barrel 4 s args uw RX11) (hA : ∀ q : Nat, s.heap.size ≤ q → A q) (hR : 2 ≤ R.frames ∧ 45 ≤ R.locals) (ret : RetI p l e R s m args below meth c cX11_barrel Qf dmR cfR tyR exR D cy ad A Q) : ∀ (n : Nat) (x1 x2 x3 : Int) (μ : MM) (H : Heap) (locs : List Loc) (ls : Array Slot), wpX11_barrel_L92 Q n x1 x2 x3 μ → wdR D cy ad A μ s H → va_S A s.heap H locs → lv_has ls 4 [(0, .ref (ad 0 0)), (1, .int (iI x1)), (2, .int (iI x2)), (3, .int (iI x3))] → W p l e R s m args below meth c H locs 0 0 Qf (F0 m 92 ls []) := by
  have hx := F.1
  have hb := F.2.1
  have hown := F.2.2.2.1
  have hts := F.2.2.2.2
  intro n
  induction n with
  | zero =>
    intro x1 x2 x3 μ H locs ls h hw hS hl
    exact h.elim
  | succ n ih =>
    intro x1 x2 x3 μ H locs ls h hw hS hl
    refine lv_iload_n hx hb dX11_barrel_92 rfl (lv_at hl 3 rfl) ?_
    refine lv_aload_n hx hb dX11_barrel_93 rfl (lv_at hl 0 rfl) ?_
    refine gR_sizes F hw tw5_145 dX11_barrel_94 ?_
    refine lv_iload_n hx hb dX11_barrel_97 rfl (lv_at hl 2 rfl) ?_
    obtain ⟨g1, h⟩ := h
    obtain ⟨g2, h⟩ := h
    refine aR_ild (L := 8) hx hb hw 6 rfl rfl (by decide) g1 g2 dX11_barrel_98 ?_
    obtain ⟨g3, h⟩ := h
    obtain ⟨g4, h⟩ := h
    refine q_icmp_ge (tgt := 137) hx hb g3 g4 dX11_barrel_99 (by decide) (fun c5 => ?_) (fun c5 => ?_)
    · have h := ite_t c5 h
      refine lv_aload_n hx hb dX11_barrel_137 rfl (lv_at hl 0 rfl) ?_
      refine lv_iload_n hx hb dX11_barrel_138 rfl (lv_at hl 1 rfl) ?_
      refine q_iconst hx hb dX11_barrel_139 ?_
      refine call_V hexR F (kX11_cutOf h) 2 tw6_121 tw1_8 tw6_120 tws2_15 tw6_118 hdX11_cutOf ⟨Nat.le_trans (by decide) hR.1, Nat.le_trans (by decide) hR.2⟩ (hw.recv (k := 0) (i := 0) ⟨rfl, Or.inl rfl⟩ rfl rfl) hA hw hS rfl hl.1 rfl (Nat.le_of_ble_eq_true rfl) dX11_barrel_140 (fun v6 μ7 H locs h hw hS => ?_)
      exact ret _ _ _ _ _ _ h hw hS dX11_barrel_143
    · have h := ite_f c5 h
      refine lv_aload_n hx hb dX11_barrel_102 rfl (lv_at hl 0 rfl) ?_
      refine gR_pins F hw tw5_154 dX11_barrel_103 ?_
      refine q_bipush hx hb (by decide) dX11_barrel_106 ?_
      refine lv_aload_n hx hb dX11_barrel_108 rfl (lv_at hl 0 rfl) ?_
      refine gR_trains F hw tw5_148 dX11_barrel_109 ?_
      refine q_imul hx hb dX11_barrel_112 ?_
      refine lv_iload_n hx hb dX11_barrel_113 rfl (lv_at hl 3 rfl) ?_
      refine q_iadd hx hb dX11_barrel_114 ?_
      refine lv_aload_n hx hb dX11_barrel_115 rfl (lv_at hl 0 rfl) ?_
      refine gR_rows F hw tw5_146 dX11_barrel_116 ?_
      refine q_bipush hx hb (by decide) dX11_barrel_119 ?_
      refine lv_iload_n hx hb dX11_barrel_121 rfl (lv_at hl 2 rfl) ?_
      refine q_imul hx hb dX11_barrel_122 ?_
      refine lv_iload_n hx hb dX11_barrel_123 rfl (lv_at hl 3 rfl) ?_
      refine q_iadd hx hb dX11_barrel_124 ?_
      obtain ⟨g8, h⟩ := h
      obtain ⟨g9, h⟩ := h
      refine aR_ild (L := 384) hx hb hw 7 rfl rfl (by decide) g8 g9 dX11_barrel_125 ?_
      refine q_sipush hx hb (by decide) dX11_barrel_126 ?_
      refine q_iand hx hb dX11_barrel_129 ?_
      obtain ⟨g10, h⟩ := h
      obtain ⟨g11, h⟩ := h
      obtain ⟨μ12, eμ12⟩ : ∃ z : MM, z = ms μ 16 0 ((48 * (μ 0 10 0)) + x3) (iand (μ 8 0 ((48 * x2) + x3)) 255) := ⟨_, rfl⟩
      have h := h μ12 eμ12
      refine aR_ist (L := 768) hx hb hw hS 15 rfl rfl (by decide) g10 g11 eμ12 dX11_barrel_130 (fun H locs hw hS => ?_)
      refine q_iinc (k := 3) (lv' := [(3, .int (iI (x3 + 1))), (0, .ref (ad 0 0)), (1, .int (iI x1)), (2, .int (iI x2))]) hx hb dX11_barrel_131 hl rfl (by decide) rfl (fun ls hl => ?_)
      refine lv_goto (tgt := 92) hx hb dX11_barrel_134 (by decide) ?_
      exact ih x1 x2 (x3 + 1) _ _ _ _ h hw hS (lv_sub hl [1, 2, 3, 0] rfl)
def wpX11_barrel_J69 (Q : Int → MM → Prop) (μ : MM) : Prop := wpX11_meets 5 μ (fun v1 μ2 => Q v1 μ2)
set_option maxRecDepth 100000 in
set_option maxHeartbeats 4000000 in
theorem wX11_barrel_J69 {Q : Int → MM → Prop} {μ : MM} {H : Heap} {locs : List Loc} {ls : Array Slot} (F : CallFix p m c cX11_barrel 4 s args uw RX11) (hA : ∀ q : Nat, s.heap.size ≤ q → A q) (hR : 2 ≤ R.frames ∧ 45 ≤ R.locals) (ret : RetI p l e R s m args below meth c cX11_barrel Qf dmR cfR tyR exR D cy ad A Q) (h : wpX11_barrel_J69 Q μ) (hw : wdR D cy ad A μ s H) (hS : va_S A s.heap H locs) (hl : lv_has ls 4 [(0, .ref (ad 0 0))]) : W p l e R s m args below meth c H locs 0 0 Qf (F0 m 69 ls []) := by
  have hx := F.1
  have hb := F.2.1
  have hown := F.2.2.2.1
  have hts := F.2.2.2.2
  refine lv_aload_n hx hb dX11_barrel_69 rfl (lv_at hl 0 rfl) ?_
  refine q_iconst hx hb dX11_barrel_70 ?_
  refine call_V hexR F (kX11_meets h) 1 tw6_81 tw1_8 tw6_80 tws2_10 tw6_78 hdX11_meets ⟨Nat.le_trans (by decide) hR.1, Nat.le_trans (by decide) hR.2⟩ (hw.recv (k := 0) (i := 0) ⟨rfl, Or.inl rfl⟩ rfl rfl) hA hw hS rfl hl.1 rfl (Nat.le_of_ble_eq_true rfl) dX11_barrel_71 (fun v1 μ2 H locs h hw hS => ?_)
  exact ret _ _ _ _ _ _ h hw hS dX11_barrel_74
def wpX11_barrel_J46 (Q : Int → MM → Prop) (μ : MM) : Prop := wpX11_meets 1 μ (fun v1 μ2 => Q v1 μ2)
set_option maxRecDepth 100000 in
set_option maxHeartbeats 4000000 in
theorem wX11_barrel_J46 {Q : Int → MM → Prop} {μ : MM} {H : Heap} {locs : List Loc} {ls : Array Slot} (F : CallFix p m c cX11_barrel 4 s args uw RX11) (hA : ∀ q : Nat, s.heap.size ≤ q → A q) (hR : 2 ≤ R.frames ∧ 45 ≤ R.locals) (ret : RetI p l e R s m args below meth c cX11_barrel Qf dmR cfR tyR exR D cy ad A Q) (h : wpX11_barrel_J46 Q μ) (hw : wdR D cy ad A μ s H) (hS : va_S A s.heap H locs) (hl : lv_has ls 4 [(0, .ref (ad 0 0))]) : W p l e R s m args below meth c H locs 0 0 Qf (F0 m 46 ls []) := by
  have hx := F.1
  have hb := F.2.1
  have hown := F.2.2.2.1
  have hts := F.2.2.2.2
  refine lv_aload_n hx hb dX11_barrel_46 rfl (lv_at hl 0 rfl) ?_
  refine q_iconst hx hb dX11_barrel_47 ?_
  refine call_V hexR F (kX11_meets h) 1 tw6_81 tw1_8 tw6_80 tws2_10 tw6_78 hdX11_meets ⟨Nat.le_trans (by decide) hR.1, Nat.le_trans (by decide) hR.2⟩ (hw.recv (k := 0) (i := 0) ⟨rfl, Or.inl rfl⟩ rfl rfl) hA hw hS rfl hl.1 rfl (Nat.le_of_ble_eq_true rfl) dX11_barrel_48 (fun v1 μ2 H locs h hw hS => ?_)
  exact ret _ _ _ _ _ _ h hw hS dX11_barrel_51
def wpX11_barrel (x1 : Int) (x2 : Int) (μ : MM) (Q : Int → MM → Prop) : Prop := wpX11_isRow x1 μ (fun v1 μ2 => if v1 = 0 then (Q (-1) μ2) else (wpX11_isRow x2 μ2 (fun v5 μ6 => if v5 = 0 then (Q (-1) μ6) else (rg (μ6 0 10 0) ∧ (if (μ6 0 10 0) = 16 then (Q (-2) μ6) else (0 ≤ x1 ∧ (x1 < 8 ∧ (rg (μ6 7 0 x1) ∧ (if (μ6 7 0 x1) < 0 then (wpX11_barrel_J46 Q  μ6) else (0 ≤ x2 ∧ (x2 < 8 ∧ (rg (μ6 7 0 x2) ∧ (if 0 ≤ (μ6 7 0 x2) then (wpX11_areNotches x1 μ6 (fun v19 μ20 => if v19 = 0 then (wpX11_barrel_J69 Q  μ20) else (rg (μ20 7 0 x2) ∧ (if (μ20 7 0 x2) = 0 then (wpX11_barrel_J69 Q  μ20) else (0 ≤ (μ20 0 10 0) ∧ (μ20 0 10 0 < 16 ∧ (∀ μ27 : MM, μ27 = ms μ20 15 0 (μ20 0 10 0) (μ20 7 0 x2) → (∃ n28 : Nat, wpX11_barrel_L92 Q n28 x1 x2 0 μ27)))))))) else (wpX11_barrel_J46 Q  μ6))))))))))))))
set_option maxRecDepth 100000 in
set_option maxHeartbeats 4000000 in
theorem wX11_barrel {Q : Int → MM → Prop} {x1 : Int} {x2 : Int} {μ : MM} {H : Heap} {locs : List Loc} {ls : Array Slot} (F : CallFix p m c cX11_barrel 4 s args uw RX11) (hA : ∀ q : Nat, s.heap.size ≤ q → A q) (hR : 2 ≤ R.frames ∧ 45 ≤ R.locals) (ret : RetI p l e R s m args below meth c cX11_barrel Qf dmR cfR tyR exR D cy ad A Q) (h : wpX11_barrel x1 x2 μ Q) (hw : wdR D cy ad A μ s H) (hS : va_S A s.heap H locs) (hl : lv_has ls 4 [(0, .ref (ad 0 0)), (1, .int (iI x1)), (2, .int (iI x2))]) : W p l e R s m args below meth c H locs 0 0 Qf (F0 m 0 ls []) := by
  have hx := F.1
  have hb := F.2.1
  have hown := F.2.2.2.1
  have hts := F.2.2.2.2
  refine lv_iload_n hx hb dX11_barrel_0 rfl (lv_at hl 1 rfl) ?_
  refine call_S hexR F (kX11_isRow h) 1 tw6_74 tw1_8 tw6_73 tw6_72 hdX11_isRow ⟨Nat.le_trans (by decide) hR.1, Nat.le_trans (by decide) hR.2⟩ hA hw hS rfl hl.1 rfl (Nat.le_of_ble_eq_true rfl) dX11_barrel_1 (fun v1 μ2 H locs h hw hS => ?_)
  obtain ⟨z3, h⟩ := h
  refine q_if_eq (tgt := 14) hx hb (rgB z3) dX11_barrel_4 (by decide) (fun c4 => ?_) (fun c4 => ?_)
  · have h := ite_t c4 h
    refine q_iconst hx hb dX11_barrel_14 ?_
    exact ret _ _ _ _ _ _ h hw hS dX11_barrel_15
  · have h := ite_f c4 h
    refine lv_iload_n hx hb dX11_barrel_7 rfl (lv_at hl 2 rfl) ?_
    refine call_S hexR F (kX11_isRow h) 1 tw6_74 tw1_8 tw6_73 tw6_72 hdX11_isRow ⟨Nat.le_trans (by decide) hR.1, Nat.le_trans (by decide) hR.2⟩ hA hw hS rfl hl.1 rfl (Nat.le_of_ble_eq_true rfl) dX11_barrel_8 (fun v5 μ6 H locs h hw hS => ?_)
    obtain ⟨z7, h⟩ := h
    refine q_if_ne (tgt := 16) hx hb (rgB z7) dX11_barrel_11 (by decide) (fun c8 => ?_) (fun c8 => ?_)
    · have h := ite_f c8 h
      refine lv_aload_n hx hb dX11_barrel_16 rfl (lv_at hl 0 rfl) ?_
      refine gR_trains F hw tw5_148 dX11_barrel_17 ?_
      refine q_bipush hx hb (by decide) dX11_barrel_20 ?_
      obtain ⟨g9, h⟩ := h
      refine q_icmp_ne (tgt := 28) hx hb g9 (by decide) dX11_barrel_22 (by decide) (fun c10 => ?_) (fun c10 => ?_)
      · have h := ite_f c10 h
        refine lv_aload_n hx hb dX11_barrel_28 rfl (lv_at hl 0 rfl) ?_
        refine gR_sizes F hw tw5_145 dX11_barrel_29 ?_
        refine lv_iload_n hx hb dX11_barrel_32 rfl (lv_at hl 1 rfl) ?_
        obtain ⟨g11, h⟩ := h
        obtain ⟨g12, h⟩ := h
        refine aR_ild (L := 8) hx hb hw 6 rfl rfl (by decide) g11 g12 dX11_barrel_33 ?_
        obtain ⟨g13, h⟩ := h
        refine q_if_lt (tgt := 46) hx hb g13 dX11_barrel_34 (by decide) (fun c14 => ?_) (fun c14 => ?_)
        · have h := ite_t c14 h
          exact wX11_barrel_J46 F hA hR ret h hw hS (lv_sub hl [0] rfl)
        · have h := ite_f c14 h
          refine lv_aload_n hx hb dX11_barrel_37 rfl (lv_at hl 0 rfl) ?_
          refine gR_sizes F hw tw5_145 dX11_barrel_38 ?_
          refine lv_iload_n hx hb dX11_barrel_41 rfl (lv_at hl 2 rfl) ?_
          obtain ⟨g15, h⟩ := h
          obtain ⟨g16, h⟩ := h
          refine aR_ild (L := 8) hx hb hw 6 rfl rfl (by decide) g15 g16 dX11_barrel_42 ?_
          obtain ⟨g17, h⟩ := h
          refine q_if_ge (tgt := 52) hx hb g17 dX11_barrel_43 (by decide) (fun c18 => ?_) (fun c18 => ?_)
          · have h := ite_t c18 h
            refine lv_aload_n hx hb dX11_barrel_52 rfl (lv_at hl 0 rfl) ?_
            refine lv_iload_n hx hb dX11_barrel_53 rfl (lv_at hl 1 rfl) ?_
            refine call_V hexR F (kX11_areNotches h) 1 tw6_117 tw1_8 tw6_116 tws2_14 tw6_114 hdX11_areNotches ⟨Nat.le_trans (by decide) hR.1, Nat.le_trans (by decide) hR.2⟩ (hw.recv (k := 0) (i := 0) ⟨rfl, Or.inl rfl⟩ rfl rfl) hA hw hS rfl hl.1 rfl (Nat.le_of_ble_eq_true rfl) dX11_barrel_54 (fun v19 μ20 H locs h hw hS => ?_)
            obtain ⟨z21, h⟩ := h
            refine q_if_eq (tgt := 69) hx hb (rgB z21) dX11_barrel_57 (by decide) (fun c22 => ?_) (fun c22 => ?_)
            · have h := ite_t c22 h
              exact wX11_barrel_J69 F hA hR ret h hw hS (lv_sub hl [0] rfl)
            · have h := ite_f c22 h
              refine lv_aload_n hx hb dX11_barrel_60 rfl (lv_at hl 0 rfl) ?_
              refine gR_sizes F hw tw5_145 dX11_barrel_61 ?_
              refine lv_iload_n hx hb dX11_barrel_64 rfl (lv_at hl 2 rfl) ?_
              refine aR_ild (L := 8) hx hb hw 6 rfl rfl (by decide) g15 g16 dX11_barrel_65 ?_
              obtain ⟨g23, h⟩ := h
              refine q_if_ne (tgt := 75) hx hb g23 dX11_barrel_66 (by decide) (fun c24 => ?_) (fun c24 => ?_)
              · have h := ite_f c24 h
                refine lv_aload_n hx hb dX11_barrel_75 rfl (lv_at hl 0 rfl) ?_
                refine gR_pinMany F hw tw5_153 dX11_barrel_76 ?_
                refine lv_aload_n hx hb dX11_barrel_79 rfl (lv_at hl 0 rfl) ?_
                refine gR_trains F hw tw5_148 dX11_barrel_80 ?_
                refine lv_aload_n hx hb dX11_barrel_83 rfl (lv_at hl 0 rfl) ?_
                refine gR_sizes F hw tw5_145 dX11_barrel_84 ?_
                refine lv_iload_n hx hb dX11_barrel_87 rfl (lv_at hl 2 rfl) ?_
                refine aR_ild (L := 8) hx hb hw 6 rfl rfl (by decide) g15 g16 dX11_barrel_88 ?_
                obtain ⟨g25, h⟩ := h
                obtain ⟨g26, h⟩ := h
                obtain ⟨μ27, eμ27⟩ : ∃ z : MM, z = ms μ20 15 0 (μ20 0 10 0) (μ20 7 0 x2) := ⟨_, rfl⟩
                have h := h μ27 eμ27
                refine aR_ist (L := 16) hx hb hw hS 14 rfl rfl (by decide) g25 g26 eμ27 dX11_barrel_89 (fun H locs hw hS => ?_)
                refine q_iconst hx hb dX11_barrel_90 ?_
                refine lv_istore_n (lv' := [(3, .int (iI 0)), (0, .ref (ad 0 0)), (1, .int (iI x1)), (2, .int (iI x2))]) hx hb dX11_barrel_91 rfl hl (by decide) rfl (fun ls hl => ?_)
                obtain ⟨n28, h⟩ := h
                exact wX11_barrel_L92 F hA hR ret n28 x1 x2 0 _ _ _ _ h hw hS (lv_sub hl [1, 2, 3, 0] rfl)
              · have h := ite_t c24 h
                exact wX11_barrel_J69 F hA hR ret h hw hS (lv_sub hl [0] rfl)
          · have h := ite_f c18 h
            exact wX11_barrel_J46 F hA hR ret h hw hS (lv_sub hl [0] rfl)
      · have h := ite_t c10 h
        refine q_bipush hx hb (by decide) dX11_barrel_25 ?_
        exact ret _ _ _ _ _ _ h hw hS dX11_barrel_27
    · have h := ite_t c8 h
      refine q_iconst hx hb dX11_barrel_14 ?_
      exact ret _ _ _ _ _ _ h hw hS dX11_barrel_15
set_option maxRecDepth 100000 in
set_option maxHeartbeats 4000000 in
theorem kX11_barrel {l : Launch} {D : va_G} {cy : Nat → ClassId} {ad : AD} {A : Nat → Prop} {x1 : Int} {x2 : Int} {μ : MM} {Q : Int → MM → Prop} (h : wpX11_barrel x1 x2 μ Q) : Met l yX11_barrel (Cond.code yX11_barrel cX11_barrel 4 (some .int) :: uw) (rmm 2 45) (wPc [.ref (ad 0 0), .int (iI x1), .int (iI x2)] dmR cfR tyR exR D cy ad A μ) (wQ vI Q dmR cfR D cy ad A) 0 0 A :=
  met_of (by decide) (Nat.le_of_ble_eq_true rfl) (fun p e R s m args below meth c ls hr hk hRR F hA hw hS hl => wX11_barrel F hA (by subst hRR; exact ⟨Nat.le_refl _, Nat.le_refl _⟩) (retI_of F hr hk) h hw hS hl)
theorem hdX11_barrel : yX11_barrel.cls ≠ "java/lang/invoke/MethodHandle" ∧ yX11_barrel.cls ≠ "java/lang/invoke/VarHandle" ∧ (parseMethodDescriptor yX11_barrel.desc).map (fun d => d.parameters.length) = some 2 := by decide +kernel
def wpX11_broken (x1 : Int) (x2 : Int) (μ : MM) (Q : Int → MM → Prop) : Prop := wpX11_isTrain x1 μ (fun v1 μ2 => if v1 = 0 then (Q (-1) μ2) else (wpX11_in x2 0 255 μ2 (fun v5 μ6 => if v5 = 0 then (Q (-1) μ6) else (0 ≤ x1 ∧ (x1 < 16 ∧ (∀ μ11 : MM, μ11 = ms μ6 23 0 x1 x2 → (Q (μ6 23 0 x1) μ11)))))))
set_option maxRecDepth 100000 in
set_option maxHeartbeats 4000000 in
theorem wX11_broken {Q : Int → MM → Prop} {x1 : Int} {x2 : Int} {μ : MM} {H : Heap} {locs : List Loc} {ls : Array Slot} (F : CallFix p m c cX11_broken 4 s args uw RX11) (hA : ∀ q : Nat, s.heap.size ≤ q → A q) (hR : 2 ≤ R.frames ∧ 43 ≤ R.locals) (ret : RetI p l e R s m args below meth c cX11_broken Qf dmR cfR tyR exR D cy ad A Q) (h : wpX11_broken x1 x2 μ Q) (hw : wdR D cy ad A μ s H) (hS : va_S A s.heap H locs) (hl : lv_has ls 4 [(0, .ref (ad 0 0)), (1, .int (iI x1)), (2, .int (iI x2))]) : W p l e R s m args below meth c H locs 0 0 Qf (F0 m 0 ls []) := by
  have hx := F.1
  have hb := F.2.1
  have hown := F.2.2.2.1
  have hts := F.2.2.2.2
  refine lv_aload_n hx hb dX11_broken_0 rfl (lv_at hl 0 rfl) ?_
  refine lv_iload_n hx hb dX11_broken_1 rfl (lv_at hl 1 rfl) ?_
  refine call_V hexR F (kX11_isTrain h) 1 tw6_137 tw1_8 tw6_136 tws3_0 tw6_134 hdX11_isTrain ⟨Nat.le_trans (by decide) hR.1, Nat.le_trans (by decide) hR.2⟩ (hw.recv (k := 0) (i := 0) ⟨rfl, Or.inl rfl⟩ rfl rfl) hA hw hS rfl hl.1 rfl (Nat.le_of_ble_eq_true rfl) dX11_broken_2 (fun v1 μ2 H locs h hw hS => ?_)
  obtain ⟨z3, h⟩ := h
  refine q_if_eq (tgt := 19) hx hb (rgB z3) dX11_broken_5 (by decide) (fun c4 => ?_) (fun c4 => ?_)
  · have h := ite_t c4 h
    refine q_iconst hx hb dX11_broken_19 ?_
    exact ret _ _ _ _ _ _ h hw hS dX11_broken_20
  · have h := ite_f c4 h
    refine lv_iload_n hx hb dX11_broken_8 rfl (lv_at hl 2 rfl) ?_
    refine q_iconst hx hb dX11_broken_9 ?_
    refine q_sipush hx hb (by decide) dX11_broken_10 ?_
    refine call_S hexR F (kX11_in h) 3 tw6_77 tw1_8 tw6_76 tw6_75 hdX11_in ⟨Nat.le_trans (by decide) hR.1, Nat.le_trans (by decide) hR.2⟩ hA hw hS rfl hl.1 rfl (Nat.le_of_ble_eq_true rfl) dX11_broken_13 (fun v5 μ6 H locs h hw hS => ?_)
    obtain ⟨z7, h⟩ := h
    refine q_if_ne (tgt := 21) hx hb (rgB z7) dX11_broken_16 (by decide) (fun c8 => ?_) (fun c8 => ?_)
    · have h := ite_f c8 h
      refine lv_aload_n hx hb dX11_broken_21 rfl (lv_at hl 0 rfl) ?_
      refine gR_brokens F hw tw5_161 dX11_broken_22 ?_
      refine lv_iload_n hx hb dX11_broken_25 rfl (lv_at hl 1 rfl) ?_
      obtain ⟨g9, h⟩ := h
      obtain ⟨g10, h⟩ := h
      refine aR_ild (L := 16) hx hb hw 22 rfl rfl (by decide) g9 g10 dX11_broken_26 ?_
      refine lv_istore_n (lv' := [(3, .int (iI (μ6 23 0 x1))), (0, .ref (ad 0 0)), (1, .int (iI x1)), (2, .int (iI x2))]) hx hb dX11_broken_27 rfl hl (by decide) rfl (fun ls hl => ?_)
      refine lv_aload_n hx hb dX11_broken_28 rfl (lv_at hl 1 rfl) ?_
      refine gR_brokens F hw tw5_161 dX11_broken_29 ?_
      refine lv_iload_n hx hb dX11_broken_32 rfl (lv_at hl 2 rfl) ?_
      refine lv_iload_n hx hb dX11_broken_33 rfl (lv_at hl 3 rfl) ?_
      obtain ⟨μ11, eμ11⟩ : ∃ z : MM, z = ms μ6 23 0 x1 x2 := ⟨_, rfl⟩
      have h := h μ11 eμ11
      refine aR_ist (L := 16) hx hb hw hS 22 rfl rfl (by decide) g9 g10 eμ11 dX11_broken_34 (fun H locs hw hS => ?_)
      refine lv_iload_n hx hb dX11_broken_35 rfl (lv_at hl 0 rfl) ?_
      exact ret _ _ _ _ _ _ h hw hS dX11_broken_36
    · have h := ite_t c8 h
      refine q_iconst hx hb dX11_broken_19 ?_
      exact ret _ _ _ _ _ _ h hw hS dX11_broken_20
set_option maxRecDepth 100000 in
set_option maxHeartbeats 4000000 in
theorem kX11_broken {l : Launch} {D : va_G} {cy : Nat → ClassId} {ad : AD} {A : Nat → Prop} {x1 : Int} {x2 : Int} {μ : MM} {Q : Int → MM → Prop} (h : wpX11_broken x1 x2 μ Q) : Met l yX11_broken (Cond.code yX11_broken cX11_broken 4 (some .int) :: uw) (rmm 2 43) (wPc [.ref (ad 0 0), .int (iI x1), .int (iI x2)] dmR cfR tyR exR D cy ad A μ) (wQ vI Q dmR cfR D cy ad A) 0 0 A :=
  met_of (by decide) (Nat.le_of_ble_eq_true rfl) (fun p e R s m args below meth c ls hr hk hRR F hA hw hS hl => wX11_broken F hA (by subst hRR; exact ⟨Nat.le_refl _, Nat.le_refl _⟩) (retI_of F hr hk) h hw hS hl)
theorem hdX11_broken : yX11_broken.cls ≠ "java/lang/invoke/MethodHandle" ∧ yX11_broken.cls ≠ "java/lang/invoke/VarHandle" ∧ (parseMethodDescriptor yX11_broken.desc).map (fun d => d.parameters.length) = some 2 := by decide +kernel
def wpX11_chosen (x1 : Int) (μ : MM) (Q : Int → MM → Prop) : Prop := wpX11_in x1 0 ((μ 0 50 0) - 1) μ (fun v1 μ2 => if v1 = 0 then (Q (-9) μ2) else (0 ≤ x1 ∧ (x1 < 4 ∧ (Q (μ2 51 0 x1) μ2))))
set_option maxRecDepth 100000 in
set_option maxHeartbeats 4000000 in
theorem wX11_chosen {Q : Int → MM → Prop} {x1 : Int} {μ : MM} {H : Heap} {locs : List Loc} {ls : Array Slot} (F : CallFix p m c cX11_chosen 2 s args uw RX11) (hA : ∀ q : Nat, s.heap.size ≤ q → A q) (hR : 1 ≤ R.frames ∧ 22 ≤ R.locals) (ret : RetI p l e R s m args below meth c cX11_chosen Qf dmR cfR tyR exR D cy ad A Q) (h : wpX11_chosen x1 μ Q) (hw : wdR D cy ad A μ s H) (hS : va_S A s.heap H locs) (hl : lv_has ls 2 [(0, .ref (ad 0 0)), (1, .int (iI x1))]) : W p l e R s m args below meth c H locs 0 0 Qf (F0 m 0 ls []) := by
  have hx := F.1
  have hb := F.2.1
  have hown := F.2.2.2.1
  have hts := F.2.2.2.2
  refine lv_iload_n hx hb dX11_chosen_0 rfl (lv_at hl 1 rfl) ?_
  refine q_iconst hx hb dX11_chosen_1 ?_
  refine lv_aload_n hx hb dX11_chosen_2 rfl (lv_at hl 0 rfl) ?_
  refine gR_chosenMany F hw tw5_188 dX11_chosen_3 ?_
  refine q_iconst hx hb dX11_chosen_6 ?_
  refine q_isub hx hb dX11_chosen_7 ?_
  refine call_S hexR F (kX11_in h) 3 tw6_77 tw1_8 tw6_76 tw6_75 hdX11_in ⟨Nat.le_trans (by decide) hR.1, Nat.le_trans (by decide) hR.2⟩ hA hw hS rfl hl.1 rfl (Nat.le_of_ble_eq_true rfl) dX11_chosen_8 (fun v1 μ2 H locs h hw hS => ?_)
  obtain ⟨z3, h⟩ := h
  refine q_if_eq (tgt := 23) hx hb (rgB z3) dX11_chosen_11 (by decide) (fun c4 => ?_) (fun c4 => ?_)
  · have h := ite_t c4 h
    refine q_bipush hx hb (by decide) dX11_chosen_23 ?_
    exact ret _ _ _ _ _ _ h hw hS dX11_chosen_25
  · have h := ite_f c4 h
    refine lv_aload_n hx hb dX11_chosen_14 rfl (lv_at hl 0 rfl) ?_
    refine gR_chosen F hw tw5_189 dX11_chosen_15 ?_
    refine lv_iload_n hx hb dX11_chosen_18 rfl (lv_at hl 1 rfl) ?_
    obtain ⟨g5, h⟩ := h
    obtain ⟨g6, h⟩ := h
    refine aR_ild (L := 4) hx hb hw 50 rfl rfl (by decide) g5 g6 dX11_chosen_19 ?_
    refine lv_goto (tgt := 25) hx hb dX11_chosen_20 (by decide) ?_
    exact ret _ _ _ _ _ _ h hw hS dX11_chosen_25
set_option maxRecDepth 100000 in
set_option maxHeartbeats 4000000 in
theorem kX11_chosen {l : Launch} {D : va_G} {cy : Nat → ClassId} {ad : AD} {A : Nat → Prop} {x1 : Int} {μ : MM} {Q : Int → MM → Prop} (h : wpX11_chosen x1 μ Q) : Met l yX11_chosen (Cond.code yX11_chosen cX11_chosen 2 (some .int) :: uw) (rmm 1 22) (wPc [.ref (ad 0 0), .int (iI x1)] dmR cfR tyR exR D cy ad A μ) (wQ vI Q dmR cfR D cy ad A) 0 0 A :=
  met_of (by decide) (Nat.le_of_ble_eq_true rfl) (fun p e R s m args below meth c ls hr hk hRR F hA hw hS hl => wX11_chosen F hA (by subst hRR; exact ⟨Nat.le_refl _, Nat.le_refl _⟩) (retI_of F hr hk) h hw hS hl)
theorem hdX11_chosen : yX11_chosen.cls ≠ "java/lang/invoke/MethodHandle" ∧ yX11_chosen.cls ≠ "java/lang/invoke/VarHandle" ∧ (parseMethodDescriptor yX11_chosen.desc).map (fun d => d.parameters.length) = some 1 := by decide +kernel
def wpX11_copy_L141 (Q : Int → MM → Prop) : Nat → Int → Int → Int → Int → MM → Prop
  | 0, _, _, _, _, _ => False
  | n + 1, x3, x4, x5, x6, μ => rg x6 ∧ (rg x5 ∧ (if x5 ≤ x6 then (Q 1 μ) else (0 ≤ x6 ∧ (x6 < 48 ∧ (0 ≤ (((48 * x3) + x4) + x6) ∧ (((48 * x3) + x4) + x6 < 384 ∧ (∀ μ8 : MM, μ8 = ms μ 8 0 (((48 * x3) + x4) + x6) (μ 9 0 x6) → (wpX11_copy_L141 Q n x3 x4 x5 (x6 + 1) μ8))))))))
set_option maxRecDepth 100000 in
set_option maxHeartbeats 4000000 in
theorem wX11_copy_L141 {Q : Int → MM → Prop} (F : CallFix p m c cX11_copy 7 s args uw RX11) (hA : ∀ q : Nat, s.heap.size ≤ q → A q) (hR : 2 ≤ R.frames ∧ 42 ≤ R.locals) (ret : RetI p l e R s m args below meth c cX11_copy Qf dmR cfR tyR exR D cy ad A Q) : ∀ (n : Nat) (x3 x4 x5 x6 : Int) (μ : MM) (H : Heap) (locs : List Loc) (ls : Array Slot), wpX11_copy_L141 Q n x3 x4 x5 x6 μ → wdR D cy ad A μ s H → va_S A s.heap H locs → lv_has ls 7 [(0, .ref (ad 0 0)), (3, .int (iI x3)), (4, .int (iI x4)), (5, .int (iI x5)), (6, .int (iI x6))] → W p l e R s m args below meth c H locs 0 0 Qf (F0 m 141 ls []) := by
  have hx := F.1
  have hb := F.2.1
  have hown := F.2.2.2.1
  have hts := F.2.2.2.2
  intro n
  induction n with
  | zero =>
    intro x3 x4 x5 x6 μ H locs ls h hw hS hl
    exact h.elim
  | succ n ih =>
    intro x3 x4 x5 x6 μ H locs ls h hw hS hl
    refine lv_iload hx hb dX11_copy_141 (lv_at hl 4 rfl) ?_
    refine lv_iload hx hb dX11_copy_143 (lv_at hl 3 rfl) ?_
    obtain ⟨g1, h⟩ := h
    obtain ⟨g2, h⟩ := h
    refine q_icmp_ge (tgt := 176) hx hb g1 g2 dX11_copy_145 (by decide) (fun c3 => ?_) (fun c3 => ?_)
    · have h := ite_t c3 h
      refine q_iconst hx hb dX11_copy_176 ?_
      exact ret _ _ _ _ _ _ h hw hS dX11_copy_177
    · have h := ite_f c3 h
      refine lv_aload_n hx hb dX11_copy_148 rfl (lv_at hl 0 rfl) ?_
      refine gR_rows F hw tw5_146 dX11_copy_149 ?_
      refine q_bipush hx hb (by decide) dX11_copy_152 ?_
      refine lv_iload_n hx hb dX11_copy_154 rfl (lv_at hl 1 rfl) ?_
      refine q_imul hx hb dX11_copy_155 ?_
      refine lv_iload hx hb dX11_copy_156 (lv_at hl 2 rfl) ?_
      refine q_iadd hx hb dX11_copy_158 ?_
      refine lv_iload hx hb dX11_copy_159 (lv_at hl 4 rfl) ?_
      refine q_iadd hx hb dX11_copy_161 ?_
      refine lv_aload_n hx hb dX11_copy_162 rfl (lv_at hl 0 rfl) ?_
      refine gR_moving F hw tw5_147 dX11_copy_163 ?_
      refine lv_iload hx hb dX11_copy_166 (lv_at hl 4 rfl) ?_
      obtain ⟨g4, h⟩ := h
      obtain ⟨g5, h⟩ := h
      refine aR_ild (L := 48) hx hb hw 8 rfl rfl (by decide) g4 g5 dX11_copy_168 ?_
      obtain ⟨g6, h⟩ := h
      obtain ⟨g7, h⟩ := h
      obtain ⟨μ8, eμ8⟩ : ∃ z : MM, z = ms μ 8 0 (((48 * x3) + x4) + x6) (μ 9 0 x6) := ⟨_, rfl⟩
      have h := h μ8 eμ8
      refine aR_ist (L := 384) hx hb hw hS 7 rfl rfl (by decide) g6 g7 eμ8 dX11_copy_169 (fun H locs hw hS => ?_)
      refine q_iinc (k := 4) (lv' := [(6, .int (iI (x6 + 1))), (0, .ref (ad 0 0)), (3, .int (iI x3)), (4, .int (iI x4)), (5, .int (iI x5))]) hx hb dX11_copy_170 hl rfl (by decide) rfl (fun ls hl => ?_)
      refine lv_goto (tgt := 141) hx hb dX11_copy_173 (by decide) ?_
      exact ih x3 x4 x5 (x6 + 1) _ _ _ _ h hw hS (lv_sub hl [1, 2, 3, 4, 0] rfl)
def wpX11_copy_L104 (Q : Int → MM → Prop) : Nat → Int → Int → Int → Int → Int → Int → MM → Prop
  | 0, _, _, _, _, _, _, _ => False
  | n + 1, x1, x2, x3, x4, x5, x6, μ => rg x6 ∧ (rg x5 ∧ (if x5 ≤ x6 then (∃ n4 : Nat, wpX11_copy_L141 Q n4 x3 x4 x5 0 μ) else (0 ≤ (((48 * x1) + x2) + x6) ∧ (((48 * x1) + x2) + x6 < 384 ∧ (0 ≤ x6 ∧ (x6 < 48 ∧ (∀ μ9 : MM, μ9 = ms μ 9 0 x6 (μ 8 0 (((48 * x1) + x2) + x6)) → (wpX11_copy_L104 Q n x1 x2 x3 x4 x5 (x6 + 1) μ9))))))))
set_option maxRecDepth 100000 in
set_option maxHeartbeats 4000000 in
theorem wX11_copy_L104 {Q : Int → MM → Prop} (F : CallFix p m c cX11_copy 7 s args uw RX11) (hA : ∀ q : Nat, s.heap.size ≤ q → A q) (hR : 2 ≤ R.frames ∧ 42 ≤ R.locals) (ret : RetI p l e R s m args below meth c cX11_copy Qf dmR cfR tyR exR D cy ad A Q) : ∀ (n : Nat) (x1 x2 x3 x4 x5 x6 : Int) (μ : MM) (H : Heap) (locs : List Loc) (ls : Array Slot), wpX11_copy_L104 Q n x1 x2 x3 x4 x5 x6 μ → wdR D cy ad A μ s H → va_S A s.heap H locs → lv_has ls 7 [(0, .ref (ad 0 0)), (1, .int (iI x1)), (2, .int (iI x2)), (3, .int (iI x3)), (4, .int (iI x4)), (5, .int (iI x5)), (6, .int (iI x6))] → W p l e R s m args below meth c H locs 0 0 Qf (F0 m 104 ls []) := by
  have hx := F.1
  have hb := F.2.1
  have hown := F.2.2.2.1
  have hts := F.2.2.2.2
  intro n
  induction n with
  | zero =>
    intro x1 x2 x3 x4 x5 x6 μ H locs ls h hw hS hl
    exact h.elim
  | succ n ih =>
    intro x1 x2 x3 x4 x5 x6 μ H locs ls h hw hS hl
    refine lv_iload hx hb dX11_copy_104 (lv_at hl 6 rfl) ?_
    refine lv_iload hx hb dX11_copy_106 (lv_at hl 5 rfl) ?_
    obtain ⟨g1, h⟩ := h
    obtain ⟨g2, h⟩ := h
    refine q_icmp_ge (tgt := 138) hx hb g1 g2 dX11_copy_108 (by decide) (fun c3 => ?_) (fun c3 => ?_)
    · have h := ite_t c3 h
      refine q_iconst hx hb dX11_copy_138 ?_
      refine lv_istore (lv' := [(6, .int (iI 0)), (0, .ref (ad 0 0)), (1, .int (iI x1)), (2, .int (iI x2)), (3, .int (iI x3)), (4, .int (iI x4)), (5, .int (iI x5))]) hx hb dX11_copy_139 hl (by decide) rfl (fun ls hl => ?_)
      obtain ⟨n4, h⟩ := h
      exact wX11_copy_L141 F hA hR ret n4 x3 x4 x5 0 _ _ _ _ h hw hS (lv_sub hl [1, 4, 5, 6, 0] rfl)
    · have h := ite_f c3 h
      refine lv_aload_n hx hb dX11_copy_111 rfl (lv_at hl 0 rfl) ?_
      refine gR_moving F hw tw5_147 dX11_copy_112 ?_
      refine lv_iload hx hb dX11_copy_115 (lv_at hl 6 rfl) ?_
      refine lv_aload_n hx hb dX11_copy_117 rfl (lv_at hl 0 rfl) ?_
      refine gR_rows F hw tw5_146 dX11_copy_118 ?_
      refine q_bipush hx hb (by decide) dX11_copy_121 ?_
      refine lv_iload_n hx hb dX11_copy_123 rfl (lv_at hl 1 rfl) ?_
      refine q_imul hx hb dX11_copy_124 ?_
      refine lv_iload_n hx hb dX11_copy_125 rfl (lv_at hl 2 rfl) ?_
      refine q_iadd hx hb dX11_copy_126 ?_
      refine lv_iload hx hb dX11_copy_127 (lv_at hl 6 rfl) ?_
      refine q_iadd hx hb dX11_copy_129 ?_
      obtain ⟨g5, h⟩ := h
      obtain ⟨g6, h⟩ := h
      refine aR_ild (L := 384) hx hb hw 7 rfl rfl (by decide) g5 g6 dX11_copy_130 ?_
      obtain ⟨g7, h⟩ := h
      obtain ⟨g8, h⟩ := h
      obtain ⟨μ9, eμ9⟩ : ∃ z : MM, z = ms μ 9 0 x6 (μ 8 0 (((48 * x1) + x2) + x6)) := ⟨_, rfl⟩
      have h := h μ9 eμ9
      refine aR_ist (L := 48) hx hb hw hS 8 rfl rfl (by decide) g7 g8 eμ9 dX11_copy_131 (fun H locs hw hS => ?_)
      refine q_iinc (k := 6) (lv' := [(6, .int (iI (x6 + 1))), (0, .ref (ad 0 0)), (1, .int (iI x1)), (2, .int (iI x2)), (3, .int (iI x3)), (4, .int (iI x4)), (5, .int (iI x5))]) hx hb dX11_copy_132 hl rfl (by decide) rfl (fun ls hl => ?_)
      refine lv_goto (tgt := 104) hx hb dX11_copy_135 (by decide) ?_
      exact ih x1 x2 x3 x4 x5 (x6 + 1) _ _ _ _ h hw hS (lv_sub hl [1, 2, 3, 4, 5, 6, 0] rfl)
def wpX11_copy_J45 (Q : Int → MM → Prop) (μ : MM) : Prop := wpX11_meets 1 μ (fun v1 μ2 => Q v1 μ2)
set_option maxRecDepth 100000 in
set_option maxHeartbeats 4000000 in
theorem wX11_copy_J45 {Q : Int → MM → Prop} {μ : MM} {H : Heap} {locs : List Loc} {ls : Array Slot} (F : CallFix p m c cX11_copy 7 s args uw RX11) (hA : ∀ q : Nat, s.heap.size ≤ q → A q) (hR : 2 ≤ R.frames ∧ 42 ≤ R.locals) (ret : RetI p l e R s m args below meth c cX11_copy Qf dmR cfR tyR exR D cy ad A Q) (h : wpX11_copy_J45 Q μ) (hw : wdR D cy ad A μ s H) (hS : va_S A s.heap H locs) (hl : lv_has ls 7 [(0, .ref (ad 0 0))]) : W p l e R s m args below meth c H locs 0 0 Qf (F0 m 45 ls []) := by
  have hx := F.1
  have hb := F.2.1
  have hown := F.2.2.2.1
  have hts := F.2.2.2.2
  refine lv_aload_n hx hb dX11_copy_45 rfl (lv_at hl 0 rfl) ?_
  refine q_iconst hx hb dX11_copy_46 ?_
  refine call_V hexR F (kX11_meets h) 1 tw6_81 tw1_8 tw6_80 tws2_10 tw6_78 hdX11_meets ⟨Nat.le_trans (by decide) hR.1, Nat.le_trans (by decide) hR.2⟩ (hw.recv (k := 0) (i := 0) ⟨rfl, Or.inl rfl⟩ rfl rfl) hA hw hS rfl hl.1 rfl (Nat.le_of_ble_eq_true rfl) dX11_copy_47 (fun v1 μ2 H locs h hw hS => ?_)
  exact ret _ _ _ _ _ _ h hw hS dX11_copy_50
def wpX11_copy_J95 (Q : Int → MM → Prop) (μ : MM) : Prop := wpX11_meets 2 μ (fun v1 μ2 => Q v1 μ2)
set_option maxRecDepth 100000 in
set_option maxHeartbeats 4000000 in
theorem wX11_copy_J95 {Q : Int → MM → Prop} {μ : MM} {H : Heap} {locs : List Loc} {ls : Array Slot} (F : CallFix p m c cX11_copy 7 s args uw RX11) (hA : ∀ q : Nat, s.heap.size ≤ q → A q) (hR : 2 ≤ R.frames ∧ 42 ≤ R.locals) (ret : RetI p l e R s m args below meth c cX11_copy Qf dmR cfR tyR exR D cy ad A Q) (h : wpX11_copy_J95 Q μ) (hw : wdR D cy ad A μ s H) (hS : va_S A s.heap H locs) (hl : lv_has ls 7 [(0, .ref (ad 0 0))]) : W p l e R s m args below meth c H locs 0 0 Qf (F0 m 95 ls []) := by
  have hx := F.1
  have hb := F.2.1
  have hown := F.2.2.2.1
  have hts := F.2.2.2.2
  refine lv_aload_n hx hb dX11_copy_95 rfl (lv_at hl 0 rfl) ?_
  refine q_iconst hx hb dX11_copy_96 ?_
  refine call_V hexR F (kX11_meets h) 1 tw6_81 tw1_8 tw6_80 tws2_10 tw6_78 hdX11_meets ⟨Nat.le_trans (by decide) hR.1, Nat.le_trans (by decide) hR.2⟩ (hw.recv (k := 0) (i := 0) ⟨rfl, Or.inl rfl⟩ rfl rfl) hA hw hS rfl hl.1 rfl (Nat.le_of_ble_eq_true rfl) dX11_copy_97 (fun v1 μ2 H locs h hw hS => ?_)
  exact ret _ _ _ _ _ _ h hw hS dX11_copy_100
def wpX11_copy (x1 : Int) (x2 : Int) (x3 : Int) (x4 : Int) (x5 : Int) (μ : MM) (Q : Int → MM → Prop) : Prop := wpX11_isRow x1 μ (fun v1 μ2 => if v1 = 0 then (Q (-1) μ2) else (wpX11_isRow x3 μ2 (fun v5 μ6 => if v5 = 0 then (Q (-1) μ6) else (rg x5 ∧ (if 0 ≤ x5 then (0 ≤ x1 ∧ (x1 < 8 ∧ (rg (μ6 7 0 x1) ∧ (if (μ6 7 0 x1) < 0 then (wpX11_copy_J45 Q  μ6) else (0 ≤ x3 ∧ (x3 < 8 ∧ (rg (μ6 7 0 x3) ∧ (if 0 ≤ (μ6 7 0 x3) then (rg x2 ∧ (if x2 < 0 then (wpX11_copy_J95 Q  μ6) else (rg x4 ∧ (if x4 < 0 then (wpX11_copy_J95 Q  μ6) else (rl (x2 + x5) ∧ (rl (μ6 7 0 x1) ∧ (if (μ6 7 0 x1) < (x2 + x5) then (wpX11_copy_J95 Q  μ6) else (rl (x4 + x5) ∧ (rl (μ6 7 0 x3) ∧ (if (x4 + x5) ≤ (μ6 7 0 x3) then (∃ n29 : Nat, wpX11_copy_L104 Q n29 x1 x2 x3 x4 x5 0 μ6) else (wpX11_copy_J95 Q  μ6))))))))))) else (wpX11_copy_J45 Q  μ6))))))))) else (wpX11_meets 5 μ6 (fun v30 μ31 => Q v30 μ31)))))))
set_option maxRecDepth 100000 in
set_option maxHeartbeats 4000000 in
theorem wX11_copy {Q : Int → MM → Prop} {x1 : Int} {x2 : Int} {x3 : Int} {x4 : Int} {x5 : Int} {μ : MM} {H : Heap} {locs : List Loc} {ls : Array Slot} (F : CallFix p m c cX11_copy 7 s args uw RX11) (hA : ∀ q : Nat, s.heap.size ≤ q → A q) (hR : 2 ≤ R.frames ∧ 42 ≤ R.locals) (ret : RetI p l e R s m args below meth c cX11_copy Qf dmR cfR tyR exR D cy ad A Q) (h : wpX11_copy x1 x2 x3 x4 x5 μ Q) (hw : wdR D cy ad A μ s H) (hS : va_S A s.heap H locs) (hl : lv_has ls 7 [(0, .ref (ad 0 0)), (1, .int (iI x1)), (2, .int (iI x2)), (3, .int (iI x3)), (4, .int (iI x4)), (5, .int (iI x5))]) : W p l e R s m args below meth c H locs 0 0 Qf (F0 m 0 ls []) := by
  have hx := F.1
  have hb := F.2.1
  have hown := F.2.2.2.1
  have hts := F.2.2.2.2
  refine lv_iload_n hx hb dX11_copy_0 rfl (lv_at hl 1 rfl) ?_
  refine call_S hexR F (kX11_isRow h) 1 tw6_74 tw1_8 tw6_73 tw6_72 hdX11_isRow ⟨Nat.le_trans (by decide) hR.1, Nat.le_trans (by decide) hR.2⟩ hA hw hS rfl hl.1 rfl (Nat.le_of_ble_eq_true rfl) dX11_copy_1 (fun v1 μ2 H locs h hw hS => ?_)
  obtain ⟨z3, h⟩ := h
  refine q_if_eq (tgt := 14) hx hb (rgB z3) dX11_copy_4 (by decide) (fun c4 => ?_) (fun c4 => ?_)
  · have h := ite_t c4 h
    refine q_iconst hx hb dX11_copy_14 ?_
    exact ret _ _ _ _ _ _ h hw hS dX11_copy_15
  · have h := ite_f c4 h
    refine lv_iload_n hx hb dX11_copy_7 rfl (lv_at hl 3 rfl) ?_
    refine call_S hexR F (kX11_isRow h) 1 tw6_74 tw1_8 tw6_73 tw6_72 hdX11_isRow ⟨Nat.le_trans (by decide) hR.1, Nat.le_trans (by decide) hR.2⟩ hA hw hS rfl hl.1 rfl (Nat.le_of_ble_eq_true rfl) dX11_copy_8 (fun v5 μ6 H locs h hw hS => ?_)
    obtain ⟨z7, h⟩ := h
    refine q_if_ne (tgt := 16) hx hb (rgB z7) dX11_copy_11 (by decide) (fun c8 => ?_) (fun c8 => ?_)
    · have h := ite_f c8 h
      refine lv_iload hx hb dX11_copy_16 (lv_at hl 5 rfl) ?_
      obtain ⟨g9, h⟩ := h
      refine q_if_ge (tgt := 27) hx hb g9 dX11_copy_18 (by decide) (fun c10 => ?_) (fun c10 => ?_)
      · have h := ite_t c10 h
        refine lv_aload_n hx hb dX11_copy_27 rfl (lv_at hl 0 rfl) ?_
        refine gR_sizes F hw tw5_145 dX11_copy_28 ?_
        refine lv_iload_n hx hb dX11_copy_31 rfl (lv_at hl 1 rfl) ?_
        obtain ⟨g11, h⟩ := h
        obtain ⟨g12, h⟩ := h
        refine aR_ild (L := 8) hx hb hw 6 rfl rfl (by decide) g11 g12 dX11_copy_32 ?_
        obtain ⟨g13, h⟩ := h
        refine q_if_lt (tgt := 45) hx hb g13 dX11_copy_33 (by decide) (fun c14 => ?_) (fun c14 => ?_)
        · have h := ite_t c14 h
          exact wX11_copy_J45 F hA hR ret h hw hS (lv_sub hl [0] rfl)
        · have h := ite_f c14 h
          refine lv_aload_n hx hb dX11_copy_36 rfl (lv_at hl 0 rfl) ?_
          refine gR_sizes F hw tw5_145 dX11_copy_37 ?_
          refine lv_iload_n hx hb dX11_copy_40 rfl (lv_at hl 3 rfl) ?_
          obtain ⟨g15, h⟩ := h
          obtain ⟨g16, h⟩ := h
          refine aR_ild (L := 8) hx hb hw 6 rfl rfl (by decide) g15 g16 dX11_copy_41 ?_
          obtain ⟨g17, h⟩ := h
          refine q_if_ge (tgt := 51) hx hb g17 dX11_copy_42 (by decide) (fun c18 => ?_) (fun c18 => ?_)
          · have h := ite_t c18 h
            refine lv_iload_n hx hb dX11_copy_51 rfl (lv_at hl 2 rfl) ?_
            obtain ⟨g19, h⟩ := h
            refine q_if_lt (tgt := 95) hx hb g19 dX11_copy_52 (by decide) (fun c20 => ?_) (fun c20 => ?_)
            · have h := ite_t c20 h
              exact wX11_copy_J95 F hA hR ret h hw hS (lv_sub hl [0] rfl)
            · have h := ite_f c20 h
              refine lv_iload hx hb dX11_copy_55 (lv_at hl 4 rfl) ?_
              obtain ⟨g21, h⟩ := h
              refine q_if_lt (tgt := 95) hx hb g21 dX11_copy_57 (by decide) (fun c22 => ?_) (fun c22 => ?_)
              · have h := ite_t c22 h
                exact wX11_copy_J95 F hA hR ret h hw hS (lv_sub hl [0] rfl)
              · have h := ite_f c22 h
                refine lv_iload_n hx hb dX11_copy_60 rfl (lv_at hl 2 rfl) ?_
                refine q_i2l hx hb g19 dX11_copy_61 ?_
                refine lv_iload hx hb dX11_copy_62 (lv_at hl 5 rfl) ?_
                refine q_i2l hx hb g9 dX11_copy_64 ?_
                refine q_ladd hx hb dX11_copy_65 ?_
                refine lv_aload_n hx hb dX11_copy_66 rfl (lv_at hl 0 rfl) ?_
                refine gR_sizes F hw tw5_145 dX11_copy_67 ?_
                refine lv_iload_n hx hb dX11_copy_70 rfl (lv_at hl 1 rfl) ?_
                refine aR_ild (L := 8) hx hb hw 6 rfl rfl (by decide) g11 g12 dX11_copy_71 ?_
                refine q_i2l hx hb g13 dX11_copy_72 ?_
                obtain ⟨g23, h⟩ := h
                obtain ⟨g24, h⟩ := h
                refine q_lcmp_gt (tgt := 95) hx hb g23 g24 dX11_copy_73 dX11_copy_74 (by decide) (fun c25 => ?_) (fun c25 => ?_)
                · have h := ite_t c25 h
                  exact wX11_copy_J95 F hA hR ret h hw hS (lv_sub hl [0] rfl)
                · have h := ite_f c25 h
                  refine lv_iload hx hb dX11_copy_77 (lv_at hl 4 rfl) ?_
                  refine q_i2l hx hb g21 dX11_copy_79 ?_
                  refine lv_iload hx hb dX11_copy_80 (lv_at hl 5 rfl) ?_
                  refine q_i2l hx hb g9 dX11_copy_82 ?_
                  refine q_ladd hx hb dX11_copy_83 ?_
                  refine lv_aload_n hx hb dX11_copy_84 rfl (lv_at hl 0 rfl) ?_
                  refine gR_sizes F hw tw5_145 dX11_copy_85 ?_
                  refine lv_iload_n hx hb dX11_copy_88 rfl (lv_at hl 3 rfl) ?_
                  refine aR_ild (L := 8) hx hb hw 6 rfl rfl (by decide) g15 g16 dX11_copy_89 ?_
                  refine q_i2l hx hb g17 dX11_copy_90 ?_
                  obtain ⟨g26, h⟩ := h
                  obtain ⟨g27, h⟩ := h
                  refine q_lcmp_le (tgt := 101) hx hb g26 g27 dX11_copy_91 dX11_copy_92 (by decide) (fun c28 => ?_) (fun c28 => ?_)
                  · have h := ite_t c28 h
                    refine q_iconst hx hb dX11_copy_101 ?_
                    refine lv_istore (lv' := [(6, .int (iI 0)), (0, .ref (ad 0 0)), (1, .int (iI x1)), (2, .int (iI x2)), (3, .int (iI x3)), (4, .int (iI x4)), (5, .int (iI x5))]) hx hb dX11_copy_102 hl (by decide) rfl (fun ls hl => ?_)
                    obtain ⟨n29, h⟩ := h
                    exact wX11_copy_L104 F hA hR ret n29 x1 x2 x3 x4 x5 0 _ _ _ _ h hw hS (lv_sub hl [1, 2, 3, 4, 5, 6, 0] rfl)
                  · have h := ite_f c28 h
                    exact wX11_copy_J95 F hA hR ret h hw hS (lv_sub hl [0] rfl)
          · have h := ite_f c18 h
            exact wX11_copy_J45 F hA hR ret h hw hS (lv_sub hl [0] rfl)
      · have h := ite_f c10 h
        refine lv_aload_n hx hb dX11_copy_21 rfl (lv_at hl 0 rfl) ?_
        refine q_iconst hx hb dX11_copy_22 ?_
        refine call_V hexR F (kX11_meets h) 1 tw6_81 tw1_8 tw6_80 tws2_10 tw6_78 hdX11_meets ⟨Nat.le_trans (by decide) hR.1, Nat.le_trans (by decide) hR.2⟩ (hw.recv (k := 0) (i := 0) ⟨rfl, Or.inl rfl⟩ rfl rfl) hA hw hS rfl hl.1 rfl (Nat.le_of_ble_eq_true rfl) dX11_copy_23 (fun v30 μ31 H locs h hw hS => ?_)
        exact ret _ _ _ _ _ _ h hw hS dX11_copy_26
    · have h := ite_t c8 h
      refine q_iconst hx hb dX11_copy_14 ?_
      exact ret _ _ _ _ _ _ h hw hS dX11_copy_15
set_option maxRecDepth 100000 in
set_option maxHeartbeats 4000000 in
theorem kX11_copy {l : Launch} {D : va_G} {cy : Nat → ClassId} {ad : AD} {A : Nat → Prop} {x1 : Int} {x2 : Int} {x3 : Int} {x4 : Int} {x5 : Int} {μ : MM} {Q : Int → MM → Prop} (h : wpX11_copy x1 x2 x3 x4 x5 μ Q) : Met l yX11_copy (Cond.code yX11_copy cX11_copy 7 (some .int) :: uw) (rmm 2 42) (wPc [.ref (ad 0 0), .int (iI x1), .int (iI x2), .int (iI x3), .int (iI x4), .int (iI x5)] dmR cfR tyR exR D cy ad A μ) (wQ vI Q dmR cfR D cy ad A) 0 0 A :=
  met_of (by decide) (Nat.le_of_ble_eq_true rfl) (fun p e R s m args below meth c ls hr hk hRR F hA hw hS hl => wX11_copy F hA (by subst hRR; exact ⟨Nat.le_refl _, Nat.le_refl _⟩) (retI_of F hr hk) h hw hS hl)
theorem hdX11_copy : yX11_copy.cls ≠ "java/lang/invoke/MethodHandle" ∧ yX11_copy.cls ≠ "java/lang/invoke/VarHandle" ∧ (parseMethodDescriptor yX11_copy.desc).map (fun d => d.parameters.length) = some 5 := by decide +kernel
end
