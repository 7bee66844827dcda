section
variable {p : Program} {l : Launch} {e : Env} {R : Room} {s : State} {m : MethodId} {args : Array Value} {below : List Frame} {meth : Method} {c : Code} {Qf : State → Prop} {D : va_G} {cy : Nat → ClassId} {ad : AD} {A : Nat → Prop}
def wpX11_lay (x1 : Int) (x2 : Int) (x3 : Int) (μ : MM) (Q : Int → MM → Prop) : Prop := wpX11_looked x1 μ (fun v1 μ2 => rg v1 ∧ (if 0 ≤ v1 then (0 ≤ x1 ∧ (x1 < 8 ∧ (wpX11_in x2 0 ((μ2 7 0 x1) - 1) μ2 (fun v7 μ8 => if v7 = 0 then (wpX11_meets 2 μ8 (fun v15 μ16 => Q v15 μ16)) else (0 ≤ ((48 * x1) + x2) ∧ ((48 * x1) + x2 < 384 ∧ (∀ y13 : Int, y13 = μ8 8 0 ((48 * x1) + x2) → (∀ μ14 : MM, μ14 = ms μ8 8 0 ((48 * x1) + x2) (i2b x3) → (Q (y13 + 1000) μ14))))))))) else (Q v1 μ2)))
set_option maxRecDepth 100000 in
set_option maxHeartbeats 4000000 in
theorem wX11_lay {Q : Int → MM → Prop} {x1 : Int} {x2 : Int} {x3 : Int} {μ : MM} {H : Heap} {locs : List Loc} {ls : Array Slot} (F : CallFix p m c cX11_lay 6 s args uw RX11) (hA : ∀ q : Nat, s.heap.size ≤ q → A q) (hR : 3 ≤ R.frames ∧ 63 ≤ R.locals) (ret : RetI p l e R s m args below meth c cX11_lay Qf dmR cfR tyR exR D cy ad A Q) (h : wpX11_lay x1 x2 x3 μ Q) (hw : wdR D cy ad A μ s H) (hS : va_S A s.heap H locs) (hl : lv_has ls 6 [(0, .ref (ad 0 0)), (1, .int (iI x1)), (2, .int (iI x2)), (3, .int (iI x3))]) : W p l e R s m args below meth c H locs 0 0 Qf (F0 m 0 ls []) := by
  have hx := F.1
  have hb := F.2.1
  have hown := F.2.2.2.1
  have hts := F.2.2.2.2
  refine lv_aload_n hx hb dX11_lay_0 rfl (lv_at hl 0 rfl) ?_
  refine lv_iload_n hx hb dX11_lay_1 rfl (lv_at hl 1 rfl) ?_
  refine call_V hexR F (kX11_looked h) 1 tw6_89 tw1_8 tw6_88 tws2_11 tw6_86 hdX11_looked ⟨Nat.le_trans (by decide) hR.1, Nat.le_trans (by decide) hR.2⟩ (hw.recv (k := 0) (i := 0) ⟨rfl, Or.inl rfl⟩ rfl rfl) hA hw hS rfl hl.1 rfl (Nat.le_of_ble_eq_true rfl) dX11_lay_2 (fun v1 μ2 H locs h hw hS => ?_)
  refine lv_istore (lv' := [(4, .int (iI v1)), (0, .ref (ad 0 0)), (1, .int (iI x1)), (2, .int (iI x2)), (3, .int (iI x3))]) hx hb dX11_lay_5 hl (by decide) rfl (fun ls hl => ?_)
  refine lv_iload hx hb dX11_lay_7 (lv_at hl 0 rfl) ?_
  obtain ⟨g3, h⟩ := h
  refine q_if_ge (tgt := 15) hx hb g3 dX11_lay_9 (by decide) (fun c4 => ?_) (fun c4 => ?_)
  · have h := ite_t c4 h
    refine lv_iload_n hx hb dX11_lay_15 rfl (lv_at hl 3 rfl) ?_
    refine q_iconst hx hb dX11_lay_16 ?_
    refine lv_aload_n hx hb dX11_lay_17 rfl (lv_at hl 1 rfl) ?_
    refine gR_sizes F hw tw5_145 dX11_lay_18 ?_
    refine lv_iload_n hx hb dX11_lay_21 rfl (lv_at hl 2 rfl) ?_
    obtain ⟨g5, h⟩ := h
    obtain ⟨g6, h⟩ := h
    refine aR_ild (L := 8) hx hb hw 6 rfl rfl (by decide) g5 g6 dX11_lay_22 ?_
    refine q_iconst hx hb dX11_lay_23 ?_
    refine q_isub hx hb dX11_lay_24 ?_
    refine call_S hexR F (kX11_in h) 3 tw6_77 tw1_8 tw6_76 tw6_75 hdX11_in ⟨Nat.le_trans (by decide) hR.1, Nat.le_trans (by decide) hR.2⟩ hA hw hS rfl hl.1 rfl (Nat.le_of_ble_eq_true rfl) dX11_lay_25 (fun v7 μ8 H locs h hw hS => ?_)
    obtain ⟨z9, h⟩ := h
    refine q_if_ne (tgt := 37) hx hb (rgB z9) dX11_lay_28 (by decide) (fun c10 => ?_) (fun c10 => ?_)
    · have h := ite_f c10 h
      refine lv_aload_n hx hb dX11_lay_37 rfl (lv_at hl 1 rfl) ?_
      refine gR_rows F hw tw5_146 dX11_lay_38 ?_
      refine q_bipush hx hb (by decide) dX11_lay_41 ?_
      refine lv_iload_n hx hb dX11_lay_43 rfl (lv_at hl 2 rfl) ?_
      refine q_imul hx hb dX11_lay_44 ?_
      refine lv_iload_n hx hb dX11_lay_45 rfl (lv_at hl 3 rfl) ?_
      refine q_iadd hx hb dX11_lay_46 ?_
      obtain ⟨g11, h⟩ := h
      obtain ⟨g12, h⟩ := h
      refine aR_ild (L := 384) hx hb hw 7 rfl rfl (by decide) g11 g12 dX11_lay_47 ?_
      obtain ⟨y13, ey13⟩ : ∃ z : Int, z = μ8 8 0 ((48 * x1) + x2) := ⟨_, rfl⟩
      have h := h y13 ey13
      refine q_nmI ey13 ?_
      refine lv_istore (lv' := [(5, .int (iI y13)), (4, .int (iI v1)), (0, .ref (ad 0 0)), (1, .int (iI x1)), (2, .int (iI x2)), (3, .int (iI x3))]) hx hb dX11_lay_48 hl (by decide) rfl (fun ls hl => ?_)
      refine lv_aload_n hx hb dX11_lay_50 rfl (lv_at hl 2 rfl) ?_
      refine gR_rows F hw tw5_146 dX11_lay_51 ?_
      refine q_bipush hx hb (by decide) dX11_lay_54 ?_
      refine lv_iload_n hx hb dX11_lay_56 rfl (lv_at hl 3 rfl) ?_
      refine q_imul hx hb dX11_lay_57 ?_
      refine lv_iload_n hx hb dX11_lay_58 rfl (lv_at hl 4 rfl) ?_
      refine q_iadd hx hb dX11_lay_59 ?_
      refine lv_iload_n hx hb dX11_lay_60 rfl (lv_at hl 5 rfl) ?_
      refine q_i2b hx hb dX11_lay_61 ?_
      obtain ⟨μ14, eμ14⟩ : ∃ z : MM, z = ms μ8 8 0 ((48 * x1) + x2) (i2b x3) := ⟨_, rfl⟩
      have h := h μ14 eμ14
      refine aR_ist (L := 384) hx hb hw hS 7 rfl rfl (by decide) g11 g12 eμ14 dX11_lay_62 (fun H locs hw hS => ?_)
      refine lv_iload hx hb dX11_lay_63 (lv_at hl 0 rfl) ?_
      refine q_sipush hx hb (by decide) dX11_lay_65 ?_
      refine q_iadd hx hb dX11_lay_68 ?_
      exact ret _ _ _ _ _ _ h hw hS dX11_lay_69
    · have h := ite_t c10 h
      refine lv_aload_n hx hb dX11_lay_31 rfl (lv_at hl 1 rfl) ?_
      refine q_iconst hx hb dX11_lay_32 ?_
      refine call_V hexR F (kX11_meets h) 1 tw6_81 tw1_8 tw6_80 tws2_10 tw6_78 hdX11_meets ⟨Nat.le_trans (by decide) hR.1, Nat.le_trans (by decide) hR.2⟩ (hw.recv (k := 0) (i := 0) ⟨rfl, Or.inl rfl⟩ rfl rfl) hA hw hS rfl hl.1 rfl (Nat.le_of_ble_eq_true rfl) dX11_lay_33 (fun v15 μ16 H locs h hw hS => ?_)
      exact ret _ _ _ _ _ _ h hw hS dX11_lay_36
  · have h := ite_f c4 h
    refine lv_iload hx hb dX11_lay_12 (lv_at hl 0 rfl) ?_
    exact ret _ _ _ _ _ _ h hw hS dX11_lay_14
set_option maxRecDepth 100000 in
set_option maxHeartbeats 4000000 in
theorem kX11_lay {l : Launch} {D : va_G} {cy : Nat → ClassId} {ad : AD} {A : Nat → Prop} {x1 : Int} {x2 : Int} {x3 : Int} {μ : MM} {Q : Int → MM → Prop} (h : wpX11_lay x1 x2 x3 μ Q) : Met l yX11_lay (Cond.code yX11_lay cX11_lay 6 (some .int) :: uw) (rmm 3 63) (wPc [.ref (ad 0 0), .int (iI x1), .int (iI x2), .int (iI x3)] dmR cfR tyR exR D cy ad A μ) (wQ vI Q dmR cfR D cy ad A) 0 0 A :=
  met_of (by decide) (Nat.le_of_ble_eq_true rfl) (fun p e R s m args below meth c ls hr hk hRR F hA hw hS hl => wX11_lay F hA (by subst hRR; exact ⟨Nat.le_refl _, Nat.le_refl _⟩) (retI_of F hr hk) h hw hS hl)
theorem hdX11_lay : yX11_lay.cls ≠ "java/lang/invoke/MethodHandle" ∧ yX11_lay.cls ≠ "java/lang/invoke/VarHandle" ∧ (parseMethodDescriptor yX11_lay.desc).map (fun d => d.parameters.length) = some 3 := by decide +kernel
def wpX11_letOff (x1 : Int) (x2 : Int) (μ : MM) (Q : Int → MM → Prop) : Prop := wpX11_askedPlace x1 x2 μ (fun v1 μ2 => rg v1 ∧ (if 0 ≤ v1 then (wpX11_offGoes x1 x2 μ2 (fun v5 μ6 => wpX11_placeOf x1 x2 μ6 (fun v7 μ8 => 0 ≤ v7 ∧ (v7 < 8 ∧ (0 ≤ (μ8 35 0 v7) ∧ (μ8 35 0 v7 < 16 ∧ (Q (μ8 21 0 (μ8 35 0 v7)) μ8))))))) else (Q v1 μ2)))
set_option maxRecDepth 100000 in
set_option maxHeartbeats 4000000 in
theorem wX11_letOff {Q : Int → MM → Prop} {x1 : Int} {x2 : Int} {μ : MM} {H : Heap} {locs : List Loc} {ls : Array Slot} (F : CallFix p m c cX11_letOff 4 s args uw RX11) (hA : ∀ q : Nat, s.heap.size ≤ q → A q) (hR : 4 ≤ R.frames ∧ 86 ≤ R.locals) (ret : RetI p l e R s m args below meth c cX11_letOff Qf dmR cfR tyR exR D cy ad A Q) (h : wpX11_letOff x1 x2 μ Q) (hw : wdR D cy ad A μ s H) (hS : va_S A s.heap H locs) (hl : lv_has ls 4 [(0, .ref (ad 0 0)), (1, .int (iI x1)), (2, .int (iI x2))]) : W p l e R s m args below meth c H locs 0 0 Qf (F0 m 0 ls []) := by
  have hx := F.1
  have hb := F.2.1
  have hown := F.2.2.2.1
  have hts := F.2.2.2.2
  refine lv_aload_n hx hb dX11_letOff_0 rfl (lv_at hl 0 rfl) ?_
  refine lv_iload_n hx hb dX11_letOff_1 rfl (lv_at hl 1 rfl) ?_
  refine lv_iload_n hx hb dX11_letOff_2 rfl (lv_at hl 2 rfl) ?_
  refine call_V hexR F (kX11_askedPlace h) 2 tw6_212 tw1_8 tw6_211 tws3_6 tw6_209 hdX11_askedPlace ⟨Nat.le_trans (by decide) hR.1, Nat.le_trans (by decide) hR.2⟩ (hw.recv (k := 0) (i := 0) ⟨rfl, Or.inl rfl⟩ rfl rfl) hA hw hS rfl hl.1 rfl (Nat.le_of_ble_eq_true rfl) dX11_letOff_3 (fun v1 μ2 H locs h hw hS => ?_)
  refine lv_istore_n (lv' := [(3, .int (iI v1)), (0, .ref (ad 0 0)), (1, .int (iI x1)), (2, .int (iI x2))]) hx hb dX11_letOff_6 rfl hl (by decide) rfl (fun ls hl => ?_)
  refine lv_iload_n hx hb dX11_letOff_7 rfl (lv_at hl 0 rfl) ?_
  obtain ⟨g3, h⟩ := h
  refine q_if_ge (tgt := 13) hx hb g3 dX11_letOff_8 (by decide) (fun c4 => ?_) (fun c4 => ?_)
  · have h := ite_t c4 h
    refine lv_aload_n hx hb dX11_letOff_13 rfl (lv_at hl 1 rfl) ?_
    refine lv_iload_n hx hb dX11_letOff_14 rfl (lv_at hl 2 rfl) ?_
    refine lv_iload_n hx hb dX11_letOff_15 rfl (lv_at hl 3 rfl) ?_
    refine call_V hexR F (kX11_offGoes h) 2 tw7_0 tw1_8 tw6_239 tws3_11 tw6_237 hdX11_offGoes ⟨Nat.le_trans (by decide) hR.1, Nat.le_trans (by decide) hR.2⟩ (hw.recv (k := 0) (i := 0) ⟨rfl, Or.inl rfl⟩ rfl rfl) hA hw hS rfl hl.1 rfl (Nat.le_of_ble_eq_true rfl) dX11_letOff_16 (fun v5 μ6 H locs h hw hS => ?_)
    refine lv_aload_n hx hb dX11_letOff_19 rfl (lv_at hl 1 rfl) ?_
    refine gR_dues F hw tw5_159 dX11_letOff_20 ?_
    refine lv_aload_n hx hb dX11_letOff_23 rfl (lv_at hl 1 rfl) ?_
    refine gR_hung F hw tw5_173 dX11_letOff_24 ?_
    refine lv_iload_n hx hb dX11_letOff_27 rfl (lv_at hl 2 rfl) ?_
    refine lv_iload_n hx hb dX11_letOff_28 rfl (lv_at hl 3 rfl) ?_
    refine call_S hexR F (kX11_placeOf h) 2 tw6_204 tw1_8 tw6_203 tw6_202 hdX11_placeOf ⟨Nat.le_trans (by decide) hR.1, Nat.le_trans (by decide) hR.2⟩ hA hw hS rfl hl.1 rfl (Nat.le_of_ble_eq_true rfl) dX11_letOff_29 (fun v7 μ8 H locs h hw hS => ?_)
    obtain ⟨g9, h⟩ := h
    obtain ⟨g10, h⟩ := h
    refine aR_ild (L := 8) hx hb hw 34 rfl rfl (by decide) g9 g10 dX11_letOff_32 ?_
    obtain ⟨g11, h⟩ := h
    obtain ⟨g12, h⟩ := h
    refine aR_ild (L := 16) hx hb hw 20 rfl rfl (by decide) g11 g12 dX11_letOff_33 ?_
    exact ret _ _ _ _ _ _ h hw hS dX11_letOff_34
  · have h := ite_f c4 h
    refine lv_iload_n hx hb dX11_letOff_11 rfl (lv_at hl 0 rfl) ?_
    exact ret _ _ _ _ _ _ h hw hS dX11_letOff_12
set_option maxRecDepth 100000 in
set_option maxHeartbeats 4000000 in
theorem kX11_letOff {l : Launch} {D : va_G} {cy : Nat → ClassId} {ad : AD} {A : Nat → Prop} {x1 : Int} {x2 : Int} {μ : MM} {Q : Int → MM → Prop} (h : wpX11_letOff x1 x2 μ Q) : Met l yX11_letOff (Cond.code yX11_letOff cX11_letOff 4 (some .int) :: uw) (rmm 4 86) (wPc [.ref (ad 0 0), .int (iI x1), .int (iI x2)] dmR cfR tyR exR D cy ad A μ) (wQ vI Q dmR cfR D cy ad A) 0 0 A :=
  met_of (by decide) (Nat.le_of_ble_eq_true rfl) (fun p e R s m args below meth c ls hr hk hRR F hA hw hS hl => wX11_letOff F hA (by subst hRR; exact ⟨Nat.le_refl _, Nat.le_refl _⟩) (retI_of F hr hk) h hw hS hl)
theorem hdX11_letOff : yX11_letOff.cls ≠ "java/lang/invoke/MethodHandle" ∧ yX11_letOff.cls ≠ "java/lang/invoke/VarHandle" ∧ (parseMethodDescriptor yX11_letOff.desc).map (fun d => d.parameters.length) = some 2 := by decide +kernel
def wpX11_log (x1 : Int) (x2 : Int) (x3 : Int) (μ : MM) (Q : Int → MM → Prop) : Prop := wpX11_in x3 0 3 μ (fun v1 μ2 => if v1 = 0 then (Q (-1) μ2) else (wpX11_askedFor x1 μ2 (fun v5 μ6 => rg v5 ∧ (if 0 ≤ v5 then (0 ≤ x1 ∧ (x1 < 4 ∧ (wpX11_in x2 0 ((μ6 37 0 x1) - 1) μ6 (fun v11 μ12 => if v11 = 0 then (Q (-9) μ12) else (0 ≤ (((240 * x1) + (4 * (((μ12 37 0 x1) - 1) - x2))) + x3) ∧ (((240 * x1) + (4 * (((μ12 37 0 x1) - 1) - x2))) + x3 < 960 ∧ (Q (μ12 38 0 (((240 * x1) + (4 * (((μ12 37 0 x1) - 1) - x2))) + x3)) μ12))))))) else (Q v5 μ6)))))
set_option maxRecDepth 100000 in
set_option maxHeartbeats 4000000 in
theorem wX11_log {Q : Int → MM → Prop} {x1 : Int} {x2 : Int} {x3 : Int} {μ : MM} {H : Heap} {locs : List Loc} {ls : Array Slot} (F : CallFix p m c cX11_log 5 s args uw RX11) (hA : ∀ q : Nat, s.heap.size ≤ q → A q) (hR : 3 ≤ R.frames ∧ 63 ≤ R.locals) (ret : RetI p l e R s m args below meth c cX11_log Qf dmR cfR tyR exR D cy ad A Q) (h : wpX11_log x1 x2 x3 μ Q) (hw : wdR D cy ad A μ s H) (hS : va_S A s.heap H locs) (hl : lv_has ls 5 [(0, .ref (ad 0 0)), (1, .int (iI x1)), (2, .int (iI x2)), (3, .int (iI x3))]) : W p l e R s m args below meth c H locs 0 0 Qf (F0 m 0 ls []) := by
  have hx := F.1
  have hb := F.2.1
  have hown := F.2.2.2.1
  have hts := F.2.2.2.2
  refine lv_iload_n hx hb dX11_log_0 rfl (lv_at hl 3 rfl) ?_
  refine q_iconst hx hb dX11_log_1 ?_
  refine q_iconst hx hb dX11_log_2 ?_
  refine call_S hexR F (kX11_in h) 3 tw6_77 tw1_8 tw6_76 tw6_75 hdX11_in ⟨Nat.le_trans (by decide) hR.1, Nat.le_trans (by decide) hR.2⟩ hA hw hS rfl hl.1 rfl (Nat.le_of_ble_eq_true rfl) dX11_log_3 (fun v1 μ2 H locs h hw hS => ?_)
  obtain ⟨z3, h⟩ := h
  refine q_if_ne (tgt := 11) hx hb (rgB z3) dX11_log_6 (by decide) (fun c4 => ?_) (fun c4 => ?_)
  · have h := ite_f c4 h
    refine lv_aload_n hx hb dX11_log_11 rfl (lv_at hl 0 rfl) ?_
    refine lv_iload_n hx hb dX11_log_12 rfl (lv_at hl 1 rfl) ?_
    refine call_V hexR F (kX11_askedFor h) 1 tw6_216 tw1_8 tw6_215 tws3_7 tw6_213 hdX11_askedFor ⟨Nat.le_trans (by decide) hR.1, Nat.le_trans (by decide) hR.2⟩ (hw.recv (k := 0) (i := 0) ⟨rfl, Or.inl rfl⟩ rfl rfl) hA hw hS rfl hl.1 rfl (Nat.le_of_ble_eq_true rfl) dX11_log_13 (fun v5 μ6 H locs h hw hS => ?_)
    refine lv_istore (lv' := [(4, .int (iI v5)), (0, .ref (ad 0 0)), (1, .int (iI x1)), (2, .int (iI x2)), (3, .int (iI x3))]) hx hb dX11_log_16 hl (by decide) rfl (fun ls hl => ?_)
    refine lv_iload hx hb dX11_log_18 (lv_at hl 0 rfl) ?_
    obtain ⟨g7, h⟩ := h
    refine q_if_ge (tgt := 26) hx hb g7 dX11_log_20 (by decide) (fun c8 => ?_) (fun c8 => ?_)
    · have h := ite_t c8 h
      refine lv_iload_n hx hb dX11_log_26 rfl (lv_at hl 3 rfl) ?_
      refine q_iconst hx hb dX11_log_27 ?_
      refine lv_aload_n hx hb dX11_log_28 rfl (lv_at hl 1 rfl) ?_
      refine gR_entries F hw tw5_175 dX11_log_29 ?_
      refine lv_iload_n hx hb dX11_log_32 rfl (lv_at hl 2 rfl) ?_
      obtain ⟨g9, h⟩ := h
      obtain ⟨g10, h⟩ := h
      refine aR_ild (L := 4) hx hb hw 36 rfl rfl (by decide) g9 g10 dX11_log_33 ?_
      refine q_iconst hx hb dX11_log_34 ?_
      refine q_isub hx hb dX11_log_35 ?_
      refine call_S hexR F (kX11_in h) 3 tw6_77 tw1_8 tw6_76 tw6_75 hdX11_in ⟨Nat.le_trans (by decide) hR.1, Nat.le_trans (by decide) hR.2⟩ hA hw hS rfl hl.1 rfl (Nat.le_of_ble_eq_true rfl) dX11_log_36 (fun v11 μ12 H locs h hw hS => ?_)
      obtain ⟨z13, h⟩ := h
      refine q_if_eq (tgt := 70) hx hb (rgB z13) dX11_log_39 (by decide) (fun c14 => ?_) (fun c14 => ?_)
      · have h := ite_t c14 h
        refine q_bipush hx hb (by decide) dX11_log_70 ?_
        exact ret _ _ _ _ _ _ h hw hS dX11_log_72
      · have h := ite_f c14 h
        refine lv_aload_n hx hb dX11_log_42 rfl (lv_at hl 1 rfl) ?_
        refine gR_logs F hw tw5_176 dX11_log_43 ?_
        refine q_sipush hx hb (by decide) dX11_log_46 ?_
        refine lv_iload_n hx hb dX11_log_49 rfl (lv_at hl 2 rfl) ?_
        refine q_imul hx hb dX11_log_50 ?_
        refine q_iconst hx hb dX11_log_51 ?_
        refine lv_aload_n hx hb dX11_log_52 rfl (lv_at hl 1 rfl) ?_
        refine gR_entries F hw tw5_175 dX11_log_53 ?_
        refine lv_iload_n hx hb dX11_log_56 rfl (lv_at hl 2 rfl) ?_
        refine aR_ild (L := 4) hx hb hw 36 rfl rfl (by decide) g9 g10 dX11_log_57 ?_
        refine q_iconst hx hb dX11_log_58 ?_
        refine q_isub hx hb dX11_log_59 ?_
        refine lv_iload_n hx hb dX11_log_60 rfl (lv_at hl 3 rfl) ?_
        refine q_isub hx hb dX11_log_61 ?_
        refine q_imul hx hb dX11_log_62 ?_
        refine q_iadd hx hb dX11_log_63 ?_
        refine lv_iload_n hx hb dX11_log_64 rfl (lv_at hl 4 rfl) ?_
        refine q_iadd hx hb dX11_log_65 ?_
        obtain ⟨g15, h⟩ := h
        obtain ⟨g16, h⟩ := h
        refine aR_ild (L := 960) hx hb hw 37 rfl rfl (by decide) g15 g16 dX11_log_66 ?_
        refine lv_goto (tgt := 72) hx hb dX11_log_67 (by decide) ?_
        exact ret _ _ _ _ _ _ h hw hS dX11_log_72
    · have h := ite_f c8 h
      refine lv_iload hx hb dX11_log_23 (lv_at hl 0 rfl) ?_
      exact ret _ _ _ _ _ _ h hw hS dX11_log_25
  · have h := ite_t c4 h
    refine q_iconst hx hb dX11_log_9 ?_
    exact ret _ _ _ _ _ _ h hw hS dX11_log_10
set_option maxRecDepth 100000 in
set_option maxHeartbeats 4000000 in
theorem kX11_log {l : Launch} {D : va_G} {cy : Nat → ClassId} {ad : AD} {A : Nat → Prop} {x1 : Int} {x2 : Int} {x3 : Int} {μ : MM} {Q : Int → MM → Prop} (h : wpX11_log x1 x2 x3 μ Q) : Met l yX11_log (Cond.code yX11_log cX11_log 5 (some .int) :: uw) (rmm 3 63) (wPc [.ref (ad 0 0), .int (iI x1), .int (iI x2), .int (iI x3)] dmR cfR tyR exR D cy ad A μ) (wQ vI Q dmR cfR D cy ad A) 0 0 A :=
  met_of (by decide) (Nat.le_of_ble_eq_true rfl) (fun p e R s m args below meth c ls hr hk hRR F hA hw hS hl => wX11_log F hA (by subst hRR; exact ⟨Nat.le_refl _, Nat.le_refl _⟩) (retI_of F hr hk) h hw hS hl)
theorem hdX11_log : yX11_log.cls ≠ "java/lang/invoke/MethodHandle" ∧ yX11_log.cls ≠ "java/lang/invoke/VarHandle" ∧ (parseMethodDescriptor yX11_log.desc).map (fun d => d.parameters.length) = some 3 := by decide +kernel
def wpX11_lower (μ : MM) (Q : Int → MM → Prop) : Prop := Q (μ 0 4 0) μ
set_option maxRecDepth 100000 in
set_option maxHeartbeats 4000000 in
theorem wX11_lower {Q : Int → MM → Prop} {μ : MM} {H : Heap} {locs : List Loc} {ls : Array Slot} (F : CallFix p m c cX11_lower 1 s args uw RX11) (hA : ∀ q : Nat, s.heap.size ≤ q → A q) (hR : 0 ≤ R.frames ∧ 0 ≤ R.locals) (ret : RetL p l e R s m args below meth c cX11_lower Qf dmR cfR tyR exR D cy ad A Q) (h : wpX11_lower μ Q) (hw : wdR D cy ad A μ s H) (hS : va_S A s.heap H locs) (hl : lv_has ls 1 [(0, .ref (ad 0 0))]) : W p l e R s m args below meth c H locs 0 0 Qf (F0 m 0 ls []) := by
  have hx := F.1
  have hb := F.2.1
  have hown := F.2.2.2.1
  have hts := F.2.2.2.2
  refine lv_aload_n hx hb dX11_lower_0 rfl (lv_at hl 0 rfl) ?_
  refine gR_lower F hw tw5_142 dX11_lower_1 ?_
  exact ret _ _ _ _ _ _ h hw hS dX11_lower_4
set_option maxRecDepth 100000 in
set_option maxHeartbeats 4000000 in
theorem kX11_lower {l : Launch} {D : va_G} {cy : Nat → ClassId} {ad : AD} {A : Nat → Prop} {μ : MM} {Q : Int → MM → Prop} (h : wpX11_lower μ Q) : Met l yX11_lower (Cond.code yX11_lower cX11_lower 1 (some .long) :: uw) (rmm 0 0) (wPc [.ref (ad 0 0)] dmR cfR tyR exR D cy ad A μ) (wQ vL Q dmR cfR D cy ad A) 0 0 A :=
  met_of (by decide) (Nat.le_of_ble_eq_true rfl) (fun p e R s m args below meth c ls hr hk hRR F hA hw hS hl => wX11_lower F hA (by subst hRR; exact ⟨Nat.le_refl _, Nat.le_refl _⟩) (retL_of F hr hk) h hw hS hl)
theorem hdX11_lower : yX11_lower.cls ≠ "java/lang/invoke/MethodHandle" ∧ yX11_lower.cls ≠ "java/lang/invoke/VarHandle" ∧ (parseMethodDescriptor yX11_lower.desc).map (fun d => d.parameters.length) = some 0 := by decide +kernel
def wpX11_over_J53 (k5 : Int → Int → Int → Int → MM → Prop) (Q : Int → MM → Prop) (x1 : Int) (x2 : Int) (x4 : Int) (t0 : Int) (μ : MM) : Prop := k5 x1 x2 t0 (x4 + 1) μ
set_option maxRecDepth 100000 in
set_option maxHeartbeats 4000000 in
theorem wX11_over_J53 {k5 : Int → Int → Int → Int → MM → Prop} {Q : Int → MM → Prop} {x1 : Int} {x2 : Int} {x4 : Int} {t0 : Int} {μ : MM} {H : Heap} {locs : List Loc} {ls : Array Slot} (F : CallFix p m c cX11_over 6 s args uw RX11) (hA : ∀ q : Nat, s.heap.size ≤ q → A q) (hR : 0 ≤ R.frames ∧ 0 ≤ R.locals) (ret : RetI p l e R s m args below meth c cX11_over Qf dmR cfR tyR exR D cy ad A Q) (hk5 : ∀ (x1' x2' x3' x4' : Int) (μ' : MM) (H : Heap) (locs : List Loc) (ls : Array Slot), k5 x1' x2' x3' x4' μ' → wdR D cy ad A μ' s H → va_S A s.heap H locs → lv_has ls 6 [(0, .ref (ad 0 0)), (1, .int (iI (x1'))), (2, .int (iI (x2'))), (3, .int (iI (x3'))), (4, .int (iI (x4')))] → W p l e R s m args below meth c H locs 0 0 Qf (F0 m 5 ls [])) (h : wpX11_over_J53 k5 Q x1 x2 x4 t0 μ) (hw : wdR D cy ad A μ s H) (hS : va_S A s.heap H locs) (hl : lv_has ls 6 [(0, .ref (ad 0 0)), (1, .int (iI x1)), (2, .int (iI x2)), (4, .int (iI x4))]) : W p l e R s m args below meth c H locs 0 0 Qf (F0 m 53 ls [.int (iI t0)]) := by
  have hx := F.1
  have hb := F.2.1
  have hown := F.2.2.2.1
  have hts := F.2.2.2.2
  refine lv_istore_n (lv' := [(3, .int (iI t0)), (0, .ref (ad 0 0)), (1, .int (iI x1)), (2, .int (iI x2)), (4, .int (iI x4))]) hx hb dX11_over_53 rfl hl (by decide) rfl (fun ls hl => ?_)
  refine q_iinc (k := 4) (lv' := [(4, .int (iI (x4 + 1))), (3, .int (iI t0)), (0, .ref (ad 0 0)), (1, .int (iI x1)), (2, .int (iI x2))]) hx hb dX11_over_54 hl rfl (by decide) rfl (fun ls hl => ?_)
  refine lv_goto (tgt := 5) hx hb dX11_over_57 (by decide) ?_
  exact hk5 x1 x2 t0 (x4 + 1) _ _ _ _ h hw hS (lv_sub hl [2, 3, 4, 1, 0] rfl)
def wpX11_over_L5 (Q : Int → MM → Prop) : Nat → Int → Int → Int → Int → MM → Prop
  | 0, _, _, _, _, _ => False
  | n + 1, x1, x2, x3, x4, μ => 0 ≤ x1 ∧ (x1 < 16 ∧ (rg x4 ∧ (rg (μ 12 0 x1) ∧ (if (μ 12 0 x1) ≤ x4 then (Q x3 μ) else (0 ≤ ((24 * x1) + x4) ∧ ((24 * x1) + x4 < 384 ∧ (∀ y8 : Int, y8 = μ 13 0 ((24 * x1) + x4) → (rg x2 ∧ (if x2 = 0 then (wpX11_over_J53 (fun x1' x2' x3' x4' μ' => wpX11_over_L5 Q n x1' x2' x3' x4' μ') Q x1 x2 x4 (x3 + y8) μ) else (rg y8 ∧ (rg x3 ∧ (if y8 ≤ x3 then (wpX11_over_J53 (fun x1' x2' x3' x4' μ' => wpX11_over_L5 Q n x1' x2' x3' x4' μ') Q x1 x2 x4 x3 μ) else (wpX11_over_J53 (fun x1' x2' x3' x4' μ' => wpX11_over_L5 Q n x1' x2' x3' x4' μ') Q x1 x2 x4 y8 μ)))))))))))))
set_option maxRecDepth 100000 in
set_option maxHeartbeats 4000000 in
theorem wX11_over_L5 {Q : Int → MM → Prop} (F : CallFix p m c cX11_over 6 s args uw RX11) (hA : ∀ q : Nat, s.heap.size ≤ q → A q) (hR : 0 ≤ R.frames ∧ 0 ≤ R.locals) (ret : RetI p l e R s m args below meth c cX11_over Qf dmR cfR tyR exR D cy ad A Q) : ∀ (n : Nat) (x1 x2 x3 x4 : Int) (μ : MM) (H : Heap) (locs : List Loc) (ls : Array Slot), wpX11_over_L5 Q n x1 x2 x3 x4 μ → wdR D cy ad A μ s H → va_S A s.heap H locs → lv_has ls 6 [(0, .ref (ad 0 0)), (1, .int (iI x1)), (2, .int (iI x2)), (3, .int (iI x3)), (4, .int (iI x4))] → W p l e R s m args below meth c H locs 0 0 Qf (F0 m 5 ls []) := by
  have hx := F.1
  have hb := F.2.1
  have hown := F.2.2.2.1
  have hts := F.2.2.2.2
  intro n
  induction n with
  | zero =>
    intro x1 x2 x3 x4 μ H locs ls h hw hS hl
    exact h.elim
  | succ n ih =>
    intro x1 x2 x3 x4 μ H locs ls h hw hS hl
    refine lv_iload hx hb dX11_over_5 (lv_at hl 4 rfl) ?_
    refine lv_aload_n hx hb dX11_over_7 rfl (lv_at hl 0 rfl) ?_
    refine gR_many F hw tw5_150 dX11_over_8 ?_
    refine lv_iload_n hx hb dX11_over_11 rfl (lv_at hl 1 rfl) ?_
    obtain ⟨g1, h⟩ := h
    obtain ⟨g2, h⟩ := h
    refine aR_ild (L := 16) hx hb hw 11 rfl rfl (by decide) g1 g2 dX11_over_12 ?_
    obtain ⟨g3, h⟩ := h
    obtain ⟨g4, h⟩ := h
    refine q_icmp_ge (tgt := 60) hx hb g3 g4 dX11_over_13 (by decide) (fun c5 => ?_) (fun c5 => ?_)
    · have h := ite_t c5 h
      refine lv_iload_n hx hb dX11_over_60 rfl (lv_at hl 3 rfl) ?_
      exact ret _ _ _ _ _ _ h hw hS dX11_over_61
    · have h := ite_f c5 h
      refine lv_aload_n hx hb dX11_over_16 rfl (lv_at hl 0 rfl) ?_
      refine gR_notches F hw tw5_151 dX11_over_17 ?_
      refine q_bipush hx hb (by decide) dX11_over_20 ?_
      refine lv_iload_n hx hb dX11_over_22 rfl (lv_at hl 1 rfl) ?_
      refine q_imul hx hb dX11_over_23 ?_
      refine lv_iload hx hb dX11_over_24 (lv_at hl 4 rfl) ?_
      refine q_iadd hx hb dX11_over_26 ?_
      obtain ⟨g6, h⟩ := h
      obtain ⟨g7, h⟩ := h
      refine aR_ild (L := 384) hx hb hw 12 rfl rfl (by decide) g6 g7 dX11_over_27 ?_
      obtain ⟨y8, ey8⟩ : ∃ z : Int, z = μ 13 0 ((24 * x1) + x4) := ⟨_, rfl⟩
      have h := h y8 ey8
      refine q_nmI ey8 ?_
      refine lv_istore (lv' := [(5, .int (iI y8)), (0, .ref (ad 0 0)), (1, .int (iI x1)), (2, .int (iI x2)), (3, .int (iI x3)), (4, .int (iI x4))]) hx hb dX11_over_28 hl (by decide) rfl (fun ls hl => ?_)
      refine lv_iload_n hx hb dX11_over_30 rfl (lv_at hl 3 rfl) ?_
      obtain ⟨g9, h⟩ := h
      refine q_if_eq (tgt := 49) hx hb g9 dX11_over_31 (by decide) (fun c10 => ?_) (fun c10 => ?_)
      · have h := ite_t c10 h
        refine lv_iload_n hx hb dX11_over_49 rfl (lv_at hl 4 rfl) ?_
        refine lv_iload hx hb dX11_over_50 (lv_at hl 0 rfl) ?_
        refine q_iadd hx hb dX11_over_52 ?_
        exact wX11_over_J53 F hA hR ret (fun x1 x2 x3 x4 => ih x1 x2 x3 x4) h hw hS (lv_sub hl [1, 2, 3, 5] rfl)
      · have h := ite_f c10 h
        refine lv_iload hx hb dX11_over_34 (lv_at hl 0 rfl) ?_
        refine lv_iload_n hx hb dX11_over_36 rfl (lv_at hl 4 rfl) ?_
        obtain ⟨g11, h⟩ := h
        obtain ⟨g12, h⟩ := h
        refine q_icmp_le (tgt := 45) hx hb g11 g12 dX11_over_37 (by decide) (fun c13 => ?_) (fun c13 => ?_)
        · have h := ite_t c13 h
          refine lv_iload_n hx hb dX11_over_45 rfl (lv_at hl 4 rfl) ?_
          refine lv_goto (tgt := 53) hx hb dX11_over_46 (by decide) ?_
          exact wX11_over_J53 F hA hR ret (fun x1 x2 x3 x4 => ih x1 x2 x3 x4) h hw hS (lv_sub hl [1, 2, 3, 5] rfl)
        · have h := ite_f c13 h
          refine lv_iload hx hb dX11_over_40 (lv_at hl 0 rfl) ?_
          refine lv_goto (tgt := 53) hx hb dX11_over_42 (by decide) ?_
          exact wX11_over_J53 F hA hR ret (fun x1 x2 x3 x4 => ih x1 x2 x3 x4) h hw hS (lv_sub hl [1, 2, 3, 5] rfl)
def wpX11_over (x1 : Int) (x2 : Int) (μ : MM) (Q : Int → MM → Prop) : Prop := ∃ n1 : Nat, wpX11_over_L5 Q n1 x1 x2 0 0 μ
set_option maxRecDepth 100000 in
set_option maxHeartbeats 4000000 in
theorem wX11_over {Q : Int → MM → Prop} {x1 : Int} {x2 : Int} {μ : MM} {H : Heap} {locs : List Loc} {ls : Array Slot} (F : CallFix p m c cX11_over 6 s args uw RX11) (hA : ∀ q : Nat, s.heap.size ≤ q → A q) (hR : 0 ≤ R.frames ∧ 0 ≤ R.locals) (ret : RetI p l e R s m args below meth c cX11_over Qf dmR cfR tyR exR D cy ad A Q) (h : wpX11_over x1 x2 μ Q) (hw : wdR D cy ad A μ s H) (hS : va_S A s.heap H locs) (hl : lv_has ls 6 [(0, .ref (ad 0 0)), (1, .int (iI x1)), (2, .int (iI x2))]) : W p l e R s m args below meth c H locs 0 0 Qf (F0 m 0 ls []) := by
  have hx := F.1
  have hb := F.2.1
  have hown := F.2.2.2.1
  have hts := F.2.2.2.2
  refine q_iconst hx hb dX11_over_0 ?_
  refine lv_istore_n (lv' := [(3, .int (iI 0)), (0, .ref (ad 0 0)), (1, .int (iI x1)), (2, .int (iI x2))]) hx hb dX11_over_1 rfl hl (by decide) rfl (fun ls hl => ?_)
  refine q_iconst hx hb dX11_over_2 ?_
  refine lv_istore (lv' := [(4, .int (iI 0)), (3, .int (iI 0)), (0, .ref (ad 0 0)), (1, .int (iI x1)), (2, .int (iI x2))]) hx hb dX11_over_3 hl (by decide) rfl (fun ls hl => ?_)
  obtain ⟨n1, h⟩ := h
  exact wX11_over_L5 F hA hR ret n1 x1 x2 0 0 _ _ _ _ h hw hS (lv_sub hl [2, 3, 4, 1, 0] rfl)
set_option maxRecDepth 100000 in
set_option maxHeartbeats 4000000 in
theorem kX11_over {l : Launch} {D : va_G} {cy : Nat → ClassId} {ad : AD} {A : Nat → Prop} {x1 : Int} {x2 : Int} {μ : MM} {Q : Int → MM → Prop} (h : wpX11_over x1 x2 μ Q) : Met l yX11_over (Cond.code yX11_over cX11_over 6 (some .int) :: uw) (rmm 0 0) (wPc [.ref (ad 0 0), .int (iI x1), .int (iI x2)] dmR cfR tyR exR D cy ad A μ) (wQ vI Q dmR cfR D cy ad A) 0 0 A :=
  met_of (by decide) (Nat.le_of_ble_eq_true rfl) (fun p e R s m args below meth c ls hr hk hRR F hA hw hS hl => wX11_over F hA (by subst hRR; exact ⟨Nat.le_refl _, Nat.le_refl _⟩) (retI_of F hr hk) h hw hS hl)
theorem hdX11_over : yX11_over.cls ≠ "java/lang/invoke/MethodHandle" ∧ yX11_over.cls ≠ "java/lang/invoke/VarHandle" ∧ (parseMethodDescriptor yX11_over.desc).map (fun d => d.parameters.length) = some 2 := by decide +kernel
def wpX11_mark_J76 (Q : Int → MM → Prop) (t1 : Int) (t2 : Int) (μ : MM) : Prop := wpX11_over t1 t2 μ (fun v1 μ2 => Q v1 μ2)
set_option maxRecDepth 100000 in
set_option maxHeartbeats 4000000 in
theorem wX11_mark_J76 {Q : Int → MM → Prop} {t1 : Int} {t2 : Int} {μ : MM} {H : Heap} {locs : List Loc} {ls : Array Slot} (F : CallFix p m c cX11_mark 3 s args uw RX11) (hA : ∀ q : Nat, s.heap.size ≤ q → A q) (hR : 2 ≤ R.frames ∧ 43 ≤ R.locals) (ret : RetI p l e R s m args below meth c cX11_mark Qf dmR cfR tyR exR D cy ad A Q) (h : wpX11_mark_J76 Q t1 t2 μ) (hw : wdR D cy ad A μ s H) (hS : va_S A s.heap H locs) (hl : lv_has ls 3 []) : W p l e R s m args below meth c H locs 0 0 Qf (F0 m 76 ls [.int (iI t2), .int (iI t1), .ref (ad 0 0)]) := by
  have hx := F.1
  have hb := F.2.1
  have hown := F.2.2.2.1
  have hts := F.2.2.2.2
  refine call_V hexR F (kX11_over h) 2 tw6_166 tw1_8 tw6_165 tws3_3 tw6_163 hdX11_over ⟨Nat.le_trans (by decide) hR.1, Nat.le_trans (by decide) hR.2⟩ (hw.recv (k := 0) (i := 0) ⟨rfl, Or.inl rfl⟩ rfl rfl) hA hw hS rfl hl.1 rfl (Nat.le_of_ble_eq_true rfl) dX11_mark_76 (fun v1 μ2 H locs h hw hS => ?_)
  exact ret _ _ _ _ _ _ h hw hS dX11_mark_79
def wpX11_mark_J50 (Q : Int → MM → Prop) (x1 : Int) (x2 : Int) (μ : MM) : Prop := rg x2 ∧ (if x2 = 3 then (0 ≤ x1 ∧ (x1 < 16 ∧ (Q (μ 17 0 x1) μ))) else (if x2 = 2 then (wpX11_mark_J76 Q x1 1 μ) else (wpX11_mark_J76 Q x1 0 μ)))
set_option maxRecDepth 100000 in
set_option maxHeartbeats 4000000 in
theorem wX11_mark_J50 {Q : Int → MM → Prop} {x1 : Int} {x2 : Int} {μ : MM} {H : Heap} {locs : List Loc} {ls : Array Slot} (F : CallFix p m c cX11_mark 3 s args uw RX11) (hA : ∀ q : Nat, s.heap.size ≤ q → A q) (hR : 2 ≤ R.frames ∧ 43 ≤ R.locals) (ret : RetI p l e R s m args below meth c cX11_mark Qf dmR cfR tyR exR D cy ad A Q) (h : wpX11_mark_J50 Q x1 x2 μ) (hw : wdR D cy ad A μ s H) (hS : va_S A s.heap H locs) (hl : lv_has ls 3 [(0, .ref (ad 0 0)), (1, .int (iI x1)), (2, .int (iI x2))]) : W p l e R s m args below meth c H locs 0 0 Qf (F0 m 50 ls []) := by
  have hx := F.1
  have hb := F.2.1
  have hown := F.2.2.2.1
  have hts := F.2.2.2.2
  refine lv_iload_n hx hb dX11_mark_50 rfl (lv_at hl 2 rfl) ?_
  refine q_iconst hx hb dX11_mark_51 ?_
  obtain ⟨g1, h⟩ := h
  refine q_icmp_ne (tgt := 64) hx hb g1 (by decide) dX11_mark_52 (by decide) (fun c2 => ?_) (fun c2 => ?_)
  · have h := ite_f c2 h
    refine lv_aload_n hx hb dX11_mark_64 rfl (lv_at hl 0 rfl) ?_
    refine lv_iload_n hx hb dX11_mark_65 rfl (lv_at hl 1 rfl) ?_
    refine lv_iload_n hx hb dX11_mark_66 rfl (lv_at hl 2 rfl) ?_
    refine q_iconst hx hb dX11_mark_67 ?_
    refine q_icmp_ne (tgt := 75) hx hb g1 (by decide) dX11_mark_68 (by decide) (fun c3 => ?_) (fun c3 => ?_)
    · have h := ite_f c3 h
      refine q_iconst hx hb dX11_mark_75 ?_
      exact wX11_mark_J76 F hA hR ret h hw hS (lv_sub hl [] rfl)
    · have h := ite_t c3 h
      refine q_iconst hx hb dX11_mark_71 ?_
      refine lv_goto (tgt := 76) hx hb dX11_mark_72 (by decide) ?_
      exact wX11_mark_J76 F hA hR ret h hw hS (lv_sub hl [] rfl)
  · have h := ite_t c2 h
    refine lv_aload_n hx hb dX11_mark_55 rfl (lv_at hl 0 rfl) ?_
    refine gR_pinAt F hw tw5_155 dX11_mark_56 ?_
    refine lv_iload_n hx hb dX11_mark_59 rfl (lv_at hl 1 rfl) ?_
    obtain ⟨g4, h⟩ := h
    obtain ⟨g5, h⟩ := h
    refine aR_ild (L := 16) hx hb hw 16 rfl rfl (by decide) g4 g5 dX11_mark_60 ?_
    refine lv_goto (tgt := 79) hx hb dX11_mark_61 (by decide) ?_
    exact ret _ _ _ _ _ _ h hw hS dX11_mark_79
def wpX11_mark_J44 (Q : Int → MM → Prop) (μ : MM) : Prop := wpX11_meets 3 μ (fun v1 μ2 => Q v1 μ2)
set_option maxRecDepth 100000 in
set_option maxHeartbeats 4000000 in
theorem wX11_mark_J44 {Q : Int → MM → Prop} {μ : MM} {H : Heap} {locs : List Loc} {ls : Array Slot} (F : CallFix p m c cX11_mark 3 s args uw RX11) (hA : ∀ q : Nat, s.heap.size ≤ q → A q) (hR : 2 ≤ R.frames ∧ 43 ≤ R.locals) (ret : RetI p l e R s m args below meth c cX11_mark Qf dmR cfR tyR exR D cy ad A Q) (h : wpX11_mark_J44 Q μ) (hw : wdR D cy ad A μ s H) (hS : va_S A s.heap H locs) (hl : lv_has ls 3 [(0, .ref (ad 0 0))]) : W p l e R s m args below meth c H locs 0 0 Qf (F0 m 44 ls []) := by
  have hx := F.1
  have hb := F.2.1
  have hown := F.2.2.2.1
  have hts := F.2.2.2.2
  refine lv_aload_n hx hb dX11_mark_44 rfl (lv_at hl 0 rfl) ?_
  refine q_iconst hx hb dX11_mark_45 ?_
  refine call_V hexR F (kX11_meets h) 1 tw6_81 tw1_8 tw6_80 tws2_10 tw6_78 hdX11_meets ⟨Nat.le_trans (by decide) hR.1, Nat.le_trans (by decide) hR.2⟩ (hw.recv (k := 0) (i := 0) ⟨rfl, Or.inl rfl⟩ rfl rfl) hA hw hS rfl hl.1 rfl (Nat.le_of_ble_eq_true rfl) dX11_mark_46 (fun v1 μ2 H locs h hw hS => ?_)
  exact ret _ _ _ _ _ _ h hw hS dX11_mark_49
def wpX11_mark (x1 : Int) (x2 : Int) (μ : MM) (Q : Int → MM → Prop) : Prop := wpX11_isTrain x1 μ (fun v1 μ2 => if v1 = 0 then (Q (-1) μ2) else (wpX11_in x2 1 3 μ2 (fun v5 μ6 => if v5 = 0 then (Q (-1) μ6) else (0 ≤ x1 ∧ (x1 < 16 ∧ (rg (μ6 11 0 x1) ∧ (rg x2 ∧ (if (μ6 11 0 x1) = x2 then (wpX11_mark_J50 Q x1 x2 μ6) else (if x2 = 1 then (if (μ6 11 0 x1) = 3 then (wpX11_mark_J50 Q x1 x2 μ6) else (wpX11_mark_J44 Q  μ6)) else (wpX11_mark_J44 Q  μ6))))))))))
set_option maxRecDepth 100000 in
set_option maxHeartbeats 4000000 in
theorem wX11_mark {Q : Int → MM → Prop} {x1 : Int} {x2 : Int} {μ : MM} {H : Heap} {locs : List Loc} {ls : Array Slot} (F : CallFix p m c cX11_mark 3 s args uw RX11) (hA : ∀ q : Nat, s.heap.size ≤ q → A q) (hR : 2 ≤ R.frames ∧ 43 ≤ R.locals) (ret : RetI p l e R s m args below meth c cX11_mark Qf dmR cfR tyR exR D cy ad A Q) (h : wpX11_mark x1 x2 μ Q) (hw : wdR D cy ad A μ s H) (hS : va_S A s.heap H locs) (hl : lv_has ls 3 [(0, .ref (ad 0 0)), (1, .int (iI x1)), (2, .int (iI x2))]) : W p l e R s m args below meth c H locs 0 0 Qf (F0 m 0 ls []) := by
  have hx := F.1
  have hb := F.2.1
  have hown := F.2.2.2.1
  have hts := F.2.2.2.2
  refine lv_aload_n hx hb dX11_mark_0 rfl (lv_at hl 0 rfl) ?_
  refine lv_iload_n hx hb dX11_mark_1 rfl (lv_at hl 1 rfl) ?_
  refine call_V hexR F (kX11_isTrain h) 1 tw6_137 tw1_8 tw6_136 tws3_0 tw6_134 hdX11_isTrain ⟨Nat.le_trans (by decide) hR.1, Nat.le_trans (by decide) hR.2⟩ (hw.recv (k := 0) (i := 0) ⟨rfl, Or.inl rfl⟩ rfl rfl) hA hw hS rfl hl.1 rfl (Nat.le_of_ble_eq_true rfl) dX11_mark_2 (fun v1 μ2 H locs h hw hS => ?_)
  obtain ⟨z3, h⟩ := h
  refine q_if_eq (tgt := 17) hx hb (rgB z3) dX11_mark_5 (by decide) (fun c4 => ?_) (fun c4 => ?_)
  · have h := ite_t c4 h
    refine q_iconst hx hb dX11_mark_17 ?_
    exact ret _ _ _ _ _ _ h hw hS dX11_mark_18
  · have h := ite_f c4 h
    refine lv_iload_n hx hb dX11_mark_8 rfl (lv_at hl 2 rfl) ?_
    refine q_iconst hx hb dX11_mark_9 ?_
    refine q_iconst hx hb dX11_mark_10 ?_
    refine call_S hexR F (kX11_in h) 3 tw6_77 tw1_8 tw6_76 tw6_75 hdX11_in ⟨Nat.le_trans (by decide) hR.1, Nat.le_trans (by decide) hR.2⟩ hA hw hS rfl hl.1 rfl (Nat.le_of_ble_eq_true rfl) dX11_mark_11 (fun v5 μ6 H locs h hw hS => ?_)
    obtain ⟨z7, h⟩ := h
    refine q_if_ne (tgt := 19) hx hb (rgB z7) dX11_mark_14 (by decide) (fun c8 => ?_) (fun c8 => ?_)
    · have h := ite_f c8 h
      refine lv_aload_n hx hb dX11_mark_19 rfl (lv_at hl 0 rfl) ?_
      refine gR_kinds F hw tw5_149 dX11_mark_20 ?_
      refine lv_iload_n hx hb dX11_mark_23 rfl (lv_at hl 1 rfl) ?_
      obtain ⟨g9, h⟩ := h
      obtain ⟨g10, h⟩ := h
      refine aR_ild (L := 16) hx hb hw 10 rfl rfl (by decide) g9 g10 dX11_mark_24 ?_
      refine lv_iload_n hx hb dX11_mark_25 rfl (lv_at hl 2 rfl) ?_
      obtain ⟨g11, h⟩ := h
      obtain ⟨g12, h⟩ := h
      refine q_icmp_eq (tgt := 50) hx hb g11 g12 dX11_mark_26 (by decide) (fun c13 => ?_) (fun c13 => ?_)
      · have h := ite_t c13 h
        exact wX11_mark_J50 F hA hR ret h hw hS (lv_sub hl [0, 1, 2] rfl)
      · have h := ite_f c13 h
        refine lv_iload_n hx hb dX11_mark_29 rfl (lv_at hl 2 rfl) ?_
        refine q_iconst hx hb dX11_mark_30 ?_
        refine q_icmp_ne (tgt := 44) hx hb g12 (by decide) dX11_mark_31 (by decide) (fun c14 => ?_) (fun c14 => ?_)
        · have h := ite_f c14 h
          exact wX11_mark_J44 F hA hR ret h hw hS (lv_sub hl [0] rfl)
        · have h := ite_t c14 h
          refine lv_aload_n hx hb dX11_mark_34 rfl (lv_at hl 0 rfl) ?_
          refine gR_kinds F hw tw5_149 dX11_mark_35 ?_
          refine lv_iload_n hx hb dX11_mark_38 rfl (lv_at hl 1 rfl) ?_
          refine aR_ild (L := 16) hx hb hw 10 rfl rfl (by decide) g9 g10 dX11_mark_39 ?_
          refine q_iconst hx hb dX11_mark_40 ?_
          refine q_icmp_eq (tgt := 50) hx hb g11 (by decide) dX11_mark_41 (by decide) (fun c15 => ?_) (fun c15 => ?_)
          · have h := ite_t c15 h
            exact wX11_mark_J50 F hA hR ret h hw hS (lv_sub hl [0, 1, 2] rfl)
          · have h := ite_f c15 h
            exact wX11_mark_J44 F hA hR ret h hw hS (lv_sub hl [0] rfl)
    · have h := ite_t c8 h
      refine q_iconst hx hb dX11_mark_17 ?_
      exact ret _ _ _ _ _ _ h hw hS dX11_mark_18
set_option maxRecDepth 100000 in
set_option maxHeartbeats 4000000 in
theorem kX11_mark {l : Launch} {D : va_G} {cy : Nat → ClassId} {ad : AD} {A : Nat → Prop} {x1 : Int} {x2 : Int} {μ : MM} {Q : Int → MM → Prop} (h : wpX11_mark x1 x2 μ Q) : Met l yX11_mark (Cond.code yX11_mark cX11_mark 3 (some .int) :: uw) (rmm 2 43) (wPc [.ref (ad 0 0), .int (iI x1), .int (iI x2)] dmR cfR tyR exR D cy ad A μ) (wQ vI Q dmR cfR D cy ad A) 0 0 A :=
  met_of (by decide) (Nat.le_of_ble_eq_true rfl) (fun p e R s m args below meth c ls hr hk hRR F hA hw hS hl => wX11_mark F hA (by subst hRR; exact ⟨Nat.le_refl _, Nat.le_refl _⟩) (retI_of F hr hk) h hw hS hl)
theorem hdX11_mark : yX11_mark.cls ≠ "java/lang/invoke/MethodHandle" ∧ yX11_mark.cls ≠ "java/lang/invoke/VarHandle" ∧ (parseMethodDescriptor yX11_mark.desc).map (fun d => d.parameters.length) = some 2 := by decide +kernel
def wpX11_mean (x1 : Int) (μ : MM) (Q : Int → MM → Prop) : Prop := wpX11_isTrain x1 μ (fun v1 μ2 => if v1 = 0 then (Q (-1) μ2) else (0 ≤ x1 ∧ (x1 < 16 ∧ (rg (μ2 12 0 x1) ∧ (if (μ2 12 0 x1) = 0 then (wpX11_meets 4 μ2 (fun v14 μ15 => Q v14 μ15)) else (wpX11_over x1 0 μ2 (fun v9 μ10 => rg v9 ∧ (rg (μ10 12 0 x1) ∧ ((μ10 12 0 x1) ≠ 0 ∧ (Q (Int.tdiv v9 (μ10 12 0 x1)) μ10))))))))))
set_option maxRecDepth 100000 in
set_option maxHeartbeats 4000000 in
theorem wX11_mean {Q : Int → MM → Prop} {x1 : Int} {μ : MM} {H : Heap} {locs : List Loc} {ls : Array Slot} (F : CallFix p m c cX11_mean 2 s args uw RX11) (hA : ∀ q : Nat, s.heap.size ≤ q → A q) (hR : 2 ≤ R.frames ∧ 43 ≤ R.locals) (ret : RetI p l e R s m args below meth c cX11_mean Qf dmR cfR tyR exR D cy ad A Q) (h : wpX11_mean x1 μ Q) (hw : wdR D cy ad A μ s H) (hS : va_S A s.heap H locs) (hl : lv_has ls 2 [(0, .ref (ad 0 0)), (1, .int (iI x1))]) : W p l e R s m args below meth c H locs 0 0 Qf (F0 m 0 ls []) := by
  have hx := F.1
  have hb := F.2.1
  have hown := F.2.2.2.1
  have hts := F.2.2.2.2
  refine lv_aload_n hx hb dX11_mean_0 rfl (lv_at hl 0 rfl) ?_
  refine lv_iload_n hx hb dX11_mean_1 rfl (lv_at hl 1 rfl) ?_
  refine call_V hexR F (kX11_isTrain h) 1 tw6_137 tw1_8 tw6_136 tws3_0 tw6_134 hdX11_isTrain ⟨Nat.le_trans (by decide) hR.1, Nat.le_trans (by decide) hR.2⟩ (hw.recv (k := 0) (i := 0) ⟨rfl, Or.inl rfl⟩ rfl rfl) hA hw hS rfl hl.1 rfl (Nat.le_of_ble_eq_true rfl) dX11_mean_2 (fun v1 μ2 H locs h hw hS => ?_)
  obtain ⟨z3, h⟩ := h
  refine q_if_ne (tgt := 12) hx hb (rgB z3) dX11_mean_5 (by decide) (fun c4 => ?_) (fun c4 => ?_)
  · have h := ite_f c4 h
    refine lv_aload_n hx hb dX11_mean_12 rfl (lv_at hl 0 rfl) ?_
    refine gR_many F hw tw5_150 dX11_mean_13 ?_
    refine lv_iload_n hx hb dX11_mean_16 rfl (lv_at hl 1 rfl) ?_
    obtain ⟨g5, h⟩ := h
    obtain ⟨g6, h⟩ := h
    refine aR_ild (L := 16) hx hb hw 11 rfl rfl (by decide) g5 g6 dX11_mean_17 ?_
    obtain ⟨g7, h⟩ := h
    refine q_if_ne (tgt := 29) hx hb g7 dX11_mean_18 (by decide) (fun c8 => ?_) (fun c8 => ?_)
    · have h := ite_f c8 h
      refine lv_aload_n hx hb dX11_mean_29 rfl (lv_at hl 0 rfl) ?_
      refine lv_iload_n hx hb dX11_mean_30 rfl (lv_at hl 1 rfl) ?_
      refine q_iconst hx hb dX11_mean_31 ?_
      refine call_V hexR F (kX11_over h) 2 tw6_166 tw1_8 tw6_165 tws3_3 tw6_163 hdX11_over ⟨Nat.le_trans (by decide) hR.1, Nat.le_trans (by decide) hR.2⟩ (hw.recv (k := 0) (i := 0) ⟨rfl, Or.inl rfl⟩ rfl rfl) hA hw hS rfl hl.1 rfl (Nat.le_of_ble_eq_true rfl) dX11_mean_32 (fun v9 μ10 H locs h hw hS => ?_)
      refine lv_aload_n hx hb dX11_mean_35 rfl (lv_at hl 0 rfl) ?_
      refine gR_many F hw tw5_150 dX11_mean_36 ?_
      refine lv_iload_n hx hb dX11_mean_39 rfl (lv_at hl 1 rfl) ?_
      refine aR_ild (L := 16) hx hb hw 11 rfl rfl (by decide) g5 g6 dX11_mean_40 ?_
      obtain ⟨g11, h⟩ := h
      obtain ⟨g12, h⟩ := h
      obtain ⟨g13, h⟩ := h
      refine q_idiv hx hb g11 g12 g13 dX11_mean_41 ?_
      exact ret _ _ _ _ _ _ h hw hS dX11_mean_42
    · have h := ite_t c8 h
      refine lv_aload_n hx hb dX11_mean_21 rfl (lv_at hl 0 rfl) ?_
      refine q_iconst hx hb dX11_mean_22 ?_
      refine call_V hexR F (kX11_meets h) 1 tw6_81 tw1_8 tw6_80 tws2_10 tw6_78 hdX11_meets ⟨Nat.le_trans (by decide) hR.1, Nat.le_trans (by decide) hR.2⟩ (hw.recv (k := 0) (i := 0) ⟨rfl, Or.inl rfl⟩ rfl rfl) hA hw hS rfl hl.1 rfl (Nat.le_of_ble_eq_true rfl) dX11_mean_23 (fun v14 μ15 H locs h hw hS => ?_)
      refine lv_goto (tgt := 42) hx hb dX11_mean_26 (by decide) ?_
      exact ret _ _ _ _ _ _ h hw hS dX11_mean_42
  · have h := ite_t c4 h
    refine q_iconst hx hb dX11_mean_8 ?_
    refine lv_goto (tgt := 42) hx hb dX11_mean_9 (by decide) ?_
    exact ret _ _ _ _ _ _ h hw hS dX11_mean_42
set_option maxRecDepth 100000 in
set_option maxHeartbeats 4000000 in
theorem kX11_mean {l : Launch} {D : va_G} {cy : Nat → ClassId} {ad : AD} {A : Nat → Prop} {x1 : Int} {μ : MM} {Q : Int → MM → Prop} (h : wpX11_mean x1 μ Q) : Met l yX11_mean (Cond.code yX11_mean cX11_mean 2 (some .int) :: uw) (rmm 2 43) (wPc [.ref (ad 0 0), .int (iI x1)] dmR cfR tyR exR D cy ad A μ) (wQ vI Q dmR cfR D cy ad A) 0 0 A :=
  met_of (by decide) (Nat.le_of_ble_eq_true rfl) (fun p e R s m args below meth c ls hr hk hRR F hA hw hS hl => wX11_mean F hA (by subst hRR; exact ⟨Nat.le_refl _, Nat.le_refl _⟩) (retI_of F hr hk) h hw hS hl)
theorem hdX11_mean : yX11_mean.cls ≠ "java/lang/invoke/MethodHandle" ∧ yX11_mean.cls ≠ "java/lang/invoke/VarHandle" ∧ (parseMethodDescriptor yX11_mean.desc).map (fun d => d.parameters.length) = some 1 := by decide +kernel
def wpX11_meet_J166 (Q : Int → MM → Prop) (x10 : Int) (t0 : Int) (μ : MM) : Prop := rl ((x10 + t0) - 1) ∧ (rl t0 ∧ (t0 ≠ 0 ∧ (Q (Int.tdiv ((x10 + t0) - 1) t0) μ)))
set_option maxRecDepth 100000 in
set_option maxHeartbeats 4000000 in
theorem wX11_meet_J166 {Q : Int → MM → Prop} {x10 : Int} {t0 : Int} {μ : MM} {H : Heap} {locs : List Loc} {ls : Array Slot} (F : CallFix p m c cX11_meet 14 s args uw RX11) (hA : ∀ q : Nat, s.heap.size ≤ q → A q) (hR : 3 ≤ R.frames ∧ 64 ≤ R.locals) (ret : RetI p l e R s m args below meth c cX11_meet Qf dmR cfR tyR exR D cy ad A Q) (h : wpX11_meet_J166 Q x10 t0 μ) (hw : wdR D cy ad A μ s H) (hS : va_S A s.heap H locs) (hl : lv_has ls 14 [(10, .long (lJ x10))]) : W p l e R s m args below meth c H locs 0 0 Qf (F0 m 166 ls [.long (lJ t0)]) := by
  have hx := F.1
  have hb := F.2.1
  have hown := F.2.2.2.1
  have hts := F.2.2.2.2
  refine lv_lstore (lv' := [(12, .long (lJ t0)), (10, .long (lJ x10))]) hx hb dX11_meet_166 hl (by decide) rfl (fun ls hl => ?_)
  refine lv_lload hx hb dX11_meet_168 (lv_at hl 1 rfl) ?_
  refine lv_lload hx hb dX11_meet_170 (lv_at hl 0 rfl) ?_
  refine q_ladd hx hb dX11_meet_172 ?_
  refine q_lconst (v := 1) hx hb (by decide) dX11_meet_173 ?_
  refine q_lsub hx hb dX11_meet_174 ?_
  refine lv_lload hx hb dX11_meet_175 (lv_at hl 0 rfl) ?_
  obtain ⟨g1, h⟩ := h
  obtain ⟨g2, h⟩ := h
  obtain ⟨g3, h⟩ := h
  refine q_ldiv hx hb g1 g2 g3 dX11_meet_177 ?_
  refine q_l2i hx hb dX11_meet_178 ?_
  exact ret _ _ _ _ _ _ h hw hS dX11_meet_179
def wpX11_meet_J149 (Q : Int → MM → Prop) (x8 : Int) (t0 : Int) (μ : MM) : Prop := rl x8 ∧ (if x8 ≤ 0 then (wpX11_meet_J166 Q t0 (-x8) μ) else (wpX11_meet_J166 Q t0 x8 μ))
set_option maxRecDepth 100000 in
set_option maxHeartbeats 4000000 in
theorem wX11_meet_J149 {Q : Int → MM → Prop} {x8 : Int} {t0 : Int} {μ : MM} {H : Heap} {locs : List Loc} {ls : Array Slot} (F : CallFix p m c cX11_meet 14 s args uw RX11) (hA : ∀ q : Nat, s.heap.size ≤ q → A q) (hR : 3 ≤ R.frames ∧ 64 ≤ R.locals) (ret : RetI p l e R s m args below meth c cX11_meet Qf dmR cfR tyR exR D cy ad A Q) (h : wpX11_meet_J149 Q x8 t0 μ) (hw : wdR D cy ad A μ s H) (hS : va_S A s.heap H locs) (hl : lv_has ls 14 [(8, .long (lJ x8))]) : W p l e R s m args below meth c H locs 0 0 Qf (F0 m 149 ls [.long (lJ t0)]) := by
  have hx := F.1
  have hb := F.2.1
  have hown := F.2.2.2.1
  have hts := F.2.2.2.2
  refine lv_lstore (lv' := [(10, .long (lJ t0)), (8, .long (lJ x8))]) hx hb dX11_meet_149 hl (by decide) rfl (fun ls hl => ?_)
  refine lv_lload hx hb dX11_meet_151 (lv_at hl 1 rfl) ?_
  refine q_lconst (v := 0) hx hb (by decide) dX11_meet_153 ?_
  obtain ⟨g1, h⟩ := h
  refine q_lcmp_le (tgt := 163) hx hb g1 (by decide) dX11_meet_154 dX11_meet_155 (by decide) (fun c2 => ?_) (fun c2 => ?_)
  · have h := ite_t c2 h
    refine lv_lload hx hb dX11_meet_163 (lv_at hl 1 rfl) ?_
    refine q_lneg hx hb dX11_meet_165 ?_
    exact wX11_meet_J166 F hA hR ret h hw hS (lv_sub hl [0] rfl)
  · have h := ite_f c2 h
    refine lv_lload hx hb dX11_meet_158 (lv_at hl 1 rfl) ?_
    refine lv_goto (tgt := 166) hx hb dX11_meet_160 (by decide) ?_
    exact wX11_meet_J166 F hA hR ret h hw hS (lv_sub hl [0] rfl)
def wpX11_meet_J118 (Q : Int → MM → Prop) (x6 : Int) (μ : MM) : Prop := rl x6 ∧ (if x6 = 0 then (Q 0 μ) else (Q (-9) μ))
set_option maxRecDepth 100000 in
set_option maxHeartbeats 4000000 in
theorem wX11_meet_J118 {Q : Int → MM → Prop} {x6 : Int} {μ : MM} {H : Heap} {locs : List Loc} {ls : Array Slot} (F : CallFix p m c cX11_meet 14 s args uw RX11) (hA : ∀ q : Nat, s.heap.size ≤ q → A q) (hR : 3 ≤ R.frames ∧ 64 ≤ R.locals) (ret : RetI p l e R s m args below meth c cX11_meet Qf dmR cfR tyR exR D cy ad A Q) (h : wpX11_meet_J118 Q x6 μ) (hw : wdR D cy ad A μ s H) (hS : va_S A s.heap H locs) (hl : lv_has ls 14 [(6, .long (lJ x6))]) : W p l e R s m args below meth c H locs 0 0 Qf (F0 m 118 ls []) := by
  have hx := F.1
  have hb := F.2.1
  have hown := F.2.2.2.1
  have hts := F.2.2.2.2
  refine lv_lload hx hb dX11_meet_118 (lv_at hl 0 rfl) ?_
  refine q_lconst (v := 0) hx hb (by decide) dX11_meet_120 ?_
  obtain ⟨g1, h⟩ := h
  refine q_lcmp_ne (tgt := 129) hx hb g1 (by decide) dX11_meet_121 dX11_meet_122 (by decide) (fun c2 => ?_) (fun c2 => ?_)
  · have h := ite_f c2 h
    refine q_bipush hx hb (by decide) dX11_meet_129 ?_
    exact ret _ _ _ _ _ _ h hw hS dX11_meet_131
  · have h := ite_t c2 h
    refine q_iconst hx hb dX11_meet_125 ?_
    refine lv_goto (tgt := 131) hx hb dX11_meet_126 (by decide) ?_
    exact ret _ _ _ _ _ _ h hw hS dX11_meet_131
def wpX11_meet (x1 : Int) (x2 : Int) (μ : MM) (Q : Int → MM → Prop) : Prop := wpX11_askedTwo x1 x2 μ (fun v1 μ2 => rg v1 ∧ (if 0 ≤ v1 then (0 ≤ x1 ∧ (x1 < 4 ∧ (rg (μ2 31 0 x1) ∧ (if (μ2 31 0 x1) = 0 then (Q (-4) μ2) else (0 ≤ x2 ∧ (x2 < 4 ∧ (rg (μ2 31 0 x2) ∧ (if (μ2 31 0 x2) = 0 then (Q (-4) μ2) else (rg ((μ2 27 0 x1) - (μ2 27 0 x2)) ∧ (rg (μ2 30 0 x1) ∧ (rg (μ2 30 0 x2) ∧ (∀ y16 : Int, y16 = ((((μ2 27 0 x1) - (μ2 27 0 x2)) * 86400) + (μ2 30 0 x1)) - (μ2 30 0 x2) → (rl y16 ∧ (rl ((Int.tmod y16 124416000) + 124416000) ∧ (∀ y19 : Int, y19 = Int.tmod ((Int.tmod y16 124416000) + 124416000) 124416000 → (rg ((μ2 28 0 x1) - (μ2 28 0 x2)) ∧ (∀ y21 : Int, y21 = (μ2 28 0 x1) - (μ2 28 0 x2) → (rl y19 ∧ (if y19 = 0 then (wpX11_meet_J118 Q y19 μ2) else (rl y21 ∧ (if y21 = 0 then (wpX11_meet_J118 Q y19 μ2) else (if y21 ≤ 0 then (wpX11_meet_J149 Q y21 y19 μ2) else (wpX11_meet_J149 Q y21 (124416000 - y19) μ2))))))))))))))))))))))) else (Q v1 μ2)))
set_option maxRecDepth 100000 in
set_option maxHeartbeats 4000000 in
theorem wX11_meet {Q : Int → MM → Prop} {x1 : Int} {x2 : Int} {μ : MM} {H : Heap} {locs : List Loc} {ls : Array Slot} (F : CallFix p m c cX11_meet 14 s args uw RX11) (hA : ∀ q : Nat, s.heap.size ≤ q → A q) (hR : 3 ≤ R.frames ∧ 64 ≤ R.locals) (ret : RetI p l e R s m args below meth c cX11_meet Qf dmR cfR tyR exR D cy ad A Q) (h : wpX11_meet x1 x2 μ Q) (hw : wdR D cy ad A μ s H) (hS : va_S A s.heap H locs) (hl : lv_has ls 14 [(0, .ref (ad 0 0)), (1, .int (iI x1)), (2, .int (iI x2))]) : W p l e R s m args below meth c H locs 0 0 Qf (F0 m 0 ls []) := by
  have hx := F.1
  have hb := F.2.1
  have hown := F.2.2.2.1
  have hts := F.2.2.2.2
  refine lv_aload_n hx hb dX11_meet_0 rfl (lv_at hl 0 rfl) ?_
  refine lv_iload_n hx hb dX11_meet_1 rfl (lv_at hl 1 rfl) ?_
  refine lv_iload_n hx hb dX11_meet_2 rfl (lv_at hl 2 rfl) ?_
  refine call_V hexR F (kX11_askedTwo h) 2 tw7_82 tw1_8 tw7_81 tws4_2 tw7_79 hdX11_askedTwo ⟨Nat.le_trans (by decide) hR.1, Nat.le_trans (by decide) hR.2⟩ (hw.recv (k := 0) (i := 0) ⟨rfl, Or.inl rfl⟩ rfl rfl) hA hw hS rfl hl.1 rfl (Nat.le_of_ble_eq_true rfl) dX11_meet_3 (fun v1 μ2 H locs h hw hS => ?_)
  refine lv_istore_n (lv' := [(3, .int (iI v1)), (0, .ref (ad 0 0)), (1, .int (iI x1)), (2, .int (iI x2))]) hx hb dX11_meet_6 rfl hl (by decide) rfl (fun ls hl => ?_)
  refine lv_iload_n hx hb dX11_meet_7 rfl (lv_at hl 0 rfl) ?_
  obtain ⟨g3, h⟩ := h
  refine q_if_ge (tgt := 13) hx hb g3 dX11_meet_8 (by decide) (fun c4 => ?_) (fun c4 => ?_)
  · have h := ite_t c4 h
    refine lv_aload_n hx hb dX11_meet_13 rfl (lv_at hl 1 rfl) ?_
    refine gR_goes F hw tw5_169 dX11_meet_14 ?_
    refine lv_iload_n hx hb dX11_meet_17 rfl (lv_at hl 2 rfl) ?_
    obtain ⟨g5, h⟩ := h
    obtain ⟨g6, h⟩ := h
    refine aR_zld (L := 4) hx hb hw 30 rfl rfl (by decide) g5 g6 dX11_meet_18 ?_
    obtain ⟨g7, h⟩ := h
    refine q_if_eq (tgt := 31) hx hb g7 dX11_meet_19 (by decide) (fun c8 => ?_) (fun c8 => ?_)
    · have h := ite_t c8 h
      refine q_bipush hx hb (by decide) dX11_meet_31 ?_
      exact ret _ _ _ _ _ _ h hw hS dX11_meet_33
    · have h := ite_f c8 h
      refine lv_aload_n hx hb dX11_meet_22 rfl (lv_at hl 1 rfl) ?_
      refine gR_goes F hw tw5_169 dX11_meet_23 ?_
      refine lv_iload_n hx hb dX11_meet_26 rfl (lv_at hl 3 rfl) ?_
      obtain ⟨g9, h⟩ := h
      obtain ⟨g10, h⟩ := h
      refine aR_zld (L := 4) hx hb hw 30 rfl rfl (by decide) g9 g10 dX11_meet_27 ?_
      obtain ⟨g11, h⟩ := h
      refine q_if_ne (tgt := 34) hx hb g11 dX11_meet_28 (by decide) (fun c12 => ?_) (fun c12 => ?_)
      · have h := ite_f c12 h
        refine q_ldc2 (n := 124416000) hx hb hown (hts _ tw7_87) (by decide) dX11_meet_34 ?_
        refine lv_lstore (lv' := [(4, .long (lJ 124416000)), (3, .int (iI v1)), (0, .ref (ad 0 0)), (1, .int (iI x1)), (2, .int (iI x2))]) hx hb dX11_meet_37 hl (by decide) rfl (fun ls hl => ?_)
        refine lv_aload_n hx hb dX11_meet_39 rfl (lv_at hl 2 rfl) ?_
        refine gR_handsAt F hw tw5_165 dX11_meet_40 ?_
        refine lv_iload_n hx hb dX11_meet_43 rfl (lv_at hl 3 rfl) ?_
        refine aR_ild (L := 4) hx hb hw 26 rfl rfl (by decide) g5 g6 dX11_meet_44 ?_
        refine lv_aload_n hx hb dX11_meet_45 rfl (lv_at hl 2 rfl) ?_
        refine gR_handsAt F hw tw5_165 dX11_meet_46 ?_
        refine lv_iload_n hx hb dX11_meet_49 rfl (lv_at hl 4 rfl) ?_
        refine aR_ild (L := 4) hx hb hw 26 rfl rfl (by decide) g9 g10 dX11_meet_50 ?_
        refine q_isub hx hb dX11_meet_51 ?_
        obtain ⟨g13, h⟩ := h
        refine q_i2l hx hb g13 dX11_meet_52 ?_
        refine q_ldc2 (n := 86400) hx hb hown (hts _ tw7_88) (by decide) dX11_meet_53 ?_
        refine q_lmul hx hb dX11_meet_56 ?_
        refine lv_aload_n hx hb dX11_meet_57 rfl (lv_at hl 2 rfl) ?_
        refine gR_sums F hw tw5_168 dX11_meet_58 ?_
        refine lv_iload_n hx hb dX11_meet_61 rfl (lv_at hl 3 rfl) ?_
        refine aR_ild (L := 4) hx hb hw 29 rfl rfl (by decide) g5 g6 dX11_meet_62 ?_
        obtain ⟨g14, h⟩ := h
        refine q_i2l hx hb g14 dX11_meet_63 ?_
        refine q_ladd hx hb dX11_meet_64 ?_
        refine lv_aload_n hx hb dX11_meet_65 rfl (lv_at hl 2 rfl) ?_
        refine gR_sums F hw tw5_168 dX11_meet_66 ?_
        refine lv_iload_n hx hb dX11_meet_69 rfl (lv_at hl 4 rfl) ?_
        refine aR_ild (L := 4) hx hb hw 29 rfl rfl (by decide) g9 g10 dX11_meet_70 ?_
        obtain ⟨g15, h⟩ := h
        refine q_i2l hx hb g15 dX11_meet_71 ?_
        refine q_lsub hx hb dX11_meet_72 ?_
        obtain ⟨y16, ey16⟩ : ∃ z : Int, z = ((((μ2 27 0 x1) - (μ2 27 0 x2)) * 86400) + (μ2 30 0 x1)) - (μ2 30 0 x2) := ⟨_, rfl⟩
        have h := h y16 ey16
        refine q_nmL ey16 ?_
        refine lv_lstore (lv' := [(6, .long (lJ y16)), (4, .long (lJ 124416000)), (3, .int (iI v1)), (0, .ref (ad 0 0)), (1, .int (iI x1)), (2, .int (iI x2))]) hx hb dX11_meet_73 hl (by decide) rfl (fun ls hl => ?_)
        refine lv_lload hx hb dX11_meet_75 (lv_at hl 0 rfl) ?_
        refine lv_lload hx hb dX11_meet_77 (lv_at hl 1 rfl) ?_
        obtain ⟨g17, h⟩ := h
        refine q_lrem hx hb g17 (by decide) (by decide) dX11_meet_79 ?_
        refine lv_lload hx hb dX11_meet_80 (lv_at hl 1 rfl) ?_
        refine q_ladd hx hb dX11_meet_82 ?_
        refine lv_lload hx hb dX11_meet_83 (lv_at hl 1 rfl) ?_
        obtain ⟨g18, h⟩ := h
        refine q_lrem hx hb g18 (by decide) (by decide) dX11_meet_85 ?_
        obtain ⟨y19, ey19⟩ : ∃ z : Int, z = Int.tmod ((Int.tmod y16 124416000) + 124416000) 124416000 := ⟨_, rfl⟩
        have h := h y19 ey19
        refine q_nmL ey19 ?_
        refine lv_lstore (lv' := [(6, .long (lJ y19)), (4, .long (lJ 124416000)), (3, .int (iI v1)), (0, .ref (ad 0 0)), (1, .int (iI x1)), (2, .int (iI x2))]) hx hb dX11_meet_86 hl (by decide) rfl (fun ls hl => ?_)
        refine lv_aload_n hx hb dX11_meet_88 rfl (lv_at hl 3 rfl) ?_
        refine gR_rates F hw tw5_166 dX11_meet_89 ?_
        refine lv_iload_n hx hb dX11_meet_92 rfl (lv_at hl 4 rfl) ?_
        refine aR_ild (L := 4) hx hb hw 27 rfl rfl (by decide) g5 g6 dX11_meet_93 ?_
        refine lv_aload_n hx hb dX11_meet_94 rfl (lv_at hl 3 rfl) ?_
        refine gR_rates F hw tw5_166 dX11_meet_95 ?_
        refine lv_iload_n hx hb dX11_meet_98 rfl (lv_at hl 5 rfl) ?_
        refine aR_ild (L := 4) hx hb hw 27 rfl rfl (by decide) g9 g10 dX11_meet_99 ?_
        refine q_isub hx hb dX11_meet_100 ?_
        obtain ⟨g20, h⟩ := h
        refine q_i2l hx hb g20 dX11_meet_101 ?_
        obtain ⟨y21, ey21⟩ : ∃ z : Int, z = (μ2 28 0 x1) - (μ2 28 0 x2) := ⟨_, rfl⟩
        have h := h y21 ey21
        refine q_nmL ey21 ?_
        refine lv_lstore (lv' := [(8, .long (lJ y21)), (6, .long (lJ y19)), (4, .long (lJ 124416000)), (3, .int (iI v1)), (0, .ref (ad 0 0)), (1, .int (iI x1)), (2, .int (iI x2))]) hx hb dX11_meet_102 hl (by decide) rfl (fun ls hl => ?_)
        refine lv_lload hx hb dX11_meet_104 (lv_at hl 1 rfl) ?_
        refine q_lconst (v := 0) hx hb (by decide) dX11_meet_106 ?_
        obtain ⟨g22, h⟩ := h
        refine q_lcmp_eq (tgt := 118) hx hb g22 (by decide) dX11_meet_107 dX11_meet_108 (by decide) (fun c23 => ?_) (fun c23 => ?_)
        · have h := ite_t c23 h
          exact wX11_meet_J118 F hA hR ret h hw hS (lv_sub hl [1] rfl)
        · have h := ite_f c23 h
          refine lv_lload hx hb dX11_meet_111 (lv_at hl 0 rfl) ?_
          refine q_lconst (v := 0) hx hb (by decide) dX11_meet_113 ?_
          obtain ⟨g24, h⟩ := h
          refine q_lcmp_ne (tgt := 132) hx hb g24 (by decide) dX11_meet_114 dX11_meet_115 (by decide) (fun c25 => ?_) (fun c25 => ?_)
          · have h := ite_f c25 h
            refine lv_lload hx hb dX11_meet_132 (lv_at hl 0 rfl) ?_
            refine q_lconst (v := 0) hx hb (by decide) dX11_meet_134 ?_
            refine q_lcmp_le (tgt := 147) hx hb g24 (by decide) dX11_meet_135 dX11_meet_136 (by decide) (fun c26 => ?_) (fun c26 => ?_)
            · have h := ite_t c26 h
              refine lv_lload hx hb dX11_meet_147 (lv_at hl 1 rfl) ?_
              exact wX11_meet_J149 F hA hR ret h hw hS (lv_sub hl [0] rfl)
            · have h := ite_f c26 h
              refine lv_lload hx hb dX11_meet_139 (lv_at hl 2 rfl) ?_
              refine lv_lload hx hb dX11_meet_141 (lv_at hl 1 rfl) ?_
              refine q_lsub hx hb dX11_meet_143 ?_
              refine lv_goto (tgt := 149) hx hb dX11_meet_144 (by decide) ?_
              exact wX11_meet_J149 F hA hR ret h hw hS (lv_sub hl [0] rfl)
          · have h := ite_t c25 h
            exact wX11_meet_J118 F hA hR ret h hw hS (lv_sub hl [1] rfl)
      · have h := ite_t c12 h
        refine q_bipush hx hb (by decide) dX11_meet_31 ?_
        exact ret _ _ _ _ _ _ h hw hS dX11_meet_33
  · have h := ite_f c4 h
    refine lv_iload_n hx hb dX11_meet_11 rfl (lv_at hl 0 rfl) ?_
    exact ret _ _ _ _ _ _ h hw hS dX11_meet_12
set_option maxRecDepth 100000 in
set_option maxHeartbeats 4000000 in
theorem kX11_meet {l : Launch} {D : va_G} {cy : Nat → ClassId} {ad : AD} {A : Nat → Prop} {x1 : Int} {x2 : Int} {μ : MM} {Q : Int → MM → Prop} (h : wpX11_meet x1 x2 μ Q) : Met l yX11_meet (Cond.code yX11_meet cX11_meet 14 (some .int) :: uw) (rmm 3 64) (wPc [.ref (ad 0 0), .int (iI x1), .int (iI x2)] dmR cfR tyR exR D cy ad A μ) (wQ vI Q dmR cfR D cy ad A) 0 0 A :=
  met_of (by decide) (Nat.le_of_ble_eq_true rfl) (fun p e R s m args below meth c ls hr hk hRR F hA hw hS hl => wX11_meet F hA (by subst hRR; exact ⟨Nat.le_refl _, Nat.le_refl _⟩) (retI_of F hr hk) h hw hS hl)
theorem hdX11_meet : yX11_meet.cls ≠ "java/lang/invoke/MethodHandle" ∧ yX11_meet.cls ≠ "java/lang/invoke/VarHandle" ∧ (parseMethodDescriptor yX11_meet.desc).map (fun d => d.parameters.length) = some 2 := by decide +kernel
def wpX11_writeLog_J66 (Q : Int → MM → Prop) (x1 : Int) (x2 : Int) (x3 : Int) (x4 : Int) (μ : MM) : Prop := 0 ≤ x1 ∧ (x1 < 4 ∧ (∀ y3 : Int, y3 = (240 * x1) + (4 * (μ 37 0 x1)) → (0 ≤ y3 ∧ (y3 < 960 ∧ (∀ μ6 : MM, μ6 = ms μ 38 0 y3 (μ 0 5 0) → (0 ≤ (y3 + 1) ∧ (y3 + 1 < 960 ∧ (∀ μ9 : MM, μ9 = ms μ6 38 0 (y3 + 1) x2 → (0 ≤ (y3 + 2) ∧ (y3 + 2 < 960 ∧ (∀ μ12 : MM, μ12 = ms μ9 38 0 (y3 + 2) x3 → (0 ≤ (y3 + 3) ∧ (y3 + 3 < 960 ∧ (∀ μ15 : MM, μ15 = ms μ12 38 0 (y3 + 3) x4 → (∀ μ16 : MM, μ16 = ms μ15 37 0 x1 ((μ15 37 0 x1) + 1) → (Q 0 μ16))))))))))))))))
set_option maxRecDepth 100000 in
set_option maxHeartbeats 4000000 in
theorem wX11_writeLog_J66 {Q : Int → MM → Prop} {x1 : Int} {x2 : Int} {x3 : Int} {x4 : Int} {μ : MM} {H : Heap} {locs : List Loc} {ls : Array Slot} (F : CallFix p m c cX11_writeLog 6 s args uw RX11) (hA : ∀ q : Nat, s.heap.size ≤ q → A q) (hR : 0 ≤ R.frames ∧ 0 ≤ R.locals) (ret : RetV p l e R s m args below meth c cX11_writeLog Qf dmR cfR tyR exR D cy ad A Q) (h : wpX11_writeLog_J66 Q x1 x2 x3 x4 μ) (hw : wdR D cy ad A μ s H) (hS : va_S A s.heap H locs) (hl : lv_has ls 6 [(0, .ref (ad 0 0)), (1, .int (iI x1)), (2, .int (iI x2)), (3, .int (iI x3)), (4, .int (iI x4))]) : W p l e R s m args below meth c H locs 0 0 Qf (F0 m 66 ls []) := by
  have hx := F.1
  have hb := F.2.1
  have hown := F.2.2.2.1
  have hts := F.2.2.2.2
  refine q_sipush hx hb (by decide) dX11_writeLog_66 ?_
  refine lv_iload_n hx hb dX11_writeLog_69 rfl (lv_at hl 1 rfl) ?_
  refine q_imul hx hb dX11_writeLog_70 ?_
  refine q_iconst hx hb dX11_writeLog_71 ?_
  refine lv_aload_n hx hb dX11_writeLog_72 rfl (lv_at hl 0 rfl) ?_
  refine gR_entries F hw tw5_175 dX11_writeLog_73 ?_
  refine lv_iload_n hx hb dX11_writeLog_76 rfl (lv_at hl 1 rfl) ?_
  obtain ⟨g1, h⟩ := h
  obtain ⟨g2, h⟩ := h
  refine aR_ild (L := 4) hx hb hw 36 rfl rfl (by decide) g1 g2 dX11_writeLog_77 ?_
  refine q_imul hx hb dX11_writeLog_78 ?_
  refine q_iadd hx hb dX11_writeLog_79 ?_
  obtain ⟨y3, ey3⟩ : ∃ z : Int, z = (240 * x1) + (4 * (μ 37 0 x1)) := ⟨_, rfl⟩
  have h := h y3 ey3
  refine q_nmI ey3 ?_
  refine lv_istore (lv' := [(5, .int (iI y3)), (0, .ref (ad 0 0)), (1, .int (iI x1)), (2, .int (iI x2)), (3, .int (iI x3)), (4, .int (iI x4))]) hx hb dX11_writeLog_80 hl (by decide) rfl (fun ls hl => ?_)
  refine lv_aload_n hx hb dX11_writeLog_82 rfl (lv_at hl 1 rfl) ?_
  refine gR_logs F hw tw5_176 dX11_writeLog_83 ?_
  refine lv_iload hx hb dX11_writeLog_86 (lv_at hl 0 rfl) ?_
  refine lv_aload_n hx hb dX11_writeLog_88 rfl (lv_at hl 1 rfl) ?_
  refine gR_now F hw tw5_143 dX11_writeLog_89 ?_
  obtain ⟨g4, h⟩ := h
  obtain ⟨g5, h⟩ := h
  obtain ⟨μ6, eμ6⟩ : ∃ z : MM, z = ms μ 38 0 y3 (μ 0 5 0) := ⟨_, rfl⟩
  have h := h μ6 eμ6
  refine aR_ist (L := 960) hx hb hw hS 37 rfl rfl (by decide) g4 g5 eμ6 dX11_writeLog_92 (fun H locs hw hS => ?_)
  refine lv_aload_n hx hb dX11_writeLog_93 rfl (lv_at hl 1 rfl) ?_
  refine gR_logs F hw tw5_176 dX11_writeLog_94 ?_
  refine lv_iload hx hb dX11_writeLog_97 (lv_at hl 0 rfl) ?_
  refine q_iconst hx hb dX11_writeLog_99 ?_
  refine q_iadd hx hb dX11_writeLog_100 ?_
  refine lv_iload_n hx hb dX11_writeLog_101 rfl (lv_at hl 3 rfl) ?_
  obtain ⟨g7, h⟩ := h
  obtain ⟨g8, h⟩ := h
  obtain ⟨μ9, eμ9⟩ : ∃ z : MM, z = ms μ6 38 0 (y3 + 1) x2 := ⟨_, rfl⟩
  have h := h μ9 eμ9
  refine aR_ist (L := 960) hx hb hw hS 37 rfl rfl (by decide) g7 g8 eμ9 dX11_writeLog_102 (fun H locs hw hS => ?_)
  refine lv_aload_n hx hb dX11_writeLog_103 rfl (lv_at hl 1 rfl) ?_
  refine gR_logs F hw tw5_176 dX11_writeLog_104 ?_
  refine lv_iload hx hb dX11_writeLog_107 (lv_at hl 0 rfl) ?_
  refine q_iconst hx hb dX11_writeLog_109 ?_
  refine q_iadd hx hb dX11_writeLog_110 ?_
  refine lv_iload_n hx hb dX11_writeLog_111 rfl (lv_at hl 4 rfl) ?_
  obtain ⟨g10, h⟩ := h
  obtain ⟨g11, h⟩ := h
  obtain ⟨μ12, eμ12⟩ : ∃ z : MM, z = ms μ9 38 0 (y3 + 2) x3 := ⟨_, rfl⟩
  have h := h μ12 eμ12
  refine aR_ist (L := 960) hx hb hw hS 37 rfl rfl (by decide) g10 g11 eμ12 dX11_writeLog_112 (fun H locs hw hS => ?_)
  refine lv_aload_n hx hb dX11_writeLog_113 rfl (lv_at hl 1 rfl) ?_
  refine gR_logs F hw tw5_176 dX11_writeLog_114 ?_
  refine lv_iload hx hb dX11_writeLog_117 (lv_at hl 0 rfl) ?_
  refine q_iconst hx hb dX11_writeLog_119 ?_
  refine q_iadd hx hb dX11_writeLog_120 ?_
  refine lv_iload hx hb dX11_writeLog_121 (lv_at hl 5 rfl) ?_
  obtain ⟨g13, h⟩ := h
  obtain ⟨g14, h⟩ := h
  obtain ⟨μ15, eμ15⟩ : ∃ z : MM, z = ms μ12 38 0 (y3 + 3) x4 := ⟨_, rfl⟩
  have h := h μ15 eμ15
  refine aR_ist (L := 960) hx hb hw hS 37 rfl rfl (by decide) g13 g14 eμ15 dX11_writeLog_123 (fun H locs hw hS => ?_)
  refine lv_aload_n hx hb dX11_writeLog_124 rfl (lv_at hl 1 rfl) ?_
  refine gR_entries F hw tw5_175 dX11_writeLog_125 ?_
  refine lv_iload_n hx hb dX11_writeLog_128 rfl (lv_at hl 2 rfl) ?_
  refine lv_dup2_11 hx hb dX11_writeLog_129 rfl rfl ?_
  refine aR_ild (L := 4) hx hb hw 36 rfl rfl (by decide) g1 g2 dX11_writeLog_130 ?_
  refine q_iconst hx hb dX11_writeLog_131 ?_
  refine q_iadd hx hb dX11_writeLog_132 ?_
  obtain ⟨μ16, eμ16⟩ : ∃ z : MM, z = ms μ15 37 0 x1 ((μ15 37 0 x1) + 1) := ⟨_, rfl⟩
  have h := h μ16 eμ16
  refine aR_ist (L := 4) hx hb hw hS 36 rfl rfl (by decide) g1 g2 eμ16 dX11_writeLog_133 (fun H locs hw hS => ?_)
  exact ret _ _ _ _ _ h hw hS dX11_writeLog_134
def wpX11_writeLog_L14 (Q : Int → MM → Prop) : Nat → Int → Int → Int → Int → Int → MM → Prop
  | 0, _, _, _, _, _, _ => False
  | n + 1, x1, x2, x3, x4, x5, μ => rg x5 ∧ (if 236 ≤ x5 then (0 ≤ x1 ∧ (x1 < 4 ∧ (∀ μ5 : MM, μ5 = ms μ 37 0 x1 ((μ 37 0 x1) - 1) → (wpX11_writeLog_J66 Q x1 x2 x3 x4 μ5)))) else (0 ≤ (((240 * x1) + x5) + 4) ∧ (((240 * x1) + x5) + 4 < 960 ∧ (0 ≤ ((240 * x1) + x5) ∧ ((240 * x1) + x5 < 960 ∧ (∀ μ10 : MM, μ10 = ms μ 38 0 ((240 * x1) + x5) (μ 38 0 (((240 * x1) + x5) + 4)) → (wpX11_writeLog_L14 Q n x1 x2 x3 x4 (x5 + 1) μ10)))))))
set_option maxRecDepth 100000 in
set_option maxHeartbeats 4000000 in
theorem wX11_writeLog_L14 {Q : Int → MM → Prop} (F : CallFix p m c cX11_writeLog 6 s args uw RX11) (hA : ∀ q : Nat, s.heap.size ≤ q → A q) (hR : 0 ≤ R.frames ∧ 0 ≤ R.locals) (ret : RetV p l e R s m args below meth c cX11_writeLog Qf dmR cfR tyR exR D cy ad A Q) : ∀ (n : Nat) (x1 x2 x3 x4 x5 : Int) (μ : MM) (H : Heap) (locs : List Loc) (ls : Array Slot), wpX11_writeLog_L14 Q n x1 x2 x3 x4 x5 μ → wdR D cy ad A μ s H → va_S A s.heap H locs → lv_has ls 6 [(0, .ref (ad 0 0)), (1, .int (iI x1)), (2, .int (iI x2)), (3, .int (iI x3)), (4, .int (iI x4)), (5, .int (iI x5))] → W p l e R s m args below meth c H locs 0 0 Qf (F0 m 14 ls []) := by
  have hx := F.1
  have hb := F.2.1
  have hown := F.2.2.2.1
  have hts := F.2.2.2.2
  intro n
  induction n with
  | zero =>
    intro x1 x2 x3 x4 x5 μ H locs ls h hw hS hl
    exact h.elim
  | succ n ih =>
    intro x1 x2 x3 x4 x5 μ H locs ls h hw hS hl
    refine lv_iload hx hb dX11_writeLog_14 (lv_at hl 5 rfl) ?_
    refine q_sipush hx hb (by decide) dX11_writeLog_16 ?_
    obtain ⟨g1, h⟩ := h
    refine q_icmp_ge (tgt := 56) hx hb g1 (by decide) dX11_writeLog_19 (by decide) (fun c2 => ?_) (fun c2 => ?_)
    · have h := ite_t c2 h
      refine lv_aload_n hx hb dX11_writeLog_56 rfl (lv_at hl 0 rfl) ?_
      refine gR_entries F hw tw5_175 dX11_writeLog_57 ?_
      refine lv_iload_n hx hb dX11_writeLog_60 rfl (lv_at hl 1 rfl) ?_
      refine lv_dup2_11 hx hb dX11_writeLog_61 rfl rfl ?_
      obtain ⟨g3, h⟩ := h
      obtain ⟨g4, h⟩ := h
      refine aR_ild (L := 4) hx hb hw 36 rfl rfl (by decide) g3 g4 dX11_writeLog_62 ?_
      refine q_iconst hx hb dX11_writeLog_63 ?_
      refine q_isub hx hb dX11_writeLog_64 ?_
      obtain ⟨μ5, eμ5⟩ : ∃ z : MM, z = ms μ 37 0 x1 ((μ 37 0 x1) - 1) := ⟨_, rfl⟩
      have h := h μ5 eμ5
      refine aR_ist (L := 4) hx hb hw hS 36 rfl rfl (by decide) g3 g4 eμ5 dX11_writeLog_65 (fun H locs hw hS => ?_)
      exact wX11_writeLog_J66 F hA hR ret h hw hS (lv_sub hl [0, 1, 2, 3, 4] rfl)
    · have h := ite_f c2 h
      refine lv_aload_n hx hb dX11_writeLog_22 rfl (lv_at hl 0 rfl) ?_
      refine gR_logs F hw tw5_176 dX11_writeLog_23 ?_
      refine q_sipush hx hb (by decide) dX11_writeLog_26 ?_
      refine lv_iload_n hx hb dX11_writeLog_29 rfl (lv_at hl 1 rfl) ?_
      refine q_imul hx hb dX11_writeLog_30 ?_
      refine lv_iload hx hb dX11_writeLog_31 (lv_at hl 5 rfl) ?_
      refine q_iadd hx hb dX11_writeLog_33 ?_
      refine lv_aload_n hx hb dX11_writeLog_34 rfl (lv_at hl 0 rfl) ?_
      refine gR_logs F hw tw5_176 dX11_writeLog_35 ?_
      refine q_sipush hx hb (by decide) dX11_writeLog_38 ?_
      refine lv_iload_n hx hb dX11_writeLog_41 rfl (lv_at hl 1 rfl) ?_
      refine q_imul hx hb dX11_writeLog_42 ?_
      refine lv_iload hx hb dX11_writeLog_43 (lv_at hl 5 rfl) ?_
      refine q_iadd hx hb dX11_writeLog_45 ?_
      refine q_iconst hx hb dX11_writeLog_46 ?_
      refine q_iadd hx hb dX11_writeLog_47 ?_
      obtain ⟨g6, h⟩ := h
      obtain ⟨g7, h⟩ := h
      refine aR_ild (L := 960) hx hb hw 37 rfl rfl (by decide) g6 g7 dX11_writeLog_48 ?_
      obtain ⟨g8, h⟩ := h
      obtain ⟨g9, h⟩ := h
      obtain ⟨μ10, eμ10⟩ : ∃ z : MM, z = ms μ 38 0 ((240 * x1) + x5) (μ 38 0 (((240 * x1) + x5) + 4)) := ⟨_, rfl⟩
      have h := h μ10 eμ10
      refine aR_ist (L := 960) hx hb hw hS 37 rfl rfl (by decide) g8 g9 eμ10 dX11_writeLog_49 (fun H locs hw hS => ?_)
      refine q_iinc (k := 5) (lv' := [(5, .int (iI (x5 + 1))), (0, .ref (ad 0 0)), (1, .int (iI x1)), (2, .int (iI x2)), (3, .int (iI x3)), (4, .int (iI x4))]) hx hb dX11_writeLog_50 hl rfl (by decide) rfl (fun ls hl => ?_)
      refine lv_goto (tgt := 14) hx hb dX11_writeLog_53 (by decide) ?_
      exact ih x1 x2 x3 x4 (x5 + 1) _ _ _ _ h hw hS (lv_sub hl [1, 2, 3, 4, 5, 0] rfl)
def wpX11_writeLog (x1 : Int) (x2 : Int) (x3 : Int) (x4 : Int) (μ : MM) (Q : Int → MM → Prop) : Prop := 0 ≤ x1 ∧ (x1 < 4 ∧ (rg (μ 37 0 x1) ∧ (if (μ 37 0 x1) = 60 then (∃ n5 : Nat, wpX11_writeLog_L14 Q n5 x1 x2 x3 x4 0 μ) else (wpX11_writeLog_J66 Q x1 x2 x3 x4 μ))))
set_option maxRecDepth 100000 in
set_option maxHeartbeats 4000000 in
theorem wX11_writeLog {Q : Int → MM → Prop} {x1 : Int} {x2 : Int} {x3 : Int} {x4 : Int} {μ : MM} {H : Heap} {locs : List Loc} {ls : Array Slot} (F : CallFix p m c cX11_writeLog 6 s args uw RX11) (hA : ∀ q : Nat, s.heap.size ≤ q → A q) (hR : 0 ≤ R.frames ∧ 0 ≤ R.locals) (ret : RetV p l e R s m args below meth c cX11_writeLog Qf dmR cfR tyR exR D cy ad A Q) (h : wpX11_writeLog x1 x2 x3 x4 μ Q) (hw : wdR D cy ad A μ s H) (hS : va_S A s.heap H locs) (hl : lv_has ls 6 [(0, .ref (ad 0 0)), (1, .int (iI x1)), (2, .int (iI x2)), (3, .int (iI x3)), (4, .int (iI x4))]) : W p l e R s m args below meth c H locs 0 0 Qf (F0 m 0 ls []) := by
  have hx := F.1
  have hb := F.2.1
  have hown := F.2.2.2.1
  have hts := F.2.2.2.2
  refine lv_aload_n hx hb dX11_writeLog_0 rfl (lv_at hl 0 rfl) ?_
  refine gR_entries F hw tw5_175 dX11_writeLog_1 ?_
  refine lv_iload_n hx hb dX11_writeLog_4 rfl (lv_at hl 1 rfl) ?_
  obtain ⟨g1, h⟩ := h
  obtain ⟨g2, h⟩ := h
  refine aR_ild (L := 4) hx hb hw 36 rfl rfl (by decide) g1 g2 dX11_writeLog_5 ?_
  refine q_bipush hx hb (by decide) dX11_writeLog_6 ?_
  obtain ⟨g3, h⟩ := h
  refine q_icmp_ne (tgt := 66) hx hb g3 (by decide) dX11_writeLog_8 (by decide) (fun c4 => ?_) (fun c4 => ?_)
  · have h := ite_f c4 h
    exact wX11_writeLog_J66 F hA hR ret h hw hS (lv_sub hl [0, 1, 2, 3, 4] rfl)
  · have h := ite_t c4 h
    refine q_iconst hx hb dX11_writeLog_11 ?_
    refine lv_istore (lv' := [(5, .int (iI 0)), (0, .ref (ad 0 0)), (1, .int (iI x1)), (2, .int (iI x2)), (3, .int (iI x3)), (4, .int (iI x4))]) hx hb dX11_writeLog_12 hl (by decide) rfl (fun ls hl => ?_)
    obtain ⟨n5, h⟩ := h
    exact wX11_writeLog_L14 F hA hR ret n5 x1 x2 x3 x4 0 _ _ _ _ h hw hS (lv_sub hl [1, 2, 3, 4, 5, 0] rfl)
set_option maxRecDepth 100000 in
set_option maxHeartbeats 4000000 in
theorem kX11_writeLog {l : Launch} {D : va_G} {cy : Nat → ClassId} {ad : AD} {A : Nat → Prop} {x1 : Int} {x2 : Int} {x3 : Int} {x4 : Int} {μ : MM} {Q : Int → MM → Prop} (h : wpX11_writeLog x1 x2 x3 x4 μ Q) : Met l yX11_writeLog (Cond.code yX11_writeLog cX11_writeLog 6 none :: uw) (rmm 0 0) (wPc [.ref (ad 0 0), .int (iI x1), .int (iI x2), .int (iI x3), .int (iI x4)] dmR cfR tyR exR D cy ad A μ) (wQ vV Q dmR cfR D cy ad A) 0 0 A :=
  met_of (by decide) (Nat.le_of_ble_eq_true rfl) (fun p e R s m args below meth c ls hr hk hRR F hA hw hS hl => wX11_writeLog F hA (by subst hRR; exact ⟨Nat.le_refl _, Nat.le_refl _⟩) (retV_of F hr hk) h hw hS hl)
theorem hdX11_writeLog : yX11_writeLog.cls ≠ "java/lang/invoke/MethodHandle" ∧ yX11_writeLog.cls ≠ "java/lang/invoke/VarHandle" ∧ (parseMethodDescriptor yX11_writeLog.desc).map (fun d => d.parameters.length) = some 4 := by decide +kernel
end
