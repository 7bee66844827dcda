section
variable {p : Program} {l : Launch} {e : Env} {R : Room} {s : State} {m : MethodId} {args : Array Value} {below : List Frame} {meth : Method} {c : Code} {Qf : State → Prop} {D : va_G} {cy : Nat → ClassId} {ad : AD} {A : Nat → Prop}
def wpX6_hasRun (G : GG) (i : Int) (x1 : Int) (x2 : Int) (μ : MM) (Q : Int → MM → Prop) : Prop := rg x1 ∧ (if x1 < 0 then (Q 0 μ) else (rg x2 ∧ (rg (μ 1 1 i) ∧ (if (μ 1 1 i) < x2 then (Q 0 μ) else (rg ((μ 1 1 i) - x2) ∧ (if ((μ 1 1 i) - x2) < x1 then (Q 0 μ) else (Q 1 μ)))))))
set_option maxRecDepth 100000 in
set_option maxHeartbeats 4000000 in
theorem wX6_hasRun {G : GG} {Q : Int → MM → Prop} {i : Int} {x1 : Int} {x2 : Int} {μ : MM} {H : Heap} {locs : List Loc} {ls : Array Slot} (F : CallFix p m c cX6_hasRun 3 s args uw RX6) (hA : ∀ q : Nat, s.heap.size ≤ q → A q) (hR : 0 ≤ R.frames ∧ 0 ≤ R.locals) (ret : RetZ p l e R s m args below meth c cX6_hasRun Qf (dmC G) (cfC G) tyC (exC G) D cy ad A Q) (h : wpX6_hasRun G i x1 x2 μ Q) (hi_i : 0 ≤ i ∧ i < 8) (hw : wdC G D cy ad A μ s H) (hS : va_S A s.heap H locs) (hl : lv_has ls 3 [(0, .ref (ad 1 i)), (1, .int (iI x1)), (2, .int (iI x2))]) : W p l e R s m args below meth c H locs 0 0 Qf (F0 m 0 ls []) := by
  have hx := F.1
  have hb := F.2.1
  have hown := F.2.2.2.1
  have hts := F.2.2.2.2
  refine lv_iload_n hx hb dX6_hasRun_0 rfl (lv_at hl 1 rfl) ?_
  obtain ⟨g1, h⟩ := h
  refine q_if_lt (tgt := 26) hx hb g1 dX6_hasRun_1 (by decide) (fun c2 => ?_) (fun c2 => ?_)
  · have h := ite_t c2 h
    refine q_iconst hx hb dX6_hasRun_26 ?_
    exact ret _ _ _ _ _ _ (Or.inl rfl) h hw hS dX6_hasRun_27
  · have h := ite_f c2 h
    refine lv_iload_n hx hb dX6_hasRun_4 rfl (lv_at hl 2 rfl) ?_
    refine lv_aload_n hx hb dX6_hasRun_5 rfl (lv_at hl 0 rfl) ?_
    refine gC_R_size F hw hi_i tw1_122 dX6_hasRun_6 ?_
    obtain ⟨g3, h⟩ := h
    obtain ⟨g4, h⟩ := h
    refine q_icmp_gt (tgt := 26) hx hb g3 g4 dX6_hasRun_9 (by decide) (fun c5 => ?_) (fun c5 => ?_)
    · have h := ite_t c5 h
      refine q_iconst hx hb dX6_hasRun_26 ?_
      exact ret _ _ _ _ _ _ (Or.inl rfl) h hw hS dX6_hasRun_27
    · have h := ite_f c5 h
      refine lv_iload_n hx hb dX6_hasRun_12 rfl (lv_at hl 1 rfl) ?_
      refine lv_aload_n hx hb dX6_hasRun_13 rfl (lv_at hl 0 rfl) ?_
      refine gC_R_size F hw hi_i tw1_122 dX6_hasRun_14 ?_
      refine lv_iload_n hx hb dX6_hasRun_17 rfl (lv_at hl 2 rfl) ?_
      refine q_isub hx hb dX6_hasRun_18 ?_
      obtain ⟨g6, h⟩ := h
      refine q_icmp_gt (tgt := 26) hx hb g1 g6 dX6_hasRun_19 (by decide) (fun c7 => ?_) (fun c7 => ?_)
      · have h := ite_t c7 h
        refine q_iconst hx hb dX6_hasRun_26 ?_
        exact ret _ _ _ _ _ _ (Or.inl rfl) h hw hS dX6_hasRun_27
      · have h := ite_f c7 h
        refine q_iconst hx hb dX6_hasRun_22 ?_
        refine lv_goto (tgt := 27) hx hb dX6_hasRun_23 (by decide) ?_
        exact ret _ _ _ _ _ _ (Or.inr rfl) h hw hS dX6_hasRun_27
set_option maxRecDepth 100000 in
set_option maxHeartbeats 4000000 in
theorem kX6_hasRun {l : Launch} {D : va_G} {cy : Nat → ClassId} {ad : AD} {A : Nat → Prop} {G : GG} {i : Int} {x1 : Int} {x2 : Int} {μ : MM} {Q : Int → MM → Prop} (h : wpX6_hasRun G i x1 x2 μ Q) (hi_i : 0 ≤ i ∧ i < 8) : Met l yX6_hasRun (Cond.code yX6_hasRun cX6_hasRun 3 (some .boolean) :: uw) (rmm 0 0) (wPc [.ref (ad 1 i), .int (iI x1), .int (iI x2)] (dmC G) (cfC G) tyC (exC G) D cy ad A μ) (wQ vI (fun v u => (v = 0 ∨ v = 1) ∧ Q v u) (dmC G) (cfC G) D cy ad A) 0 0 A :=
  met_of (by decide) (Nat.le_of_ble_eq_true rfl) (fun p e R s m args below meth c ls hr hk hRR F hA hw hS hl => wX6_hasRun F hA (by subst hRR; exact ⟨Nat.le_refl _, Nat.le_refl _⟩) (retZ2_of F hr hk) h hi_i hw hS hl)
theorem hdX6_hasRun : yX6_hasRun.cls ≠ "java/lang/invoke/MethodHandle" ∧ yX6_hasRun.cls ≠ "java/lang/invoke/VarHandle" ∧ (parseMethodDescriptor yX6_hasRun.desc).map (fun d => d.parameters.length) = some 2 := by decide +kernel
def wpX6_set (G : GG) (i : Int) (x1 : Int) (x2 : Int) (μ : MM) (Q : Int → MM → Prop) : Prop := rg x1 ∧ (if x1 < 0 then (Q 0 μ) else (if 48 ≤ x1 then (Q 0 μ) else (0 ≤ x1 ∧ (x1 < 48 ∧ (∀ μ6 : MM, μ6 = ms μ 8 0 (48 * i + x1) (i2b (i2b x2)) → (Q 0 μ6))))))
set_option maxRecDepth 100000 in
set_option maxHeartbeats 4000000 in
theorem wX6_set {G : GG} {Q : Int → MM → Prop} {i : Int} {x1 : Int} {x2 : Int} {μ : MM} {H : Heap} {locs : List Loc} {ls : Array Slot} (F : CallFix p m c cX6_set 3 s args uw RX6) (hA : ∀ q : Nat, s.heap.size ≤ q → A q) (hR : 0 ≤ R.frames ∧ 0 ≤ R.locals) (ret : RetV p l e R s m args below meth c cX6_set Qf (dmC G) (cfC G) tyC (exC G) D cy ad A Q) (h : wpX6_set G i x1 x2 μ Q) (hi_i : 0 ≤ i ∧ i < 8) (hw : wdC G D cy ad A μ s H) (hS : va_S A s.heap H locs) (hl : lv_has ls 3 [(0, .ref (ad 1 i)), (1, .int (iI x1)), (2, .int (iI x2))]) : W p l e R s m args below meth c H locs 0 0 Qf (F0 m 0 ls []) := by
  have hx := F.1
  have hb := F.2.1
  have hown := F.2.2.2.1
  have hts := F.2.2.2.2
  refine lv_iload_n hx hb dX6_set_0 rfl (lv_at hl 1 rfl) ?_
  obtain ⟨g1, h⟩ := h
  refine q_if_lt (tgt := 21) hx hb g1 dX6_set_1 (by decide) (fun c2 => ?_) (fun c2 => ?_)
  · have h := ite_t c2 h
    exact ret _ _ _ _ _ h hw hS dX6_set_21
  · have h := ite_f c2 h
    refine lv_iload_n hx hb dX6_set_4 rfl (lv_at hl 1 rfl) ?_
    refine lv_aload_n hx hb dX6_set_5 rfl (lv_at hl 0 rfl) ?_
    refine gC_R_bytes F hw hi_i tw1_120 dX6_set_6 ?_
    refine aC_8_ln hx hb hw hi_i dX6_set_9 ?_
    refine q_icmp_ge (tgt := 21) hx hb g1 (by decide) dX6_set_10 (by decide) (fun c3 => ?_) (fun c3 => ?_)
    · have h := ite_t c3 h
      exact ret _ _ _ _ _ h hw hS dX6_set_21
    · have h := ite_f c3 h
      refine lv_aload_n hx hb dX6_set_13 rfl (lv_at hl 0 rfl) ?_
      refine gC_R_bytes F hw hi_i tw1_120 dX6_set_14 ?_
      refine lv_iload_n hx hb dX6_set_17 rfl (lv_at hl 1 rfl) ?_
      refine lv_iload_n hx hb dX6_set_18 rfl (lv_at hl 2 rfl) ?_
      refine q_i2b hx hb dX6_set_19 ?_
      obtain ⟨g4, h⟩ := h
      obtain ⟨g5, h⟩ := h
      obtain ⟨μ6, eμ6⟩ : ∃ z : MM, z = ms μ 8 0 (48 * i + x1) (i2b (i2b x2)) := ⟨_, rfl⟩
      have h := h μ6 eμ6
      refine aC_8_st hx hb hw hS hi_i g4 g5 eμ6 dX6_set_20 (fun H locs hw hS => ?_)
      exact ret _ _ _ _ _ h hw hS dX6_set_21
set_option maxRecDepth 100000 in
set_option maxHeartbeats 4000000 in
theorem kX6_set {l : Launch} {D : va_G} {cy : Nat → ClassId} {ad : AD} {A : Nat → Prop} {G : GG} {i : Int} {x1 : Int} {x2 : Int} {μ : MM} {Q : Int → MM → Prop} (h : wpX6_set G i x1 x2 μ Q) (hi_i : 0 ≤ i ∧ i < 8) : Met l yX6_set (Cond.code yX6_set cX6_set 3 none :: uw) (rmm 0 0) (wPc [.ref (ad 1 i), .int (iI x1), .int (iI x2)] (dmC G) (cfC G) tyC (exC G) D cy ad A μ) (wQ vV Q (dmC G) (cfC G) D cy ad A) 0 0 A :=
  met_of (by decide) (Nat.le_of_ble_eq_true rfl) (fun p e R s m args below meth c ls hr hk hRR F hA hw hS hl => wX6_set F hA (by subst hRR; exact ⟨Nat.le_refl _, Nat.le_refl _⟩) (retV_of F hr hk) h hi_i hw hS hl)
theorem hdX6_set : yX6_set.cls ≠ "java/lang/invoke/MethodHandle" ∧ yX6_set.cls ≠ "java/lang/invoke/VarHandle" ∧ (parseMethodDescriptor yX6_set.desc).map (fun d => d.parameters.length) = some 2 := by decide +kernel
def wpX10_lay (G : GG) (x1 : Int) (x2 : Int) (x3 : Int) (μ : MM) (Q : Int → MM → Prop) : Prop := wpX10_rowOf G x1 μ (fun v1 μ2 => if v1 < 0 then (Q (-1) μ2) else (v1 < 8 ∧ (wpX6_isThere G v1 μ2 (fun v6 μ7 => if v6 = 0 then (wpX10_found G 1 μ7 (fun v20 μ21 => Q v20 μ21)) else (wpX6_hasRun G v1 x2 1 μ7 (fun v10 μ11 => if v10 = 0 then (wpX10_found G 2 μ11 (fun v18 μ19 => Q v18 μ19)) else (wpX6_at G v1 x2 μ11 (fun v14 μ15 => wpX6_set G v1 x2 x3 μ15 (fun v16 μ17 => Q (v14 + 1000) μ17)))))))))
set_option maxRecDepth 100000 in
set_option maxHeartbeats 4000000 in
theorem wX10_lay {G : GG} {Q : Int → MM → Prop} {x1 : Int} {x2 : Int} {x3 : Int} {μ : MM} {H : Heap} {locs : List Loc} {ls : Array Slot} (F : CallFix p m c cX10_lay 6 s args uw RX10) (hA : ∀ q : Nat, s.heap.size ≤ q → A q) (hR : 1 ≤ R.frames ∧ 22 ≤ R.locals) (ret : RetI p l e R s m args below meth c cX10_lay Qf (dmC G) (cfC G) tyC (exC G) D cy ad A Q) (h : wpX10_lay G x1 x2 x3 μ Q) (hw : wdC G D cy ad A μ s H) (hS : va_S A s.heap H locs) (hl : lv_has ls 6 [(0, .ref (ad 0 0)), (1, .int (iI x1)), (2, .int (iI x2)), (3, .int (iI x3))]) : W p l e R s m args below meth c H locs 0 0 Qf (F0 m 0 ls []) := by
  have hx := F.1
  have hb := F.2.1
  have hown := F.2.2.2.1
  have hts := F.2.2.2.2
  refine lv_aload_n hx hb dX10_lay_0 rfl (lv_at hl 0 rfl) ?_
  refine lv_iload_n hx hb dX10_lay_1 rfl (lv_at hl 1 rfl) ?_
  refine call_V hexC F (kX10_rowOf h) 1 tw2_16 tw1_1 tw2_15 tws1_0 tw2_13 hdX10_rowOf ⟨Nat.le_trans (by decide) hR.1, Nat.le_trans (by decide) hR.2⟩ (hw.recv (k := 0) (i := 0) rfl rfl rfl) hA hw hS rfl hl.1 rfl (Nat.le_of_ble_eq_true rfl) dX10_lay_2 (fun v1 μ2 H locs h hw hS => ?_)
  refine q_astore (lv' := [(4, rf ad 1 v1), (0, .ref (ad 0 0)), (1, .int (iI x1)), (2, .int (iI x2)), (3, .int (iI x3))]) hx hb dX10_lay_5 hl (by decide) rfl (fun ls hl => ?_)
  refine q_aload hx hb dX10_lay_7 (lv_at hl 0 rfl) ?_
  refine q_ifnonnull (tgt := 14) hx hb dX10_lay_9 (by decide) (fun c3 => ?_) (fun c3 => ?_)
  · have h := ite_t c3 h
    refine q_iconst hx hb dX10_lay_12 ?_
    exact ret _ _ _ _ _ _ h hw hS dX10_lay_13
  · have h := ite_f c3 h
    obtain ⟨g4, h⟩ := h
    have hi5 : 0 ≤ v1 ∧ v1 < 8 := ⟨by omega, g4⟩
    have hl : lv_has ls 6 [(4, .ref (ad 1 v1)), (0, .ref (ad 0 0)), (1, .int (iI x1)), (2, .int (iI x2)), (3, .int (iI x3))] := by rw [← rf_pos (ad := ad) (k := 1) hi5.1]; exact hl
    refine lv_aload hx hb dX10_lay_14 (lv_at hl 0 rfl) ?_
    refine call_V hexC F (kX6_isThere h hi5) 0 tw2_35 tw1_5 tw2_33 tw2_34 tw2_32 hdX6_isThere ⟨Nat.le_trans (by decide) hR.1, Nat.le_trans (by decide) hR.2⟩ (hw.recv (k := 1) (i := v1) hi5 rfl rfl) hA hw hS rfl hl.1 rfl (Nat.le_of_ble_eq_true rfl) dX10_lay_16 (fun v6 μ7 H locs h hw hS => ?_)
    obtain ⟨z8, h⟩ := h
    refine q_if_ne (tgt := 28) hx hb (rgB z8) dX10_lay_19 (by decide) (fun c9 => ?_) (fun c9 => ?_)
    · have h := ite_f c9 h
      refine lv_aload hx hb dX10_lay_28 (lv_at hl 0 rfl) ?_
      refine lv_iload_n hx hb dX10_lay_30 rfl (lv_at hl 3 rfl) ?_
      refine q_iconst hx hb dX10_lay_31 ?_
      refine call_V hexC F (kX6_hasRun h hi5) 2 tw2_39 tw1_5 tw2_37 tw2_38 tw2_36 hdX6_hasRun ⟨Nat.le_trans (by decide) hR.1, Nat.le_trans (by decide) hR.2⟩ (hw.recv (k := 1) (i := v1) hi5 rfl rfl) hA hw hS rfl hl.1 rfl (Nat.le_of_ble_eq_true rfl) dX10_lay_32 (fun v10 μ11 H locs h hw hS => ?_)
      obtain ⟨z12, h⟩ := h
      refine q_if_ne (tgt := 44) hx hb (rgB z12) dX10_lay_35 (by decide) (fun c13 => ?_) (fun c13 => ?_)
      · have h := ite_f c13 h
        refine lv_aload hx hb dX10_lay_44 (lv_at hl 0 rfl) ?_
        refine lv_iload_n hx hb dX10_lay_46 rfl (lv_at hl 3 rfl) ?_
        refine call_V hexC F (kX6_at h hi5) 1 tw2_43 tw1_5 tw2_41 tw2_42 tw2_40 hdX6_at ⟨Nat.le_trans (by decide) hR.1, Nat.le_trans (by decide) hR.2⟩ (hw.recv (k := 1) (i := v1) hi5 rfl rfl) hA hw hS rfl hl.1 rfl (Nat.le_of_ble_eq_true rfl) dX10_lay_47 (fun v14 μ15 H locs h hw hS => ?_)
        refine lv_istore (lv' := [(5, .int (iI v14)), (4, .ref (ad 1 v1)), (0, .ref (ad 0 0)), (1, .int (iI x1)), (2, .int (iI x2)), (3, .int (iI x3))]) hx hb dX10_lay_50 hl (by decide) rfl (fun ls hl => ?_)
        refine lv_aload hx hb dX10_lay_52 (lv_at hl 1 rfl) ?_
        refine lv_iload_n hx hb dX10_lay_54 rfl (lv_at hl 4 rfl) ?_
        refine lv_iload_n hx hb dX10_lay_55 rfl (lv_at hl 5 rfl) ?_
        refine call_V hexC F (kX6_set h hi5) 2 tw2_47 tw1_5 tw2_45 tw2_46 tw2_44 hdX6_set ⟨Nat.le_trans (by decide) hR.1, Nat.le_trans (by decide) hR.2⟩ (hw.recv (k := 1) (i := v1) hi5 rfl rfl) hA hw hS rfl hl.1 rfl (Nat.le_of_ble_eq_true rfl) dX10_lay_56 (fun v16 μ17 H locs h hw hS => ?_)
        refine lv_iload hx hb dX10_lay_59 (lv_at hl 0 rfl) ?_
        refine q_sipush hx hb (by decide) dX10_lay_61 ?_
        refine q_iadd hx hb dX10_lay_64 ?_
        exact ret _ _ _ _ _ _ h hw hS dX10_lay_65
      · have h := ite_t c13 h
        refine lv_aload_n hx hb dX10_lay_38 rfl (lv_at hl 1 rfl) ?_
        refine q_iconst hx hb dX10_lay_39 ?_
        refine call_V hexC F (kX10_found h) 1 tw2_20 tw1_1 tw2_19 tws1_1 tw2_17 hdX10_found ⟨Nat.le_trans (by decide) hR.1, Nat.le_trans (by decide) hR.2⟩ (hw.recv (k := 0) (i := 0) rfl rfl rfl) hA hw hS rfl hl.1 rfl (Nat.le_of_ble_eq_true rfl) dX10_lay_40 (fun v18 μ19 H locs h hw hS => ?_)
        exact ret _ _ _ _ _ _ h hw hS dX10_lay_43
    · have h := ite_t c9 h
      refine lv_aload_n hx hb dX10_lay_22 rfl (lv_at hl 1 rfl) ?_
      refine q_iconst hx hb dX10_lay_23 ?_
      refine call_V hexC F (kX10_found h) 1 tw2_20 tw1_1 tw2_19 tws1_1 tw2_17 hdX10_found ⟨Nat.le_trans (by decide) hR.1, Nat.le_trans (by decide) hR.2⟩ (hw.recv (k := 0) (i := 0) rfl rfl rfl) hA hw hS rfl hl.1 rfl (Nat.le_of_ble_eq_true rfl) dX10_lay_24 (fun v20 μ21 H locs h hw hS => ?_)
      exact ret _ _ _ _ _ _ h hw hS dX10_lay_27
set_option maxRecDepth 100000 in
set_option maxHeartbeats 4000000 in
theorem kX10_lay {l : Launch} {D : va_G} {cy : Nat → ClassId} {ad : AD} {A : Nat → Prop} {G : GG} {x1 : Int} {x2 : Int} {x3 : Int} {μ : MM} {Q : Int → MM → Prop} (h : wpX10_lay G x1 x2 x3 μ Q) : Met l yX10_lay (Cond.code yX10_lay cX10_lay 6 (some .int) :: uw) (rmm 1 22) (wPc [.ref (ad 0 0), .int (iI x1), .int (iI x2), .int (iI x3)] (dmC G) (cfC G) tyC (exC G) D cy ad A μ) (wQ vI Q (dmC G) (cfC G) D cy ad A) 0 0 A :=
  met_of (by decide) (Nat.le_of_ble_eq_true rfl) (fun p e R s m args below meth c ls hr hk hRR F hA hw hS hl => wX10_lay F hA (by subst hRR; exact ⟨Nat.le_refl _, Nat.le_refl _⟩) (retI_of F hr hk) h hw hS hl)
theorem hdX10_lay : yX10_lay.cls ≠ "java/lang/invoke/MethodHandle" ∧ yX10_lay.cls ≠ "java/lang/invoke/VarHandle" ∧ (parseMethodDescriptor yX10_lay.desc).map (fun d => d.parameters.length) = some 3 := by decide +kernel
def wpX10_letOff_J31 (G : GG) (Q : Int → MM → Prop) (μ : MM) : Prop := wpX10_found G 1 μ (fun v1 μ2 => Q v1 μ2)
set_option maxRecDepth 100000 in
set_option maxHeartbeats 4000000 in
theorem wX10_letOff_J31 {G : GG} {Q : Int → MM → Prop} {μ : MM} {H : Heap} {locs : List Loc} {ls : Array Slot} (F : CallFix p m c cX10_letOff 5 s args uw RX10) (hA : ∀ q : Nat, s.heap.size ≤ q → A q) (hR : 3 ≤ R.frames ∧ 69 ≤ R.locals) (ret : RetI p l e R s m args below meth c cX10_letOff Qf (dmC G) (cfC G) tyC (exC G) D cy ad A Q) (h : wpX10_letOff_J31 G Q μ) (hw : wdC G D cy ad A μ s H) (hS : va_S A s.heap H locs) (hl : lv_has ls 5 [(0, .ref (ad 0 0))]) : W p l e R s m args below meth c H locs 0 0 Qf (F0 m 31 ls []) := by
  have hx := F.1
  have hb := F.2.1
  have hown := F.2.2.2.1
  have hts := F.2.2.2.2
  refine lv_aload_n hx hb dX10_letOff_31 rfl (lv_at hl 0 rfl) ?_
  refine q_iconst hx hb dX10_letOff_32 ?_
  refine call_V hexC F (kX10_found h) 1 tw2_20 tw1_1 tw2_19 tws1_1 tw2_17 hdX10_found ⟨Nat.le_trans (by decide) hR.1, Nat.le_trans (by decide) hR.2⟩ (hw.recv (k := 0) (i := 0) rfl rfl rfl) hA hw hS rfl hl.1 rfl (Nat.le_of_ble_eq_true rfl) dX10_letOff_33 (fun v1 μ2 H locs h hw hS => ?_)
  exact ret _ _ _ _ _ _ h hw hS dX10_letOff_36
def wpX10_letOff (G : GG) (x1 : Int) (x2 : Int) (μ : MM) (Q : Int → MM → Prop) : Prop := wpX10_towerOf G x1 μ (fun v1 μ2 => if v1 < 0 then (Q (-1) μ2) else (v1 < 4 ∧ (wpX8_trainIn G v1 x2 μ2 (fun v6 μ7 => rg (μ7 3 0 v1) ∧ (if (μ7 3 0 v1) = 0 then (wpX10_letOff_J31 G Q  μ7) else (if v6 < 0 then (wpX10_letOff_J31 G Q  μ7) else (v6 < G 0 0 ∧ (wpX8_letOffByHands G v1 v6 x2 μ7 (fun v13 μ14 => Q (μ14 2 7 v6) μ14)))))))))
set_option maxRecDepth 100000 in
set_option maxHeartbeats 4000000 in
theorem wX10_letOff {G : GG} {Q : Int → MM → Prop} {x1 : Int} {x2 : Int} {μ : MM} {H : Heap} {locs : List Loc} {ls : Array Slot} (F : CallFix p m c cX10_letOff 5 s args uw RX10) (hA : ∀ q : Nat, s.heap.size ≤ q → A q) (hR : 3 ≤ R.frames ∧ 69 ≤ R.locals) (ret : RetI p l e R s m args below meth c cX10_letOff Qf (dmC G) (cfC G) tyC (exC G) D cy ad A Q) (h : wpX10_letOff G x1 x2 μ Q) (hw : wdC G D cy ad A μ s H) (hS : va_S A s.heap H locs) (hl : lv_has ls 5 [(0, .ref (ad 0 0)), (1, .int (iI x1)), (2, .int (iI x2))]) : W p l e R s m args below meth c H locs 0 0 Qf (F0 m 0 ls []) := by
  have hx := F.1
  have hb := F.2.1
  have hown := F.2.2.2.1
  have hts := F.2.2.2.2
  refine lv_aload_n hx hb dX10_letOff_0 rfl (lv_at hl 0 rfl) ?_
  refine lv_iload_n hx hb dX10_letOff_1 rfl (lv_at hl 1 rfl) ?_
  refine call_V hexC F (kX10_towerOf h) 1 tw3_99 tw1_1 tw3_98 tws1_5 tw3_96 hdX10_towerOf ⟨Nat.le_trans (by decide) hR.1, Nat.le_trans (by decide) hR.2⟩ (hw.recv (k := 0) (i := 0) rfl rfl rfl) hA hw hS rfl hl.1 rfl (Nat.le_of_ble_eq_true rfl) dX10_letOff_2 (fun v1 μ2 H locs h hw hS => ?_)
  refine q_astore_n (lv' := [(3, rf ad 3 v1), (0, .ref (ad 0 0)), (1, .int (iI x1)), (2, .int (iI x2))]) hx hb dX10_letOff_5 rfl hl (by decide) rfl (fun ls hl => ?_)
  refine q_aload_n hx hb dX10_letOff_6 rfl (lv_at hl 0 rfl) ?_
  refine q_ifnonnull (tgt := 12) hx hb dX10_letOff_7 (by decide) (fun c3 => ?_) (fun c3 => ?_)
  · have h := ite_t c3 h
    refine q_iconst hx hb dX10_letOff_10 ?_
    exact ret _ _ _ _ _ _ h hw hS dX10_letOff_11
  · have h := ite_f c3 h
    obtain ⟨g4, h⟩ := h
    have hi5 : 0 ≤ v1 ∧ v1 < 4 := ⟨by omega, g4⟩
    have hl : lv_has ls 5 [(3, .ref (ad 3 v1)), (0, .ref (ad 0 0)), (1, .int (iI x1)), (2, .int (iI x2))] := by rw [← rf_pos (ad := ad) (k := 3) hi5.1]; exact hl
    refine lv_aload_n hx hb dX10_letOff_12 rfl (lv_at hl 0 rfl) ?_
    refine lv_iload_n hx hb dX10_letOff_13 rfl (lv_at hl 3 rfl) ?_
    refine call_V hexC F (kX8_trainIn h hi5) 1 tw3_111 tw1_6 tw3_109 tw3_110 tw3_142 hdX8_trainIn ⟨Nat.le_trans (by decide) hR.1, Nat.le_trans (by decide) hR.2⟩ (hw.recv (k := 3) (i := v1) hi5 rfl rfl) hA hw hS rfl hl.1 rfl (Nat.le_of_ble_eq_true rfl) dX10_letOff_14 (fun v6 μ7 H locs h hw hS => ?_)
    refine q_astore (lv' := [(4, rf ad 2 v6), (3, .ref (ad 3 v1)), (0, .ref (ad 0 0)), (1, .int (iI x1)), (2, .int (iI x2))]) hx hb dX10_letOff_17 hl (by decide) rfl (fun ls hl => ?_)
    refine lv_aload_n hx hb dX10_letOff_19 rfl (lv_at hl 1 rfl) ?_
    refine gC_W_there F hw hi5 tw1_163 dX10_letOff_20 ?_
    obtain ⟨g8, h⟩ := h
    refine q_if_eq (tgt := 31) hx hb g8 dX10_letOff_23 (by decide) (fun c9 => ?_) (fun c9 => ?_)
    · have h := ite_t c9 h
      exact wX10_letOff_J31 F hA hR ret h hw hS (lv_sub hl [2] rfl)
    · have h := ite_f c9 h
      refine q_aload hx hb dX10_letOff_26 (lv_at hl 0 rfl) ?_
      refine q_ifnonnull (tgt := 37) hx hb dX10_letOff_28 (by decide) (fun c10 => ?_) (fun c10 => ?_)
      · have h := ite_t c10 h
        exact wX10_letOff_J31 F hA hR ret h hw hS (lv_sub hl [2] rfl)
      · have h := ite_f c10 h
        obtain ⟨g11, h⟩ := h
        have hi12 : 0 ≤ v6 ∧ v6 < G 0 0 := ⟨by omega, g11⟩
        have hl : lv_has ls 5 [(4, .ref (ad 2 v6)), (3, .ref (ad 3 v1)), (0, .ref (ad 0 0)), (1, .int (iI x1)), (2, .int (iI x2))] := by rw [← rf_pos (ad := ad) (k := 2) hi12.1]; exact hl
        refine lv_aload_n hx hb dX10_letOff_37 rfl (lv_at hl 1 rfl) ?_
        refine lv_aload hx hb dX10_letOff_38 (lv_at hl 0 rfl) ?_
        refine lv_iload_n hx hb dX10_letOff_40 rfl (lv_at hl 4 rfl) ?_
        refine call_V hexC F (kX8_letOffByHands h hi5 hi12) 2 tw3_169 tw1_6 tw3_167 tw3_168 tw3_225 hdX8_letOffByHands ⟨Nat.le_trans (by decide) hR.1, Nat.le_trans (by decide) hR.2⟩ (hw.recv (k := 3) (i := v1) hi5 rfl rfl) hA hw hS rfl hl.1 rfl (Nat.le_of_ble_eq_true rfl) dX10_letOff_41 (fun v13 μ14 H locs h hw hS => ?_)
        refine lv_aload hx hb dX10_letOff_44 (lv_at hl 0 rfl) ?_
        refine gC_T_due F hw hi12 tw2_93 (fun _ h => h) dX10_letOff_46 ?_
        exact ret _ _ _ _ _ _ h hw hS dX10_letOff_49
set_option maxRecDepth 100000 in
set_option maxHeartbeats 4000000 in
theorem kX10_letOff {l : Launch} {D : va_G} {cy : Nat → ClassId} {ad : AD} {A : Nat → Prop} {G : GG} {x1 : Int} {x2 : Int} {μ : MM} {Q : Int → MM → Prop} (h : wpX10_letOff G x1 x2 μ Q) : Met l yX10_letOff (Cond.code yX10_letOff cX10_letOff 5 (some .int) :: uw) (rmm 3 69) (wPc [.ref (ad 0 0), .int (iI x1), .int (iI x2)] (dmC G) (cfC G) tyC (exC G) D cy ad A μ) (wQ vI Q (dmC G) (cfC G) D cy ad A) 0 0 A :=
  met_of (by decide) (Nat.le_of_ble_eq_true rfl) (fun p e R s m args below meth c ls hr hk hRR F hA hw hS hl => wX10_letOff F hA (by subst hRR; exact ⟨Nat.le_refl _, Nat.le_refl _⟩) (retI_of F hr hk) h hw hS hl)
theorem hdX10_letOff : yX10_letOff.cls ≠ "java/lang/invoke/MethodHandle" ∧ yX10_letOff.cls ≠ "java/lang/invoke/VarHandle" ∧ (parseMethodDescriptor yX10_letOff.desc).map (fun d => d.parameters.length) = some 2 := by decide +kernel
def wpX10_log (G : GG) (x1 : Int) (x2 : Int) (x3 : Int) (μ : MM) (Q : Int → MM → Prop) : Prop := wpX10_towerOf G x1 μ (fun v1 μ2 => if v1 < 0 then (Q (-1) μ2) else (v1 < 4 ∧ (rg x3 ∧ (if x3 < 0 then (Q (-1) μ2) else (if x3 ≤ 3 then (rg (μ2 3 0 v1) ∧ (if (μ2 3 0 v1) = 0 then (wpX10_found G 1 μ2 (fun v13 μ14 => Q v13 μ14)) else (wpX3_entry G v1 x2 x3 μ2 (fun v11 μ12 => Q v11 μ12)))) else (Q (-1) μ2))))))
set_option maxRecDepth 100000 in
set_option maxHeartbeats 4000000 in
theorem wX10_log {G : GG} {Q : Int → MM → Prop} {x1 : Int} {x2 : Int} {x3 : Int} {μ : MM} {H : Heap} {locs : List Loc} {ls : Array Slot} (F : CallFix p m c cX10_log 5 s args uw RX10) (hA : ∀ q : Nat, s.heap.size ≤ q → A q) (hR : 2 ≤ R.frames ∧ 45 ≤ R.locals) (ret : RetI p l e R s m args below meth c cX10_log Qf (dmC G) (cfC G) tyC (exC G) D cy ad A Q) (h : wpX10_log G x1 x2 x3 μ Q) (hw : wdC G D cy ad A μ s H) (hS : va_S A s.heap H locs) (hl : lv_has ls 5 [(0, .ref (ad 0 0)), (1, .int (iI x1)), (2, .int (iI x2)), (3, .int (iI x3))]) : W p l e R s m args below meth c H locs 0 0 Qf (F0 m 0 ls []) := by
  have hx := F.1
  have hb := F.2.1
  have hown := F.2.2.2.1
  have hts := F.2.2.2.2
  refine lv_aload_n hx hb dX10_log_0 rfl (lv_at hl 0 rfl) ?_
  refine lv_iload_n hx hb dX10_log_1 rfl (lv_at hl 1 rfl) ?_
  refine call_V hexC F (kX10_towerOf h) 1 tw3_99 tw1_1 tw3_98 tws1_5 tw3_96 hdX10_towerOf ⟨Nat.le_trans (by decide) hR.1, Nat.le_trans (by decide) hR.2⟩ (hw.recv (k := 0) (i := 0) rfl rfl rfl) hA hw hS rfl hl.1 rfl (Nat.le_of_ble_eq_true rfl) dX10_log_2 (fun v1 μ2 H locs h hw hS => ?_)
  refine q_astore (lv' := [(4, rf ad 3 v1), (0, .ref (ad 0 0)), (1, .int (iI x1)), (2, .int (iI x2)), (3, .int (iI x3))]) hx hb dX10_log_5 hl (by decide) rfl (fun ls hl => ?_)
  refine q_aload hx hb dX10_log_7 (lv_at hl 0 rfl) ?_
  refine q_ifnull (tgt := 21) hx hb dX10_log_9 (by decide) (fun c3 => ?_) (fun c3 => ?_)
  · have h := ite_t c3 h
    refine q_iconst hx hb dX10_log_21 ?_
    exact ret _ _ _ _ _ _ h hw hS dX10_log_22
  · have h := ite_f c3 h
    obtain ⟨g4, h⟩ := h
    have hi5 : 0 ≤ v1 ∧ v1 < 4 := ⟨by omega, g4⟩
    have hl : lv_has ls 5 [(4, .ref (ad 3 v1)), (0, .ref (ad 0 0)), (1, .int (iI x1)), (2, .int (iI x2)), (3, .int (iI x3))] := by rw [← rf_pos (ad := ad) (k := 3) hi5.1]; exact hl
    refine lv_iload_n hx hb dX10_log_12 rfl (lv_at hl 4 rfl) ?_
    obtain ⟨g6, h⟩ := h
    refine q_if_lt (tgt := 21) hx hb g6 dX10_log_13 (by decide) (fun c7 => ?_) (fun c7 => ?_)
    · have h := ite_t c7 h
      refine q_iconst hx hb dX10_log_21 ?_
      exact ret _ _ _ _ _ _ h hw hS dX10_log_22
    · have h := ite_f c7 h
      refine lv_iload_n hx hb dX10_log_16 rfl (lv_at hl 4 rfl) ?_
      refine q_iconst hx hb dX10_log_17 ?_
      refine q_icmp_le (tgt := 23) hx hb g6 (by decide) dX10_log_18 (by decide) (fun c8 => ?_) (fun c8 => ?_)
      · have h := ite_t c8 h
        refine lv_aload hx hb dX10_log_23 (lv_at hl 0 rfl) ?_
        refine gC_W_there F hw hi5 tw1_163 dX10_log_25 ?_
        obtain ⟨g9, h⟩ := h
        refine q_if_ne (tgt := 37) hx hb g9 dX10_log_28 (by decide) (fun c10 => ?_) (fun c10 => ?_)
        · have h := ite_f c10 h
          refine lv_aload hx hb dX10_log_37 (lv_at hl 0 rfl) ?_
          refine gC_W_log F hw hi5 tw1_180 dX10_log_39 ?_
          refine lv_iload_n hx hb dX10_log_42 rfl (lv_at hl 3 rfl) ?_
          refine lv_iload_n hx hb dX10_log_43 rfl (lv_at hl 4 rfl) ?_
          refine call_V hexC F (kX3_entry h hi5) 2 tw4_55 tw1_7 tw4_53 tw4_54 tw4_52 hdX3_entry ⟨Nat.le_trans (by decide) hR.1, Nat.le_trans (by decide) hR.2⟩ (hw.recv (k := 4) (i := v1) hi5 rfl rfl) hA hw hS rfl hl.1 rfl (Nat.le_of_ble_eq_true rfl) dX10_log_44 (fun v11 μ12 H locs h hw hS => ?_)
          exact ret _ _ _ _ _ _ h hw hS dX10_log_47
        · have h := ite_t c10 h
          refine lv_aload_n hx hb dX10_log_31 rfl (lv_at hl 1 rfl) ?_
          refine q_iconst hx hb dX10_log_32 ?_
          refine call_V hexC F (kX10_found h) 1 tw2_20 tw1_1 tw2_19 tws1_1 tw2_17 hdX10_found ⟨Nat.le_trans (by decide) hR.1, Nat.le_trans (by decide) hR.2⟩ (hw.recv (k := 0) (i := 0) rfl rfl rfl) hA hw hS rfl hl.1 rfl (Nat.le_of_ble_eq_true rfl) dX10_log_33 (fun v13 μ14 H locs h hw hS => ?_)
          exact ret _ _ _ _ _ _ h hw hS dX10_log_36
      · have h := ite_f c8 h
        refine q_iconst hx hb dX10_log_21 ?_
        exact ret _ _ _ _ _ _ h hw hS dX10_log_22
set_option maxRecDepth 100000 in
set_option maxHeartbeats 4000000 in
theorem kX10_log {l : Launch} {D : va_G} {cy : Nat → ClassId} {ad : AD} {A : Nat → Prop} {G : GG} {x1 : Int} {x2 : Int} {x3 : Int} {μ : MM} {Q : Int → MM → Prop} (h : wpX10_log G x1 x2 x3 μ Q) : Met l yX10_log (Cond.code yX10_log cX10_log 5 (some .int) :: uw) (rmm 2 45) (wPc [.ref (ad 0 0), .int (iI x1), .int (iI x2), .int (iI x3)] (dmC G) (cfC G) tyC (exC G) D cy ad A μ) (wQ vI Q (dmC G) (cfC G) D cy ad A) 0 0 A :=
  met_of (by decide) (Nat.le_of_ble_eq_true rfl) (fun p e R s m args below meth c ls hr hk hRR F hA hw hS hl => wX10_log F hA (by subst hRR; exact ⟨Nat.le_refl _, Nat.le_refl _⟩) (retI_of F hr hk) h hw hS hl)
theorem hdX10_log : yX10_log.cls ≠ "java/lang/invoke/MethodHandle" ∧ yX10_log.cls ≠ "java/lang/invoke/VarHandle" ∧ (parseMethodDescriptor yX10_log.desc).map (fun d => d.parameters.length) = some 3 := by decide +kernel
def wpX10_lower (G : GG) (μ : MM) (Q : Int → MM → Prop) : Prop := Q (μ 7 8 0) μ
set_option maxRecDepth 100000 in
set_option maxHeartbeats 4000000 in
theorem wX10_lower {G : GG} {Q : Int → MM → Prop} {μ : MM} {H : Heap} {locs : List Loc} {ls : Array Slot} (F : CallFix p m c cX10_lower 1 s args uw RX10) (hA : ∀ q : Nat, s.heap.size ≤ q → A q) (hR : 0 ≤ R.frames ∧ 0 ≤ R.locals) (ret : RetL p l e R s m args below meth c cX10_lower Qf (dmC G) (cfC G) tyC (exC G) D cy ad A Q) (h : wpX10_lower G μ Q) (hw : wdC G D cy ad A μ s H) (hS : va_S A s.heap H locs) (hl : lv_has ls 1 [(0, .ref (ad 0 0))]) : W p l e R s m args below meth c H locs 0 0 Qf (F0 m 0 ls []) := by
  have hx := F.1
  have hb := F.2.1
  have hown := F.2.2.2.1
  have hts := F.2.2.2.2
  refine lv_aload_n hx hb dX10_lower_0 rfl (lv_at hl 0 rfl) ?_
  refine gC_H_gearing F hw tw1_216 dX10_lower_1 ?_
  refine gC_Q_lower F hw tw1_95 dX10_lower_4 ?_
  exact ret _ _ _ _ _ _ h hw hS dX10_lower_7
set_option maxRecDepth 100000 in
set_option maxHeartbeats 4000000 in
theorem kX10_lower {l : Launch} {D : va_G} {cy : Nat → ClassId} {ad : AD} {A : Nat → Prop} {G : GG} {μ : MM} {Q : Int → MM → Prop} (h : wpX10_lower G μ Q) : Met l yX10_lower (Cond.code yX10_lower cX10_lower 1 (some .long) :: uw) (rmm 0 0) (wPc [.ref (ad 0 0)] (dmC G) (cfC G) tyC (exC G) D cy ad A μ) (wQ vL Q (dmC G) (cfC G) D cy ad A) 0 0 A :=
  met_of (by decide) (Nat.le_of_ble_eq_true rfl) (fun p e R s m args below meth c ls hr hk hRR F hA hw hS hl => wX10_lower F hA (by subst hRR; exact ⟨Nat.le_refl _, Nat.le_refl _⟩) (retL_of F hr hk) h hw hS hl)
theorem hdX10_lower : yX10_lower.cls ≠ "java/lang/invoke/MethodHandle" ∧ yX10_lower.cls ≠ "java/lang/invoke/VarHandle" ∧ (parseMethodDescriptor yX10_lower.desc).map (fun d => d.parameters.length) = some 0 := by decide +kernel
def wpX9_greatest_L4 (G : GG) (Q : Int → MM → Prop) : Nat → Int → Int → Int → MM → Prop
  | 0, _, _, _, _ => False
  | n + 1, i, x1, x2, μ => rg x2 ∧ (rg (G 2 i) ∧ (if (G 2 i) ≤ x2 then (Q x1 μ) else (0 ≤ x2 ∧ (x2 < G 2 i ∧ (wpJ9_max_7cf53 G x1 (μ 9 0 (24 * i + x2)) μ (fun v6 μ7 => wpX9_greatest_L4 G Q n i v6 (x2 + 1) μ7))))))
set_option maxRecDepth 100000 in
set_option maxHeartbeats 4000000 in
theorem wX9_greatest_L4 {G : GG} {Q : Int → MM → Prop} (F : CallFix p m c cX9_greatest 3 s args uw RX9) (hA : ∀ q : Nat, s.heap.size ≤ q → A q) (hR : 1 ≤ R.frames ∧ 21 ≤ R.locals) (ret : RetI p l e R s m args below meth c cX9_greatest Qf (dmC G) (cfC G) tyC (exC G) D cy ad A Q) : ∀ (n : Nat) (i x1 x2 : Int) (μ : MM) (H : Heap) (locs : List Loc) (ls : Array Slot), wpX9_greatest_L4 G Q n i x1 x2 μ → 0 ≤ i ∧ i < G 0 0 → wdC G D cy ad A μ s H → va_S A s.heap H locs → lv_has ls 3 [(0, .ref (ad 2 i)), (1, .int (iI x1)), (2, .int (iI x2))] → W p l e R s m args below meth c H locs 0 0 Qf (F0 m 4 ls []) := by
  have hx := F.1
  have hb := F.2.1
  have hown := F.2.2.2.1
  have hts := F.2.2.2.2
  intro n
  induction n with
  | zero =>
    intro i x1 x2 μ H locs ls h hi_i hw hS hl
    exact h.elim
  | succ n ih =>
    intro i x1 x2 μ H locs ls h hi_i hw hS hl
    refine lv_iload_n hx hb dX9_greatest_4 rfl (lv_at hl 2 rfl) ?_
    refine lv_aload_n hx hb dX9_greatest_5 rfl (lv_at hl 0 rfl) ?_
    refine gC_T_strokes F hw hi_i tw2_74 (fun _ h => h) dX9_greatest_6 ?_
    refine aC_9_ln hx hb hw hi_i dX9_greatest_9 ?_
    obtain ⟨g1, h⟩ := h
    obtain ⟨g2, h⟩ := h
    refine q_icmp_ge (tgt := 30) hx hb g1 g2 dX9_greatest_10 (by decide) (fun c3 => ?_) (fun c3 => ?_)
    · have h := ite_t c3 h
      refine lv_iload_n hx hb dX9_greatest_30 rfl (lv_at hl 1 rfl) ?_
      exact ret _ _ _ _ _ _ h hw hS dX9_greatest_31
    · have h := ite_f c3 h
      refine lv_iload_n hx hb dX9_greatest_13 rfl (lv_at hl 1 rfl) ?_
      refine lv_aload_n hx hb dX9_greatest_14 rfl (lv_at hl 0 rfl) ?_
      refine gC_T_strokes F hw hi_i tw2_74 (fun _ h => h) dX9_greatest_15 ?_
      refine lv_iload_n hx hb dX9_greatest_18 rfl (lv_at hl 2 rfl) ?_
      obtain ⟨g4, h⟩ := h
      obtain ⟨g5, h⟩ := h
      refine aC_9_ld hx hb hw hi_i g4 g5 dX9_greatest_19 ?_
      refine call_S hexC F (kJ9_max_7cf53 h) 2 tw2_167 tw1_13 tw2_166 tw3_62 hdJ9_max_7cf53 ⟨Nat.le_trans (by decide) hR.1, Nat.le_trans (by decide) hR.2⟩ hA hw hS rfl hl.1 rfl (Nat.le_of_ble_eq_true rfl) dX9_greatest_20 (fun v6 μ7 H locs h hw hS => ?_)
      refine lv_istore_n (lv' := [(1, .int (iI v6)), (0, .ref (ad 2 i)), (2, .int (iI x2))]) hx hb dX9_greatest_23 rfl hl (by decide) rfl (fun ls hl => ?_)
      refine q_iinc (k := 2) (lv' := [(2, .int (iI (x2 + 1))), (1, .int (iI v6)), (0, .ref (ad 2 i))]) hx hb dX9_greatest_24 hl rfl (by decide) rfl (fun ls hl => ?_)
      refine lv_goto (tgt := 4) hx hb dX9_greatest_27 (by decide) ?_
      exact ih i v6 (x2 + 1) _ _ _ _ h hi_i hw hS (lv_sub hl [2, 1, 0] rfl)
def wpX9_greatest (G : GG) (i : Int) (μ : MM) (Q : Int → MM → Prop) : Prop := ∃ n1 : Nat, wpX9_greatest_L4 G Q n1 i 0 0 μ
set_option maxRecDepth 100000 in
set_option maxHeartbeats 4000000 in
theorem wX9_greatest {G : GG} {Q : Int → MM → Prop} {i : Int} {μ : MM} {H : Heap} {locs : List Loc} {ls : Array Slot} (F : CallFix p m c cX9_greatest 3 s args uw RX9) (hA : ∀ q : Nat, s.heap.size ≤ q → A q) (hR : 1 ≤ R.frames ∧ 21 ≤ R.locals) (ret : RetI p l e R s m args below meth c cX9_greatest Qf (dmC G) (cfC G) tyC (exC G) D cy ad A Q) (h : wpX9_greatest G i μ Q) (hi_i : 0 ≤ i ∧ i < G 0 0) (hw : wdC G D cy ad A μ s H) (hS : va_S A s.heap H locs) (hl : lv_has ls 3 [(0, .ref (ad 2 i))]) : W p l e R s m args below meth c H locs 0 0 Qf (F0 m 0 ls []) := by
  have hx := F.1
  have hb := F.2.1
  have hown := F.2.2.2.1
  have hts := F.2.2.2.2
  refine q_iconst hx hb dX9_greatest_0 ?_
  refine lv_istore_n (lv' := [(1, .int (iI 0)), (0, .ref (ad 2 i))]) hx hb dX9_greatest_1 rfl hl (by decide) rfl (fun ls hl => ?_)
  refine q_iconst hx hb dX9_greatest_2 ?_
  refine lv_istore_n (lv' := [(2, .int (iI 0)), (1, .int (iI 0)), (0, .ref (ad 2 i))]) hx hb dX9_greatest_3 rfl hl (by decide) rfl (fun ls hl => ?_)
  obtain ⟨n1, h⟩ := h
  exact wX9_greatest_L4 F hA hR ret n1 i 0 0 _ _ _ _ h hi_i hw hS (lv_sub hl [2, 1, 0] rfl)
set_option maxRecDepth 100000 in
set_option maxHeartbeats 4000000 in
theorem kX9_greatest {l : Launch} {D : va_G} {cy : Nat → ClassId} {ad : AD} {A : Nat → Prop} {G : GG} {i : Int} {μ : MM} {Q : Int → MM → Prop} (h : wpX9_greatest G i μ Q) (hi_i : 0 ≤ i ∧ i < G 0 0) : Met l yX9_greatest (Cond.code yX9_greatest cX9_greatest 3 (some .int) :: uw) (rmm 1 21) (wPc [.ref (ad 2 i)] (dmC G) (cfC G) tyC (exC G) D cy ad A μ) (wQ vI Q (dmC G) (cfC G) D cy ad A) 0 0 A :=
  met_of (by decide) (Nat.le_of_ble_eq_true rfl) (fun p e R s m args below meth c ls hr hk hRR F hA hw hS hl => wX9_greatest F hA (by subst hRR; exact ⟨Nat.le_refl _, Nat.le_refl _⟩) (retI_of F hr hk) h hi_i hw hS hl)
theorem hdX9_greatest : yX9_greatest.cls ≠ "java/lang/invoke/MethodHandle" ∧ yX9_greatest.cls ≠ "java/lang/invoke/VarHandle" ∧ (parseMethodDescriptor yX9_greatest.desc).map (fun d => d.parameters.length) = some 0 := by decide +kernel
set_option maxRecDepth 100000 in
set_option maxHeartbeats 4000000 in
theorem dc_Train_greatest {G : GG} {i : Int} {μ : MM} {Q : Int → MM → Prop} {H : Heap} {locs : List Loc} {cc : ByteArray} {pc nL idx : Nat} {ls : Array Slot} {rest st0 : List Value} {own : String} (F : CallFix p m c cc nL s args uw own) (hl : Cond.methodLink own idx yX9_greatest ∈ uw) (h : wpX9_greatest G i μ Q) (hi : 0 ≤ i ∧ i < G 0 0) (hR : 2 ≤ R.frames ∧ 43 ≤ R.locals) (hA : ∀ q : Nat, s.heap.size ≤ q → A q) (hw : wdC G D cy ad A μ s H) (hS : va_S A s.heap H locs) (hsz : ls.size = nL) (hst0 : st0 = ([] : List Value).reverse ++ .ref (ad 2 i) :: rest) (hrm : (rest.map fun v => v.category).sum ≤ 8) (hdg : decode cc pc = .ok (.invokevirtual idx, 3)) (kk : ∀ (v : Int) (u : MM) (H1 : Heap) (locs1 : List Loc), Q v u → wdC G D cy ad A u s H1 → va_S A s.heap H1 locs1 → W p l e R s m args below meth c H1 locs1 0 0 Qf (F0 m (pc + 3) ls ((vI v).toList ++ rest))) : W p l e R s m args below meth c H locs 0 0 Qf (F0 m pc ls st0) := by
  have hG := (hw.2.1.2.1 i hi.1 hi.2).1
  rcases (show G 1 i = 0 ∨ G 1 i = 1 ∨ G 1 i = 2 ∨ G 1 i = 3 by omega) with q | q | q | q
  · exact call_V hexC F (kX9_greatest h hi) 0 tw3_61 tw1_11 tw3_55 tw3_56 hl hdX9_greatest ⟨Nat.le_trans (by decide) hR.1, Nat.le_trans (by decide) hR.2⟩ (recvT hw hi (C := RX9) (Or.inl ⟨q, rfl⟩)) hA hw hS rfl hsz hst0 hrm hdg kk
  · exact call_U (owner := "HammerTowers$Train") (x := yX9_greatest) hexC F (kX9_greatest h hi) 0 tw3_61 tw1_11 tw3_55 tw3_59 hl tw3_57 tw3_55 tw3_61 (by decide +kernel) ⟨Nat.le_trans (by decide) hR.1, Nat.le_trans (by decide) hR.2⟩ (recvT hw hi (C := RX4) (Or.inr (Or.inl ⟨q, rfl⟩))) hA hw hS rfl hsz hst0 hrm hdg kk
  · exact call_U (owner := "HammerTowers$Train") (x := yX9_greatest) hexC F (kX9_greatest h hi) 0 tw3_61 tw1_11 tw3_55 tw3_60 hl tw3_57 tw3_55 tw3_61 (by decide +kernel) ⟨Nat.le_trans (by decide) hR.1, Nat.le_trans (by decide) hR.2⟩ (recvT hw hi (C := RX7) (Or.inr (Or.inr (Or.inl ⟨q, rfl⟩)))) hA hw hS rfl hsz hst0 hrm hdg kk
  · exact call_U (owner := "HammerTowers$Train") (x := yX9_greatest) hexC F (kX9_greatest h hi) 0 tw3_61 tw1_11 tw3_55 tw3_58 hl tw3_57 tw3_55 tw3_61 (by decide +kernel) ⟨Nat.le_trans (by decide) hR.1, Nat.le_trans (by decide) hR.2⟩ (recvT hw hi (C := RX0) (Or.inr (Or.inr (Or.inr ⟨q, rfl⟩)))) hA hw hS rfl hsz hst0 hrm hdg kk
def wpX9_together_L4 (G : GG) (Q : Int → MM → Prop) : Nat → Int → Int → Int → MM → Prop
  | 0, _, _, _, _ => False
  | n + 1, i, x1, x2, μ => rg x2 ∧ (rg (G 2 i) ∧ (if (G 2 i) ≤ x2 then (Q x1 μ) else (0 ≤ x2 ∧ (x2 < G 2 i ∧ (∀ y6 : Int, y6 = x1 + (μ 9 0 (24 * i + x2)) → (wpX9_together_L4 G Q n i y6 (x2 + 1) μ))))))
set_option maxRecDepth 100000 in
set_option maxHeartbeats 4000000 in
theorem wX9_together_L4 {G : GG} {Q : Int → MM → Prop} (F : CallFix p m c cX9_together 3 s args uw RX9) (hA : ∀ q : Nat, s.heap.size ≤ q → A q) (hR : 0 ≤ R.frames ∧ 0 ≤ R.locals) (ret : RetI p l e R s m args below meth c cX9_together Qf (dmC G) (cfC G) tyC (exC G) D cy ad A Q) : ∀ (n : Nat) (i x1 x2 : Int) (μ : MM) (H : Heap) (locs : List Loc) (ls : Array Slot), wpX9_together_L4 G Q n i x1 x2 μ → 0 ≤ i ∧ i < G 0 0 → wdC G D cy ad A μ s H → va_S A s.heap H locs → lv_has ls 3 [(0, .ref (ad 2 i)), (1, .int (iI x1)), (2, .int (iI x2))] → W p l e R s m args below meth c H locs 0 0 Qf (F0 m 4 ls []) := by
  have hx := F.1
  have hb := F.2.1
  have hown := F.2.2.2.1
  have hts := F.2.2.2.2
  intro n
  induction n with
  | zero =>
    intro i x1 x2 μ H locs ls h hi_i hw hS hl
    exact h.elim
  | succ n ih =>
    intro i x1 x2 μ H locs ls h hi_i hw hS hl
    refine lv_iload_n hx hb dX9_together_4 rfl (lv_at hl 2 rfl) ?_
    refine lv_aload_n hx hb dX9_together_5 rfl (lv_at hl 0 rfl) ?_
    refine gC_T_strokes F hw hi_i tw2_74 (fun _ h => h) dX9_together_6 ?_
    refine aC_9_ln hx hb hw hi_i dX9_together_9 ?_
    obtain ⟨g1, h⟩ := h
    obtain ⟨g2, h⟩ := h
    refine q_icmp_ge (tgt := 28) hx hb g1 g2 dX9_together_10 (by decide) (fun c3 => ?_) (fun c3 => ?_)
    · have h := ite_t c3 h
      refine lv_iload_n hx hb dX9_together_28 rfl (lv_at hl 1 rfl) ?_
      exact ret _ _ _ _ _ _ h hw hS dX9_together_29
    · have h := ite_f c3 h
      refine lv_iload_n hx hb dX9_together_13 rfl (lv_at hl 1 rfl) ?_
      refine lv_aload_n hx hb dX9_together_14 rfl (lv_at hl 0 rfl) ?_
      refine gC_T_strokes F hw hi_i tw2_74 (fun _ h => h) dX9_together_15 ?_
      refine lv_iload_n hx hb dX9_together_18 rfl (lv_at hl 2 rfl) ?_
      obtain ⟨g4, h⟩ := h
      obtain ⟨g5, h⟩ := h
      refine aC_9_ld hx hb hw hi_i g4 g5 dX9_together_19 ?_
      refine q_iadd hx hb dX9_together_20 ?_
      obtain ⟨y6, ey6⟩ : ∃ z : Int, z = x1 + (μ 9 0 (24 * i + x2)) := ⟨_, rfl⟩
      have h := h y6 ey6
      refine q_nmI ey6 ?_
      refine lv_istore_n (lv' := [(1, .int (iI y6)), (0, .ref (ad 2 i)), (2, .int (iI x2))]) hx hb dX9_together_21 rfl hl (by decide) rfl (fun ls hl => ?_)
      refine q_iinc (k := 2) (lv' := [(2, .int (iI (x2 + 1))), (1, .int (iI y6)), (0, .ref (ad 2 i))]) hx hb dX9_together_22 hl rfl (by decide) rfl (fun ls hl => ?_)
      refine lv_goto (tgt := 4) hx hb dX9_together_25 (by decide) ?_
      exact ih i y6 (x2 + 1) _ _ _ _ h hi_i hw hS (lv_sub hl [2, 1, 0] rfl)
def wpX9_together (G : GG) (i : Int) (μ : MM) (Q : Int → MM → Prop) : Prop := ∃ n1 : Nat, wpX9_together_L4 G Q n1 i 0 0 μ
set_option maxRecDepth 100000 in
set_option maxHeartbeats 4000000 in
theorem wX9_together {G : GG} {Q : Int → MM → Prop} {i : Int} {μ : MM} {H : Heap} {locs : List Loc} {ls : Array Slot} (F : CallFix p m c cX9_together 3 s args uw RX9) (hA : ∀ q : Nat, s.heap.size ≤ q → A q) (hR : 0 ≤ R.frames ∧ 0 ≤ R.locals) (ret : RetI p l e R s m args below meth c cX9_together Qf (dmC G) (cfC G) tyC (exC G) D cy ad A Q) (h : wpX9_together G i μ Q) (hi_i : 0 ≤ i ∧ i < G 0 0) (hw : wdC G D cy ad A μ s H) (hS : va_S A s.heap H locs) (hl : lv_has ls 3 [(0, .ref (ad 2 i))]) : W p l e R s m args below meth c H locs 0 0 Qf (F0 m 0 ls []) := by
  have hx := F.1
  have hb := F.2.1
  have hown := F.2.2.2.1
  have hts := F.2.2.2.2
  refine q_iconst hx hb dX9_together_0 ?_
  refine lv_istore_n (lv' := [(1, .int (iI 0)), (0, .ref (ad 2 i))]) hx hb dX9_together_1 rfl hl (by decide) rfl (fun ls hl => ?_)
  refine q_iconst hx hb dX9_together_2 ?_
  refine lv_istore_n (lv' := [(2, .int (iI 0)), (1, .int (iI 0)), (0, .ref (ad 2 i))]) hx hb dX9_together_3 rfl hl (by decide) rfl (fun ls hl => ?_)
  obtain ⟨n1, h⟩ := h
  exact wX9_together_L4 F hA hR ret n1 i 0 0 _ _ _ _ h hi_i hw hS (lv_sub hl [2, 1, 0] rfl)
set_option maxRecDepth 100000 in
set_option maxHeartbeats 4000000 in
theorem kX9_together {l : Launch} {D : va_G} {cy : Nat → ClassId} {ad : AD} {A : Nat → Prop} {G : GG} {i : Int} {μ : MM} {Q : Int → MM → Prop} (h : wpX9_together G i μ Q) (hi_i : 0 ≤ i ∧ i < G 0 0) : Met l yX9_together (Cond.code yX9_together cX9_together 3 (some .int) :: uw) (rmm 0 0) (wPc [.ref (ad 2 i)] (dmC G) (cfC G) tyC (exC G) D cy ad A μ) (wQ vI Q (dmC G) (cfC G) D cy ad A) 0 0 A :=
  met_of (by decide) (Nat.le_of_ble_eq_true rfl) (fun p e R s m args below meth c ls hr hk hRR F hA hw hS hl => wX9_together F hA (by subst hRR; exact ⟨Nat.le_refl _, Nat.le_refl _⟩) (retI_of F hr hk) h hi_i hw hS hl)
theorem hdX9_together : yX9_together.cls ≠ "java/lang/invoke/MethodHandle" ∧ yX9_together.cls ≠ "java/lang/invoke/VarHandle" ∧ (parseMethodDescriptor yX9_together.desc).map (fun d => d.parameters.length) = some 0 := by decide +kernel
set_option maxRecDepth 100000 in
set_option maxHeartbeats 4000000 in
theorem dc_Train_together {G : GG} {i : Int} {μ : MM} {Q : Int → MM → Prop} {H : Heap} {locs : List Loc} {cc : ByteArray} {pc nL idx : Nat} {ls : Array Slot} {rest st0 : List Value} {own : String} (F : CallFix p m c cc nL s args uw own) (hl : Cond.methodLink own idx yX9_together ∈ uw) (h : wpX9_together G i μ Q) (hi : 0 ≤ i ∧ i < G 0 0) (hR : 1 ≤ R.frames ∧ 22 ≤ R.locals) (hA : ∀ q : Nat, s.heap.size ≤ q → A q) (hw : wdC G D cy ad A μ s H) (hS : va_S A s.heap H locs) (hsz : ls.size = nL) (hst0 : st0 = ([] : List Value).reverse ++ .ref (ad 2 i) :: rest) (hrm : (rest.map fun v => v.category).sum ≤ 8) (hdg : decode cc pc = .ok (.invokevirtual idx, 3)) (kk : ∀ (v : Int) (u : MM) (H1 : Heap) (locs1 : List Loc), Q v u → wdC G D cy ad A u s H1 → va_S A s.heap H1 locs1 → W p l e R s m args below meth c H1 locs1 0 0 Qf (F0 m (pc + 3) ls ((vI v).toList ++ rest))) : W p l e R s m args below meth c H locs 0 0 Qf (F0 m pc ls st0) := by
  have hG := (hw.2.1.2.1 i hi.1 hi.2).1
  rcases (show G 1 i = 0 ∨ G 1 i = 1 ∨ G 1 i = 2 ∨ G 1 i = 3 by omega) with q | q | q | q
  · exact call_V hexC F (kX9_together h hi) 0 tw3_53 tw1_11 tw3_47 tw3_48 hl hdX9_together ⟨Nat.le_trans (by decide) hR.1, Nat.le_trans (by decide) hR.2⟩ (recvT hw hi (C := RX9) (Or.inl ⟨q, rfl⟩)) hA hw hS rfl hsz hst0 hrm hdg kk
  · exact call_U (owner := "HammerTowers$Train") (x := yX9_together) hexC F (kX9_together h hi) 0 tw3_53 tw1_11 tw3_47 tw3_51 hl tw3_49 tw3_47 tw3_53 (by decide +kernel) ⟨Nat.le_trans (by decide) hR.1, Nat.le_trans (by decide) hR.2⟩ (recvT hw hi (C := RX4) (Or.inr (Or.inl ⟨q, rfl⟩))) hA hw hS rfl hsz hst0 hrm hdg kk
  · exact call_U (owner := "HammerTowers$Train") (x := yX9_together) hexC F (kX9_together h hi) 0 tw3_53 tw1_11 tw3_47 tw3_52 hl tw3_49 tw3_47 tw3_53 (by decide +kernel) ⟨Nat.le_trans (by decide) hR.1, Nat.le_trans (by decide) hR.2⟩ (recvT hw hi (C := RX7) (Or.inr (Or.inr (Or.inl ⟨q, rfl⟩)))) hA hw hS rfl hsz hst0 hrm hdg kk
  · exact call_U (owner := "HammerTowers$Train") (x := yX9_together) hexC F (kX9_together h hi) 0 tw3_53 tw1_11 tw3_47 tw3_50 hl tw3_49 tw3_47 tw3_53 (by decide +kernel) ⟨Nat.le_trans (by decide) hR.1, Nat.le_trans (by decide) hR.2⟩ (recvT hw hi (C := RX0) (Or.inr (Or.inr (Or.inr ⟨q, rfl⟩)))) hA hw hS rfl hsz hst0 hrm hdg kk
def wpX10_mark_J80 (G : GG) (Q : Int → MM → Prop) (μ : MM) : Prop := wpX10_found G 3 μ (fun v1 μ2 => Q v1 μ2)
set_option maxRecDepth 100000 in
set_option maxHeartbeats 4000000 in
theorem wX10_mark_J80 {G : GG} {Q : Int → MM → Prop} {μ : MM} {H : Heap} {locs : List Loc} {ls : Array Slot} (F : CallFix p m c cX10_mark 5 s args uw RX10) (hA : ∀ q : Nat, s.heap.size ≤ q → A q) (hR : 2 ≤ R.frames ∧ 43 ≤ R.locals) (ret : RetI p l e R s m args below meth c cX10_mark Qf (dmC G) (cfC G) tyC (exC G) D cy ad A Q) (h : wpX10_mark_J80 G Q μ) (hw : wdC G D cy ad A μ s H) (hS : va_S A s.heap H locs) (hl : lv_has ls 5 [(0, .ref (ad 0 0))]) : W p l e R s m args below meth c H locs 0 0 Qf (F0 m 80 ls []) := by
  have hx := F.1
  have hb := F.2.1
  have hown := F.2.2.2.1
  have hts := F.2.2.2.2
  refine lv_aload_n hx hb dX10_mark_80 rfl (lv_at hl 0 rfl) ?_
  refine q_iconst hx hb dX10_mark_81 ?_
  refine call_V hexC F (kX10_found h) 1 tw2_20 tw1_1 tw2_19 tws1_1 tw2_17 hdX10_found ⟨Nat.le_trans (by decide) hR.1, Nat.le_trans (by decide) hR.2⟩ (hw.recv (k := 0) (i := 0) rfl rfl rfl) hA hw hS rfl hl.1 rfl (Nat.le_of_ble_eq_true rfl) dX10_mark_82 (fun v1 μ2 H locs h hw hS => ?_)
  exact ret _ _ _ _ _ _ h hw hS dX10_mark_85
def wpX10_mark_J56 (G : GG) (Q : Int → MM → Prop) (x2 : Int) (x3 : Int) (μ : MM) : Prop := rg x2 ∧ (if x2 = 3 then (if G 1 x3 = 3 then (Q (μ 2 16 x3) μ) else (wpX10_mark_J80 G Q  μ)) else (wpX10_mark_J80 G Q  μ))
set_option maxRecDepth 100000 in
set_option maxHeartbeats 4000000 in
theorem wX10_mark_J56 {G : GG} {Q : Int → MM → Prop} {x2 : Int} {x3 : Int} {μ : MM} {H : Heap} {locs : List Loc} {ls : Array Slot} (F : CallFix p m c cX10_mark 5 s args uw RX10) (hA : ∀ q : Nat, s.heap.size ≤ q → A q) (hR : 2 ≤ R.frames ∧ 43 ≤ R.locals) (ret : RetI p l e R s m args below meth c cX10_mark Qf (dmC G) (cfC G) tyC (exC G) D cy ad A Q) (h : wpX10_mark_J56 G Q x2 x3 μ) (hi_x3 : 0 ≤ x3 ∧ x3 < G 0 0) (hw : wdC G D cy ad A μ s H) (hS : va_S A s.heap H locs) (hl : lv_has ls 5 [(0, .ref (ad 0 0)), (2, .int (iI x2)), (3, .ref (ad 2 x3))]) : W p l e R s m args below meth c H locs 0 0 Qf (F0 m 56 ls []) := by
  have hx := F.1
  have hb := F.2.1
  have hown := F.2.2.2.1
  have hts := F.2.2.2.2
  refine lv_iload_n hx hb dX10_mark_56 rfl (lv_at hl 1 rfl) ?_
  refine q_iconst hx hb dX10_mark_57 ?_
  obtain ⟨g1, h⟩ := h
  refine q_icmp_ne (tgt := 80) hx hb g1 (by decide) dX10_mark_58 (by decide) (fun c2 => ?_) (fun c2 => ?_)
  · have h := ite_f c2 h
    exact wX10_mark_J80 F hA hR ret h hw hS (lv_sub hl [0] rfl)
  · have h := ite_t c2 h
    refine lv_aload_n hx hb dX10_mark_61 rfl (lv_at hl 2 rfl) ?_
    refine inst_Barrel F hw hi_x3 tw2_221 dX10_mark_62 (fun c3 => ?_) (fun c3 => ?_)
    · refine q_if_eq (tgt := 80) hx hb (by decide) dX10_mark_65 (by decide) (fun q => absurd q (by decide)) (fun q => ?_)
      have h := ite_t c3 h
      refine lv_aload_n hx hb dX10_mark_68 rfl (lv_at hl 2 rfl) ?_
      refine cast_Barrel F hw hi_x3 c3 tw2_221 dX10_mark_69 ?_
      refine lv_astore (lv' := [(4, .ref (ad 2 x3)), (0, .ref (ad 0 0)), (2, .int (iI x2)), (3, .ref (ad 2 x3))]) hx hb dX10_mark_72 hl (by decide) rfl (fun ls hl => ?_)
      refine lv_aload hx hb dX10_mark_74 (lv_at hl 0 rfl) ?_
      refine gC_T_pin F hw hi_x3 c3 tw2_230 (fun _ h => h) dX10_mark_76 ?_
      exact ret _ _ _ _ _ _ h hw hS dX10_mark_79
    · refine q_if_eq (tgt := 80) hx hb (by decide) dX10_mark_65 (by decide) (fun q => ?_) (fun q => absurd rfl q)
      have h := ite_f c3 h
      exact wX10_mark_J80 F hA hR ret h hw hS (lv_sub hl [0] rfl)
def wpX10_mark_J39 (G : GG) (Q : Int → MM → Prop) (x2 : Int) (x3 : Int) (μ : MM) : Prop := rg x2 ∧ (if x2 = 2 then (if G 1 x3 = 2 then (wpX9_greatest G x3 μ (fun v4 μ5 => Q v4 μ5)) else (wpX10_mark_J56 G Q x2 x3 μ)) else (wpX10_mark_J56 G Q x2 x3 μ))
set_option maxRecDepth 100000 in
set_option maxHeartbeats 4000000 in
theorem wX10_mark_J39 {G : GG} {Q : Int → MM → Prop} {x2 : Int} {x3 : Int} {μ : MM} {H : Heap} {locs : List Loc} {ls : Array Slot} (F : CallFix p m c cX10_mark 5 s args uw RX10) (hA : ∀ q : Nat, s.heap.size ≤ q → A q) (hR : 2 ≤ R.frames ∧ 43 ≤ R.locals) (ret : RetI p l e R s m args below meth c cX10_mark Qf (dmC G) (cfC G) tyC (exC G) D cy ad A Q) (h : wpX10_mark_J39 G Q x2 x3 μ) (hi_x3 : 0 ≤ x3 ∧ x3 < G 0 0) (hw : wdC G D cy ad A μ s H) (hS : va_S A s.heap H locs) (hl : lv_has ls 5 [(0, .ref (ad 0 0)), (2, .int (iI x2)), (3, .ref (ad 2 x3))]) : W p l e R s m args below meth c H locs 0 0 Qf (F0 m 39 ls []) := by
  have hx := F.1
  have hb := F.2.1
  have hown := F.2.2.2.1
  have hts := F.2.2.2.2
  refine lv_iload_n hx hb dX10_mark_39 rfl (lv_at hl 1 rfl) ?_
  refine q_iconst hx hb dX10_mark_40 ?_
  obtain ⟨g1, h⟩ := h
  refine q_icmp_ne (tgt := 56) hx hb g1 (by decide) dX10_mark_41 (by decide) (fun c2 => ?_) (fun c2 => ?_)
  · have h := ite_f c2 h
    exact wX10_mark_J56 F hA hR ret h hi_x3 hw hS (lv_sub hl [0, 1, 2] rfl)
  · have h := ite_t c2 h
    refine lv_aload_n hx hb dX10_mark_44 rfl (lv_at hl 2 rfl) ?_
    refine inst_Snail F hw hi_x3 tw2_196 dX10_mark_45 (fun c3 => ?_) (fun c3 => ?_)
    · refine q_if_eq (tgt := 56) hx hb (by decide) dX10_mark_48 (by decide) (fun q => absurd q (by decide)) (fun q => ?_)
      have h := ite_t c3 h
      refine lv_aload_n hx hb dX10_mark_51 rfl (lv_at hl 2 rfl) ?_
      refine dc_Train_greatest F tw3_54 h hi_x3 ⟨Nat.le_trans (by decide) hR.1, Nat.le_trans (by decide) hR.2⟩ hA hw hS hl.1 rfl (Nat.le_of_ble_eq_true rfl) dX10_mark_52 (fun v4 μ5 H locs h hw hS => ?_)
      exact ret _ _ _ _ _ _ h hw hS dX10_mark_55
    · refine q_if_eq (tgt := 56) hx hb (by decide) dX10_mark_48 (by decide) (fun q => ?_) (fun q => absurd rfl q)
      have h := ite_f c3 h
      exact wX10_mark_J56 F hA hR ret h hi_x3 hw hS (lv_sub hl [0, 1, 2] rfl)
def wpX10_mark (G : GG) (x1 : Int) (x2 : Int) (μ : MM) (Q : Int → MM → Prop) : Prop := wpX10_trainOf G x1 μ (fun v1 μ2 => if v1 < 0 then (Q (-1) μ2) else (v1 < G 0 0 ∧ (rg x2 ∧ (if x2 < 1 then (Q (-1) μ2) else (if x2 ≤ 3 then (if x2 = 1 then (if G 1 v1 = 1 ∨ G 1 v1 = 3 then (wpX9_together G v1 μ2 (fun v11 μ12 => Q v11 μ12)) else (wpX10_mark_J39 G Q x2 v1 μ2)) else (wpX10_mark_J39 G Q x2 v1 μ2)) else (Q (-1) μ2))))))
set_option maxRecDepth 100000 in
set_option maxHeartbeats 4000000 in
theorem wX10_mark {G : GG} {Q : Int → MM → Prop} {x1 : Int} {x2 : Int} {μ : MM} {H : Heap} {locs : List Loc} {ls : Array Slot} (F : CallFix p m c cX10_mark 5 s args uw RX10) (hA : ∀ q : Nat, s.heap.size ≤ q → A q) (hR : 2 ≤ R.frames ∧ 43 ≤ R.locals) (ret : RetI p l e R s m args below meth c cX10_mark Qf (dmC G) (cfC G) tyC (exC G) D cy ad A Q) (h : wpX10_mark G x1 x2 μ Q) (hw : wdC G D cy ad A μ s H) (hS : va_S A s.heap H locs) (hl : lv_has ls 5 [(0, .ref (ad 0 0)), (1, .int (iI x1)), (2, .int (iI x2))]) : W p l e R s m args below meth c H locs 0 0 Qf (F0 m 0 ls []) := by
  have hx := F.1
  have hb := F.2.1
  have hown := F.2.2.2.1
  have hts := F.2.2.2.2
  refine lv_aload_n hx hb dX10_mark_0 rfl (lv_at hl 0 rfl) ?_
  refine lv_iload_n hx hb dX10_mark_1 rfl (lv_at hl 1 rfl) ?_
  refine call_V hexC F (kX10_trainOf h) 1 tw3_18 tw1_1 tw3_17 tws1_4 tw3_15 hdX10_trainOf ⟨Nat.le_trans (by decide) hR.1, Nat.le_trans (by decide) hR.2⟩ (hw.recv (k := 0) (i := 0) rfl rfl rfl) hA hw hS rfl hl.1 rfl (Nat.le_of_ble_eq_true rfl) dX10_mark_2 (fun v1 μ2 H locs h hw hS => ?_)
  refine q_astore_n (lv' := [(3, rf ad 2 v1), (0, .ref (ad 0 0)), (1, .int (iI x1)), (2, .int (iI x2))]) hx hb dX10_mark_5 rfl hl (by decide) rfl (fun ls hl => ?_)
  refine q_aload_n hx hb dX10_mark_6 rfl (lv_at hl 0 rfl) ?_
  refine q_ifnull (tgt := 20) hx hb dX10_mark_7 (by decide) (fun c3 => ?_) (fun c3 => ?_)
  · have h := ite_t c3 h
    refine q_iconst hx hb dX10_mark_20 ?_
    exact ret _ _ _ _ _ _ h hw hS dX10_mark_21
  · have h := ite_f c3 h
    obtain ⟨g4, h⟩ := h
    have hi5 : 0 ≤ v1 ∧ v1 < G 0 0 := ⟨by omega, g4⟩
    have hl : lv_has ls 5 [(3, .ref (ad 2 v1)), (0, .ref (ad 0 0)), (1, .int (iI x1)), (2, .int (iI x2))] := by rw [← rf_pos (ad := ad) (k := 2) hi5.1]; exact hl
    refine lv_iload_n hx hb dX10_mark_10 rfl (lv_at hl 3 rfl) ?_
    refine q_iconst hx hb dX10_mark_11 ?_
    obtain ⟨g6, h⟩ := h
    refine q_icmp_lt (tgt := 20) hx hb g6 (by decide) dX10_mark_12 (by decide) (fun c7 => ?_) (fun c7 => ?_)
    · have h := ite_t c7 h
      refine q_iconst hx hb dX10_mark_20 ?_
      exact ret _ _ _ _ _ _ h hw hS dX10_mark_21
    · have h := ite_f c7 h
      refine lv_iload_n hx hb dX10_mark_15 rfl (lv_at hl 3 rfl) ?_
      refine q_iconst hx hb dX10_mark_16 ?_
      refine q_icmp_le (tgt := 22) hx hb g6 (by decide) dX10_mark_17 (by decide) (fun c8 => ?_) (fun c8 => ?_)
      · have h := ite_t c8 h
        refine lv_iload_n hx hb dX10_mark_22 rfl (lv_at hl 3 rfl) ?_
        refine q_iconst hx hb dX10_mark_23 ?_
        refine q_icmp_ne (tgt := 39) hx hb g6 (by decide) dX10_mark_24 (by decide) (fun c9 => ?_) (fun c9 => ?_)
        · have h := ite_f c9 h
          exact wX10_mark_J39 F hA hR ret h hi5 hw hS (lv_sub hl [1, 3, 0] rfl)
        · have h := ite_t c9 h
          refine lv_aload_n hx hb dX10_mark_27 rfl (lv_at hl 0 rfl) ?_
          refine inst_Plate F hw hi5 tw2_159 dX10_mark_28 (fun c10 => ?_) (fun c10 => ?_)
          · refine q_if_eq (tgt := 39) hx hb (by decide) dX10_mark_31 (by decide) (fun q => absurd q (by decide)) (fun q => ?_)
            have h := ite_t c10 h
            refine lv_aload_n hx hb dX10_mark_34 rfl (lv_at hl 0 rfl) ?_
            refine dc_Train_together F tw3_46 h hi5 ⟨Nat.le_trans (by decide) hR.1, Nat.le_trans (by decide) hR.2⟩ hA hw hS hl.1 rfl (Nat.le_of_ble_eq_true rfl) dX10_mark_35 (fun v11 μ12 H locs h hw hS => ?_)
            exact ret _ _ _ _ _ _ h hw hS dX10_mark_38
          · refine q_if_eq (tgt := 39) hx hb (by decide) dX10_mark_31 (by decide) (fun q => ?_) (fun q => absurd rfl q)
            have h := ite_f c10 h
            exact wX10_mark_J39 F hA hR ret h hi5 hw hS (lv_sub hl [1, 3, 0] rfl)
      · have h := ite_f c8 h
        refine q_iconst hx hb dX10_mark_20 ?_
        exact ret _ _ _ _ _ _ h hw hS dX10_mark_21
set_option maxRecDepth 100000 in
set_option maxHeartbeats 4000000 in
theorem kX10_mark {l : Launch} {D : va_G} {cy : Nat → ClassId} {ad : AD} {A : Nat → Prop} {G : GG} {x1 : Int} {x2 : Int} {μ : MM} {Q : Int → MM → Prop} (h : wpX10_mark G x1 x2 μ Q) : Met l yX10_mark (Cond.code yX10_mark cX10_mark 5 (some .int) :: uw) (rmm 2 43) (wPc [.ref (ad 0 0), .int (iI x1), .int (iI x2)] (dmC G) (cfC G) tyC (exC G) D cy ad A μ) (wQ vI Q (dmC G) (cfC G) D cy ad A) 0 0 A :=
  met_of (by decide) (Nat.le_of_ble_eq_true rfl) (fun p e R s m args below meth c ls hr hk hRR F hA hw hS hl => wX10_mark F hA (by subst hRR; exact ⟨Nat.le_refl _, Nat.le_refl _⟩) (retI_of F hr hk) h hw hS hl)
theorem hdX10_mark : yX10_mark.cls ≠ "java/lang/invoke/MethodHandle" ∧ yX10_mark.cls ≠ "java/lang/invoke/VarHandle" ∧ (parseMethodDescriptor yX10_mark.desc).map (fun d => d.parameters.length) = some 2 := by decide +kernel
def wpX10_mean (G : GG) (x1 : Int) (μ : MM) (Q : Int → MM → Prop) : Prop := wpX10_trainOf G x1 μ (fun v1 μ2 => if v1 < 0 then (Q (-1) μ2) else (v1 < G 0 0 ∧ (rg (G 2 v1) ∧ (if (G 2 v1) = 0 then (wpX10_found G 4 μ2 (fun v12 μ13 => Q v12 μ13)) else (wpX9_together G v1 μ2 (fun v8 μ9 => rg v8 ∧ ((G 2 v1) ≠ 0 ∧ (Q (Int.tdiv v8 (G 2 v1)) μ9))))))))
set_option maxRecDepth 100000 in
set_option maxHeartbeats 4000000 in
theorem wX10_mean {G : GG} {Q : Int → MM → Prop} {x1 : Int} {μ : MM} {H : Heap} {locs : List Loc} {ls : Array Slot} (F : CallFix p m c cX10_mean 4 s args uw RX10) (hA : ∀ q : Nat, s.heap.size ≤ q → A q) (hR : 1 ≤ R.frames ∧ 22 ≤ R.locals) (ret : RetI p l e R s m args below meth c cX10_mean Qf (dmC G) (cfC G) tyC (exC G) D cy ad A Q) (h : wpX10_mean G x1 μ Q) (hw : wdC G D cy ad A μ s H) (hS : va_S A s.heap H locs) (hl : lv_has ls 4 [(0, .ref (ad 0 0)), (1, .int (iI x1))]) : W p l e R s m args below meth c H locs 0 0 Qf (F0 m 0 ls []) := by
  have hx := F.1
  have hb := F.2.1
  have hown := F.2.2.2.1
  have hts := F.2.2.2.2
  refine lv_aload_n hx hb dX10_mean_0 rfl (lv_at hl 0 rfl) ?_
  refine lv_iload_n hx hb dX10_mean_1 rfl (lv_at hl 1 rfl) ?_
  refine call_V hexC F (kX10_trainOf h) 1 tw3_18 tw1_1 tw3_17 tws1_4 tw3_15 hdX10_trainOf ⟨Nat.le_trans (by decide) hR.1, Nat.le_trans (by decide) hR.2⟩ (hw.recv (k := 0) (i := 0) rfl rfl rfl) hA hw hS rfl hl.1 rfl (Nat.le_of_ble_eq_true rfl) dX10_mean_2 (fun v1 μ2 H locs h hw hS => ?_)
  refine q_astore_n (lv' := [(2, rf ad 2 v1), (0, .ref (ad 0 0)), (1, .int (iI x1))]) hx hb dX10_mean_5 rfl hl (by decide) rfl (fun ls hl => ?_)
  refine q_aload_n hx hb dX10_mean_6 rfl (lv_at hl 0 rfl) ?_
  refine q_ifnonnull (tgt := 12) hx hb dX10_mean_7 (by decide) (fun c3 => ?_) (fun c3 => ?_)
  · have h := ite_t c3 h
    refine q_iconst hx hb dX10_mean_10 ?_
    exact ret _ _ _ _ _ _ h hw hS dX10_mean_11
  · have h := ite_f c3 h
    obtain ⟨g4, h⟩ := h
    have hi5 : 0 ≤ v1 ∧ v1 < G 0 0 := ⟨by omega, g4⟩
    have hl : lv_has ls 4 [(2, .ref (ad 2 v1)), (0, .ref (ad 0 0)), (1, .int (iI x1))] := by rw [← rf_pos (ad := ad) (k := 2) hi5.1]; exact hl
    refine lv_aload_n hx hb dX10_mean_12 rfl (lv_at hl 0 rfl) ?_
    refine gC_T_strokes F hw hi5 tw2_77 (fun _ h => h) dX10_mean_13 ?_
    refine aC_9_ln hx hb hw hi5 dX10_mean_16 ?_
    refine lv_istore_n (lv' := [(3, .int (iI (G 2 v1))), (2, .ref (ad 2 v1)), (0, .ref (ad 0 0)), (1, .int (iI x1))]) hx hb dX10_mean_17 rfl hl (by decide) rfl (fun ls hl => ?_)
    refine lv_iload_n hx hb dX10_mean_18 rfl (lv_at hl 0 rfl) ?_
    obtain ⟨g6, h⟩ := h
    refine q_if_ne (tgt := 28) hx hb g6 dX10_mean_19 (by decide) (fun c7 => ?_) (fun c7 => ?_)
    · have h := ite_f c7 h
      refine lv_aload_n hx hb dX10_mean_28 rfl (lv_at hl 1 rfl) ?_
      refine dc_Train_together F tw3_46 h hi5 ⟨Nat.le_trans (by decide) hR.1, Nat.le_trans (by decide) hR.2⟩ hA hw hS hl.1 rfl (Nat.le_of_ble_eq_true rfl) dX10_mean_29 (fun v8 μ9 H locs h hw hS => ?_)
      refine lv_iload_n hx hb dX10_mean_32 rfl (lv_at hl 0 rfl) ?_
      obtain ⟨g10, h⟩ := h
      obtain ⟨g11, h⟩ := h
      refine q_idiv hx hb g10 g6 g11 dX10_mean_33 ?_
      exact ret _ _ _ _ _ _ h hw hS dX10_mean_34
    · have h := ite_t c7 h
      refine lv_aload_n hx hb dX10_mean_22 rfl (lv_at hl 2 rfl) ?_
      refine q_iconst hx hb dX10_mean_23 ?_
      refine call_V hexC F (kX10_found h) 1 tw2_20 tw1_1 tw2_19 tws1_1 tw2_17 hdX10_found ⟨Nat.le_trans (by decide) hR.1, Nat.le_trans (by decide) hR.2⟩ (hw.recv (k := 0) (i := 0) rfl rfl rfl) hA hw hS rfl hl.1 rfl (Nat.le_of_ble_eq_true rfl) dX10_mean_24 (fun v12 μ13 H locs h hw hS => ?_)
      exact ret _ _ _ _ _ _ h hw hS dX10_mean_27
set_option maxRecDepth 100000 in
set_option maxHeartbeats 4000000 in
theorem kX10_mean {l : Launch} {D : va_G} {cy : Nat → ClassId} {ad : AD} {A : Nat → Prop} {G : GG} {x1 : Int} {μ : MM} {Q : Int → MM → Prop} (h : wpX10_mean G x1 μ Q) : Met l yX10_mean (Cond.code yX10_mean cX10_mean 4 (some .int) :: uw) (rmm 1 22) (wPc [.ref (ad 0 0), .int (iI x1)] (dmC G) (cfC G) tyC (exC G) D cy ad A μ) (wQ vI Q (dmC G) (cfC G) D cy ad A) 0 0 A :=
  met_of (by decide) (Nat.le_of_ble_eq_true rfl) (fun p e R s m args below meth c ls hr hk hRR F hA hw hS hl => wX10_mean F hA (by subst hRR; exact ⟨Nat.le_refl _, Nat.le_refl _⟩) (retI_of F hr hk) h hw hS hl)
theorem hdX10_mean : yX10_mean.cls ≠ "java/lang/invoke/MethodHandle" ∧ yX10_mean.cls ≠ "java/lang/invoke/VarHandle" ∧ (parseMethodDescriptor yX10_mean.desc).map (fun d => d.parameters.length) = some 1 := by decide +kernel
def wpX8_parts (G : GG) (i : Int) (μ : MM) (Q : Int → MM → Prop) : Prop := rg (μ 3 1 i) ∧ (rg (μ 3 3 i) ∧ (Q (((μ 3 1 i) * 86400) + (μ 3 3 i)) μ))
set_option maxRecDepth 100000 in
set_option maxHeartbeats 4000000 in
theorem wX8_parts {G : GG} {Q : Int → MM → Prop} {i : Int} {μ : MM} {H : Heap} {locs : List Loc} {ls : Array Slot} (F : CallFix p m c cX8_parts 1 s args uw RX8) (hA : ∀ q : Nat, s.heap.size ≤ q → A q) (hR : 0 ≤ R.frames ∧ 0 ≤ R.locals) (ret : RetL p l e R s m args below meth c cX8_parts Qf (dmC G) (cfC G) tyC (exC G) D cy ad A Q) (h : wpX8_parts G i μ Q) (hi_i : 0 ≤ i ∧ i < 4) (hw : wdC G D cy ad A μ s H) (hS : va_S A s.heap H locs) (hl : lv_has ls 1 [(0, .ref (ad 3 i))]) : W p l e R s m args below meth c H locs 0 0 Qf (F0 m 0 ls []) := by
  have hx := F.1
  have hb := F.2.1
  have hown := F.2.2.2.1
  have hts := F.2.2.2.2
  refine lv_aload_n hx hb dX8_parts_0 rfl (lv_at hl 0 rfl) ?_
  refine gC_W_hands F hw hi_i tw1_164 dX8_parts_1 ?_
  obtain ⟨g1, h⟩ := h
  refine q_i2l hx hb g1 dX8_parts_4 ?_
  refine q_ldc2 (n := 86400) hx hb hown (hts _ tw4_81) (by decide) dX8_parts_5 ?_
  refine q_lmul hx hb dX8_parts_8 ?_
  refine lv_aload_n hx hb dX8_parts_9 rfl (lv_at hl 0 rfl) ?_
  refine gC_W_sum F hw hi_i tw1_168 dX8_parts_10 ?_
  obtain ⟨g2, h⟩ := h
  refine q_i2l hx hb g2 dX8_parts_13 ?_
  refine q_ladd hx hb dX8_parts_14 ?_
  exact ret _ _ _ _ _ _ h hw hS dX8_parts_15
set_option maxRecDepth 100000 in
set_option maxHeartbeats 4000000 in
theorem kX8_parts {l : Launch} {D : va_G} {cy : Nat → ClassId} {ad : AD} {A : Nat → Prop} {G : GG} {i : Int} {μ : MM} {Q : Int → MM → Prop} (h : wpX8_parts G i μ Q) (hi_i : 0 ≤ i ∧ i < 4) : Met l yX8_parts (Cond.code yX8_parts cX8_parts 1 (some .long) :: uw) (rmm 0 0) (wPc [.ref (ad 3 i)] (dmC G) (cfC G) tyC (exC G) D cy ad A μ) (wQ vL Q (dmC G) (cfC G) D cy ad A) 0 0 A :=
  met_of (by decide) (Nat.le_of_ble_eq_true rfl) (fun p e R s m args below meth c ls hr hk hRR F hA hw hS hl => wX8_parts F hA (by subst hRR; exact ⟨Nat.le_refl _, Nat.le_refl _⟩) (retL_of F hr hk) h hi_i hw hS hl)
theorem hdX8_parts : yX8_parts.cls ≠ "java/lang/invoke/MethodHandle" ∧ yX8_parts.cls ≠ "java/lang/invoke/VarHandle" ∧ (parseMethodDescriptor yX8_parts.desc).map (fun d => d.parameters.length) = some 0 := by decide +kernel
end
