section
variable {p : Program} {l : Launch} {e : Env} {R : Room} {s : State} {m : MethodId} {args : Array Value} {below : List Frame} {meth : Method} {c : Code} {Qf : State → Prop} {D : va_G} {cy : Nat → ClassId} {ad : AD} {A : Nat → Prop}
def wpX10_nearest (G : GG) (x1 : Int) (x2 : Int) (x3 : Int) (μ : MM) (Q : Int → MM → Prop) : Prop := rg x1 ∧ (if x1 < 1 then (Q (-1) μ) else (if 10000 < x1 then (Q (-1) μ) else (rg x2 ∧ (if x2 < 1 then (Q (-1) μ) else (if 10000 < x2 then (Q (-1) μ) else (rg x3 ∧ (if x3 < 1 then (Q (-1) μ) else (if x3 ≤ 2 then (rg (μ 7 1 0) ∧ (rg (2 * x3) ∧ (if (2 * x3) ≤ (μ 7 1 0) then (wpX2_search G x1 x2 x3 μ (fun v13 μ14 => Q 1 μ14)) else (wpX10_found G 4 μ (fun v15 μ16 => Q v15 μ16))))) else (Q (-1) μ)))))))))
set_option maxRecDepth 100000 in
set_option maxHeartbeats 4000000 in
theorem wX10_nearest {G : GG} {Q : Int → MM → Prop} {x1 : Int} {x2 : Int} {x3 : Int} {μ : MM} {H : Heap} {locs : List Loc} {ls : Array Slot} (F : CallFix p m c cX10_nearest 4 s args uw RX10) (hA : ∀ q : Nat, s.heap.size ≤ q → A q) (hR : 4 ≤ R.frames ∧ 100 ≤ R.locals) (ret : RetI p l e R s m args below meth c cX10_nearest Qf (dmC G) (cfC G) tyC (exC G) D cy ad A Q) (h : wpX10_nearest G x1 x2 x3 μ Q) (hw : wdC G D cy ad A μ s H) (hS : va_S A s.heap H locs) (hl : lv_has ls 4 [(0, .ref (ad 0 0)), (1, .int (iI x1)), (2, .int (iI x2)), (3, .int (iI x3))]) : W p l e R s m args below meth c H locs 0 0 Qf (F0 m 0 ls []) := by
  have hx := F.1
  have hb := F.2.1
  have hown := F.2.2.2.1
  have hts := F.2.2.2.2
  refine lv_iload_n hx hb dX10_nearest_0 rfl (lv_at hl 1 rfl) ?_
  refine q_iconst hx hb dX10_nearest_1 ?_
  obtain ⟨g1, h⟩ := h
  refine q_icmp_lt (tgt := 34) hx hb g1 (by decide) dX10_nearest_2 (by decide) (fun c2 => ?_) (fun c2 => ?_)
  · have h := ite_t c2 h
    refine q_iconst hx hb dX10_nearest_34 ?_
    exact ret _ _ _ _ _ _ h hw hS dX10_nearest_35
  · have h := ite_f c2 h
    refine lv_iload_n hx hb dX10_nearest_5 rfl (lv_at hl 1 rfl) ?_
    refine q_sipush hx hb (by decide) dX10_nearest_6 ?_
    refine q_icmp_gt (tgt := 34) hx hb g1 (by decide) dX10_nearest_9 (by decide) (fun c3 => ?_) (fun c3 => ?_)
    · have h := ite_t c3 h
      refine q_iconst hx hb dX10_nearest_34 ?_
      exact ret _ _ _ _ _ _ h hw hS dX10_nearest_35
    · have h := ite_f c3 h
      refine lv_iload_n hx hb dX10_nearest_12 rfl (lv_at hl 2 rfl) ?_
      refine q_iconst hx hb dX10_nearest_13 ?_
      obtain ⟨g4, h⟩ := h
      refine q_icmp_lt (tgt := 34) hx hb g4 (by decide) dX10_nearest_14 (by decide) (fun c5 => ?_) (fun c5 => ?_)
      · have h := ite_t c5 h
        refine q_iconst hx hb dX10_nearest_34 ?_
        exact ret _ _ _ _ _ _ h hw hS dX10_nearest_35
      · have h := ite_f c5 h
        refine lv_iload_n hx hb dX10_nearest_17 rfl (lv_at hl 2 rfl) ?_
        refine q_sipush hx hb (by decide) dX10_nearest_18 ?_
        refine q_icmp_gt (tgt := 34) hx hb g4 (by decide) dX10_nearest_21 (by decide) (fun c6 => ?_) (fun c6 => ?_)
        · have h := ite_t c6 h
          refine q_iconst hx hb dX10_nearest_34 ?_
          exact ret _ _ _ _ _ _ h hw hS dX10_nearest_35
        · have h := ite_f c6 h
          refine lv_iload_n hx hb dX10_nearest_24 rfl (lv_at hl 3 rfl) ?_
          refine q_iconst hx hb dX10_nearest_25 ?_
          obtain ⟨g7, h⟩ := h
          refine q_icmp_lt (tgt := 34) hx hb g7 (by decide) dX10_nearest_26 (by decide) (fun c8 => ?_) (fun c8 => ?_)
          · have h := ite_t c8 h
            refine q_iconst hx hb dX10_nearest_34 ?_
            exact ret _ _ _ _ _ _ h hw hS dX10_nearest_35
          · have h := ite_f c8 h
            refine lv_iload_n hx hb dX10_nearest_29 rfl (lv_at hl 3 rfl) ?_
            refine q_iconst hx hb dX10_nearest_30 ?_
            refine q_icmp_le (tgt := 36) hx hb g7 (by decide) dX10_nearest_31 (by decide) (fun c9 => ?_) (fun c9 => ?_)
            · have h := ite_t c9 h
              refine lv_aload_n hx hb dX10_nearest_36 rfl (lv_at hl 0 rfl) ?_
              refine gC_H_gearing F hw tw1_216 dX10_nearest_37 ?_
              refine gC_Q_wheels F hw tw1_86 dX10_nearest_40 ?_
              refine q_iconst hx hb dX10_nearest_43 ?_
              refine lv_iload_n hx hb dX10_nearest_44 rfl (lv_at hl 3 rfl) ?_
              refine q_imul hx hb dX10_nearest_45 ?_
              obtain ⟨g10, h⟩ := h
              obtain ⟨g11, h⟩ := h
              refine q_icmp_ge (tgt := 55) hx hb g10 g11 dX10_nearest_46 (by decide) (fun c12 => ?_) (fun c12 => ?_)
              · have h := ite_t c12 h
                refine lv_aload_n hx hb dX10_nearest_55 rfl (lv_at hl 0 rfl) ?_
                refine gC_H_gearing F hw tw1_216 dX10_nearest_56 ?_
                refine lv_iload_n hx hb dX10_nearest_59 rfl (lv_at hl 1 rfl) ?_
                refine lv_iload_n hx hb dX10_nearest_60 rfl (lv_at hl 2 rfl) ?_
                refine lv_iload_n hx hb dX10_nearest_61 rfl (lv_at hl 3 rfl) ?_
                refine call_V hexC F (kX2_search h) 3 tw4_229 tw1_4 tw4_227 tw4_228 tw4_226 hdX2_search ⟨Nat.le_trans (by decide) hR.1, Nat.le_trans (by decide) hR.2⟩ (hw.recv (k := 7) (i := 0) rfl rfl rfl) hA hw hS rfl hl.1 rfl (Nat.le_of_ble_eq_true rfl) dX10_nearest_62 (fun v13 μ14 H locs h hw hS => ?_)
                refine q_iconst hx hb dX10_nearest_65 ?_
                exact ret _ _ _ _ _ _ h hw hS dX10_nearest_66
              · have h := ite_f c12 h
                refine lv_aload_n hx hb dX10_nearest_49 rfl (lv_at hl 0 rfl) ?_
                refine q_iconst hx hb dX10_nearest_50 ?_
                refine call_V hexC F (kX10_found h) 1 tw2_20 tw1_1 tw2_19 tws1_1 tw2_17 hdX10_found ⟨Nat.le_trans (by decide) hR.1, Nat.le_trans (by decide) hR.2⟩ (hw.recv (k := 0) (i := 0) rfl rfl rfl) hA hw hS rfl hl.1 rfl (Nat.le_of_ble_eq_true rfl) dX10_nearest_51 (fun v15 μ16 H locs h hw hS => ?_)
                exact ret _ _ _ _ _ _ h hw hS dX10_nearest_54
            · have h := ite_f c9 h
              refine q_iconst hx hb dX10_nearest_34 ?_
              exact ret _ _ _ _ _ _ h hw hS dX10_nearest_35
set_option maxRecDepth 100000 in
set_option maxHeartbeats 4000000 in
theorem kX10_nearest {l : Launch} {D : va_G} {cy : Nat → ClassId} {ad : AD} {A : Nat → Prop} {G : GG} {x1 : Int} {x2 : Int} {x3 : Int} {μ : MM} {Q : Int → MM → Prop} (h : wpX10_nearest G x1 x2 x3 μ Q) : Met l yX10_nearest (Cond.code yX10_nearest cX10_nearest 4 (some .int) :: uw) (rmm 4 100) (wPc [.ref (ad 0 0), .int (iI x1), .int (iI x2), .int (iI x3)] (dmC G) (cfC G) tyC (exC G) D cy ad A μ) (wQ vI Q (dmC G) (cfC G) D cy ad A) 0 0 A :=
  met_of (by decide) (Nat.le_of_ble_eq_true rfl) (fun p e R s m args below meth c ls hr hk hRR F hA hw hS hl => wX10_nearest F hA (by subst hRR; exact ⟨Nat.le_refl _, Nat.le_refl _⟩) (retI_of F hr hk) h hw hS hl)
theorem hdX10_nearest : yX10_nearest.cls ≠ "java/lang/invoke/MethodHandle" ∧ yX10_nearest.cls ≠ "java/lang/invoke/VarHandle" ∧ (parseMethodDescriptor yX10_nearest.desc).map (fun d => d.parameters.length) = some 3 := by decide +kernel
def wpX10_notch (G : GG) (x1 : Int) (x2 : Int) (μ : MM) (Q : Int → MM → Prop) : Prop := wpX10_trainOf G x1 μ (fun v1 μ2 => if v1 < 0 then (Q (-1) μ2) else (v1 < G 0 0 ∧ (rg (G 1 v1) ∧ (if (G 1 v1) = 0 then (wpX10_found G 3 μ2 (fun v16 μ17 => Q v16 μ17)) else (wpX9_hasPlace G v1 x2 μ2 (fun v8 μ9 => if v8 = 0 then (wpX10_found G 2 μ9 (fun v14 μ15 => Q v14 μ15)) else (0 ≤ x2 ∧ (x2 < G 2 v1 ∧ (Q (μ9 9 0 (24 * v1 + x2)) μ9)))))))))
set_option maxRecDepth 100000 in
set_option maxHeartbeats 4000000 in
theorem wX10_notch {G : GG} {Q : Int → MM → Prop} {x1 : Int} {x2 : Int} {μ : MM} {H : Heap} {locs : List Loc} {ls : Array Slot} (F : CallFix p m c cX10_notch 4 s args uw RX10) (hA : ∀ q : Nat, s.heap.size ≤ q → A q) (hR : 1 ≤ R.frames ∧ 21 ≤ R.locals) (ret : RetI p l e R s m args below meth c cX10_notch Qf (dmC G) (cfC G) tyC (exC G) D cy ad A Q) (h : wpX10_notch G x1 x2 μ Q) (hw : wdC G D cy ad A μ s H) (hS : va_S A s.heap H locs) (hl : lv_has ls 4 [(0, .ref (ad 0 0)), (1, .int (iI x1)), (2, .int (iI x2))]) : W p l e R s m args below meth c H locs 0 0 Qf (F0 m 0 ls []) := by
  have hx := F.1
  have hb := F.2.1
  have hown := F.2.2.2.1
  have hts := F.2.2.2.2
  refine lv_aload_n hx hb dX10_notch_0 rfl (lv_at hl 0 rfl) ?_
  refine lv_iload_n hx hb dX10_notch_1 rfl (lv_at hl 1 rfl) ?_
  refine call_V hexC F (kX10_trainOf h) 1 tw3_18 tw1_1 tw3_17 tws1_4 tw3_15 hdX10_trainOf ⟨Nat.le_trans (by decide) hR.1, Nat.le_trans (by decide) hR.2⟩ (hw.recv (k := 0) (i := 0) rfl rfl rfl) hA hw hS rfl hl.1 rfl (Nat.le_of_ble_eq_true rfl) dX10_notch_2 (fun v1 μ2 H locs h hw hS => ?_)
  refine q_astore_n (lv' := [(3, rf ad 2 v1), (0, .ref (ad 0 0)), (1, .int (iI x1)), (2, .int (iI x2))]) hx hb dX10_notch_5 rfl hl (by decide) rfl (fun ls hl => ?_)
  refine q_aload_n hx hb dX10_notch_6 rfl (lv_at hl 0 rfl) ?_
  refine q_ifnonnull (tgt := 12) hx hb dX10_notch_7 (by decide) (fun c3 => ?_) (fun c3 => ?_)
  · have h := ite_t c3 h
    refine q_iconst hx hb dX10_notch_10 ?_
    exact ret _ _ _ _ _ _ h hw hS dX10_notch_11
  · have h := ite_f c3 h
    obtain ⟨g4, h⟩ := h
    have hi5 : 0 ≤ v1 ∧ v1 < G 0 0 := ⟨by omega, g4⟩
    have hl : lv_has ls 4 [(3, .ref (ad 2 v1)), (0, .ref (ad 0 0)), (1, .int (iI x1)), (2, .int (iI x2))] := by rw [← rf_pos (ad := ad) (k := 2) hi5.1]; exact hl
    refine lv_aload_n hx hb dX10_notch_12 rfl (lv_at hl 0 rfl) ?_
    refine gC_T_kind F hw hi5 tw2_73 (fun _ h => h) dX10_notch_13 ?_
    obtain ⟨g6, h⟩ := h
    refine q_if_ne (tgt := 25) hx hb g6 dX10_notch_16 (by decide) (fun c7 => ?_) (fun c7 => ?_)
    · have h := ite_f c7 h
      refine lv_aload_n hx hb dX10_notch_25 rfl (lv_at hl 0 rfl) ?_
      refine lv_iload_n hx hb dX10_notch_26 rfl (lv_at hl 3 rfl) ?_
      refine dc_Train_hasPlace F tw3_67 h hi5 ⟨Nat.le_trans (by decide) hR.1, Nat.le_trans (by decide) hR.2⟩ hA hw hS hl.1 rfl (Nat.le_of_ble_eq_true rfl) dX10_notch_27 (fun v8 μ9 H locs h hw hS => ?_)
      obtain ⟨z10, h⟩ := h
      refine q_if_ne (tgt := 39) hx hb (rgB z10) dX10_notch_30 (by decide) (fun c11 => ?_) (fun c11 => ?_)
      · have h := ite_f c11 h
        refine lv_aload_n hx hb dX10_notch_39 rfl (lv_at hl 0 rfl) ?_
        refine gC_T_strokes F hw hi5 tw2_77 (fun _ h => h) dX10_notch_40 ?_
        refine lv_iload_n hx hb dX10_notch_43 rfl (lv_at hl 3 rfl) ?_
        obtain ⟨g12, h⟩ := h
        obtain ⟨g13, h⟩ := h
        refine aC_9_ld hx hb hw hi5 g12 g13 dX10_notch_44 ?_
        exact ret _ _ _ _ _ _ h hw hS dX10_notch_45
      · have h := ite_t c11 h
        refine lv_aload_n hx hb dX10_notch_33 rfl (lv_at hl 1 rfl) ?_
        refine q_iconst hx hb dX10_notch_34 ?_
        refine call_V hexC F (kX10_found h) 1 tw2_20 tw1_1 tw2_19 tws1_1 tw2_17 hdX10_found ⟨Nat.le_trans (by decide) hR.1, Nat.le_trans (by decide) hR.2⟩ (hw.recv (k := 0) (i := 0) rfl rfl rfl) hA hw hS rfl hl.1 rfl (Nat.le_of_ble_eq_true rfl) dX10_notch_35 (fun v14 μ15 H locs h hw hS => ?_)
        exact ret _ _ _ _ _ _ h hw hS dX10_notch_38
    · have h := ite_t c7 h
      refine lv_aload_n hx hb dX10_notch_19 rfl (lv_at hl 1 rfl) ?_
      refine q_iconst hx hb dX10_notch_20 ?_
      refine call_V hexC F (kX10_found h) 1 tw2_20 tw1_1 tw2_19 tws1_1 tw2_17 hdX10_found ⟨Nat.le_trans (by decide) hR.1, Nat.le_trans (by decide) hR.2⟩ (hw.recv (k := 0) (i := 0) rfl rfl rfl) hA hw hS rfl hl.1 rfl (Nat.le_of_ble_eq_true rfl) dX10_notch_21 (fun v16 μ17 H locs h hw hS => ?_)
      exact ret _ _ _ _ _ _ h hw hS dX10_notch_24
set_option maxRecDepth 100000 in
set_option maxHeartbeats 4000000 in
theorem kX10_notch {l : Launch} {D : va_G} {cy : Nat → ClassId} {ad : AD} {A : Nat → Prop} {G : GG} {x1 : Int} {x2 : Int} {μ : MM} {Q : Int → MM → Prop} (h : wpX10_notch G x1 x2 μ Q) : Met l yX10_notch (Cond.code yX10_notch cX10_notch 4 (some .int) :: uw) (rmm 1 21) (wPc [.ref (ad 0 0), .int (iI x1), .int (iI x2)] (dmC G) (cfC G) tyC (exC G) D cy ad A μ) (wQ vI Q (dmC G) (cfC G) D cy ad A) 0 0 A :=
  met_of (by decide) (Nat.le_of_ble_eq_true rfl) (fun p e R s m args below meth c ls hr hk hRR F hA hw hS hl => wX10_notch F hA (by subst hRR; exact ⟨Nat.le_refl _, Nat.le_refl _⟩) (retI_of F hr hk) h hw hS hl)
theorem hdX10_notch : yX10_notch.cls ≠ "java/lang/invoke/MethodHandle" ∧ yX10_notch.cls ≠ "java/lang/invoke/VarHandle" ∧ (parseMethodDescriptor yX10_notch.desc).map (fun d => d.parameters.length) = some 2 := by decide +kernel
def wpX4_aheadOf (G : GG) (i : Int) (x1 : Int) (μ : MM) (Q : Int → MM → Prop) : Prop := rg (G 2 i) ∧ (if (G 2 i) ≤ 0 then (Q 0 μ) else (wpJ9_floorMod_7cf53 G ((μ 2 14 i) - x1) (G 2 i) μ (fun v3 μ4 => Q v3 μ4)))
set_option maxRecDepth 100000 in
set_option maxHeartbeats 4000000 in
theorem wX4_aheadOf {G : GG} {Q : Int → MM → Prop} {i : Int} {x1 : Int} {μ : MM} {H : Heap} {locs : List Loc} {ls : Array Slot} (F : CallFix p m c cX4_aheadOf 3 s args uw RX4) (hA : ∀ q : Nat, s.heap.size ≤ q → A q) (hR : 1 ≤ R.frames ∧ 22 ≤ R.locals) (ret : RetI p l e R s m args below meth c cX4_aheadOf Qf (dmC G) (cfC G) tyC (exC G) D cy ad A Q) (h : wpX4_aheadOf G i x1 μ Q) (hi_i : 0 ≤ i ∧ i < G 0 0) (hc_i : G 1 i = 1 ∨ G 1 i = 3) (hw : wdC G D cy ad A μ s H) (hS : va_S A s.heap H locs) (hl : lv_has ls 3 [(0, .ref (ad 2 i)), (1, .int (iI x1))]) : W p l e R s m args below meth c H locs 0 0 Qf (F0 m 0 ls []) := by
  have hx := F.1
  have hb := F.2.1
  have hown := F.2.2.2.1
  have hts := F.2.2.2.2
  refine lv_aload_n hx hb dX4_aheadOf_0 rfl (lv_at hl 0 rfl) ?_
  refine gC_T_strokes F hw hi_i tw2_75 (u_same (hts _ tw2_76)) dX4_aheadOf_1 ?_
  refine aC_9_ln hx hb hw hi_i dX4_aheadOf_4 ?_
  refine lv_istore_n (lv' := [(2, .int (iI (G 2 i))), (0, .ref (ad 2 i)), (1, .int (iI x1))]) hx hb dX4_aheadOf_5 rfl hl (by decide) rfl (fun ls hl => ?_)
  refine lv_iload_n hx hb dX4_aheadOf_6 rfl (lv_at hl 0 rfl) ?_
  obtain ⟨g1, h⟩ := h
  refine q_if_le (tgt := 23) hx hb g1 dX4_aheadOf_7 (by decide) (fun c2 => ?_) (fun c2 => ?_)
  · have h := ite_t c2 h
    refine q_iconst hx hb dX4_aheadOf_23 ?_
    exact ret _ _ _ _ _ _ h hw hS dX4_aheadOf_24
  · have h := ite_f c2 h
    refine lv_aload_n hx hb dX4_aheadOf_10 rfl (lv_at hl 1 rfl) ?_
    refine gC_T_at F hw hi_i hc_i tw2_172 (fun _ h => h) dX4_aheadOf_11 ?_
    refine lv_iload_n hx hb dX4_aheadOf_14 rfl (lv_at hl 2 rfl) ?_
    refine q_isub hx hb dX4_aheadOf_15 ?_
    refine lv_iload_n hx hb dX4_aheadOf_16 rfl (lv_at hl 0 rfl) ?_
    refine call_S hexC F (kJ9_floorMod_7cf53 h) 2 tw3_165 tw1_13 tw3_164 tw4_103 hdJ9_floorMod_7cf53 ⟨Nat.le_trans (by decide) hR.1, Nat.le_trans (by decide) hR.2⟩ hA hw hS rfl hl.1 rfl (Nat.le_of_ble_eq_true rfl) dX4_aheadOf_17 (fun v3 μ4 H locs h hw hS => ?_)
    refine lv_goto (tgt := 24) hx hb dX4_aheadOf_20 (by decide) ?_
    exact ret _ _ _ _ _ _ h hw hS dX4_aheadOf_24
set_option maxRecDepth 100000 in
set_option maxHeartbeats 4000000 in
theorem kX4_aheadOf {l : Launch} {D : va_G} {cy : Nat → ClassId} {ad : AD} {A : Nat → Prop} {G : GG} {i : Int} {x1 : Int} {μ : MM} {Q : Int → MM → Prop} (h : wpX4_aheadOf G i x1 μ Q) (hi_i : 0 ≤ i ∧ i < G 0 0) (hc_i : G 1 i = 1 ∨ G 1 i = 3) : Met l yX4_aheadOf (Cond.code yX4_aheadOf cX4_aheadOf 3 (some .int) :: uw) (rmm 1 22) (wPc [.ref (ad 2 i), .int (iI x1)] (dmC G) (cfC G) tyC (exC G) D cy ad A μ) (wQ vI Q (dmC G) (cfC G) D cy ad A) 0 0 A :=
  met_of (by decide) (Nat.le_of_ble_eq_true rfl) (fun p e R s m args below meth c ls hr hk hRR F hA hw hS hl => wX4_aheadOf F hA (by subst hRR; exact ⟨Nat.le_refl _, Nat.le_refl _⟩) (retI_of F hr hk) h hi_i hc_i hw hS hl)
theorem hdX4_aheadOf : yX4_aheadOf.cls ≠ "java/lang/invoke/MethodHandle" ∧ yX4_aheadOf.cls ≠ "java/lang/invoke/VarHandle" ∧ (parseMethodDescriptor yX4_aheadOf.desc).map (fun d => d.parameters.length) = some 1 := by decide +kernel
set_option maxRecDepth 100000 in
set_option maxHeartbeats 4000000 in
theorem dc_Plate_aheadOf {G : GG} {i x1 : Int} {μ : MM} {Q : Int → MM → Prop} {H : Heap} {locs : List Loc} {cc : ByteArray} {pc nL idx : Nat} {ls : Array Slot} {rest st0 : List Value} {own : String} (F : CallFix p m c cc nL s args uw own) (hl : Cond.methodLink own idx yX4_aheadOf ∈ uw) (h : wpX4_aheadOf G i x1 μ Q) (hi : 0 ≤ i ∧ i < G 0 0) (hk : G 1 i = 1 ∨ G 1 i = 3) (hR : 2 ≤ R.frames ∧ 44 ≤ R.locals) (hA : ∀ q : Nat, s.heap.size ≤ q → A q) (hw : wdC G D cy ad A μ s H) (hS : va_S A s.heap H locs) (hsz : ls.size = nL) (hst0 : st0 = ([.int (iI x1)] : List Value).reverse ++ .ref (ad 2 i) :: rest) (hrm : (rest.map fun v => v.category).sum ≤ 8) (hdg : decode cc pc = .ok (.invokevirtual idx, 3)) (kk : ∀ (v : Int) (u : MM) (H1 : Heap) (locs1 : List Loc), Q v u → wdC G D cy ad A u s H1 → va_S A s.heap H1 locs1 → W p l e R s m args below meth c H1 locs1 0 0 Qf (F0 m (pc + 3) ls ((vI v).toList ++ rest))) : W p l e R s m args below meth c H locs 0 0 Qf (F0 m pc ls st0) := by
  have hG := (hw.2.1.2.1 i hi.1 hi.2).1
  rcases (show G 1 i = 1 ∨ G 1 i = 3 by omega) with q | q
  · exact call_V hexC F (kX4_aheadOf h hi (by omega)) 1 tw4_102 tw1_12 tw4_98 tw4_99 hl hdX4_aheadOf ⟨Nat.le_trans (by decide) hR.1, Nat.le_trans (by decide) hR.2⟩ (recvT hw hi (C := RX4) (Or.inr (Or.inl ⟨q, rfl⟩))) hA hw hS rfl hsz hst0 hrm hdg kk
  · exact call_U (owner := "HammerTowers$Plate") (x := yX4_aheadOf) hexC F (kX4_aheadOf h hi (by omega)) 1 tw4_102 tw1_12 tw4_98 tw4_101 hl tw4_100 tw4_98 tw4_102 (by decide +kernel) ⟨Nat.le_trans (by decide) hR.1, Nat.le_trans (by decide) hR.2⟩ (recvT hw hi (C := RX0) (Or.inr (Or.inr (Or.inr ⟨q, rfl⟩)))) hA hw hS rfl hsz hst0 hrm hdg kk
def wpX10_off_J31 (G : GG) (Q : Int → MM → Prop) (μ : MM) : Prop := wpX10_found G 1 μ (fun v1 μ2 => Q v1 μ2)
set_option maxRecDepth 100000 in
set_option maxHeartbeats 4000000 in
theorem wX10_off_J31 {G : GG} {Q : Int → MM → Prop} {μ : MM} {H : Heap} {locs : List Loc} {ls : Array Slot} (F : CallFix p m c cX10_off 6 s args uw RX10) (hA : ∀ q : Nat, s.heap.size ≤ q → A q) (hR : 2 ≤ R.frames ∧ 44 ≤ R.locals) (ret : RetI p l e R s m args below meth c cX10_off Qf (dmC G) (cfC G) tyC (exC G) D cy ad A Q) (h : wpX10_off_J31 G Q μ) (hw : wdC G D cy ad A μ s H) (hS : va_S A s.heap H locs) (hl : lv_has ls 6 [(0, .ref (ad 0 0))]) : W p l e R s m args below meth c H locs 0 0 Qf (F0 m 31 ls []) := by
  have hx := F.1
  have hb := F.2.1
  have hown := F.2.2.2.1
  have hts := F.2.2.2.2
  refine lv_aload_n hx hb dX10_off_31 rfl (lv_at hl 0 rfl) ?_
  refine q_iconst hx hb dX10_off_32 ?_
  refine call_V hexC F (kX10_found h) 1 tw2_20 tw1_1 tw2_19 tws1_1 tw2_17 hdX10_found ⟨Nat.le_trans (by decide) hR.1, Nat.le_trans (by decide) hR.2⟩ (hw.recv (k := 0) (i := 0) rfl rfl rfl) hA hw hS rfl hl.1 rfl (Nat.le_of_ble_eq_true rfl) dX10_off_33 (fun v1 μ2 H locs h hw hS => ?_)
  exact ret _ _ _ _ _ _ h hw hS dX10_off_36
def wpX10_off (G : GG) (x1 : Int) (x2 : Int) (μ : MM) (Q : Int → MM → Prop) : Prop := wpX10_towerOf G x1 μ (fun v1 μ2 => if v1 < 0 then (Q (-1) μ2) else (v1 < 4 ∧ (wpX8_trainIn G v1 x2 μ2 (fun v6 μ7 => rg (μ7 3 0 v1) ∧ (if (μ7 3 0 v1) = 0 then (wpX10_off_J31 G Q  μ7) else (if v6 < 0 then (wpX10_off_J31 G Q  μ7) else (v6 < G 0 0 ∧ (if G 1 v6 = 1 ∨ G 1 v6 = 3 then (wpX8_nextPlace G v1 x2 μ7 (fun v14 μ15 => wpX4_aheadOf G v6 v14 μ15 (fun v16 μ17 => Q v16 μ17))) else (wpX10_found G 3 μ7 (fun v18 μ19 => Q v18 μ19))))))))))
set_option maxRecDepth 100000 in
set_option maxHeartbeats 4000000 in
theorem wX10_off {G : GG} {Q : Int → MM → Prop} {x1 : Int} {x2 : Int} {μ : MM} {H : Heap} {locs : List Loc} {ls : Array Slot} (F : CallFix p m c cX10_off 6 s args uw RX10) (hA : ∀ q : Nat, s.heap.size ≤ q → A q) (hR : 2 ≤ R.frames ∧ 44 ≤ R.locals) (ret : RetI p l e R s m args below meth c cX10_off Qf (dmC G) (cfC G) tyC (exC G) D cy ad A Q) (h : wpX10_off G x1 x2 μ Q) (hw : wdC G D cy ad A μ s H) (hS : va_S A s.heap H locs) (hl : lv_has ls 6 [(0, .ref (ad 0 0)), (1, .int (iI x1)), (2, .int (iI x2))]) : W p l e R s m args below meth c H locs 0 0 Qf (F0 m 0 ls []) := by
  have hx := F.1
  have hb := F.2.1
  have hown := F.2.2.2.1
  have hts := F.2.2.2.2
  refine lv_aload_n hx hb dX10_off_0 rfl (lv_at hl 0 rfl) ?_
  refine lv_iload_n hx hb dX10_off_1 rfl (lv_at hl 1 rfl) ?_
  refine call_V hexC F (kX10_towerOf h) 1 tw3_99 tw1_1 tw3_98 tws1_5 tw3_96 hdX10_towerOf ⟨Nat.le_trans (by decide) hR.1, Nat.le_trans (by decide) hR.2⟩ (hw.recv (k := 0) (i := 0) rfl rfl rfl) hA hw hS rfl hl.1 rfl (Nat.le_of_ble_eq_true rfl) dX10_off_2 (fun v1 μ2 H locs h hw hS => ?_)
  refine q_astore_n (lv' := [(3, rf ad 3 v1), (0, .ref (ad 0 0)), (1, .int (iI x1)), (2, .int (iI x2))]) hx hb dX10_off_5 rfl hl (by decide) rfl (fun ls hl => ?_)
  refine q_aload_n hx hb dX10_off_6 rfl (lv_at hl 0 rfl) ?_
  refine q_ifnonnull (tgt := 12) hx hb dX10_off_7 (by decide) (fun c3 => ?_) (fun c3 => ?_)
  · have h := ite_t c3 h
    refine q_iconst hx hb dX10_off_10 ?_
    exact ret _ _ _ _ _ _ h hw hS dX10_off_11
  · have h := ite_f c3 h
    obtain ⟨g4, h⟩ := h
    have hi5 : 0 ≤ v1 ∧ v1 < 4 := ⟨by omega, g4⟩
    have hl : lv_has ls 6 [(3, .ref (ad 3 v1)), (0, .ref (ad 0 0)), (1, .int (iI x1)), (2, .int (iI x2))] := by rw [← rf_pos (ad := ad) (k := 3) hi5.1]; exact hl
    refine lv_aload_n hx hb dX10_off_12 rfl (lv_at hl 0 rfl) ?_
    refine lv_iload_n hx hb dX10_off_13 rfl (lv_at hl 3 rfl) ?_
    refine call_V hexC F (kX8_trainIn h hi5) 1 tw3_111 tw1_6 tw3_109 tw3_110 tw3_142 hdX8_trainIn ⟨Nat.le_trans (by decide) hR.1, Nat.le_trans (by decide) hR.2⟩ (hw.recv (k := 3) (i := v1) hi5 rfl rfl) hA hw hS rfl hl.1 rfl (Nat.le_of_ble_eq_true rfl) dX10_off_14 (fun v6 μ7 H locs h hw hS => ?_)
    refine q_astore (lv' := [(4, rf ad 2 v6), (3, .ref (ad 3 v1)), (0, .ref (ad 0 0)), (1, .int (iI x1)), (2, .int (iI x2))]) hx hb dX10_off_17 hl (by decide) rfl (fun ls hl => ?_)
    refine lv_aload_n hx hb dX10_off_19 rfl (lv_at hl 1 rfl) ?_
    refine gC_W_there F hw hi5 tw1_163 dX10_off_20 ?_
    obtain ⟨g8, h⟩ := h
    refine q_if_eq (tgt := 31) hx hb g8 dX10_off_23 (by decide) (fun c9 => ?_) (fun c9 => ?_)
    · have h := ite_t c9 h
      exact wX10_off_J31 F hA hR ret h hw hS (lv_sub hl [2] rfl)
    · have h := ite_f c9 h
      refine q_aload hx hb dX10_off_26 (lv_at hl 0 rfl) ?_
      refine q_ifnonnull (tgt := 37) hx hb dX10_off_28 (by decide) (fun c10 => ?_) (fun c10 => ?_)
      · have h := ite_t c10 h
        exact wX10_off_J31 F hA hR ret h hw hS (lv_sub hl [2] rfl)
      · have h := ite_f c10 h
        obtain ⟨g11, h⟩ := h
        have hi12 : 0 ≤ v6 ∧ v6 < G 0 0 := ⟨by omega, g11⟩
        have hl : lv_has ls 6 [(4, .ref (ad 2 v6)), (3, .ref (ad 3 v1)), (0, .ref (ad 0 0)), (1, .int (iI x1)), (2, .int (iI x2))] := by rw [← rf_pos (ad := ad) (k := 2) hi12.1]; exact hl
        refine lv_aload hx hb dX10_off_37 (lv_at hl 0 rfl) ?_
        refine inst_Plate F hw hi12 tw2_159 dX10_off_39 (fun c13 => ?_) (fun c13 => ?_)
        · refine q_if_eq (tgt := 55) hx hb (by decide) dX10_off_42 (by decide) (fun q => absurd q (by decide)) (fun q => ?_)
          have h := ite_t c13 h
          refine lv_aload hx hb dX10_off_45 (lv_at hl 0 rfl) ?_
          refine cast_Plate F hw hi12 c13 tw2_159 dX10_off_47 ?_
          refine lv_astore (lv' := [(5, .ref (ad 2 v6)), (4, .ref (ad 2 v6)), (3, .ref (ad 3 v1)), (0, .ref (ad 0 0)), (1, .int (iI x1)), (2, .int (iI x2))]) hx hb dX10_off_50 hl (by decide) rfl (fun ls hl => ?_)
          refine lv_goto (tgt := 61) hx hb dX10_off_52 (by decide) ?_
          refine lv_aload hx hb dX10_off_61 (lv_at hl 0 rfl) ?_
          refine lv_aload_n hx hb dX10_off_63 rfl (lv_at hl 2 rfl) ?_
          refine lv_iload_n hx hb dX10_off_64 rfl (lv_at hl 5 rfl) ?_
          refine call_V hexC F (kX8_nextPlace h hi5) 1 tw3_173 tw1_6 tw3_171 tw3_172 tw4_96 hdX8_nextPlace ⟨Nat.le_trans (by decide) hR.1, Nat.le_trans (by decide) hR.2⟩ (hw.recv (k := 3) (i := v1) hi5 rfl rfl) hA hw hS rfl hl.1 rfl (Nat.le_of_ble_eq_true rfl) dX10_off_65 (fun v14 μ15 H locs h hw hS => ?_)
          refine dc_Plate_aheadOf F tw4_97 h hi12 c13 ⟨Nat.le_trans (by decide) hR.1, Nat.le_trans (by decide) hR.2⟩ hA hw hS hl.1 rfl (Nat.le_of_ble_eq_true rfl) dX10_off_68 (fun v16 μ17 H locs h hw hS => ?_)
          exact ret _ _ _ _ _ _ h hw hS dX10_off_71
        · refine q_if_eq (tgt := 55) hx hb (by decide) dX10_off_42 (by decide) (fun q => ?_) (fun q => absurd rfl q)
          have h := ite_f c13 h
          refine lv_aload_n hx hb dX10_off_55 rfl (lv_at hl 2 rfl) ?_
          refine q_iconst hx hb dX10_off_56 ?_
          refine call_V hexC F (kX10_found h) 1 tw2_20 tw1_1 tw2_19 tws1_1 tw2_17 hdX10_found ⟨Nat.le_trans (by decide) hR.1, Nat.le_trans (by decide) hR.2⟩ (hw.recv (k := 0) (i := 0) rfl rfl rfl) hA hw hS rfl hl.1 rfl (Nat.le_of_ble_eq_true rfl) dX10_off_57 (fun v18 μ19 H locs h hw hS => ?_)
          exact ret _ _ _ _ _ _ h hw hS dX10_off_60
set_option maxRecDepth 100000 in
set_option maxHeartbeats 4000000 in
theorem kX10_off {l : Launch} {D : va_G} {cy : Nat → ClassId} {ad : AD} {A : Nat → Prop} {G : GG} {x1 : Int} {x2 : Int} {μ : MM} {Q : Int → MM → Prop} (h : wpX10_off G x1 x2 μ Q) : Met l yX10_off (Cond.code yX10_off cX10_off 6 (some .int) :: uw) (rmm 2 44) (wPc [.ref (ad 0 0), .int (iI x1), .int (iI x2)] (dmC G) (cfC G) tyC (exC G) D cy ad A μ) (wQ vI Q (dmC G) (cfC G) D cy ad A) 0 0 A :=
  met_of (by decide) (Nat.le_of_ble_eq_true rfl) (fun p e R s m args below meth c ls hr hk hRR F hA hw hS hl => wX10_off F hA (by subst hRR; exact ⟨Nat.le_refl _, Nat.le_refl _⟩) (retI_of F hr hk) h hw hS hl)
theorem hdX10_off : yX10_off.cls ≠ "java/lang/invoke/MethodHandle" ∧ yX10_off.cls ≠ "java/lang/invoke/VarHandle" ∧ (parseMethodDescriptor yX10_off.desc).map (fun d => d.parameters.length) = some 2 := by decide +kernel
def wpX3_add_J88 (G : GG) (Q : Int → MM → Prop) (i : Int) (t0 : Int) (t1 : Int) (μ : MM) : Prop := ∀ μ1 : MM, μ1 = ms μ 4 4 t0 t1 → (wpJ9_min_7cf53 G ((μ1 4 5 i) + 1) 60 μ1 (fun v2 μ3 => ∀ μ4 : MM, μ4 = ms μ3 4 5 i v2 → (Q 0 μ4)))
set_option maxRecDepth 100000 in
set_option maxHeartbeats 4000000 in
theorem wX3_add_J88 {G : GG} {Q : Int → MM → Prop} {i : Int} {t0 : Int} {t1 : Int} {μ : MM} {H : Heap} {locs : List Loc} {ls : Array Slot} (F : CallFix p m c cX3_add 3 s args uw RX3) (hA : ∀ q : Nat, s.heap.size ≤ q → A q) (hR : 1 ≤ R.frames ∧ 21 ≤ R.locals) (ret : RetV p l e R s m args below meth c cX3_add Qf (dmC G) (cfC G) tyC (exC G) D cy ad A Q) (h : wpX3_add_J88 G Q i t0 t1 μ) (hi_i : 0 ≤ i ∧ i < 4) (hi_t0 : 0 ≤ t0 ∧ t0 < 4) (hw : wdC G D cy ad A μ s H) (hS : va_S A s.heap H locs) (hl : lv_has ls 3 [(0, .ref (ad 4 i))]) : W p l e R s m args below meth c H locs 0 0 Qf (F0 m 88 ls [.int (iI t1), .ref (ad 4 t0)]) := by
  have hx := F.1
  have hb := F.2.1
  have hown := F.2.2.2.1
  have hts := F.2.2.2.2
  obtain ⟨μ1, eμ1⟩ : ∃ z : MM, z = ms μ 4 4 t0 t1 := ⟨_, rfl⟩
  have h := h μ1 eμ1
  refine pC_L_next F hw hS hi_t0 tw1_146 eμ1 dX3_add_88 (fun H locs hw hS => ?_)
  refine lv_aload_n hx hb dX3_add_91 rfl (lv_at hl 0 rfl) ?_
  refine lv_aload_n hx hb dX3_add_92 rfl (lv_at hl 0 rfl) ?_
  refine gC_L_size F hw hi_i tw1_147 dX3_add_93 ?_
  refine q_iconst hx hb dX3_add_96 ?_
  refine q_iadd hx hb dX3_add_97 ?_
  refine q_bipush hx hb (by decide) dX3_add_98 ?_
  refine call_S hexC F (kJ9_min_7cf53 h) 2 tw4_18 tw1_13 tw4_17 tw4_16 hdJ9_min_7cf53 ⟨Nat.le_trans (by decide) hR.1, Nat.le_trans (by decide) hR.2⟩ hA hw hS rfl hl.1 rfl (Nat.le_of_ble_eq_true rfl) dX3_add_100 (fun v2 μ3 H locs h hw hS => ?_)
  obtain ⟨μ4, eμ4⟩ : ∃ z : MM, z = ms μ3 4 5 i v2 := ⟨_, rfl⟩
  have h := h μ4 eμ4
  refine pC_L_size F hw hS hi_i tw1_147 eμ4 dX3_add_103 (fun H locs hw hS => ?_)
  exact ret _ _ _ _ _ h hw hS dX3_add_106
def wpX3_add (G : GG) (i : Int) (x1 : Int) (x2 : Int) (μ : MM) (Q : Int → MM → Prop) : Prop := rg (μ 4 4 i) ∧ (if (μ 4 4 i) < 0 then (Q 0 μ) else (if (μ 4 4 i) < 60 then (0 ≤ (μ 4 4 i) ∧ (μ 4 4 i < 60 ∧ (∀ μ6 : MM, μ6 = ms μ 11 0 (60 * i + (μ 4 4 i)) x1 → (0 ≤ (μ6 4 4 i) ∧ (μ6 4 4 i < 60 ∧ (∀ μ9 : MM, μ9 = ms μ6 12 0 (60 * i + (μ6 4 4 i)) x2 → (0 ≤ (μ9 4 4 i) ∧ (μ9 4 4 i < 60 ∧ (∀ μ12 : MM, μ12 = ms μ9 13 0 (60 * i + (μ9 4 4 i)) (μ9 2 12 x2) → (0 ≤ (μ12 4 4 i) ∧ (μ12 4 4 i < 60 ∧ (∀ μ15 : MM, μ15 = ms μ12 14 0 (60 * i + (μ12 4 4 i)) (μ12 2 13 x2) → (rg ((μ15 4 4 i) + 1) ∧ (if 60 ≤ ((μ15 4 4 i) + 1) then (wpX3_add_J88 G Q i i 0 μ15) else (wpX3_add_J88 G Q i i ((μ15 4 4 i) + 1) μ15))))))))))))))) else (Q 0 μ)))
set_option maxRecDepth 100000 in
set_option maxHeartbeats 4000000 in
theorem wX3_add {G : GG} {Q : Int → MM → Prop} {i : Int} {x1 : Int} {x2 : Int} {μ : MM} {H : Heap} {locs : List Loc} {ls : Array Slot} (F : CallFix p m c cX3_add 3 s args uw RX3) (hA : ∀ q : Nat, s.heap.size ≤ q → A q) (hR : 1 ≤ R.frames ∧ 21 ≤ R.locals) (ret : RetV p l e R s m args below meth c cX3_add Qf (dmC G) (cfC G) tyC (exC G) D cy ad A Q) (h : wpX3_add G i x1 x2 μ Q) (hi_i : 0 ≤ i ∧ i < 4) (hi_x2 : 0 ≤ x2 ∧ x2 < G 0 0) (hw : wdC G D cy ad A μ s H) (hS : va_S A s.heap H locs) (hl : lv_has ls 3 [(0, .ref (ad 4 i)), (1, .int (iI x1)), (2, .ref (ad 2 x2))]) : W p l e R s m args below meth c H locs 0 0 Qf (F0 m 0 ls []) := by
  have hx := F.1
  have hb := F.2.1
  have hown := F.2.2.2.1
  have hts := F.2.2.2.2
  refine lv_aload_n hx hb dX3_add_0 rfl (lv_at hl 0 rfl) ?_
  refine gC_L_next F hw hi_i tw1_146 dX3_add_1 ?_
  obtain ⟨g1, h⟩ := h
  refine q_if_lt (tgt := 16) hx hb g1 dX3_add_4 (by decide) (fun c2 => ?_) (fun c2 => ?_)
  · have h := ite_t c2 h
    exact ret _ _ _ _ _ h hw hS dX3_add_16
  · have h := ite_f c2 h
    refine lv_aload_n hx hb dX3_add_7 rfl (lv_at hl 0 rfl) ?_
    refine gC_L_next F hw hi_i tw1_146 dX3_add_8 ?_
    refine q_bipush hx hb (by decide) dX3_add_11 ?_
    refine q_icmp_lt (tgt := 17) hx hb g1 (by decide) dX3_add_13 (by decide) (fun c3 => ?_) (fun c3 => ?_)
    · have h := ite_t c3 h
      refine lv_aload_n hx hb dX3_add_17 rfl (lv_at hl 0 rfl) ?_
      refine gC_L_when F hw hi_i tw1_142 dX3_add_18 ?_
      refine lv_aload_n hx hb dX3_add_21 rfl (lv_at hl 0 rfl) ?_
      refine gC_L_next F hw hi_i tw1_146 dX3_add_22 ?_
      refine lv_iload_n hx hb dX3_add_25 rfl (lv_at hl 1 rfl) ?_
      obtain ⟨g4, h⟩ := h
      obtain ⟨g5, h⟩ := h
      obtain ⟨μ6, eμ6⟩ : ∃ z : MM, z = ms μ 11 0 (60 * i + (μ 4 4 i)) x1 := ⟨_, rfl⟩
      have h := h μ6 eμ6
      refine aC_11_st hx hb hw hS hi_i g4 g5 eμ6 dX3_add_26 (fun H locs hw hS => ?_)
      refine lv_aload_n hx hb dX3_add_27 rfl (lv_at hl 0 rfl) ?_
      refine gC_L_which F hw hi_i tw1_143 dX3_add_28 ?_
      refine lv_aload_n hx hb dX3_add_31 rfl (lv_at hl 0 rfl) ?_
      refine gC_L_next F hw hi_i tw1_146 dX3_add_32 ?_
      refine lv_aload_n hx hb dX3_add_35 rfl (lv_at hl 2 rfl) ?_
      refine gC_T_number F hw hi_x2 tw2_69 (fun _ h => h) dX3_add_36 ?_
      obtain ⟨g7, h⟩ := h
      obtain ⟨g8, h⟩ := h
      obtain ⟨μ9, eμ9⟩ : ∃ z : MM, z = ms μ6 12 0 (60 * i + (μ6 4 4 i)) x2 := ⟨_, rfl⟩
      have h := h μ9 eμ9
      refine aC_12_st hx hb hw hS hi_i g7 g8 eμ9 dX3_add_39 (fun H locs hw hS => ?_)
      refine lv_aload_n hx hb dX3_add_40 rfl (lv_at hl 0 rfl) ?_
      refine gC_L_strokes F hw hi_i tw1_144 dX3_add_41 ?_
      refine lv_aload_n hx hb dX3_add_44 rfl (lv_at hl 0 rfl) ?_
      refine gC_L_next F hw hi_i tw1_146 dX3_add_45 ?_
      refine lv_aload_n hx hb dX3_add_48 rfl (lv_at hl 2 rfl) ?_
      refine gC_T_heardStrokes F hw hi_x2 tw2_108 (fun _ h => h) dX3_add_49 ?_
      obtain ⟨g10, h⟩ := h
      obtain ⟨g11, h⟩ := h
      obtain ⟨μ12, eμ12⟩ : ∃ z : MM, z = ms μ9 13 0 (60 * i + (μ9 4 4 i)) (μ9 2 12 x2) := ⟨_, rfl⟩
      have h := h μ12 eμ12
      refine aC_13_st hx hb hw hS hi_i g10 g11 eμ12 dX3_add_52 (fun H locs hw hS => ?_)
      refine lv_aload_n hx hb dX3_add_53 rfl (lv_at hl 0 rfl) ?_
      refine gC_L_hammers F hw hi_i tw1_145 dX3_add_54 ?_
      refine lv_aload_n hx hb dX3_add_57 rfl (lv_at hl 0 rfl) ?_
      refine gC_L_next F hw hi_i tw1_146 dX3_add_58 ?_
      refine lv_aload_n hx hb dX3_add_61 rfl (lv_at hl 2 rfl) ?_
      refine gC_T_heardHammers F hw hi_x2 tw2_111 (fun _ h => h) dX3_add_62 ?_
      obtain ⟨g13, h⟩ := h
      obtain ⟨g14, h⟩ := h
      obtain ⟨μ15, eμ15⟩ : ∃ z : MM, z = ms μ12 14 0 (60 * i + (μ12 4 4 i)) (μ12 2 13 x2) := ⟨_, rfl⟩
      have h := h μ15 eμ15
      refine aC_14_st hx hb hw hS hi_i g13 g14 eμ15 dX3_add_65 (fun H locs hw hS => ?_)
      refine lv_aload_n hx hb dX3_add_66 rfl (lv_at hl 0 rfl) ?_
      refine lv_aload_n hx hb dX3_add_67 rfl (lv_at hl 0 rfl) ?_
      refine gC_L_next F hw hi_i tw1_146 dX3_add_68 ?_
      refine q_iconst hx hb dX3_add_71 ?_
      refine q_iadd hx hb dX3_add_72 ?_
      refine q_bipush hx hb (by decide) dX3_add_73 ?_
      obtain ⟨g16, h⟩ := h
      refine q_icmp_ge (tgt := 87) hx hb g16 (by decide) dX3_add_75 (by decide) (fun c17 => ?_) (fun c17 => ?_)
      · have h := ite_t c17 h
        refine q_iconst hx hb dX3_add_87 ?_
        exact wX3_add_J88 F hA hR ret h hi_i hi_i hw hS (lv_sub hl [0] rfl)
      · have h := ite_f c17 h
        refine lv_aload_n hx hb dX3_add_78 rfl (lv_at hl 0 rfl) ?_
        refine gC_L_next F hw hi_i tw1_146 dX3_add_79 ?_
        refine q_iconst hx hb dX3_add_82 ?_
        refine q_iadd hx hb dX3_add_83 ?_
        refine lv_goto (tgt := 88) hx hb dX3_add_84 (by decide) ?_
        exact wX3_add_J88 F hA hR ret h hi_i hi_i hw hS (lv_sub hl [0] rfl)
    · have h := ite_f c3 h
      exact ret _ _ _ _ _ h hw hS dX3_add_16
set_option maxRecDepth 100000 in
set_option maxHeartbeats 4000000 in
theorem kX3_add {l : Launch} {D : va_G} {cy : Nat → ClassId} {ad : AD} {A : Nat → Prop} {G : GG} {i : Int} {x1 : Int} {x2 : Int} {μ : MM} {Q : Int → MM → Prop} (h : wpX3_add G i x1 x2 μ Q) (hi_i : 0 ≤ i ∧ i < 4) (hi_x2 : 0 ≤ x2 ∧ x2 < G 0 0) : Met l yX3_add (Cond.code yX3_add cX3_add 3 none :: uw) (rmm 1 21) (wPc [.ref (ad 4 i), .int (iI x1), .ref (ad 2 x2)] (dmC G) (cfC G) tyC (exC G) D cy ad A μ) (wQ vV Q (dmC G) (cfC G) D cy ad A) 0 0 A :=
  met_of (by decide) (Nat.le_of_ble_eq_true rfl) (fun p e R s m args below meth c ls hr hk hRR F hA hw hS hl => wX3_add F hA (by subst hRR; exact ⟨Nat.le_refl _, Nat.le_refl _⟩) (retV_of F hr hk) h hi_i hi_x2 hw hS hl)
theorem hdX3_add : yX3_add.cls ≠ "java/lang/invoke/MethodHandle" ∧ yX3_add.cls ≠ "java/lang/invoke/VarHandle" ∧ (parseMethodDescriptor yX3_add.desc).map (fun d => d.parameters.length) = some 2 := by decide +kernel
def wpX8_liftHour (G : GG) (i : Int) (μ : MM) (Q : Int → MM → Prop) : Prop := if μ 3 6 i < 0 then (Q 0 μ) else (μ 3 6 i < G 0 0 ∧ (wpX8_silenceNow G i μ (fun v4 μ5 => rg v4 ∧ (if v4 = 2 then (Q 0 μ5) else (0 ≤ (μ5 3 6 i) ∧ (μ5 3 6 i < G 0 0 ∧ (wpX8_letOffByHands G i (μ5 3 6 i) 0 μ5 (fun v10 μ11 => Q 0 μ11))))))))
set_option maxRecDepth 100000 in
set_option maxHeartbeats 4000000 in
theorem wX8_liftHour {G : GG} {Q : Int → MM → Prop} {i : Int} {μ : MM} {H : Heap} {locs : List Loc} {ls : Array Slot} (F : CallFix p m c cX8_liftHour 1 s args uw RX8) (hA : ∀ q : Nat, s.heap.size ≤ q → A q) (hR : 3 ≤ R.frames ∧ 69 ≤ R.locals) (ret : RetV p l e R s m args below meth c cX8_liftHour Qf (dmC G) (cfC G) tyC (exC G) D cy ad A Q) (h : wpX8_liftHour G i μ Q) (hi_i : 0 ≤ i ∧ i < 4) (hw : wdC G D cy ad A μ s H) (hS : va_S A s.heap H locs) (hl : lv_has ls 1 [(0, .ref (ad 3 i))]) : W p l e R s m args below meth c H locs 0 0 Qf (F0 m 0 ls []) := by
  have hx := F.1
  have hb := F.2.1
  have hown := F.2.2.2.1
  have hts := F.2.2.2.2
  refine lv_aload_n hx hb dX8_liftHour_0 rfl (lv_at hl 0 rfl) ?_
  refine gC_W_hourTrain F hw hi_i tw1_174 dX8_liftHour_1 ?_
  refine q_ifnull (tgt := 24) hx hb dX8_liftHour_4 (by decide) (fun c1 => ?_) (fun c1 => ?_)
  · have h := ite_t c1 h
    exact ret _ _ _ _ _ h hw hS dX8_liftHour_24
  · have h := ite_f c1 h
    obtain ⟨g2, h⟩ := h
    have hi3 : 0 ≤ μ 3 6 i ∧ μ 3 6 i < G 0 0 := ⟨by omega, g2⟩
    refine lv_aload_n hx hb dX8_liftHour_7 rfl (lv_at hl 0 rfl) ?_
    refine call_V hexC F (kX8_silenceNow h hi_i) 0 tw3_162 tw1_6 tw3_160 tw3_161 tw3_159 hdX8_silenceNow ⟨Nat.le_trans (by decide) hR.1, Nat.le_trans (by decide) hR.2⟩ (hw.recv (k := 3) (i := i) hi_i rfl rfl) hA hw hS rfl hl.1 rfl (Nat.le_of_ble_eq_true rfl) dX8_liftHour_8 (fun v4 μ5 H locs h hw hS => ?_)
    refine q_iconst hx hb dX8_liftHour_11 ?_
    obtain ⟨g6, h⟩ := h
    refine q_icmp_eq (tgt := 24) hx hb g6 (by decide) dX8_liftHour_12 (by decide) (fun c7 => ?_) (fun c7 => ?_)
    · have h := ite_t c7 h
      exact ret _ _ _ _ _ h hw hS dX8_liftHour_24
    · have h := ite_f c7 h
      refine lv_aload_n hx hb dX8_liftHour_15 rfl (lv_at hl 0 rfl) ?_
      refine lv_aload_n hx hb dX8_liftHour_16 rfl (lv_at hl 0 rfl) ?_
      refine gC_W_hourTrain F hw hi_i tw1_174 dX8_liftHour_17 ?_
      refine q_iconst hx hb dX8_liftHour_20 ?_
      obtain ⟨g8, h⟩ := h
      obtain ⟨g9, h⟩ := h
      refine call_V hexC F (kX8_letOffByHands h hi_i (And.intro g8 g9)) 2 tw3_169 tw1_6 tw3_167 tw3_168 tw3_166 hdX8_letOffByHands ⟨Nat.le_trans (by decide) hR.1, Nat.le_trans (by decide) hR.2⟩ (hw.recv (k := 3) (i := i) hi_i rfl rfl) hA hw hS rfl hl.1 (by first | (rw [rf_pos (ad := ad) (k := 2) ((And.intro g8 g9)).1]; rfl) | (simp only [rf_pos (ad := ad) (k := 2) ((And.intro g8 g9)).1]; rfl)) (Nat.le_of_ble_eq_true rfl) dX8_liftHour_21 (fun v10 μ11 H locs h hw hS => ?_)
      exact ret _ _ _ _ _ h hw hS dX8_liftHour_24
set_option maxRecDepth 100000 in
set_option maxHeartbeats 4000000 in
theorem kX8_liftHour {l : Launch} {D : va_G} {cy : Nat → ClassId} {ad : AD} {A : Nat → Prop} {G : GG} {i : Int} {μ : MM} {Q : Int → MM → Prop} (h : wpX8_liftHour G i μ Q) (hi_i : 0 ≤ i ∧ i < 4) : Met l yX8_liftHour (Cond.code yX8_liftHour cX8_liftHour 1 none :: uw) (rmm 3 69) (wPc [.ref (ad 3 i)] (dmC G) (cfC G) tyC (exC G) D cy ad A μ) (wQ vV Q (dmC G) (cfC G) D cy ad A) 0 0 A :=
  met_of (by decide) (Nat.le_of_ble_eq_true rfl) (fun p e R s m args below meth c ls hr hk hRR F hA hw hS hl => wX8_liftHour F hA (by subst hRR; exact ⟨Nat.le_refl _, Nat.le_refl _⟩) (retV_of F hr hk) h hi_i hw hS hl)
theorem hdX8_liftHour : yX8_liftHour.cls ≠ "java/lang/invoke/MethodHandle" ∧ yX8_liftHour.cls ≠ "java/lang/invoke/VarHandle" ∧ (parseMethodDescriptor yX8_liftHour.desc).map (fun d => d.parameters.length) = some 0 := by decide +kernel
def wpX9_lift (G : GG) (i : Int) (μ : MM) (Q : Int → MM → Prop) : Prop := Q 1 μ
set_option maxRecDepth 100000 in
set_option maxHeartbeats 4000000 in
theorem wX9_lift {G : GG} {Q : Int → MM → Prop} {i : Int} {μ : MM} {H : Heap} {locs : List Loc} {ls : Array Slot} (F : CallFix p m c cX9_lift 1 s args uw RX9) (hA : ∀ q : Nat, s.heap.size ≤ q → A q) (hR : 0 ≤ R.frames ∧ 0 ≤ R.locals) (ret : RetI p l e R s m args below meth c cX9_lift Qf (dmC G) (cfC G) tyC (exC G) D cy ad A Q) (h : wpX9_lift G i μ Q) (hi_i : 0 ≤ i ∧ i < G 0 0) (hw : wdC G D cy ad A μ s H) (hS : va_S A s.heap H locs) (hl : lv_has ls 1 [(0, .ref (ad 2 i))]) : W p l e R s m args below meth c H locs 0 0 Qf (F0 m 0 ls []) := by
  have hx := F.1
  have hb := F.2.1
  have hown := F.2.2.2.1
  have hts := F.2.2.2.2
  refine q_iconst hx hb dX9_lift_0 ?_
  exact ret _ _ _ _ _ _ h hw hS dX9_lift_1
set_option maxRecDepth 100000 in
set_option maxHeartbeats 4000000 in
theorem kX9_lift {l : Launch} {D : va_G} {cy : Nat → ClassId} {ad : AD} {A : Nat → Prop} {G : GG} {i : Int} {μ : MM} {Q : Int → MM → Prop} (h : wpX9_lift G i μ Q) (hi_i : 0 ≤ i ∧ i < G 0 0) : Met l yX9_lift (Cond.code yX9_lift cX9_lift 1 (some .int) :: uw) (rmm 0 0) (wPc [.ref (ad 2 i)] (dmC G) (cfC G) tyC (exC G) D cy ad A μ) (wQ vI Q (dmC G) (cfC G) D cy ad A) 0 0 A :=
  met_of (by decide) (Nat.le_of_ble_eq_true rfl) (fun p e R s m args below meth c ls hr hk hRR F hA hw hS hl => wX9_lift F hA (by subst hRR; exact ⟨Nat.le_refl _, Nat.le_refl _⟩) (retI_of F hr hk) h hi_i hw hS hl)
theorem hdX9_lift : yX9_lift.cls ≠ "java/lang/invoke/MethodHandle" ∧ yX9_lift.cls ≠ "java/lang/invoke/VarHandle" ∧ (parseMethodDescriptor yX9_lift.desc).map (fun d => d.parameters.length) = some 0 := by decide +kernel
def wpD_lift (G : GG) (i : Int) (μ : MM) (Q : Int → MM → Prop) : Prop := if G 1 i = 0 then wpX9_lift G i μ Q else if G 1 i = 1 then wpX9_lift G i μ Q else if G 1 i = 2 then wpX9_lift G i μ Q else wpX0_lift G i μ Q
set_option maxRecDepth 100000 in
set_option maxHeartbeats 4000000 in
theorem dc_Train_lift {G : GG} {i : Int} {μ : MM} {Q : Int → MM → Prop} {H : Heap} {locs : List Loc} {cc : ByteArray} {pc nL idx : Nat} {ls : Array Slot} {rest st0 : List Value} {own : String} (F : CallFix p m c cc nL s args uw own) (hl : Cond.methodLink own idx yX9_lift ∈ uw) (h : wpD_lift G i μ Q) (hi : 0 ≤ i ∧ i < G 0 0) (hR : 1 ≤ R.frames ∧ 21 ≤ R.locals) (hA : ∀ q : Nat, s.heap.size ≤ q → A q) (hw : wdC G D cy ad A μ s H) (hS : va_S A s.heap H locs) (hsz : ls.size = nL) (hst0 : st0 = ([] : List Value).reverse ++ .ref (ad 2 i) :: rest) (hrm : (rest.map fun v => v.category).sum ≤ 8) (hdg : decode cc pc = .ok (.invokevirtual idx, 3)) (kk : ∀ (v : Int) (u : MM) (H1 : Heap) (locs1 : List Loc), Q v u → wdC G D cy ad A u s H1 → va_S A s.heap H1 locs1 → W p l e R s m args below meth c H1 locs1 0 0 Qf (F0 m (pc + 3) ls ((vI v).toList ++ rest))) : W p l e R s m args below meth c H locs 0 0 Qf (F0 m pc ls st0) := by
  have hG := (hw.2.1.2.1 i hi.1 hi.2).1
  rcases (show G 1 i = 0 ∨ G 1 i = 1 ∨ G 1 i = 2 ∨ G 1 i = 3 by omega) with q | q | q | q
  · have h := ite_t q h
    exact call_V hexC F (kX9_lift h hi) 0 tw4_11 tw1_11 tw4_3 tw4_4 hl hdX9_lift ⟨Nat.le_trans (by decide) hR.1, Nat.le_trans (by decide) hR.2⟩ (recvT hw hi (C := RX9) (Or.inl ⟨q, rfl⟩)) hA hw hS rfl hsz hst0 hrm hdg kk
  · have h := ite_f (show ¬ G 1 i = 0 by omega) h
    have h := ite_t q h
    exact call_U (owner := "HammerTowers$Train") (x := yX9_lift) hexC F (kX9_lift h hi) 0 tw4_11 tw1_11 tw4_3 tw4_9 hl tw4_5 tw4_3 tw4_11 (by decide +kernel) ⟨Nat.le_trans (by decide) hR.1, Nat.le_trans (by decide) hR.2⟩ (recvT hw hi (C := RX4) (Or.inr (Or.inl ⟨q, rfl⟩))) hA hw hS rfl hsz hst0 hrm hdg kk
  · have h := ite_f (show ¬ G 1 i = 0 by omega) h
    have h := ite_f (show ¬ G 1 i = 1 by omega) h
    have h := ite_t q h
    exact call_U (owner := "HammerTowers$Train") (x := yX9_lift) hexC F (kX9_lift h hi) 0 tw4_11 tw1_11 tw4_3 tw4_10 hl tw4_5 tw4_3 tw4_11 (by decide +kernel) ⟨Nat.le_trans (by decide) hR.1, Nat.le_trans (by decide) hR.2⟩ (recvT hw hi (C := RX7) (Or.inr (Or.inr (Or.inl ⟨q, rfl⟩)))) hA hw hS rfl hsz hst0 hrm hdg kk
  · have h := ite_f (show ¬ G 1 i = 0 by omega) h
    have h := ite_f (show ¬ G 1 i = 1 by omega) h
    have h := ite_f (show ¬ G 1 i = 2 by omega) h
    exact call_U (owner := "HammerTowers$Train") (x := yX9_lift) hexC F (kX0_lift h hi q) 0 tw4_8 tw1_15 tw4_7 tw4_6 hl tw4_5 tw4_3 tw4_11 (by decide +kernel) ⟨Nat.le_trans (by decide) hR.1, Nat.le_trans (by decide) hR.2⟩ (recvT hw hi (C := RX0) (Or.inr (Or.inr (Or.inr ⟨q, rfl⟩)))) hA hw hS rfl hsz hst0 hrm hdg kk
def wpX9_strike_J97 (G : GG) (k12 : Int → Int → Int → Int → MM → Prop) (Q : Int → MM → Prop) (i : Int) (x1 : Int) (x2 : Int) (x3 : Int) (μ : MM) : Prop := k12 i x1 x2 x3 μ
set_option maxRecDepth 100000 in
set_option maxHeartbeats 4000000 in
theorem wX9_strike_J97 {G : GG} {k12 : Int → Int → Int → Int → MM → Prop} {Q : Int → MM → Prop} {i : Int} {x1 : Int} {x2 : Int} {x3 : Int} {μ : MM} {H : Heap} {locs : List Loc} {ls : Array Slot} (F : CallFix p m c cX9_strike 5 s args uw RX9) (hA : ∀ q : Nat, s.heap.size ≤ q → A q) (hR : 1 ≤ R.frames ∧ 21 ≤ R.locals) (ret : RetI p l e R s m args below meth c cX9_strike Qf (dmC G) (cfC G) tyC (exC G) D cy ad A Q) (hk12 : ∀ (i' x1' x2' x3' : Int) (μ' : MM) (H : Heap) (locs : List Loc) (ls : Array Slot), k12 i' x1' x2' x3' μ' → 0 ≤ i' ∧ i' < G 0 0 → wdC G D cy ad A μ' s H → va_S A s.heap H locs → lv_has ls 5 [(0, .ref (ad 2 (i'))), (1, .int (iI (x1'))), (2, .int (iI (x2'))), (3, .int (iI (x3')))] → W p l e R s m args below meth c H locs 0 0 Qf (F0 m 12 ls [])) (h : wpX9_strike_J97 G k12 Q i x1 x2 x3 μ) (hi_i : 0 ≤ i ∧ i < G 0 0) (hw : wdC G D cy ad A μ s H) (hS : va_S A s.heap H locs) (hl : lv_has ls 5 [(0, .ref (ad 2 i)), (1, .int (iI x1)), (2, .int (iI x2)), (3, .int (iI x3))]) : W p l e R s m args below meth c H locs 0 0 Qf (F0 m 97 ls []) := by
  have hx := F.1
  have hb := F.2.1
  have hown := F.2.2.2.1
  have hts := F.2.2.2.2
  refine lv_goto (tgt := 12) hx hb dX9_strike_97 (by decide) ?_
  exact hk12 i x1 x2 x3 _ _ _ _ h hi_i hw hS (lv_sub hl [0, 1, 2, 3] rfl)
def wpX9_strike_J100 (G : GG) (Q : Int → MM → Prop) (i : Int) (x3 : Int) (μ : MM) : Prop := ∀ μ1 : MM, μ1 = ms μ 2 8 i ((μ 2 8 i) + x3) → (Q x3 μ1)
set_option maxRecDepth 100000 in
set_option maxHeartbeats 4000000 in
theorem wX9_strike_J100 {G : GG} {Q : Int → MM → Prop} {i : Int} {x3 : Int} {μ : MM} {H : Heap} {locs : List Loc} {ls : Array Slot} (F : CallFix p m c cX9_strike 5 s args uw RX9) (hA : ∀ q : Nat, s.heap.size ≤ q → A q) (hR : 1 ≤ R.frames ∧ 21 ≤ R.locals) (ret : RetI p l e R s m args below meth c cX9_strike Qf (dmC G) (cfC G) tyC (exC G) D cy ad A Q) (h : wpX9_strike_J100 G Q i x3 μ) (hi_i : 0 ≤ i ∧ i < G 0 0) (hw : wdC G D cy ad A μ s H) (hS : va_S A s.heap H locs) (hl : lv_has ls 5 [(0, .ref (ad 2 i)), (3, .int (iI x3))]) : W p l e R s m args below meth c H locs 0 0 Qf (F0 m 100 ls []) := by
  have hx := F.1
  have hb := F.2.1
  have hown := F.2.2.2.1
  have hts := F.2.2.2.2
  refine lv_aload_n hx hb dX9_strike_100 rfl (lv_at hl 0 rfl) ?_
  refine lv_dup hx hb dX9_strike_101 rfl ?_
  refine gC_T_struck F hw hi_i tw2_95 (fun _ h => h) dX9_strike_102 ?_
  refine lv_iload_n hx hb dX9_strike_105 rfl (lv_at hl 1 rfl) ?_
  refine q_iadd hx hb dX9_strike_106 ?_
  obtain ⟨μ1, eμ1⟩ : ∃ z : MM, z = ms μ 2 8 i ((μ 2 8 i) + x3) := ⟨_, rfl⟩
  have h := h μ1 eμ1
  refine pC_T_struck F hw hS hi_i tw2_95 (fun _ h => h) eμ1 dX9_strike_107 (fun H locs hw hS => ?_)
  refine lv_iload_n hx hb dX9_strike_110 rfl (lv_at hl 1 rfl) ?_
  exact ret _ _ _ _ _ _ h hw hS dX9_strike_111
def wpX9_strike_L12 (G : GG) (Q : Int → MM → Prop) : Nat → Int → Int → Int → Int → MM → Prop
  | 0, _, _, _, _, _ => False
  | n + 1, i, x1, x2, x3, μ => rg x3 ∧ (rg x1 ∧ (if x1 ≤ x3 then (wpX9_strike_J100 G Q i x3 μ) else (rg (μ 2 7 i) ∧ (if (μ 2 7 i) ≤ 0 then (wpX9_strike_J100 G Q i x3 μ) else (rg (μ 2 5 i) ∧ (if (μ 2 5 i) ≤ 0 then (wpX9_strike_J100 G Q i x3 μ) else (∀ μ8 : MM, μ8 = ms μ 2 7 i ((μ 2 7 i) - 1) → (∀ μ9 : MM, μ9 = ms μ8 2 5 i ((μ8 2 5 i) - 1) → (wpD_lift G i μ9 (fun v10 μ11 => ∀ y12 : Int, y12 = iand v10 (ixor (μ11 2 6 i) (-1)) → (rg y12 ∧ (if y12 = 0 then (wpX9_strike_J97 G (fun i' x1' x2' x3' μ' => wpX9_strike_L12 G Q n i' x1' x2' x3' μ') Q i x1 x2 (x3 + 1) μ11) else (rg x2 ∧ (if x2 = 0 then (∀ μ17 : MM, μ17 = ms μ11 2 12 i ((μ11 2 12 i) + 1) → (∀ μ18 : MM, μ18 = ms μ17 2 13 i (ior (μ17 2 13 i) y12) → (wpX9_strike_J97 G (fun i' x1' x2' x3' μ' => wpX9_strike_L12 G Q n i' x1' x2' x3' μ') Q i x1 x2 (x3 + 1) μ18))) else (wpX9_strike_J97 G (fun i' x1' x2' x3' μ' => wpX9_strike_L12 G Q n i' x1' x2' x3' μ') Q i x1 x2 (x3 + 1) μ11)))))))))))))))
set_option maxRecDepth 100000 in
set_option maxHeartbeats 4000000 in
theorem wX9_strike_L12 {G : GG} {Q : Int → MM → Prop} (F : CallFix p m c cX9_strike 5 s args uw RX9) (hA : ∀ q : Nat, s.heap.size ≤ q → A q) (hR : 1 ≤ R.frames ∧ 21 ≤ R.locals) (ret : RetI p l e R s m args below meth c cX9_strike Qf (dmC G) (cfC G) tyC (exC G) D cy ad A Q) : ∀ (n : Nat) (i x1 x2 x3 : Int) (μ : MM) (H : Heap) (locs : List Loc) (ls : Array Slot), wpX9_strike_L12 G Q n i x1 x2 x3 μ → 0 ≤ i ∧ i < G 0 0 → wdC G D cy ad A μ s H → va_S A s.heap H locs → lv_has ls 5 [(0, .ref (ad 2 i)), (1, .int (iI x1)), (2, .int (iI x2)), (3, .int (iI x3))] → W p l e R s m args below meth c H locs 0 0 Qf (F0 m 12 ls []) := by
  have hx := F.1
  have hb := F.2.1
  have hown := F.2.2.2.1
  have hts := F.2.2.2.2
  intro n
  induction n with
  | zero =>
    intro i x1 x2 x3 μ H locs ls h hi_i hw hS hl
    exact h.elim
  | succ n ih =>
    intro i x1 x2 x3 μ H locs ls h hi_i hw hS hl
    refine lv_iload_n hx hb dX9_strike_12 rfl (lv_at hl 3 rfl) ?_
    refine lv_iload_n hx hb dX9_strike_13 rfl (lv_at hl 1 rfl) ?_
    obtain ⟨g1, h⟩ := h
    obtain ⟨g2, h⟩ := h
    refine q_icmp_ge (tgt := 100) hx hb g1 g2 dX9_strike_14 (by decide) (fun c3 => ?_) (fun c3 => ?_)
    · have h := ite_t c3 h
      exact wX9_strike_J100 F hA hR ret h hi_i hw hS (lv_sub hl [0, 3] rfl)
    · have h := ite_f c3 h
      refine lv_aload_n hx hb dX9_strike_17 rfl (lv_at hl 0 rfl) ?_
      refine gC_T_due F hw hi_i tw2_90 (fun _ h => h) dX9_strike_18 ?_
      obtain ⟨g4, h⟩ := h
      refine q_if_le (tgt := 100) hx hb g4 dX9_strike_21 (by decide) (fun c5 => ?_) (fun c5 => ?_)
      · have h := ite_t c5 h
        exact wX9_strike_J100 F hA hR ret h hi_i hw hS (lv_sub hl [0, 3] rfl)
      · have h := ite_f c5 h
        refine lv_aload_n hx hb dX9_strike_24 rfl (lv_at hl 0 rfl) ?_
        refine gC_T_weight F hw hi_i tw2_84 (fun _ h => h) dX9_strike_25 ?_
        obtain ⟨g6, h⟩ := h
        refine q_if_le (tgt := 100) hx hb g6 dX9_strike_28 (by decide) (fun c7 => ?_) (fun c7 => ?_)
        · have h := ite_t c7 h
          exact wX9_strike_J100 F hA hR ret h hi_i hw hS (lv_sub hl [0, 3] rfl)
        · have h := ite_f c7 h
          refine q_iinc (k := 3) (lv' := [(3, .int (iI (x3 + 1))), (0, .ref (ad 2 i)), (1, .int (iI x1)), (2, .int (iI x2))]) hx hb dX9_strike_31 hl rfl (by decide) rfl (fun ls hl => ?_)
          refine lv_aload_n hx hb dX9_strike_34 rfl (lv_at hl 1 rfl) ?_
          refine lv_dup hx hb dX9_strike_35 rfl ?_
          refine gC_T_due F hw hi_i tw2_90 (fun _ h => h) dX9_strike_36 ?_
          refine q_iconst hx hb dX9_strike_39 ?_
          refine q_isub hx hb dX9_strike_40 ?_
          obtain ⟨μ8, eμ8⟩ : ∃ z : MM, z = ms μ 2 7 i ((μ 2 7 i) - 1) := ⟨_, rfl⟩
          have h := h μ8 eμ8
          refine pC_T_due F hw hS hi_i tw2_90 (fun _ h => h) eμ8 dX9_strike_41 (fun H locs hw hS => ?_)
          refine lv_aload_n hx hb dX9_strike_44 rfl (lv_at hl 1 rfl) ?_
          refine lv_dup hx hb dX9_strike_45 rfl ?_
          refine gC_T_weight F hw hi_i tw2_84 (fun _ h => h) dX9_strike_46 ?_
          refine q_iconst hx hb dX9_strike_49 ?_
          refine q_isub hx hb dX9_strike_50 ?_
          obtain ⟨μ9, eμ9⟩ : ∃ z : MM, z = ms μ8 2 5 i ((μ8 2 5 i) - 1) := ⟨_, rfl⟩
          have h := h μ9 eμ9
          refine pC_T_weight F hw hS hi_i tw2_84 (fun _ h => h) eμ9 dX9_strike_51 (fun H locs hw hS => ?_)
          refine lv_aload_n hx hb dX9_strike_54 rfl (lv_at hl 1 rfl) ?_
          refine dc_Train_lift F tw4_2 h hi_i ⟨Nat.le_trans (by decide) hR.1, Nat.le_trans (by decide) hR.2⟩ hA hw hS hl.1 rfl (Nat.le_of_ble_eq_true rfl) dX9_strike_55 (fun v10 μ11 H locs h hw hS => ?_)
          refine lv_aload_n hx hb dX9_strike_58 rfl (lv_at hl 1 rfl) ?_
          refine gC_T_broken F hw hi_i tw2_86 (fun _ h => h) dX9_strike_59 ?_
          refine q_iconst hx hb dX9_strike_62 ?_
          refine q_ixor hx hb dX9_strike_63 ?_
          refine q_iand hx hb dX9_strike_64 ?_
          obtain ⟨y12, ey12⟩ : ∃ z : Int, z = iand v10 (ixor (μ11 2 6 i) (-1)) := ⟨_, rfl⟩
          have h := h y12 ey12
          refine q_nmI ey12 ?_
          refine lv_istore (lv' := [(4, .int (iI y12)), (3, .int (iI (x3 + 1))), (0, .ref (ad 2 i)), (1, .int (iI x1)), (2, .int (iI x2))]) hx hb dX9_strike_65 hl (by decide) rfl (fun ls hl => ?_)
          refine lv_iload hx hb dX9_strike_67 (lv_at hl 0 rfl) ?_
          obtain ⟨g13, h⟩ := h
          refine q_if_eq (tgt := 97) hx hb g13 dX9_strike_69 (by decide) (fun c14 => ?_) (fun c14 => ?_)
          · have h := ite_t c14 h
            exact wX9_strike_J97 F hA hR ret (fun i x1 x2 x3 => ih i x1 x2 x3) h hi_i hw hS (lv_sub hl [2, 3, 4, 1] rfl)
          · have h := ite_f c14 h
            refine lv_iload_n hx hb dX9_strike_72 rfl (lv_at hl 4 rfl) ?_
            obtain ⟨g15, h⟩ := h
            refine q_if_ne (tgt := 97) hx hb g15 dX9_strike_73 (by decide) (fun c16 => ?_) (fun c16 => ?_)
            · have h := ite_f c16 h
              exact wX9_strike_J97 F hA hR ret (fun i x1 x2 x3 => ih i x1 x2 x3) h hi_i hw hS (lv_sub hl [2, 3, 4, 1] rfl)
            · have h := ite_t c16 h
              refine lv_aload_n hx hb dX9_strike_76 rfl (lv_at hl 2 rfl) ?_
              refine lv_dup hx hb dX9_strike_77 rfl ?_
              refine gC_T_heardStrokes F hw hi_i tw2_109 (fun _ h => h) dX9_strike_78 ?_
              refine q_iconst hx hb dX9_strike_81 ?_
              refine q_iadd hx hb dX9_strike_82 ?_
              obtain ⟨μ17, eμ17⟩ : ∃ z : MM, z = ms μ11 2 12 i ((μ11 2 12 i) + 1) := ⟨_, rfl⟩
              have h := h μ17 eμ17
              refine pC_T_heardStrokes F hw hS hi_i tw2_109 (fun _ h => h) eμ17 dX9_strike_83 (fun H locs hw hS => ?_)
              refine lv_aload_n hx hb dX9_strike_86 rfl (lv_at hl 2 rfl) ?_
              refine lv_dup hx hb dX9_strike_87 rfl ?_
              refine gC_T_heardHammers F hw hi_i tw2_112 (fun _ h => h) dX9_strike_88 ?_
              refine lv_iload hx hb dX9_strike_91 (lv_at hl 0 rfl) ?_
              refine q_ior hx hb dX9_strike_93 ?_
              obtain ⟨μ18, eμ18⟩ : ∃ z : MM, z = ms μ17 2 13 i (ior (μ17 2 13 i) y12) := ⟨_, rfl⟩
              have h := h μ18 eμ18
              refine pC_T_heardHammers F hw hS hi_i tw2_112 (fun _ h => h) eμ18 dX9_strike_94 (fun H locs hw hS => ?_)
              exact wX9_strike_J97 F hA hR ret (fun i x1 x2 x3 => ih i x1 x2 x3) h hi_i hw hS (lv_sub hl [2, 3, 4, 1] rfl)
def wpX9_strike (G : GG) (i : Int) (x1 : Int) (x2 : Int) (μ : MM) (Q : Int → MM → Prop) : Prop := ∀ μ1 : MM, μ1 = ms μ 2 12 i 0 → (∀ μ2 : MM, μ2 = ms μ1 2 13 i 0 → (∃ n3 : Nat, wpX9_strike_L12 G Q n3 i x1 x2 0 μ2))
set_option maxRecDepth 100000 in
set_option maxHeartbeats 4000000 in
theorem wX9_strike {G : GG} {Q : Int → MM → Prop} {i : Int} {x1 : Int} {x2 : Int} {μ : MM} {H : Heap} {locs : List Loc} {ls : Array Slot} (F : CallFix p m c cX9_strike 5 s args uw RX9) (hA : ∀ q : Nat, s.heap.size ≤ q → A q) (hR : 1 ≤ R.frames ∧ 21 ≤ R.locals) (ret : RetI p l e R s m args below meth c cX9_strike Qf (dmC G) (cfC G) tyC (exC G) D cy ad A Q) (h : wpX9_strike G i x1 x2 μ Q) (hi_i : 0 ≤ i ∧ i < G 0 0) (hw : wdC G D cy ad A μ s H) (hS : va_S A s.heap H locs) (hl : lv_has ls 5 [(0, .ref (ad 2 i)), (1, .int (iI x1)), (2, .int (iI x2))]) : W p l e R s m args below meth c H locs 0 0 Qf (F0 m 0 ls []) := by
  have hx := F.1
  have hb := F.2.1
  have hown := F.2.2.2.1
  have hts := F.2.2.2.2
  refine lv_aload_n hx hb dX9_strike_0 rfl (lv_at hl 0 rfl) ?_
  refine q_iconst hx hb dX9_strike_1 ?_
  obtain ⟨μ1, eμ1⟩ : ∃ z : MM, z = ms μ 2 12 i 0 := ⟨_, rfl⟩
  have h := h μ1 eμ1
  refine pC_T_heardStrokes F hw hS hi_i tw2_109 (fun _ h => h) eμ1 dX9_strike_2 (fun H locs hw hS => ?_)
  refine lv_aload_n hx hb dX9_strike_5 rfl (lv_at hl 0 rfl) ?_
  refine q_iconst hx hb dX9_strike_6 ?_
  obtain ⟨μ2, eμ2⟩ : ∃ z : MM, z = ms μ1 2 13 i 0 := ⟨_, rfl⟩
  have h := h μ2 eμ2
  refine pC_T_heardHammers F hw hS hi_i tw2_112 (fun _ h => h) eμ2 dX9_strike_7 (fun H locs hw hS => ?_)
  refine q_iconst hx hb dX9_strike_10 ?_
  refine lv_istore_n (lv' := [(3, .int (iI 0)), (0, .ref (ad 2 i)), (1, .int (iI x1)), (2, .int (iI x2))]) hx hb dX9_strike_11 rfl hl (by decide) rfl (fun ls hl => ?_)
  obtain ⟨n3, h⟩ := h
  exact wX9_strike_L12 F hA hR ret n3 i x1 x2 0 _ _ _ _ h hi_i hw hS (lv_sub hl [1, 2, 3, 0] rfl)
set_option maxRecDepth 100000 in
set_option maxHeartbeats 4000000 in
theorem kX9_strike {l : Launch} {D : va_G} {cy : Nat → ClassId} {ad : AD} {A : Nat → Prop} {G : GG} {i : Int} {x1 : Int} {x2 : Int} {μ : MM} {Q : Int → MM → Prop} (h : wpX9_strike G i x1 x2 μ Q) (hi_i : 0 ≤ i ∧ i < G 0 0) : Met l yX9_strike (Cond.code yX9_strike cX9_strike 5 (some .int) :: uw) (rmm 1 21) (wPc [.ref (ad 2 i), .int (iI x1), .int (iI x2)] (dmC G) (cfC G) tyC (exC G) D cy ad A μ) (wQ vI Q (dmC G) (cfC G) D cy ad A) 0 0 A :=
  met_of (by decide) (Nat.le_of_ble_eq_true rfl) (fun p e R s m args below meth c ls hr hk hRR F hA hw hS hl => wX9_strike F hA (by subst hRR; exact ⟨Nat.le_refl _, Nat.le_refl _⟩) (retI_of F hr hk) h hi_i hw hS hl)
theorem hdX9_strike : yX9_strike.cls ≠ "java/lang/invoke/MethodHandle" ∧ yX9_strike.cls ≠ "java/lang/invoke/VarHandle" ∧ (parseMethodDescriptor yX9_strike.desc).map (fun d => d.parameters.length) = some 2 := by decide +kernel
set_option maxRecDepth 100000 in
set_option maxHeartbeats 4000000 in
theorem dc_Train_strike {G : GG} {i x1 x2 : Int} {μ : MM} {Q : Int → MM → Prop} {H : Heap} {locs : List Loc} {cc : ByteArray} {pc nL idx : Nat} {ls : Array Slot} {rest st0 : List Value} {own : String} (F : CallFix p m c cc nL s args uw own) (hl : Cond.methodLink own idx yX9_strike ∈ uw) (h : wpX9_strike G i x1 x2 μ Q) (hi : 0 ≤ i ∧ i < G 0 0) (hR : 2 ≤ R.frames ∧ 45 ≤ R.locals) (hA : ∀ q : Nat, s.heap.size ≤ q → A q) (hw : wdC G D cy ad A μ s H) (hS : va_S A s.heap H locs) (hsz : ls.size = nL) (hst0 : st0 = ([.int (iI x1), .int (iI x2)] : List Value).reverse ++ .ref (ad 2 i) :: rest) (hrm : (rest.map fun v => v.category).sum ≤ 8) (hdg : decode cc pc = .ok (.invokevirtual idx, 3)) (kk : ∀ (v : Int) (u : MM) (H1 : Heap) (locs1 : List Loc), Q v u → wdC G D cy ad A u s H1 → va_S A s.heap H1 locs1 → W p l e R s m args below meth c H1 locs1 0 0 Qf (F0 m (pc + 3) ls ((vI v).toList ++ rest))) : W p l e R s m args below meth c H locs 0 0 Qf (F0 m pc ls st0) := by
  have hG := (hw.2.1.2.1 i hi.1 hi.2).1
  rcases (show G 1 i = 0 ∨ G 1 i = 1 ∨ G 1 i = 2 ∨ G 1 i = 3 by omega) with q | q | q | q
  · exact call_V hexC F (kX9_strike h hi) 2 tw4_1 tw1_11 tw3_235 tw3_236 hl hdX9_strike ⟨Nat.le_trans (by decide) hR.1, Nat.le_trans (by decide) hR.2⟩ (recvT hw hi (C := RX9) (Or.inl ⟨q, rfl⟩)) hA hw hS rfl hsz hst0 hrm hdg kk
  · exact call_U (owner := "HammerTowers$Train") (x := yX9_strike) hexC F (kX9_strike h hi) 2 tw4_1 tw1_11 tw3_235 tw3_239 hl tw3_237 tw3_235 tw4_1 (by decide +kernel) ⟨Nat.le_trans (by decide) hR.1, Nat.le_trans (by decide) hR.2⟩ (recvT hw hi (C := RX4) (Or.inr (Or.inl ⟨q, rfl⟩))) hA hw hS rfl hsz hst0 hrm hdg kk
  · exact call_U (owner := "HammerTowers$Train") (x := yX9_strike) hexC F (kX9_strike h hi) 2 tw4_1 tw1_11 tw3_235 tw4_0 hl tw3_237 tw3_235 tw4_1 (by decide +kernel) ⟨Nat.le_trans (by decide) hR.1, Nat.le_trans (by decide) hR.2⟩ (recvT hw hi (C := RX7) (Or.inr (Or.inr (Or.inl ⟨q, rfl⟩)))) hA hw hS rfl hsz hst0 hrm hdg kk
  · exact call_U (owner := "HammerTowers$Train") (x := yX9_strike) hexC F (kX9_strike h hi) 2 tw4_1 tw1_11 tw3_235 tw3_238 hl tw3_237 tw3_235 tw4_1 (by decide +kernel) ⟨Nat.le_trans (by decide) hR.1, Nat.le_trans (by decide) hR.2⟩ (recvT hw hi (C := RX0) (Or.inr (Or.inr (Or.inr ⟨q, rfl⟩)))) hA hw hS rfl hsz hst0 hrm hdg kk
def wpX8_run_J45 (G : GG) (Q : Int → MM → Prop) (i : Int) (x1 : Int) (x4 : Int) (μ : MM) : Prop := rg (μ 2 7 x1) ∧ (if (μ 2 7 x1) = 0 then (μ 3 7 i < G 0 0 ∧ (if x1 = (μ 3 7 i) then (rg (μ 2 11 x1) ∧ (if (μ 2 11 x1) = 0 then (Q x4 μ) else (wpX8_liftHour G i μ (fun v7 μ8 => Q x4 μ8)))) else (Q x4 μ))) else (Q x4 μ))
set_option maxRecDepth 100000 in
set_option maxHeartbeats 4000000 in
theorem wX8_run_J45 {G : GG} {Q : Int → MM → Prop} {i : Int} {x1 : Int} {x4 : Int} {μ : MM} {H : Heap} {locs : List Loc} {ls : Array Slot} (F : CallFix p m c cX8_run 5 s args uw RX8) (hA : ∀ q : Nat, s.heap.size ≤ q → A q) (hR : 4 ≤ R.frames ∧ 89 ≤ R.locals) (ret : RetI p l e R s m args below meth c cX8_run Qf (dmC G) (cfC G) tyC (exC G) D cy ad A Q) (h : wpX8_run_J45 G Q i x1 x4 μ) (hi_i : 0 ≤ i ∧ i < 4) (hi_x1 : 0 ≤ x1 ∧ x1 < G 0 0) (hw : wdC G D cy ad A μ s H) (hS : va_S A s.heap H locs) (hl : lv_has ls 5 [(0, .ref (ad 3 i)), (1, .ref (ad 2 x1)), (4, .int (iI x4))]) : W p l e R s m args below meth c H locs 0 0 Qf (F0 m 45 ls []) := by
  have hx := F.1
  have hb := F.2.1
  have hown := F.2.2.2.1
  have hts := F.2.2.2.2
  refine lv_aload_n hx hb dX8_run_45 rfl (lv_at hl 1 rfl) ?_
  refine gC_T_due F hw hi_x1 tw2_94 (fun _ h => h) dX8_run_46 ?_
  obtain ⟨g1, h⟩ := h
  refine q_if_ne (tgt := 71) hx hb g1 dX8_run_49 (by decide) (fun c2 => ?_) (fun c2 => ?_)
  · have h := ite_f c2 h
    refine lv_iload hx hb dX8_run_71 (lv_at hl 2 rfl) ?_
    exact ret _ _ _ _ _ _ h hw hS dX8_run_73
  · have h := ite_t c2 h
    refine lv_aload_n hx hb dX8_run_52 rfl (lv_at hl 1 rfl) ?_
    refine lv_aload_n hx hb dX8_run_53 rfl (lv_at hl 0 rfl) ?_
    refine gC_W_quarterTrain F hw hi_i tw1_175 dX8_run_54 ?_
    obtain ⟨g4, h⟩ := h
    refine acmp_T (tgt := 71) hx hb hw hi_x1 g4 dX8_run_57 (by decide) (fun c3 => ?_) (fun c3 => ?_)
    · have h := ite_f c3 h
      refine lv_iload hx hb dX8_run_71 (lv_at hl 2 rfl) ?_
      exact ret _ _ _ _ _ _ h hw hS dX8_run_73
    · have h := ite_t c3 h
      refine lv_aload_n hx hb dX8_run_60 rfl (lv_at hl 1 rfl) ?_
      refine gC_T_lifts F hw hi_x1 tw2_107 (fun _ h => h) dX8_run_61 ?_
      obtain ⟨g5, h⟩ := h
      refine q_if_eq (tgt := 71) hx hb g5 dX8_run_64 (by decide) (fun c6 => ?_) (fun c6 => ?_)
      · have h := ite_t c6 h
        refine lv_iload hx hb dX8_run_71 (lv_at hl 2 rfl) ?_
        exact ret _ _ _ _ _ _ h hw hS dX8_run_73
      · have h := ite_f c6 h
        refine lv_aload_n hx hb dX8_run_67 rfl (lv_at hl 0 rfl) ?_
        refine call_V hexC F (kX8_liftHour h hi_i) 0 tw4_22 tw1_6 tw4_21 tws1_7 tw4_19 hdX8_liftHour ⟨Nat.le_trans (by decide) hR.1, Nat.le_trans (by decide) hR.2⟩ (hw.recv (k := 3) (i := i) hi_i rfl rfl) hA hw hS rfl hl.1 rfl (Nat.le_of_ble_eq_true rfl) dX8_run_68 (fun v7 μ8 H locs h hw hS => ?_)
        refine lv_iload hx hb dX8_run_71 (lv_at hl 2 rfl) ?_
        exact ret _ _ _ _ _ _ h hw hS dX8_run_73
def wpX8_run_J24 (G : GG) (Q : Int → MM → Prop) (i : Int) (x1 : Int) (x3 : Int) (t0 : Int) (t1 : Int) (t2 : Int) (μ : MM) : Prop := wpX9_strike G t0 t1 t2 μ (fun v1 μ2 => rg (μ2 2 12 x1) ∧ (if (μ2 2 12 x1) ≤ 0 then (wpX8_run_J45 G Q i x1 v1 μ2) else (wpX3_add G i x3 x1 μ2 (fun v5 μ6 => wpX8_run_J45 G Q i x1 v1 μ6))))
set_option maxRecDepth 100000 in
set_option maxHeartbeats 4000000 in
theorem wX8_run_J24 {G : GG} {Q : Int → MM → Prop} {i : Int} {x1 : Int} {x3 : Int} {t0 : Int} {t1 : Int} {t2 : Int} {μ : MM} {H : Heap} {locs : List Loc} {ls : Array Slot} (F : CallFix p m c cX8_run 5 s args uw RX8) (hA : ∀ q : Nat, s.heap.size ≤ q → A q) (hR : 4 ≤ R.frames ∧ 89 ≤ R.locals) (ret : RetI p l e R s m args below meth c cX8_run Qf (dmC G) (cfC G) tyC (exC G) D cy ad A Q) (h : wpX8_run_J24 G Q i x1 x3 t0 t1 t2 μ) (hi_i : 0 ≤ i ∧ i < 4) (hi_x1 : 0 ≤ x1 ∧ x1 < G 0 0) (hi_t0 : 0 ≤ t0 ∧ t0 < G 0 0) (hw : wdC G D cy ad A μ s H) (hS : va_S A s.heap H locs) (hl : lv_has ls 5 [(0, .ref (ad 3 i)), (1, .ref (ad 2 x1)), (3, .int (iI x3))]) : W p l e R s m args below meth c H locs 0 0 Qf (F0 m 24 ls [.int (iI t2), .int (iI t1), .ref (ad 2 t0)]) := by
  have hx := F.1
  have hb := F.2.1
  have hown := F.2.2.2.1
  have hts := F.2.2.2.2
  refine dc_Train_strike F tw3_234 h hi_t0 ⟨Nat.le_trans (by decide) hR.1, Nat.le_trans (by decide) hR.2⟩ hA hw hS hl.1 rfl (Nat.le_of_ble_eq_true rfl) dX8_run_24 (fun v1 μ2 H locs h hw hS => ?_)
  refine lv_istore (lv' := [(4, .int (iI v1)), (0, .ref (ad 3 i)), (1, .ref (ad 2 x1)), (3, .int (iI x3))]) hx hb dX8_run_27 hl (by decide) rfl (fun ls hl => ?_)
  refine lv_aload_n hx hb dX8_run_29 rfl (lv_at hl 2 rfl) ?_
  refine gC_T_heardStrokes F hw hi_x1 tw2_110 (fun _ h => h) dX8_run_30 ?_
  obtain ⟨g3, h⟩ := h
  refine q_if_le (tgt := 45) hx hb g3 dX8_run_33 (by decide) (fun c4 => ?_) (fun c4 => ?_)
  · have h := ite_t c4 h
    exact wX8_run_J45 F hA hR ret h hi_i hi_x1 hw hS (lv_sub hl [1, 2, 0] rfl)
  · have h := ite_f c4 h
    refine lv_aload_n hx hb dX8_run_36 rfl (lv_at hl 1 rfl) ?_
    refine gC_W_log F hw hi_i tw1_179 dX8_run_37 ?_
    refine lv_iload_n hx hb dX8_run_40 rfl (lv_at hl 3 rfl) ?_
    refine lv_aload_n hx hb dX8_run_41 rfl (lv_at hl 2 rfl) ?_
    refine call_V hexC F (kX3_add h hi_i hi_x1) 2 tw4_15 tw1_7 tw4_13 tw4_14 tw4_12 hdX3_add ⟨Nat.le_trans (by decide) hR.1, Nat.le_trans (by decide) hR.2⟩ (hw.recv (k := 4) (i := i) hi_i rfl rfl) hA hw hS rfl hl.1 rfl (Nat.le_of_ble_eq_true rfl) dX8_run_42 (fun v5 μ6 H locs h hw hS => ?_)
    exact wX8_run_J45 F hA hR ret h hi_i hi_x1 hw hS (lv_sub hl [1, 2, 0] rfl)
def wpX8_run (G : GG) (i : Int) (x1 : Int) (x2 : Int) (x3 : Int) (μ : MM) (Q : Int → MM → Prop) : Prop := rg (μ 2 7 x1) ∧ (if (μ 2 7 x1) = 0 then (Q 0 μ) else (wpX8_silenceNow G i μ (fun v3 μ4 => rg v3 ∧ (if v3 = 1 then (wpX8_run_J24 G Q i x1 x3 x1 x2 1 μ4) else (wpX8_run_J24 G Q i x1 x3 x1 x2 0 μ4)))))
set_option maxRecDepth 100000 in
set_option maxHeartbeats 4000000 in
theorem wX8_run {G : GG} {Q : Int → MM → Prop} {i : Int} {x1 : Int} {x2 : Int} {x3 : Int} {μ : MM} {H : Heap} {locs : List Loc} {ls : Array Slot} (F : CallFix p m c cX8_run 5 s args uw RX8) (hA : ∀ q : Nat, s.heap.size ≤ q → A q) (hR : 4 ≤ R.frames ∧ 89 ≤ R.locals) (ret : RetI p l e R s m args below meth c cX8_run Qf (dmC G) (cfC G) tyC (exC G) D cy ad A Q) (h : wpX8_run G i x1 x2 x3 μ Q) (hi_i : 0 ≤ i ∧ i < 4) (hi_x1 : 0 ≤ x1 ∧ x1 < G 0 0) (hw : wdC G D cy ad A μ s H) (hS : va_S A s.heap H locs) (hl : lv_has ls 5 [(0, .ref (ad 3 i)), (1, .ref (ad 2 x1)), (2, .int (iI x2)), (3, .int (iI x3))]) : W p l e R s m args below meth c H locs 0 0 Qf (F0 m 0 ls []) := by
  have hx := F.1
  have hb := F.2.1
  have hown := F.2.2.2.1
  have hts := F.2.2.2.2
  refine lv_aload_n hx hb dX8_run_0 rfl (lv_at hl 1 rfl) ?_
  refine gC_T_due F hw hi_x1 tw2_94 (fun _ h => h) dX8_run_1 ?_
  obtain ⟨g1, h⟩ := h
  refine q_if_ne (tgt := 9) hx hb g1 dX8_run_4 (by decide) (fun c2 => ?_) (fun c2 => ?_)
  · have h := ite_f c2 h
    refine lv_aload_n hx hb dX8_run_9 rfl (lv_at hl 1 rfl) ?_
    refine lv_iload_n hx hb dX8_run_10 rfl (lv_at hl 2 rfl) ?_
    refine lv_aload_n hx hb dX8_run_11 rfl (lv_at hl 0 rfl) ?_
    refine call_V hexC F (kX8_silenceNow h hi_i) 0 tw3_162 tw1_6 tw3_160 tw3_161 tw3_159 hdX8_silenceNow ⟨Nat.le_trans (by decide) hR.1, Nat.le_trans (by decide) hR.2⟩ (hw.recv (k := 3) (i := i) hi_i rfl rfl) hA hw hS rfl hl.1 rfl (Nat.le_of_ble_eq_true rfl) dX8_run_12 (fun v3 μ4 H locs h hw hS => ?_)
    refine q_iconst hx hb dX8_run_15 ?_
    obtain ⟨g5, h⟩ := h
    refine q_icmp_ne (tgt := 23) hx hb g5 (by decide) dX8_run_16 (by decide) (fun c6 => ?_) (fun c6 => ?_)
    · have h := ite_f c6 h
      refine q_iconst hx hb dX8_run_23 ?_
      exact wX8_run_J24 F hA hR ret h hi_i hi_x1 hi_x1 hw hS (lv_sub hl [0, 1, 3] rfl)
    · have h := ite_t c6 h
      refine q_iconst hx hb dX8_run_19 ?_
      refine lv_goto (tgt := 24) hx hb dX8_run_20 (by decide) ?_
      exact wX8_run_J24 F hA hR ret h hi_i hi_x1 hi_x1 hw hS (lv_sub hl [0, 1, 3] rfl)
  · have h := ite_t c2 h
    refine q_iconst hx hb dX8_run_7 ?_
    exact ret _ _ _ _ _ _ h hw hS dX8_run_8
set_option maxRecDepth 100000 in
set_option maxHeartbeats 4000000 in
theorem kX8_run {l : Launch} {D : va_G} {cy : Nat → ClassId} {ad : AD} {A : Nat → Prop} {G : GG} {i : Int} {x1 : Int} {x2 : Int} {x3 : Int} {μ : MM} {Q : Int → MM → Prop} (h : wpX8_run G i x1 x2 x3 μ Q) (hi_i : 0 ≤ i ∧ i < 4) (hi_x1 : 0 ≤ x1 ∧ x1 < G 0 0) : Met l yX8_run (Cond.code yX8_run cX8_run 5 (some .int) :: uw) (rmm 4 89) (wPc [.ref (ad 3 i), .ref (ad 2 x1), .int (iI x2), .int (iI x3)] (dmC G) (cfC G) tyC (exC G) D cy ad A μ) (wQ vI Q (dmC G) (cfC G) D cy ad A) 0 0 A :=
  met_of (by decide) (Nat.le_of_ble_eq_true rfl) (fun p e R s m args below meth c ls hr hk hRR F hA hw hS hl => wX8_run F hA (by subst hRR; exact ⟨Nat.le_refl _, Nat.le_refl _⟩) (retI_of F hr hk) h hi_i hi_x1 hw hS hl)
theorem hdX8_run : yX8_run.cls ≠ "java/lang/invoke/MethodHandle" ∧ yX8_run.cls ≠ "java/lang/invoke/VarHandle" ∧ (parseMethodDescriptor yX8_run.desc).map (fun d => d.parameters.length) = some 3 := by decide +kernel
end
