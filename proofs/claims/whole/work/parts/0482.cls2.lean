section
variable {p : Program} {l : Launch} {e : Env} {R : Room} {s : State} {m : MethodId} {args : Array Value} {below : List Frame} {meth : Method} {c : Code} {Qf : State → Prop} {D : va_G} {cy : Nat → ClassId} {ad : AD} {A : Nat → Prop}
def wpX10_keep (G : GG) (x1 : Int) (μ : MM) (Q : Int → MM → Prop) : Prop := rg (μ 0 2 0) ∧ (if (μ 0 2 0) < 0 then (Q (-2) μ) else (if (μ 0 2 0) < 16 then (0 ≤ (μ 0 2 0) ∧ (μ 0 2 0 < 16 ∧ (∀ μ6 : MM, μ6 = ms μ 21 0 (μ 0 2 0) x1 → (∀ μ7 : MM, μ7 = ms μ6 0 2 0 ((μ6 0 2 0) + 1) → (Q x1 μ7))))) else (Q (-2) μ)))
set_option maxRecDepth 100000 in
set_option maxHeartbeats 4000000 in
theorem wX10_keep {G : GG} {Q : Int → MM → Prop} {x1 : Int} {μ : MM} {H : Heap} {locs : List Loc} {ls : Array Slot} (F : CallFix p m c cX10_keep 2 s args uw RX10) (hA : ∀ q : Nat, s.heap.size ≤ q → A q) (hR : 0 ≤ R.frames ∧ 0 ≤ R.locals) (ret : RetI p l e R s m args below meth c cX10_keep Qf (dmC G) (cfC G) tyC (exC G) D cy ad A Q) (h : wpX10_keep G x1 μ Q) (hi_x1 : 0 ≤ x1 ∧ x1 < G 0 0) (hw : wdC G D cy ad A μ s H) (hS : va_S A s.heap H locs) (hl : lv_has ls 2 [(0, .ref (ad 0 0)), (1, .ref (ad 2 x1))]) : W p l e R s m args below meth c H locs 0 0 Qf (F0 m 0 ls []) := by
  have hx := F.1
  have hb := F.2.1
  have hown := F.2.2.2.1
  have hts := F.2.2.2.2
  refine lv_aload_n hx hb dX10_keep_0 rfl (lv_at hl 0 rfl) ?_
  refine gC_H_trainCount F hw tw1_208 dX10_keep_1 ?_
  obtain ⟨g1, h⟩ := h
  refine q_if_lt (tgt := 19) hx hb g1 dX10_keep_4 (by decide) (fun c2 => ?_) (fun c2 => ?_)
  · have h := ite_t c2 h
    refine q_bipush hx hb (by decide) dX10_keep_19 ?_
    exact ret _ _ _ _ _ _ h hw hS dX10_keep_21
  · have h := ite_f c2 h
    refine lv_aload_n hx hb dX10_keep_7 rfl (lv_at hl 0 rfl) ?_
    refine gC_H_trainCount F hw tw1_208 dX10_keep_8 ?_
    refine lv_aload_n hx hb dX10_keep_11 rfl (lv_at hl 0 rfl) ?_
    refine gC_H_trains F hw tw1_207 dX10_keep_12 ?_
    refine aC_21_ln hx hb hw dX10_keep_15 ?_
    refine q_icmp_lt (tgt := 22) hx hb g1 (by decide) dX10_keep_16 (by decide) (fun c3 => ?_) (fun c3 => ?_)
    · have h := ite_t c3 h
      refine lv_aload_n hx hb dX10_keep_22 rfl (lv_at hl 0 rfl) ?_
      refine gC_H_trains F hw tw1_207 dX10_keep_23 ?_
      refine lv_aload_n hx hb dX10_keep_26 rfl (lv_at hl 0 rfl) ?_
      refine gC_H_trainCount F hw tw1_208 dX10_keep_27 ?_
      refine lv_aload_n hx hb dX10_keep_30 rfl (lv_at hl 1 rfl) ?_
      obtain ⟨g4, h⟩ := h
      obtain ⟨g5, h⟩ := h
      obtain ⟨μ6, eμ6⟩ : ∃ z : MM, z = ms μ 21 0 (μ 0 2 0) x1 := ⟨_, rfl⟩
      have h := h μ6 eμ6
      refine aC_21_st F hw hS g4 g5 hi_x1 eμ6 dX10_keep_31 (fun H locs hw hS => ?_)
      refine lv_aload_n hx hb dX10_keep_32 rfl (lv_at hl 0 rfl) ?_
      refine lv_dup hx hb dX10_keep_33 rfl ?_
      refine gC_H_trainCount F hw tw1_208 dX10_keep_34 ?_
      refine q_iconst hx hb dX10_keep_37 ?_
      refine q_iadd hx hb dX10_keep_38 ?_
      obtain ⟨μ7, eμ7⟩ : ∃ z : MM, z = ms μ6 0 2 0 ((μ6 0 2 0) + 1) := ⟨_, rfl⟩
      have h := h μ7 eμ7
      refine pC_H_trainCount F hw hS tw1_208 eμ7 dX10_keep_39 (fun H locs hw hS => ?_)
      refine lv_aload_n hx hb dX10_keep_42 rfl (lv_at hl 1 rfl) ?_
      refine gC_T_number F hw hi_x1 tw2_71 (fun _ h => h) dX10_keep_43 ?_
      exact ret _ _ _ _ _ _ h hw hS dX10_keep_46
    · have h := ite_f c3 h
      refine q_bipush hx hb (by decide) dX10_keep_19 ?_
      exact ret _ _ _ _ _ _ h hw hS dX10_keep_21
set_option maxRecDepth 100000 in
set_option maxHeartbeats 4000000 in
theorem kX10_keep {l : Launch} {D : va_G} {cy : Nat → ClassId} {ad : AD} {A : Nat → Prop} {G : GG} {x1 : Int} {μ : MM} {Q : Int → MM → Prop} (h : wpX10_keep G x1 μ Q) (hi_x1 : 0 ≤ x1 ∧ x1 < G 0 0) : Met l yX10_keep (Cond.code yX10_keep cX10_keep 2 (some .int) :: uw) (rmm 0 0) (wPc [.ref (ad 0 0), .ref (ad 2 x1)] (dmC G) (cfC G) tyC (exC G) D cy ad A μ) (wQ vI Q (dmC G) (cfC G) D cy ad A) 0 0 A :=
  met_of (by decide) (Nat.le_of_ble_eq_true rfl) (fun p e R s m args below meth c ls hr hk hRR F hA hw hS hl => wX10_keep F hA (by subst hRR; exact ⟨Nat.le_refl _, Nat.le_refl _⟩) (retI_of F hr hk) h hi_x1 hw hS hl)
theorem hdX10_keep : yX10_keep.cls ≠ "java/lang/invoke/MethodHandle" ∧ yX10_keep.cls ≠ "java/lang/invoke/VarHandle" ∧ (parseMethodDescriptor yX10_keep.desc).map (fun d => d.parameters.length) = some 1 := by decide +kernel
def wpX10_copy_J82 (G : GG) (Q : Int → MM → Prop) (μ : MM) : Prop := wpX10_found G 2 μ (fun v1 μ2 => Q v1 μ2)
set_option maxRecDepth 100000 in
set_option maxHeartbeats 4000000 in
theorem wX10_copy_J82 {G : GG} {Q : Int → MM → Prop} {μ : MM} {H : Heap} {locs : List Loc} {ls : Array Slot} (F : CallFix p m c cX10_copy 8 s args uw RX10) (hA : ∀ q : Nat, s.heap.size ≤ q → A q) (hR : 1 ≤ R.frames ∧ 60 ≤ R.locals) (ret : RetI p l e R s m args below meth c cX10_copy Qf (dmC G) (cfC G) tyC (exC G) D cy ad A Q) (h : wpX10_copy_J82 G Q μ) (hw : wdC G D cy ad A μ s H) (hS : va_S A s.heap H locs) (hl : lv_has ls 8 [(0, .ref (ad 0 0))]) : W p l e R s m args below meth c H locs 0 0 Qf (F0 m 82 ls []) := by
  have hx := F.1
  have hb := F.2.1
  have hown := F.2.2.2.1
  have hts := F.2.2.2.2
  refine lv_aload_n hx hb dX10_copy_82 rfl (lv_at hl 0 rfl) ?_
  refine q_iconst hx hb dX10_copy_83 ?_
  refine call_V hexC F (kX10_found h) 1 tw2_20 tw1_1 tw2_19 tws1_1 tw2_17 hdX10_found ⟨Nat.le_trans (by decide) hR.1, Nat.le_trans (by decide) hR.2⟩ (hw.recv (k := 0) (i := 0) rfl rfl rfl) hA hw hS rfl hl.1 rfl (Nat.le_of_ble_eq_true rfl) dX10_copy_84 (fun v1 μ2 H locs h hw hS => ?_)
  exact ret _ _ _ _ _ _ h hw hS dX10_copy_87
def wpX10_copy_J53 (G : GG) (Q : Int → MM → Prop) (μ : MM) : Prop := wpX10_found G 1 μ (fun v1 μ2 => Q v1 μ2)
set_option maxRecDepth 100000 in
set_option maxHeartbeats 4000000 in
theorem wX10_copy_J53 {G : GG} {Q : Int → MM → Prop} {μ : MM} {H : Heap} {locs : List Loc} {ls : Array Slot} (F : CallFix p m c cX10_copy 8 s args uw RX10) (hA : ∀ q : Nat, s.heap.size ≤ q → A q) (hR : 1 ≤ R.frames ∧ 60 ≤ R.locals) (ret : RetI p l e R s m args below meth c cX10_copy Qf (dmC G) (cfC G) tyC (exC G) D cy ad A Q) (h : wpX10_copy_J53 G Q μ) (hw : wdC G D cy ad A μ s H) (hS : va_S A s.heap H locs) (hl : lv_has ls 8 [(0, .ref (ad 0 0))]) : W p l e R s m args below meth c H locs 0 0 Qf (F0 m 53 ls []) := by
  have hx := F.1
  have hb := F.2.1
  have hown := F.2.2.2.1
  have hts := F.2.2.2.2
  refine lv_aload_n hx hb dX10_copy_53 rfl (lv_at hl 0 rfl) ?_
  refine q_iconst hx hb dX10_copy_54 ?_
  refine call_V hexC F (kX10_found h) 1 tw2_20 tw1_1 tw2_19 tws1_1 tw2_17 hdX10_found ⟨Nat.le_trans (by decide) hR.1, Nat.le_trans (by decide) hR.2⟩ (hw.recv (k := 0) (i := 0) rfl rfl rfl) hA hw hS rfl hl.1 rfl (Nat.le_of_ble_eq_true rfl) dX10_copy_55 (fun v1 μ2 H locs h hw hS => ?_)
  exact ret _ _ _ _ _ _ h hw hS dX10_copy_58
def wpX10_copy (G : GG) (x1 : Int) (x2 : Int) (x3 : Int) (x4 : Int) (x5 : Int) (μ : MM) (Q : Int → MM → Prop) : Prop := wpX10_rowOf G x1 μ (fun v1 μ2 => wpX10_rowOf G x3 μ2 (fun v3 μ4 => if v1 < 0 then (Q (-1) μ4) else (v1 < 8 ∧ (if v3 < 0 then (Q (-1) μ4) else (v3 < 8 ∧ (rg x5 ∧ (if 0 ≤ x5 then (wpX6_isThere G v1 μ4 (fun v13 μ14 => if v13 = 0 then (wpX10_copy_J53 G Q  μ14) else (wpX6_isThere G v3 μ14 (fun v17 μ18 => if v17 = 0 then (wpX10_copy_J53 G Q  μ18) else (wpX6_hasRun G v1 x2 x5 μ18 (fun v21 μ22 => if v21 = 0 then (wpX10_copy_J82 G Q  μ22) else (wpX6_hasRun G v3 x4 x5 μ22 (fun v25 μ26 => if v25 = 0 then (wpX10_copy_J82 G Q  μ26) else (0 ≤ x2 ∧ (0 ≤ x4 ∧ (0 ≤ x5 ∧ (x2 + x5 ≤ 48 ∧ (x4 + x5 ≤ 48 ∧ ((∀ k : Int, 0 ≤ k → k < x5 → -128 ≤ μ26 8 0 (48 * v1 + x2 + k) ∧ μ26 8 0 (48 * v1 + x2 + k) ≤ 127) ∧ (∀ μ35 : MM, μ35 = cpB μ26 (48 * v3 + x4) x5 (fun k => μ26 8 0 (48 * v1 + x2 + k)) → (Q 1 μ35)))))))))))))))) else (wpX10_found G 5 μ4 (fun v36 μ37 => Q v36 μ37)))))))))
set_option maxRecDepth 100000 in
set_option maxHeartbeats 4000000 in
theorem wX10_copy {G : GG} {Q : Int → MM → Prop} {x1 : Int} {x2 : Int} {x3 : Int} {x4 : Int} {x5 : Int} {μ : MM} {H : Heap} {locs : List Loc} {ls : Array Slot} (F : CallFix p m c cX10_copy 8 s args uw RX10) (hA : ∀ q : Nat, s.heap.size ≤ q → A q) (hR : 1 ≤ R.frames ∧ 60 ≤ R.locals) (ret : RetI p l e R s m args below meth c cX10_copy Qf (dmC G) (cfC G) tyC (exC G) D cy ad A Q) (h : wpX10_copy G x1 x2 x3 x4 x5 μ Q) (hw : wdC G D cy ad A μ s H) (hS : va_S A s.heap H locs) (hl : lv_has ls 8 [(0, .ref (ad 0 0)), (1, .int (iI x1)), (2, .int (iI x2)), (3, .int (iI x3)), (4, .int (iI x4)), (5, .int (iI x5))]) : W p l e R s m args below meth c H locs 0 0 Qf (F0 m 0 ls []) := by
  have hx := F.1
  have hb := F.2.1
  have hown := F.2.2.2.1
  have hts := F.2.2.2.2
  refine lv_aload_n hx hb dX10_copy_0 rfl (lv_at hl 0 rfl) ?_
  refine lv_iload_n hx hb dX10_copy_1 rfl (lv_at hl 1 rfl) ?_
  refine call_V hexC F (kX10_rowOf h) 1 tw2_16 tw1_1 tw2_15 tws1_0 tw2_13 hdX10_rowOf ⟨Nat.le_trans (by decide) hR.1, Nat.le_trans (by decide) hR.2⟩ (hw.recv (k := 0) (i := 0) rfl rfl rfl) hA hw hS rfl hl.1 rfl (Nat.le_of_ble_eq_true rfl) dX10_copy_2 (fun v1 μ2 H locs h hw hS => ?_)
  refine q_astore (lv' := [(6, rf ad 1 v1), (0, .ref (ad 0 0)), (1, .int (iI x1)), (2, .int (iI x2)), (3, .int (iI x3)), (4, .int (iI x4)), (5, .int (iI x5))]) hx hb dX10_copy_5 hl (by decide) rfl (fun ls hl => ?_)
  refine lv_aload_n hx hb dX10_copy_7 rfl (lv_at hl 1 rfl) ?_
  refine lv_iload_n hx hb dX10_copy_8 rfl (lv_at hl 4 rfl) ?_
  refine call_V hexC F (kX10_rowOf h) 1 tw2_16 tw1_1 tw2_15 tws1_0 tw2_13 hdX10_rowOf ⟨Nat.le_trans (by decide) hR.1, Nat.le_trans (by decide) hR.2⟩ (hw.recv (k := 0) (i := 0) rfl rfl rfl) hA hw hS rfl hl.1 rfl (Nat.le_of_ble_eq_true rfl) dX10_copy_9 (fun v3 μ4 H locs h hw hS => ?_)
  refine q_astore (lv' := [(7, rf ad 1 v3), (6, rf ad 1 v1), (0, .ref (ad 0 0)), (1, .int (iI x1)), (2, .int (iI x2)), (3, .int (iI x3)), (4, .int (iI x4)), (5, .int (iI x5))]) hx hb dX10_copy_12 hl (by decide) (by simp [rf_cat]) (fun ls hl => ?_)
  refine q_aload hx hb dX10_copy_14 (lv_at hl 1 rfl) ?_
  refine q_ifnull (tgt := 24) hx hb dX10_copy_16 (by decide) (fun c5 => ?_) (fun c5 => ?_)
  · have h := ite_t c5 h
    refine q_iconst hx hb dX10_copy_24 ?_
    exact ret _ _ _ _ _ _ h hw hS dX10_copy_25
  · have h := ite_f c5 h
    obtain ⟨g6, h⟩ := h
    have hi7 : 0 ≤ v1 ∧ v1 < 8 := ⟨by omega, g6⟩
    have hl : lv_has ls 8 [(7, rf ad 1 v3), (6, .ref (ad 1 v1)), (0, .ref (ad 0 0)), (1, .int (iI x1)), (2, .int (iI x2)), (3, .int (iI x3)), (4, .int (iI x4)), (5, .int (iI x5))] := by rw [← rf_pos (ad := ad) (k := 1) hi7.1]; exact hl
    refine q_aload hx hb dX10_copy_19 (lv_at hl 0 rfl) ?_
    refine q_ifnonnull (tgt := 26) hx hb dX10_copy_21 (by decide) (fun c8 => ?_) (fun c8 => ?_)
    · have h := ite_t c8 h
      refine q_iconst hx hb dX10_copy_24 ?_
      exact ret _ _ _ _ _ _ h hw hS dX10_copy_25
    · have h := ite_f c8 h
      obtain ⟨g9, h⟩ := h
      have hi10 : 0 ≤ v3 ∧ v3 < 8 := ⟨by omega, g9⟩
      have hl : lv_has ls 8 [(7, .ref (ad 1 v3)), (6, .ref (ad 1 v1)), (0, .ref (ad 0 0)), (1, .int (iI x1)), (2, .int (iI x2)), (3, .int (iI x3)), (4, .int (iI x4)), (5, .int (iI x5))] := by rw [← rf_pos (ad := ad) (k := 1) hi10.1]; exact hl
      refine lv_iload hx hb dX10_copy_26 (lv_at hl 7 rfl) ?_
      obtain ⟨g11, h⟩ := h
      refine q_if_ge (tgt := 37) hx hb g11 dX10_copy_28 (by decide) (fun c12 => ?_) (fun c12 => ?_)
      · have h := ite_t c12 h
        refine lv_aload hx hb dX10_copy_37 (lv_at hl 1 rfl) ?_
        refine call_V hexC F (kX6_isThere h hi7) 0 tw2_35 tw1_5 tw2_33 tw2_34 tw2_32 hdX6_isThere ⟨Nat.le_trans (by decide) hR.1, Nat.le_trans (by decide) hR.2⟩ (hw.recv (k := 1) (i := v1) hi7 rfl rfl) hA hw hS rfl hl.1 rfl (Nat.le_of_ble_eq_true rfl) dX10_copy_39 (fun v13 μ14 H locs h hw hS => ?_)
        obtain ⟨z15, h⟩ := h
        refine q_if_eq (tgt := 53) hx hb (rgB z15) dX10_copy_42 (by decide) (fun c16 => ?_) (fun c16 => ?_)
        · have h := ite_t c16 h
          exact wX10_copy_J53 F hA hR ret h hw hS (lv_sub hl [2] rfl)
        · have h := ite_f c16 h
          refine lv_aload hx hb dX10_copy_45 (lv_at hl 0 rfl) ?_
          refine call_V hexC F (kX6_isThere h hi10) 0 tw2_35 tw1_5 tw2_33 tw2_34 tw2_32 hdX6_isThere ⟨Nat.le_trans (by decide) hR.1, Nat.le_trans (by decide) hR.2⟩ (hw.recv (k := 1) (i := v3) hi10 rfl rfl) hA hw hS rfl hl.1 rfl (Nat.le_of_ble_eq_true rfl) dX10_copy_47 (fun v17 μ18 H locs h hw hS => ?_)
          obtain ⟨z19, h⟩ := h
          refine q_if_ne (tgt := 59) hx hb (rgB z19) dX10_copy_50 (by decide) (fun c20 => ?_) (fun c20 => ?_)
          · have h := ite_f c20 h
            refine lv_aload hx hb dX10_copy_59 (lv_at hl 1 rfl) ?_
            refine lv_iload_n hx hb dX10_copy_61 rfl (lv_at hl 4 rfl) ?_
            refine lv_iload hx hb dX10_copy_62 (lv_at hl 7 rfl) ?_
            refine call_V hexC F (kX6_hasRun h hi7) 2 tw2_39 tw1_5 tw2_37 tw2_38 tw2_36 hdX6_hasRun ⟨Nat.le_trans (by decide) hR.1, Nat.le_trans (by decide) hR.2⟩ (hw.recv (k := 1) (i := v1) hi7 rfl rfl) hA hw hS rfl hl.1 rfl (Nat.le_of_ble_eq_true rfl) dX10_copy_64 (fun v21 μ22 H locs h hw hS => ?_)
            obtain ⟨z23, h⟩ := h
            refine q_if_eq (tgt := 82) hx hb (rgB z23) dX10_copy_67 (by decide) (fun c24 => ?_) (fun c24 => ?_)
            · have h := ite_t c24 h
              exact wX10_copy_J82 F hA hR ret h hw hS (lv_sub hl [2] rfl)
            · have h := ite_f c24 h
              refine lv_aload hx hb dX10_copy_70 (lv_at hl 0 rfl) ?_
              refine lv_iload hx hb dX10_copy_72 (lv_at hl 6 rfl) ?_
              refine lv_iload hx hb dX10_copy_74 (lv_at hl 7 rfl) ?_
              refine call_V hexC F (kX6_hasRun h hi10) 2 tw2_39 tw1_5 tw2_37 tw2_38 tw2_36 hdX6_hasRun ⟨Nat.le_trans (by decide) hR.1, Nat.le_trans (by decide) hR.2⟩ (hw.recv (k := 1) (i := v3) hi10 rfl rfl) hA hw hS rfl hl.1 rfl (Nat.le_of_ble_eq_true rfl) dX10_copy_76 (fun v25 μ26 H locs h hw hS => ?_)
              obtain ⟨z27, h⟩ := h
              refine q_if_ne (tgt := 88) hx hb (rgB z27) dX10_copy_79 (by decide) (fun c28 => ?_) (fun c28 => ?_)
              · have h := ite_f c28 h
                refine lv_aload hx hb dX10_copy_88 (lv_at hl 1 rfl) ?_
                refine gC_R_bytes F hw hi7 tw1_121 dX10_copy_90 ?_
                refine lv_iload_n hx hb dX10_copy_93 rfl (lv_at hl 4 rfl) ?_
                refine lv_aload hx hb dX10_copy_94 (lv_at hl 0 rfl) ?_
                refine gC_R_bytes F hw hi10 tw1_121 dX10_copy_96 ?_
                refine lv_iload hx hb dX10_copy_99 (lv_at hl 6 rfl) ?_
                refine lv_iload hx hb dX10_copy_101 (lv_at hl 7 rfl) ?_
                obtain ⟨g29, h⟩ := h
                obtain ⟨g30, h⟩ := h
                obtain ⟨g31, h⟩ := h
                obtain ⟨g32, h⟩ := h
                obtain ⟨g33, h⟩ := h
                obtain ⟨g34, h⟩ := h
                obtain ⟨μ35, eμ35⟩ : ∃ z : MM, z = cpB μ26 (48 * v3 + x4) x5 (fun k => μ26 8 0 (48 * v1 + x2 + k)) := ⟨_, rfl⟩
                have h := h μ35 eμ35
                refine aC_8_cp F hl.1 tw2_56 hw hS hi7 hi10 g29 g30 g31 g32 g33 g34 ⟨Nat.le_trans (by decide) hR.1, Nat.le_trans (by decide) hR.2⟩ eμ35 dX10_copy_103 (fun H locs hw hS => ?_)
                refine q_iconst hx hb dX10_copy_106 ?_
                exact ret _ _ _ _ _ _ h hw hS dX10_copy_107
              · have h := ite_t c28 h
                exact wX10_copy_J82 F hA hR ret h hw hS (lv_sub hl [2] rfl)
          · have h := ite_t c20 h
            exact wX10_copy_J53 F hA hR ret h hw hS (lv_sub hl [2] rfl)
      · have h := ite_f c12 h
        refine lv_aload_n hx hb dX10_copy_31 rfl (lv_at hl 2 rfl) ?_
        refine q_iconst hx hb dX10_copy_32 ?_
        refine call_V hexC F (kX10_found h) 1 tw2_20 tw1_1 tw2_19 tws1_1 tw2_17 hdX10_found ⟨Nat.le_trans (by decide) hR.1, Nat.le_trans (by decide) hR.2⟩ (hw.recv (k := 0) (i := 0) rfl rfl rfl) hA hw hS rfl hl.1 rfl (Nat.le_of_ble_eq_true rfl) dX10_copy_33 (fun v36 μ37 H locs h hw hS => ?_)
        exact ret _ _ _ _ _ _ h hw hS dX10_copy_36
set_option maxRecDepth 100000 in
set_option maxHeartbeats 4000000 in
theorem kX10_copy {l : Launch} {D : va_G} {cy : Nat → ClassId} {ad : AD} {A : Nat → Prop} {G : GG} {x1 : Int} {x2 : Int} {x3 : Int} {x4 : Int} {x5 : Int} {μ : MM} {Q : Int → MM → Prop} (h : wpX10_copy G x1 x2 x3 x4 x5 μ Q) : Met l yX10_copy (Cond.code yX10_copy cX10_copy 8 (some .int) :: uw) (rmm 1 60) (wPc [.ref (ad 0 0), .int (iI x1), .int (iI x2), .int (iI x3), .int (iI x4), .int (iI x5)] (dmC G) (cfC G) tyC (exC G) D cy ad A μ) (wQ vI Q (dmC G) (cfC G) D cy ad A) 0 0 A :=
  met_of (by decide) (Nat.le_of_ble_eq_true rfl) (fun p e R s m args below meth c ls hr hk hRR F hA hw hS hl => wX10_copy F hA (by subst hRR; exact ⟨Nat.le_refl _, Nat.le_refl _⟩) (retI_of F hr hk) h hw hS hl)
theorem hdX10_copy : yX10_copy.cls ≠ "java/lang/invoke/MethodHandle" ∧ yX10_copy.cls ≠ "java/lang/invoke/VarHandle" ∧ (parseMethodDescriptor yX10_copy.desc).map (fun d => d.parameters.length) = some 5 := by decide +kernel
def wpX10_train (G : GG) (k15 : MM → Prop) (μ : MM) (Q : Int → MM → Prop) : Prop := rg (μ 0 2 0) ∧ (if (μ 0 2 0) < 16 then (k15  μ) else (Q (-2) μ))
set_option maxRecDepth 100000 in
set_option maxHeartbeats 4000000 in
theorem wX10_train {G : GG} {k15 : MM → Prop} {Q : Int → MM → Prop} {μ : MM} {H : Heap} {locs : List Loc} {ls : Array Slot} (F : CallFix p m c cX10_train 1 s args uw RX10) (hA : ∀ q : Nat, s.heap.size ≤ q → A q) (hR : 0 ≤ R.frames ∧ 0 ≤ R.locals) (ret : RetI p l e R s m args below meth c cX10_train Qf (dmC G) (cfC G) tyC (exC G) D cy ad A Q) (hk15 : ∀ (μ' : MM) (H : Heap) (locs : List Loc) (ls : Array Slot), k15  μ' → wdC G D cy ad A μ' s H → va_S A s.heap H locs → lv_has ls 1 [(0, .ref (ad 0 0))] → W p l e R s m args below meth c H locs 0 0 Qf (F0 m 15 ls [])) (h : wpX10_train G k15 μ Q) (hw : wdC G D cy ad A μ s H) (hS : va_S A s.heap H locs) (hl : lv_has ls 1 [(0, .ref (ad 0 0))]) : W p l e R s m args below meth c H locs 0 0 Qf (F0 m 0 ls []) := by
  have hx := F.1
  have hb := F.2.1
  have hown := F.2.2.2.1
  have hts := F.2.2.2.2
  refine lv_aload_n hx hb dX10_train_0 rfl (lv_at hl 0 rfl) ?_
  refine gC_H_trainCount F hw tw1_208 dX10_train_1 ?_
  refine lv_aload_n hx hb dX10_train_4 rfl (lv_at hl 0 rfl) ?_
  refine gC_H_trains F hw tw1_207 dX10_train_5 ?_
  refine aC_21_ln hx hb hw dX10_train_8 ?_
  obtain ⟨g1, h⟩ := h
  refine q_icmp_lt (tgt := 15) hx hb g1 (by decide) dX10_train_9 (by decide) (fun c2 => ?_) (fun c2 => ?_)
  · have h := ite_t c2 h
    exact hk15  _ _ _ _ h hw hS (lv_sub hl [0] rfl)
  · have h := ite_f c2 h
    refine q_bipush hx hb (by decide) dX10_train_12 ?_
    exact ret _ _ _ _ _ _ h hw hS dX10_train_14
theorem hdX10_train : yX10_train.cls ≠ "java/lang/invoke/MethodHandle" ∧ yX10_train.cls ≠ "java/lang/invoke/VarHandle" ∧ (parseMethodDescriptor yX10_train.desc).map (fun d => d.parameters.length) = some 0 := by decide +kernel
def wpX10_plate (G : GG) (k23 : Int → MM → Prop) (x1 : Int) (μ : MM) (Q : Int → MM → Prop) : Prop := wpX10_refusalOfStrokes G x1 x1 μ (fun v1 μ2 => wpX10_rowOf G x1 μ2 (fun v3 μ4 => rg v1 ∧ (if v1 = 0 then (if v3 < 0 then (Q v1 μ4) else (v3 < 8 ∧ (k23 v3 μ4))) else (Q v1 μ4))))
set_option maxRecDepth 100000 in
set_option maxHeartbeats 4000000 in
theorem wX10_plate {G : GG} {k23 : Int → MM → Prop} {Q : Int → MM → Prop} {x1 : Int} {μ : MM} {H : Heap} {locs : List Loc} {ls : Array Slot} (F : CallFix p m c cX10_plate 4 s args uw RX10) (hA : ∀ q : Nat, s.heap.size ≤ q → A q) (hR : 3 ≤ R.frames ∧ 66 ≤ R.locals) (ret : RetI p l e R s m args below meth c cX10_plate Qf (dmC G) (cfC G) tyC (exC G) D cy ad A Q) (hk23 : ∀ (x3' : Int) (μ' : MM) (H : Heap) (locs : List Loc) (ls : Array Slot), k23 x3' μ' → 0 ≤ x3' ∧ x3' < 8 → wdC G D cy ad A μ' s H → va_S A s.heap H locs → lv_has ls 4 [(0, .ref (ad 0 0)), (3, .ref (ad 1 (x3')))] → W p l e R s m args below meth c H locs 0 0 Qf (F0 m 23 ls [])) (h : wpX10_plate G k23 x1 μ Q) (hw : wdC G D cy ad A μ s H) (hS : va_S A s.heap H locs) (hl : lv_has ls 4 [(0, .ref (ad 0 0)), (1, .int (iI x1))]) : W p l e R s m args below meth c H locs 0 0 Qf (F0 m 0 ls []) := by
  have hx := F.1
  have hb := F.2.1
  have hown := F.2.2.2.1
  have hts := F.2.2.2.2
  refine lv_aload_n hx hb dX10_plate_0 rfl (lv_at hl 0 rfl) ?_
  refine lv_iload_n hx hb dX10_plate_1 rfl (lv_at hl 1 rfl) ?_
  refine lv_iload_n hx hb dX10_plate_2 rfl (lv_at hl 1 rfl) ?_
  refine call_V hexC F (kX10_refusalOfStrokes h) 2 tw2_153 tw1_1 tw2_152 tws1_3 tw2_150 hdX10_refusalOfStrokes ⟨Nat.le_trans (by decide) hR.1, Nat.le_trans (by decide) hR.2⟩ (hw.recv (k := 0) (i := 0) rfl rfl rfl) hA hw hS rfl hl.1 rfl (Nat.le_of_ble_eq_true rfl) dX10_plate_3 (fun v1 μ2 H locs h hw hS => ?_)
  refine lv_istore_n (lv' := [(2, .int (iI v1)), (0, .ref (ad 0 0)), (1, .int (iI x1))]) hx hb dX10_plate_6 rfl hl (by decide) rfl (fun ls hl => ?_)
  refine lv_aload_n hx hb dX10_plate_7 rfl (lv_at hl 1 rfl) ?_
  refine lv_iload_n hx hb dX10_plate_8 rfl (lv_at hl 2 rfl) ?_
  refine call_V hexC F (kX10_rowOf h) 1 tw2_16 tw1_1 tw2_15 tws1_0 tw2_13 hdX10_rowOf ⟨Nat.le_trans (by decide) hR.1, Nat.le_trans (by decide) hR.2⟩ (hw.recv (k := 0) (i := 0) rfl rfl rfl) hA hw hS rfl hl.1 rfl (Nat.le_of_ble_eq_true rfl) dX10_plate_9 (fun v3 μ4 H locs h hw hS => ?_)
  refine q_astore_n (lv' := [(3, rf ad 1 v3), (2, .int (iI v1)), (0, .ref (ad 0 0)), (1, .int (iI x1))]) hx hb dX10_plate_12 rfl hl (by decide) rfl (fun ls hl => ?_)
  refine lv_iload_n hx hb dX10_plate_13 rfl (lv_at hl 1 rfl) ?_
  obtain ⟨g5, h⟩ := h
  refine q_if_ne (tgt := 21) hx hb g5 dX10_plate_14 (by decide) (fun c6 => ?_) (fun c6 => ?_)
  · have h := ite_f c6 h
    refine lv_iload_n hx hb dX10_plate_21 rfl (lv_at hl 1 rfl) ?_
    exact ret _ _ _ _ _ _ h hw hS dX10_plate_22
  · have h := ite_t c6 h
    refine q_aload_n hx hb dX10_plate_17 rfl (lv_at hl 0 rfl) ?_
    refine q_ifnonnull (tgt := 23) hx hb dX10_plate_18 (by decide) (fun c7 => ?_) (fun c7 => ?_)
    · have h := ite_t c7 h
      refine lv_iload_n hx hb dX10_plate_21 rfl (lv_at hl 1 rfl) ?_
      exact ret _ _ _ _ _ _ h hw hS dX10_plate_22
    · have h := ite_f c7 h
      obtain ⟨g8, h⟩ := h
      have hi9 : 0 ≤ v3 ∧ v3 < 8 := ⟨by omega, g8⟩
      have hl : lv_has ls 4 [(3, .ref (ad 1 v3)), (2, .int (iI v1)), (0, .ref (ad 0 0)), (1, .int (iI x1))] := by rw [← rf_pos (ad := ad) (k := 1) hi9.1]; exact hl
      exact hk23 v3 _ _ _ _ h hi9 hw hS (lv_sub hl [2, 0] rfl)
theorem hdX10_plate : yX10_plate.cls ≠ "java/lang/invoke/MethodHandle" ∧ yX10_plate.cls ≠ "java/lang/invoke/VarHandle" ∧ (parseMethodDescriptor yX10_plate.desc).map (fun d => d.parameters.length) = some 1 := by decide +kernel
def wpX10_snail (G : GG) (k23 : Int → MM → Prop) (x1 : Int) (μ : MM) (Q : Int → MM → Prop) : Prop := wpX10_refusalOfStrokes G x1 x1 μ (fun v1 μ2 => wpX10_rowOf G x1 μ2 (fun v3 μ4 => rg v1 ∧ (if v1 = 0 then (if v3 < 0 then (Q v1 μ4) else (v3 < 8 ∧ (k23 v3 μ4))) else (Q v1 μ4))))
set_option maxRecDepth 100000 in
set_option maxHeartbeats 4000000 in
theorem wX10_snail {G : GG} {k23 : Int → MM → Prop} {Q : Int → MM → Prop} {x1 : Int} {μ : MM} {H : Heap} {locs : List Loc} {ls : Array Slot} (F : CallFix p m c cX10_snail 4 s args uw RX10) (hA : ∀ q : Nat, s.heap.size ≤ q → A q) (hR : 3 ≤ R.frames ∧ 66 ≤ R.locals) (ret : RetI p l e R s m args below meth c cX10_snail Qf (dmC G) (cfC G) tyC (exC G) D cy ad A Q) (hk23 : ∀ (x3' : Int) (μ' : MM) (H : Heap) (locs : List Loc) (ls : Array Slot), k23 x3' μ' → 0 ≤ x3' ∧ x3' < 8 → wdC G D cy ad A μ' s H → va_S A s.heap H locs → lv_has ls 4 [(0, .ref (ad 0 0)), (3, .ref (ad 1 (x3')))] → W p l e R s m args below meth c H locs 0 0 Qf (F0 m 23 ls [])) (h : wpX10_snail G k23 x1 μ Q) (hw : wdC G D cy ad A μ s H) (hS : va_S A s.heap H locs) (hl : lv_has ls 4 [(0, .ref (ad 0 0)), (1, .int (iI x1))]) : W p l e R s m args below meth c H locs 0 0 Qf (F0 m 0 ls []) := by
  have hx := F.1
  have hb := F.2.1
  have hown := F.2.2.2.1
  have hts := F.2.2.2.2
  refine lv_aload_n hx hb dX10_snail_0 rfl (lv_at hl 0 rfl) ?_
  refine lv_iload_n hx hb dX10_snail_1 rfl (lv_at hl 1 rfl) ?_
  refine lv_iload_n hx hb dX10_snail_2 rfl (lv_at hl 1 rfl) ?_
  refine call_V hexC F (kX10_refusalOfStrokes h) 2 tw2_153 tw1_1 tw2_152 tws1_3 tw2_150 hdX10_refusalOfStrokes ⟨Nat.le_trans (by decide) hR.1, Nat.le_trans (by decide) hR.2⟩ (hw.recv (k := 0) (i := 0) rfl rfl rfl) hA hw hS rfl hl.1 rfl (Nat.le_of_ble_eq_true rfl) dX10_snail_3 (fun v1 μ2 H locs h hw hS => ?_)
  refine lv_istore_n (lv' := [(2, .int (iI v1)), (0, .ref (ad 0 0)), (1, .int (iI x1))]) hx hb dX10_snail_6 rfl hl (by decide) rfl (fun ls hl => ?_)
  refine lv_aload_n hx hb dX10_snail_7 rfl (lv_at hl 1 rfl) ?_
  refine lv_iload_n hx hb dX10_snail_8 rfl (lv_at hl 2 rfl) ?_
  refine call_V hexC F (kX10_rowOf h) 1 tw2_16 tw1_1 tw2_15 tws1_0 tw2_13 hdX10_rowOf ⟨Nat.le_trans (by decide) hR.1, Nat.le_trans (by decide) hR.2⟩ (hw.recv (k := 0) (i := 0) rfl rfl rfl) hA hw hS rfl hl.1 rfl (Nat.le_of_ble_eq_true rfl) dX10_snail_9 (fun v3 μ4 H locs h hw hS => ?_)
  refine q_astore_n (lv' := [(3, rf ad 1 v3), (2, .int (iI v1)), (0, .ref (ad 0 0)), (1, .int (iI x1))]) hx hb dX10_snail_12 rfl hl (by decide) rfl (fun ls hl => ?_)
  refine lv_iload_n hx hb dX10_snail_13 rfl (lv_at hl 1 rfl) ?_
  obtain ⟨g5, h⟩ := h
  refine q_if_ne (tgt := 21) hx hb g5 dX10_snail_14 (by decide) (fun c6 => ?_) (fun c6 => ?_)
  · have h := ite_f c6 h
    refine lv_iload_n hx hb dX10_snail_21 rfl (lv_at hl 1 rfl) ?_
    exact ret _ _ _ _ _ _ h hw hS dX10_snail_22
  · have h := ite_t c6 h
    refine q_aload_n hx hb dX10_snail_17 rfl (lv_at hl 0 rfl) ?_
    refine q_ifnonnull (tgt := 23) hx hb dX10_snail_18 (by decide) (fun c7 => ?_) (fun c7 => ?_)
    · have h := ite_t c7 h
      refine lv_iload_n hx hb dX10_snail_21 rfl (lv_at hl 1 rfl) ?_
      exact ret _ _ _ _ _ _ h hw hS dX10_snail_22
    · have h := ite_f c7 h
      obtain ⟨g8, h⟩ := h
      have hi9 : 0 ≤ v3 ∧ v3 < 8 := ⟨by omega, g8⟩
      have hl : lv_has ls 4 [(3, .ref (ad 1 v3)), (2, .int (iI v1)), (0, .ref (ad 0 0)), (1, .int (iI x1))] := by rw [← rf_pos (ad := ad) (k := 1) hi9.1]; exact hl
      exact hk23 v3 _ _ _ _ h hi9 hw hS (lv_sub hl [2, 0] rfl)
theorem hdX10_snail : yX10_snail.cls ≠ "java/lang/invoke/MethodHandle" ∧ yX10_snail.cls ≠ "java/lang/invoke/VarHandle" ∧ (parseMethodDescriptor yX10_snail.desc).map (fun d => d.parameters.length) = some 1 := by decide +kernel
def wpX10_barrel (G : GG) (k37 : Int → Int → MM → Prop) (x1 : Int) (x2 : Int) (μ : MM) (Q : Int → MM → Prop) : Prop := wpX10_refusalOfStrokes G x1 x2 μ (fun v1 μ2 => wpX10_rowOf G x1 μ2 (fun v3 μ4 => wpX10_rowOf G x2 μ4 (fun v5 μ6 => rg v1 ∧ (if v1 = 0 then (if v3 < 0 then (Q v1 μ6) else (v3 < 8 ∧ (if v5 < 0 then (Q v1 μ6) else (v5 < 8 ∧ (k37 v3 v5 μ6))))) else (Q v1 μ6)))))
set_option maxRecDepth 100000 in
set_option maxHeartbeats 4000000 in
theorem wX10_barrel {G : GG} {k37 : Int → Int → MM → Prop} {Q : Int → MM → Prop} {x1 : Int} {x2 : Int} {μ : MM} {H : Heap} {locs : List Loc} {ls : Array Slot} (F : CallFix p m c cX10_barrel 6 s args uw RX10) (hA : ∀ q : Nat, s.heap.size ≤ q → A q) (hR : 3 ≤ R.frames ∧ 66 ≤ R.locals) (ret : RetI p l e R s m args below meth c cX10_barrel Qf (dmC G) (cfC G) tyC (exC G) D cy ad A Q) (hk37 : ∀ (x4' x5' : Int) (μ' : MM) (H : Heap) (locs : List Loc) (ls : Array Slot), k37 x4' x5' μ' → 0 ≤ x4' ∧ x4' < 8 → 0 ≤ x5' ∧ x5' < 8 → wdC G D cy ad A μ' s H → va_S A s.heap H locs → lv_has ls 6 [(0, .ref (ad 0 0)), (4, .ref (ad 1 (x4'))), (5, .ref (ad 1 (x5')))] → W p l e R s m args below meth c H locs 0 0 Qf (F0 m 37 ls [])) (h : wpX10_barrel G k37 x1 x2 μ Q) (hw : wdC G D cy ad A μ s H) (hS : va_S A s.heap H locs) (hl : lv_has ls 6 [(0, .ref (ad 0 0)), (1, .int (iI x1)), (2, .int (iI x2))]) : W p l e R s m args below meth c H locs 0 0 Qf (F0 m 0 ls []) := by
  have hx := F.1
  have hb := F.2.1
  have hown := F.2.2.2.1
  have hts := F.2.2.2.2
  refine lv_aload_n hx hb dX10_barrel_0 rfl (lv_at hl 0 rfl) ?_
  refine lv_iload_n hx hb dX10_barrel_1 rfl (lv_at hl 1 rfl) ?_
  refine lv_iload_n hx hb dX10_barrel_2 rfl (lv_at hl 2 rfl) ?_
  refine call_V hexC F (kX10_refusalOfStrokes h) 2 tw2_153 tw1_1 tw2_152 tws1_3 tw2_150 hdX10_refusalOfStrokes ⟨Nat.le_trans (by decide) hR.1, Nat.le_trans (by decide) hR.2⟩ (hw.recv (k := 0) (i := 0) rfl rfl rfl) hA hw hS rfl hl.1 rfl (Nat.le_of_ble_eq_true rfl) dX10_barrel_3 (fun v1 μ2 H locs h hw hS => ?_)
  refine lv_istore_n (lv' := [(3, .int (iI v1)), (0, .ref (ad 0 0)), (1, .int (iI x1)), (2, .int (iI x2))]) hx hb dX10_barrel_6 rfl hl (by decide) rfl (fun ls hl => ?_)
  refine lv_aload_n hx hb dX10_barrel_7 rfl (lv_at hl 1 rfl) ?_
  refine lv_iload_n hx hb dX10_barrel_8 rfl (lv_at hl 2 rfl) ?_
  refine call_V hexC F (kX10_rowOf h) 1 tw2_16 tw1_1 tw2_15 tws1_0 tw2_13 hdX10_rowOf ⟨Nat.le_trans (by decide) hR.1, Nat.le_trans (by decide) hR.2⟩ (hw.recv (k := 0) (i := 0) rfl rfl rfl) hA hw hS rfl hl.1 rfl (Nat.le_of_ble_eq_true rfl) dX10_barrel_9 (fun v3 μ4 H locs h hw hS => ?_)
  refine q_astore (lv' := [(4, rf ad 1 v3), (3, .int (iI v1)), (0, .ref (ad 0 0)), (1, .int (iI x1)), (2, .int (iI x2))]) hx hb dX10_barrel_12 hl (by decide) rfl (fun ls hl => ?_)
  refine lv_aload_n hx hb dX10_barrel_14 rfl (lv_at hl 2 rfl) ?_
  refine lv_iload_n hx hb dX10_barrel_15 rfl (lv_at hl 4 rfl) ?_
  refine call_V hexC F (kX10_rowOf h) 1 tw2_16 tw1_1 tw2_15 tws1_0 tw2_13 hdX10_rowOf ⟨Nat.le_trans (by decide) hR.1, Nat.le_trans (by decide) hR.2⟩ (hw.recv (k := 0) (i := 0) rfl rfl rfl) hA hw hS rfl hl.1 rfl (Nat.le_of_ble_eq_true rfl) dX10_barrel_16 (fun v5 μ6 H locs h hw hS => ?_)
  refine q_astore (lv' := [(5, rf ad 1 v5), (4, rf ad 1 v3), (3, .int (iI v1)), (0, .ref (ad 0 0)), (1, .int (iI x1)), (2, .int (iI x2))]) hx hb dX10_barrel_19 hl (by decide) (by simp [rf_cat]) (fun ls hl => ?_)
  refine lv_iload_n hx hb dX10_barrel_21 rfl (lv_at hl 2 rfl) ?_
  obtain ⟨g7, h⟩ := h
  refine q_if_ne (tgt := 35) hx hb g7 dX10_barrel_22 (by decide) (fun c8 => ?_) (fun c8 => ?_)
  · have h := ite_f c8 h
    refine lv_iload_n hx hb dX10_barrel_35 rfl (lv_at hl 2 rfl) ?_
    exact ret _ _ _ _ _ _ h hw hS dX10_barrel_36
  · have h := ite_t c8 h
    refine q_aload hx hb dX10_barrel_25 (lv_at hl 1 rfl) ?_
    refine q_ifnull (tgt := 35) hx hb dX10_barrel_27 (by decide) (fun c9 => ?_) (fun c9 => ?_)
    · have h := ite_t c9 h
      refine lv_iload_n hx hb dX10_barrel_35 rfl (lv_at hl 2 rfl) ?_
      exact ret _ _ _ _ _ _ h hw hS dX10_barrel_36
    · have h := ite_f c9 h
      obtain ⟨g10, h⟩ := h
      have hi11 : 0 ≤ v3 ∧ v3 < 8 := ⟨by omega, g10⟩
      have hl : lv_has ls 6 [(5, rf ad 1 v5), (4, .ref (ad 1 v3)), (3, .int (iI v1)), (0, .ref (ad 0 0)), (1, .int (iI x1)), (2, .int (iI x2))] := by rw [← rf_pos (ad := ad) (k := 1) hi11.1]; exact hl
      refine q_aload hx hb dX10_barrel_30 (lv_at hl 0 rfl) ?_
      refine q_ifnonnull (tgt := 37) hx hb dX10_barrel_32 (by decide) (fun c12 => ?_) (fun c12 => ?_)
      · have h := ite_t c12 h
        refine lv_iload_n hx hb dX10_barrel_35 rfl (lv_at hl 2 rfl) ?_
        exact ret _ _ _ _ _ _ h hw hS dX10_barrel_36
      · have h := ite_f c12 h
        obtain ⟨g13, h⟩ := h
        have hi14 : 0 ≤ v5 ∧ v5 < 8 := ⟨by omega, g13⟩
        have hl : lv_has ls 6 [(5, .ref (ad 1 v5)), (4, .ref (ad 1 v3)), (3, .int (iI v1)), (0, .ref (ad 0 0)), (1, .int (iI x1)), (2, .int (iI x2))] := by rw [← rf_pos (ad := ad) (k := 1) hi14.1]; exact hl
        exact hk37 v3 v5 _ _ _ _ h hi11 hi14 hw hS (lv_sub hl [3, 1, 0] rfl)
theorem hdX10_barrel : yX10_barrel.cls ≠ "java/lang/invoke/MethodHandle" ∧ yX10_barrel.cls ≠ "java/lang/invoke/VarHandle" ∧ (parseMethodDescriptor yX10_barrel.desc).map (fun d => d.parameters.length) = some 2 := by decide +kernel
end
