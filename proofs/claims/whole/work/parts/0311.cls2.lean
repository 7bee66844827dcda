section
variable {p : Program} {l : Launch} {e : Env} {R : Room} {s : State} {m : MethodId} {args : Array Value} {below : List Frame} {meth : Method} {c : Code} {Qf : State → Prop} {D : va_G} {cy : Nat → ClassId} {ad : AD} {A : Nat → Prop}
def wpX10_trainOf (G : GG) (x1 : Int) (μ : MM) (Q : Int → MM → Prop) : Prop := rg x1 ∧ (if x1 < 0 then (Q (-1) μ) else (rg (μ 0 2 0) ∧ (if (μ 0 2 0) ≤ x1 then (Q (-1) μ) else (0 ≤ x1 ∧ (x1 < 16 ∧ (Q (μ 21 0 x1) μ))))))
set_option maxRecDepth 100000 in
set_option maxHeartbeats 4000000 in
theorem wX10_trainOf {G : GG} {Q : Int → MM → Prop} {x1 : Int} {μ : MM} {H : Heap} {locs : List Loc} {ls : Array Slot} (F : CallFix p m c cX10_trainOf 2 s args uw RX10) (hA : ∀ q : Nat, s.heap.size ≤ q → A q) (hR : 0 ≤ R.frames ∧ 0 ≤ R.locals) (ret : RetR 2 p l e R s m args below meth c cX10_trainOf Qf (dmC G) (cfC G) tyC (exC G) D cy ad A Q) (h : wpX10_trainOf G x1 μ Q) (hw : wdC G D cy ad A μ s H) (hS : va_S A s.heap H locs) (hl : lv_has ls 2 [(0, .ref (ad 0 0)), (1, .int (iI x1))]) : W p l e R s m args below meth c H locs 0 0 Qf (F0 m 0 ls []) := by
  have hx := F.1
  have hb := F.2.1
  have hown := F.2.2.2.1
  have hts := F.2.2.2.2
  refine lv_iload_n hx hb dX10_trainOf_0 rfl (lv_at hl 1 rfl) ?_
  obtain ⟨g1, h⟩ := h
  refine q_if_lt (tgt := 21) hx hb g1 dX10_trainOf_1 (by decide) (fun c2 => ?_) (fun c2 => ?_)
  · have h := ite_t c2 h
    refine lv_null hx hb dX10_trainOf_21 ?_
    exact (rf_neg (ad := ad) (k := 2) (x := -1) (by decide)) ▸ ret (-1) _ _ _ _ _ h hw hS dX10_trainOf_22
  · have h := ite_f c2 h
    refine lv_iload_n hx hb dX10_trainOf_4 rfl (lv_at hl 1 rfl) ?_
    refine lv_aload_n hx hb dX10_trainOf_5 rfl (lv_at hl 0 rfl) ?_
    refine gC_H_trainCount F hw tw1_208 dX10_trainOf_6 ?_
    obtain ⟨g3, h⟩ := h
    refine q_icmp_ge (tgt := 21) hx hb g1 g3 dX10_trainOf_9 (by decide) (fun c4 => ?_) (fun c4 => ?_)
    · have h := ite_t c4 h
      refine lv_null hx hb dX10_trainOf_21 ?_
      exact (rf_neg (ad := ad) (k := 2) (x := -1) (by decide)) ▸ ret (-1) _ _ _ _ _ h hw hS dX10_trainOf_22
    · have h := ite_f c4 h
      refine lv_aload_n hx hb dX10_trainOf_12 rfl (lv_at hl 0 rfl) ?_
      refine gC_H_trains F hw tw1_207 dX10_trainOf_13 ?_
      refine lv_iload_n hx hb dX10_trainOf_16 rfl (lv_at hl 1 rfl) ?_
      obtain ⟨g5, h⟩ := h
      obtain ⟨g6, h⟩ := h
      refine aC_21_ld hx hb hw g5 g6 dX10_trainOf_17 ?_
      refine lv_goto (tgt := 22) hx hb dX10_trainOf_18 (by decide) ?_
      exact ret _ _ _ _ _ _ h hw hS dX10_trainOf_22
set_option maxRecDepth 100000 in
set_option maxHeartbeats 4000000 in
theorem kX10_trainOf {l : Launch} {D : va_G} {cy : Nat → ClassId} {ad : AD} {A : Nat → Prop} {G : GG} {x1 : Int} {μ : MM} {Q : Int → MM → Prop} (h : wpX10_trainOf G x1 μ Q) : Met l yX10_trainOf (Cond.code yX10_trainOf cX10_trainOf 2 (some (.object "HammerTowers$Train")) :: uw) (rmm 0 0) (wPc [.ref (ad 0 0), .int (iI x1)] (dmC G) (cfC G) tyC (exC G) D cy ad A μ) (wQ (vR ad 2) Q (dmC G) (cfC G) D cy ad A) 0 0 A :=
  met_of (by decide) (Nat.le_of_ble_eq_true rfl) (fun p e R s m args below meth c ls hr hk hRR F hA hw hS hl => wX10_trainOf F hA (by subst hRR; exact ⟨Nat.le_refl _, Nat.le_refl _⟩) (retR_of F hr hk) h hw hS hl)
theorem hdX10_trainOf : yX10_trainOf.cls ≠ "java/lang/invoke/MethodHandle" ∧ yX10_trainOf.cls ≠ "java/lang/invoke/VarHandle" ∧ (parseMethodDescriptor yX10_trainOf.desc).map (fun d => d.parameters.length) = some 1 := by decide +kernel
def wpX10_broken (G : GG) (x1 : Int) (x2 : Int) (μ : MM) (Q : Int → MM → Prop) : Prop := wpX10_trainOf G x1 μ (fun v1 μ2 => if v1 < 0 then (Q (-1) μ2) else (v1 < G 0 0 ∧ (rg x2 ∧ (if x2 < 0 then (Q (-1) μ2) else (if x2 ≤ 255 then (∀ μ9 : MM, μ9 = ms μ2 2 6 v1 x2 → (Q (μ2 2 6 v1) μ9)) else (Q (-1) μ2))))))
set_option maxRecDepth 100000 in
set_option maxHeartbeats 4000000 in
theorem wX10_broken {G : GG} {Q : Int → MM → Prop} {x1 : Int} {x2 : Int} {μ : MM} {H : Heap} {locs : List Loc} {ls : Array Slot} (F : CallFix p m c cX10_broken 5 s args uw RX10) (hA : ∀ q : Nat, s.heap.size ≤ q → A q) (hR : 1 ≤ R.frames ∧ 21 ≤ R.locals) (ret : RetI p l e R s m args below meth c cX10_broken Qf (dmC G) (cfC G) tyC (exC G) D cy ad A Q) (h : wpX10_broken G x1 x2 μ Q) (hw : wdC G D cy ad A μ s H) (hS : va_S A s.heap H locs) (hl : lv_has ls 5 [(0, .ref (ad 0 0)), (1, .int (iI x1)), (2, .int (iI x2))]) : W p l e R s m args below meth c H locs 0 0 Qf (F0 m 0 ls []) := by
  have hx := F.1
  have hb := F.2.1
  have hown := F.2.2.2.1
  have hts := F.2.2.2.2
  refine lv_aload_n hx hb dX10_broken_0 rfl (lv_at hl 0 rfl) ?_
  refine lv_iload_n hx hb dX10_broken_1 rfl (lv_at hl 1 rfl) ?_
  refine call_V hexC F (kX10_trainOf h) 1 tw3_18 tw1_1 tw3_17 tws1_4 tw3_15 hdX10_trainOf ⟨Nat.le_trans (by decide) hR.1, Nat.le_trans (by decide) hR.2⟩ (hw.recv (k := 0) (i := 0) rfl rfl rfl) hA hw hS rfl hl.1 rfl (Nat.le_of_ble_eq_true rfl) dX10_broken_2 (fun v1 μ2 H locs h hw hS => ?_)
  refine q_astore_n (lv' := [(3, rf ad 2 v1), (0, .ref (ad 0 0)), (1, .int (iI x1)), (2, .int (iI x2))]) hx hb dX10_broken_5 rfl hl (by decide) rfl (fun ls hl => ?_)
  refine q_aload_n hx hb dX10_broken_6 rfl (lv_at hl 0 rfl) ?_
  refine q_ifnull (tgt := 21) hx hb dX10_broken_7 (by decide) (fun c3 => ?_) (fun c3 => ?_)
  · have h := ite_t c3 h
    refine q_iconst hx hb dX10_broken_21 ?_
    exact ret _ _ _ _ _ _ h hw hS dX10_broken_22
  · have h := ite_f c3 h
    obtain ⟨g4, h⟩ := h
    have hi5 : 0 ≤ v1 ∧ v1 < G 0 0 := ⟨by omega, g4⟩
    have hl : lv_has ls 5 [(3, .ref (ad 2 v1)), (0, .ref (ad 0 0)), (1, .int (iI x1)), (2, .int (iI x2))] := by rw [← rf_pos (ad := ad) (k := 2) hi5.1]; exact hl
    refine lv_iload_n hx hb dX10_broken_10 rfl (lv_at hl 3 rfl) ?_
    obtain ⟨g6, h⟩ := h
    refine q_if_lt (tgt := 21) hx hb g6 dX10_broken_11 (by decide) (fun c7 => ?_) (fun c7 => ?_)
    · have h := ite_t c7 h
      refine q_iconst hx hb dX10_broken_21 ?_
      exact ret _ _ _ _ _ _ h hw hS dX10_broken_22
    · have h := ite_f c7 h
      refine lv_iload_n hx hb dX10_broken_14 rfl (lv_at hl 3 rfl) ?_
      refine q_sipush hx hb (by decide) dX10_broken_15 ?_
      refine q_icmp_le (tgt := 23) hx hb g6 (by decide) dX10_broken_18 (by decide) (fun c8 => ?_) (fun c8 => ?_)
      · have h := ite_t c8 h
        refine lv_aload_n hx hb dX10_broken_23 rfl (lv_at hl 0 rfl) ?_
        refine gC_T_broken F hw hi5 tw2_87 (fun _ h => h) dX10_broken_24 ?_
        refine lv_istore (lv' := [(4, .int (iI (μ2 2 6 v1))), (3, .ref (ad 2 v1)), (0, .ref (ad 0 0)), (1, .int (iI x1)), (2, .int (iI x2))]) hx hb dX10_broken_27 hl (by decide) rfl (fun ls hl => ?_)
        refine lv_aload_n hx hb dX10_broken_29 rfl (lv_at hl 1 rfl) ?_
        refine lv_iload_n hx hb dX10_broken_30 rfl (lv_at hl 4 rfl) ?_
        obtain ⟨μ9, eμ9⟩ : ∃ z : MM, z = ms μ2 2 6 v1 x2 := ⟨_, rfl⟩
        have h := h μ9 eμ9
        refine pC_T_broken F hw hS hi5 tw2_87 (fun _ h => h) eμ9 dX10_broken_31 (fun H locs hw hS => ?_)
        refine lv_iload hx hb dX10_broken_34 (lv_at hl 0 rfl) ?_
        exact ret _ _ _ _ _ _ h hw hS dX10_broken_36
      · have h := ite_f c8 h
        refine q_iconst hx hb dX10_broken_21 ?_
        exact ret _ _ _ _ _ _ h hw hS dX10_broken_22
set_option maxRecDepth 100000 in
set_option maxHeartbeats 4000000 in
theorem kX10_broken {l : Launch} {D : va_G} {cy : Nat → ClassId} {ad : AD} {A : Nat → Prop} {G : GG} {x1 : Int} {x2 : Int} {μ : MM} {Q : Int → MM → Prop} (h : wpX10_broken G x1 x2 μ Q) : Met l yX10_broken (Cond.code yX10_broken cX10_broken 5 (some .int) :: uw) (rmm 1 21) (wPc [.ref (ad 0 0), .int (iI x1), .int (iI x2)] (dmC G) (cfC G) tyC (exC G) D cy ad A μ) (wQ vI Q (dmC G) (cfC G) D cy ad A) 0 0 A :=
  met_of (by decide) (Nat.le_of_ble_eq_true rfl) (fun p e R s m args below meth c ls hr hk hRR F hA hw hS hl => wX10_broken F hA (by subst hRR; exact ⟨Nat.le_refl _, Nat.le_refl _⟩) (retI_of F hr hk) h hw hS hl)
theorem hdX10_broken : yX10_broken.cls ≠ "java/lang/invoke/MethodHandle" ∧ yX10_broken.cls ≠ "java/lang/invoke/VarHandle" ∧ (parseMethodDescriptor yX10_broken.desc).map (fun d => d.parameters.length) = some 2 := by decide +kernel
def wpX2_chosenAt (G : GG) (x1 : Int) (μ : MM) (Q : Int → MM → Prop) : Prop := rg x1 ∧ (if x1 < 0 then (Q (-9) μ) else (rg (μ 7 3 0) ∧ (if (μ 7 3 0) ≤ x1 then (Q (-9) μ) else (if 4 ≤ x1 then (Q (-9) μ) else (0 ≤ x1 ∧ (x1 < 4 ∧ (Q (μ 18 0 x1) μ)))))))
set_option maxRecDepth 100000 in
set_option maxHeartbeats 4000000 in
theorem wX2_chosenAt {G : GG} {Q : Int → MM → Prop} {x1 : Int} {μ : MM} {H : Heap} {locs : List Loc} {ls : Array Slot} (F : CallFix p m c cX2_chosenAt 2 s args uw RX2) (hA : ∀ q : Nat, s.heap.size ≤ q → A q) (hR : 0 ≤ R.frames ∧ 0 ≤ R.locals) (ret : RetI p l e R s m args below meth c cX2_chosenAt Qf (dmC G) (cfC G) tyC (exC G) D cy ad A Q) (h : wpX2_chosenAt G x1 μ Q) (hw : wdC G D cy ad A μ s H) (hS : va_S A s.heap H locs) (hl : lv_has ls 2 [(0, .ref (ad 7 0)), (1, .int (iI x1))]) : W p l e R s m args below meth c H locs 0 0 Qf (F0 m 0 ls []) := by
  have hx := F.1
  have hb := F.2.1
  have hown := F.2.2.2.1
  have hts := F.2.2.2.2
  refine lv_iload_n hx hb dX2_chosenAt_0 rfl (lv_at hl 1 rfl) ?_
  obtain ⟨g1, h⟩ := h
  refine q_if_lt (tgt := 30) hx hb g1 dX2_chosenAt_1 (by decide) (fun c2 => ?_) (fun c2 => ?_)
  · have h := ite_t c2 h
    refine q_bipush hx hb (by decide) dX2_chosenAt_30 ?_
    exact ret _ _ _ _ _ _ h hw hS dX2_chosenAt_32
  · have h := ite_f c2 h
    refine lv_iload_n hx hb dX2_chosenAt_4 rfl (lv_at hl 1 rfl) ?_
    refine lv_aload_n hx hb dX2_chosenAt_5 rfl (lv_at hl 0 rfl) ?_
    refine gC_Q_chosenCount F hw tw1_88 dX2_chosenAt_6 ?_
    obtain ⟨g3, h⟩ := h
    refine q_icmp_ge (tgt := 30) hx hb g1 g3 dX2_chosenAt_9 (by decide) (fun c4 => ?_) (fun c4 => ?_)
    · have h := ite_t c4 h
      refine q_bipush hx hb (by decide) dX2_chosenAt_30 ?_
      exact ret _ _ _ _ _ _ h hw hS dX2_chosenAt_32
    · have h := ite_f c4 h
      refine lv_iload_n hx hb dX2_chosenAt_12 rfl (lv_at hl 1 rfl) ?_
      refine lv_aload_n hx hb dX2_chosenAt_13 rfl (lv_at hl 0 rfl) ?_
      refine gC_Q_chosen F hw tw1_87 dX2_chosenAt_14 ?_
      refine aC_18_ln hx hb hw dX2_chosenAt_17 ?_
      refine q_icmp_ge (tgt := 30) hx hb g1 (by decide) dX2_chosenAt_18 (by decide) (fun c5 => ?_) (fun c5 => ?_)
      · have h := ite_t c5 h
        refine q_bipush hx hb (by decide) dX2_chosenAt_30 ?_
        exact ret _ _ _ _ _ _ h hw hS dX2_chosenAt_32
      · have h := ite_f c5 h
        refine lv_aload_n hx hb dX2_chosenAt_21 rfl (lv_at hl 0 rfl) ?_
        refine gC_Q_chosen F hw tw1_87 dX2_chosenAt_22 ?_
        refine lv_iload_n hx hb dX2_chosenAt_25 rfl (lv_at hl 1 rfl) ?_
        obtain ⟨g6, h⟩ := h
        obtain ⟨g7, h⟩ := h
        refine aC_18_ld hx hb hw g6 g7 dX2_chosenAt_26 ?_
        refine lv_goto (tgt := 32) hx hb dX2_chosenAt_27 (by decide) ?_
        exact ret _ _ _ _ _ _ h hw hS dX2_chosenAt_32
set_option maxRecDepth 100000 in
set_option maxHeartbeats 4000000 in
theorem kX2_chosenAt {l : Launch} {D : va_G} {cy : Nat → ClassId} {ad : AD} {A : Nat → Prop} {G : GG} {x1 : Int} {μ : MM} {Q : Int → MM → Prop} (h : wpX2_chosenAt G x1 μ Q) : Met l yX2_chosenAt (Cond.code yX2_chosenAt cX2_chosenAt 2 (some .int) :: uw) (rmm 0 0) (wPc [.ref (ad 7 0), .int (iI x1)] (dmC G) (cfC G) tyC (exC G) D cy ad A μ) (wQ vI Q (dmC G) (cfC G) D cy ad A) 0 0 A :=
  met_of (by decide) (Nat.le_of_ble_eq_true rfl) (fun p e R s m args below meth c ls hr hk hRR F hA hw hS hl => wX2_chosenAt F hA (by subst hRR; exact ⟨Nat.le_refl _, Nat.le_refl _⟩) (retI_of F hr hk) h hw hS hl)
theorem hdX2_chosenAt : yX2_chosenAt.cls ≠ "java/lang/invoke/MethodHandle" ∧ yX2_chosenAt.cls ≠ "java/lang/invoke/VarHandle" ∧ (parseMethodDescriptor yX2_chosenAt.desc).map (fun d => d.parameters.length) = some 1 := by decide +kernel
def wpX10_chosen (G : GG) (x1 : Int) (μ : MM) (Q : Int → MM → Prop) : Prop := wpX2_chosenAt G x1 μ (fun v1 μ2 => Q v1 μ2)
set_option maxRecDepth 100000 in
set_option maxHeartbeats 4000000 in
theorem wX10_chosen {G : GG} {Q : Int → MM → Prop} {x1 : Int} {μ : MM} {H : Heap} {locs : List Loc} {ls : Array Slot} (F : CallFix p m c cX10_chosen 2 s args uw RX10) (hA : ∀ q : Nat, s.heap.size ≤ q → A q) (hR : 1 ≤ R.frames ∧ 21 ≤ R.locals) (ret : RetI p l e R s m args below meth c cX10_chosen Qf (dmC G) (cfC G) tyC (exC G) D cy ad A Q) (h : wpX10_chosen G x1 μ Q) (hw : wdC G D cy ad A μ s H) (hS : va_S A s.heap H locs) (hl : lv_has ls 2 [(0, .ref (ad 0 0)), (1, .int (iI x1))]) : W p l e R s m args below meth c H locs 0 0 Qf (F0 m 0 ls []) := by
  have hx := F.1
  have hb := F.2.1
  have hown := F.2.2.2.1
  have hts := F.2.2.2.2
  refine lv_aload_n hx hb dX10_chosen_0 rfl (lv_at hl 0 rfl) ?_
  refine gC_H_gearing F hw tw1_216 dX10_chosen_1 ?_
  refine lv_iload_n hx hb dX10_chosen_4 rfl (lv_at hl 1 rfl) ?_
  refine call_V hexC F (kX2_chosenAt h) 1 tw5_16 tw1_4 tw5_14 tw5_15 tw5_13 hdX2_chosenAt ⟨Nat.le_trans (by decide) hR.1, Nat.le_trans (by decide) hR.2⟩ (hw.recv (k := 7) (i := 0) rfl rfl rfl) hA hw hS rfl hl.1 rfl (Nat.le_of_ble_eq_true rfl) dX10_chosen_5 (fun v1 μ2 H locs h hw hS => ?_)
  exact ret _ _ _ _ _ _ h hw hS dX10_chosen_8
set_option maxRecDepth 100000 in
set_option maxHeartbeats 4000000 in
theorem kX10_chosen {l : Launch} {D : va_G} {cy : Nat → ClassId} {ad : AD} {A : Nat → Prop} {G : GG} {x1 : Int} {μ : MM} {Q : Int → MM → Prop} (h : wpX10_chosen G x1 μ Q) : Met l yX10_chosen (Cond.code yX10_chosen cX10_chosen 2 (some .int) :: uw) (rmm 1 21) (wPc [.ref (ad 0 0), .int (iI x1)] (dmC G) (cfC G) tyC (exC G) D cy ad A μ) (wQ vI Q (dmC G) (cfC G) D cy ad A) 0 0 A :=
  met_of (by decide) (Nat.le_of_ble_eq_true rfl) (fun p e R s m args below meth c ls hr hk hRR F hA hw hS hl => wX10_chosen F hA (by subst hRR; exact ⟨Nat.le_refl _, Nat.le_refl _⟩) (retI_of F hr hk) h hw hS hl)
theorem hdX10_chosen : yX10_chosen.cls ≠ "java/lang/invoke/MethodHandle" ∧ yX10_chosen.cls ≠ "java/lang/invoke/VarHandle" ∧ (parseMethodDescriptor yX10_chosen.desc).map (fun d => d.parameters.length) = some 1 := by decide +kernel
def wpX6_isThere (G : GG) (i : Int) (μ : MM) (Q : Int → MM → Prop) : Prop := rg (μ 1 1 i) ∧ (if (μ 1 1 i) = (-1) then (Q 0 μ) else (Q 1 μ))
set_option maxRecDepth 100000 in
set_option maxHeartbeats 4000000 in
theorem wX6_isThere {G : GG} {Q : Int → MM → Prop} {i : Int} {μ : MM} {H : Heap} {locs : List Loc} {ls : Array Slot} (F : CallFix p m c cX6_isThere 1 s args uw RX6) (hA : ∀ q : Nat, s.heap.size ≤ q → A q) (hR : 0 ≤ R.frames ∧ 0 ≤ R.locals) (ret : RetZ p l e R s m args below meth c cX6_isThere Qf (dmC G) (cfC G) tyC (exC G) D cy ad A Q) (h : wpX6_isThere G i μ Q) (hi_i : 0 ≤ i ∧ i < 8) (hw : wdC G D cy ad A μ s H) (hS : va_S A s.heap H locs) (hl : lv_has ls 1 [(0, .ref (ad 1 i))]) : W p l e R s m args below meth c H locs 0 0 Qf (F0 m 0 ls []) := by
  have hx := F.1
  have hb := F.2.1
  have hown := F.2.2.2.1
  have hts := F.2.2.2.2
  refine lv_aload_n hx hb dX6_isThere_0 rfl (lv_at hl 0 rfl) ?_
  refine gC_R_size F hw hi_i tw1_122 dX6_isThere_1 ?_
  refine q_iconst hx hb dX6_isThere_4 ?_
  obtain ⟨g1, h⟩ := h
  refine q_icmp_eq (tgt := 12) hx hb g1 (by decide) dX6_isThere_5 (by decide) (fun c2 => ?_) (fun c2 => ?_)
  · have h := ite_t c2 h
    refine q_iconst hx hb dX6_isThere_12 ?_
    exact ret _ _ _ _ _ _ (Or.inl rfl) h hw hS dX6_isThere_13
  · have h := ite_f c2 h
    refine q_iconst hx hb dX6_isThere_8 ?_
    refine lv_goto (tgt := 13) hx hb dX6_isThere_9 (by decide) ?_
    exact ret _ _ _ _ _ _ (Or.inr rfl) h hw hS dX6_isThere_13
set_option maxRecDepth 100000 in
set_option maxHeartbeats 4000000 in
theorem kX6_isThere {l : Launch} {D : va_G} {cy : Nat → ClassId} {ad : AD} {A : Nat → Prop} {G : GG} {i : Int} {μ : MM} {Q : Int → MM → Prop} (h : wpX6_isThere G i μ Q) (hi_i : 0 ≤ i ∧ i < 8) : Met l yX6_isThere (Cond.code yX6_isThere cX6_isThere 1 (some .boolean) :: uw) (rmm 0 0) (wPc [.ref (ad 1 i)] (dmC G) (cfC G) tyC (exC G) D cy ad A μ) (wQ vI (fun v u => (v = 0 ∨ v = 1) ∧ Q v u) (dmC G) (cfC G) D cy ad A) 0 0 A :=
  met_of (by decide) (Nat.le_of_ble_eq_true rfl) (fun p e R s m args below meth c ls hr hk hRR F hA hw hS hl => wX6_isThere F hA (by subst hRR; exact ⟨Nat.le_refl _, Nat.le_refl _⟩) (retZ2_of F hr hk) h hi_i hw hS hl)
theorem hdX6_isThere : yX6_isThere.cls ≠ "java/lang/invoke/MethodHandle" ∧ yX6_isThere.cls ≠ "java/lang/invoke/VarHandle" ∧ (parseMethodDescriptor yX6_isThere.desc).map (fun d => d.parameters.length) = some 0 := by decide +kernel
def wpX10_rowsThere_J34 (G : GG) (k4 : Int → Int → MM → Prop) (Q : Int → MM → Prop) (x1 : Int) (x2 : Int) (μ : MM) : Prop := k4 x1 (x2 + 1) μ
set_option maxRecDepth 100000 in
set_option maxHeartbeats 4000000 in
theorem wX10_rowsThere_J34 {G : GG} {k4 : Int → Int → MM → Prop} {Q : Int → MM → Prop} {x1 : Int} {x2 : Int} {μ : MM} {H : Heap} {locs : List Loc} {ls : Array Slot} (F : CallFix p m c cX10_rowsThere 4 s args uw RX10) (hA : ∀ q : Nat, s.heap.size ≤ q → A q) (hR : 1 ≤ R.frames ∧ 20 ≤ R.locals) (ret : RetI p l e R s m args below meth c cX10_rowsThere Qf (dmC G) (cfC G) tyC (exC G) D cy ad A Q) (hk4 : ∀ (x1' x2' : Int) (μ' : MM) (H : Heap) (locs : List Loc) (ls : Array Slot), k4 x1' x2' μ' → wdC G D cy ad A μ' s H → va_S A s.heap H locs → lv_has ls 4 [(0, .ref (ad 0 0)), (1, .int (iI (x1'))), (2, .int (iI (x2')))] → W p l e R s m args below meth c H locs 0 0 Qf (F0 m 4 ls [])) (h : wpX10_rowsThere_J34 G k4 Q x1 x2 μ) (hw : wdC G D cy ad A μ s H) (hS : va_S A s.heap H locs) (hl : lv_has ls 4 [(0, .ref (ad 0 0)), (1, .int (iI x1)), (2, .int (iI x2))]) : W p l e R s m args below meth c H locs 0 0 Qf (F0 m 34 ls []) := by
  have hx := F.1
  have hb := F.2.1
  have hown := F.2.2.2.1
  have hts := F.2.2.2.2
  refine q_iinc (k := 2) (lv' := [(2, .int (iI (x2 + 1))), (0, .ref (ad 0 0)), (1, .int (iI x1))]) hx hb dX10_rowsThere_34 hl rfl (by decide) rfl (fun ls hl => ?_)
  refine lv_goto (tgt := 4) hx hb dX10_rowsThere_37 (by decide) ?_
  exact hk4 x1 (x2 + 1) _ _ _ _ h hw hS (lv_sub hl [1, 2, 0] rfl)
def wpX10_rowsThere_L4 (G : GG) (Q : Int → MM → Prop) : Nat → Int → Int → MM → Prop
  | 0, _, _, _ => False
  | n + 1, x1, x2, μ => rg x2 ∧ (if 8 ≤ x2 then (Q x1 μ) else (0 ≤ x2 ∧ (x2 < 8 ∧ (wpX6_isThere G x2 μ (fun v5 μ6 => if v5 = 0 then (wpX10_rowsThere_J34 G (fun x1' x2' μ' => wpX10_rowsThere_L4 G Q n x1' x2' μ') Q x1 x2 μ6) else (wpX10_rowsThere_J34 G (fun x1' x2' μ' => wpX10_rowsThere_L4 G Q n x1' x2' μ') Q (x1 + 1) x2 μ6))))))
set_option maxRecDepth 100000 in
set_option maxHeartbeats 4000000 in
theorem wX10_rowsThere_L4 {G : GG} {Q : Int → MM → Prop} (F : CallFix p m c cX10_rowsThere 4 s args uw RX10) (hA : ∀ q : Nat, s.heap.size ≤ q → A q) (hR : 1 ≤ R.frames ∧ 20 ≤ R.locals) (ret : RetI p l e R s m args below meth c cX10_rowsThere Qf (dmC G) (cfC G) tyC (exC G) D cy ad A Q) : ∀ (n : Nat) (x1 x2 : Int) (μ : MM) (H : Heap) (locs : List Loc) (ls : Array Slot), wpX10_rowsThere_L4 G Q n x1 x2 μ → wdC G D cy ad A μ s H → va_S A s.heap H locs → lv_has ls 4 [(0, .ref (ad 0 0)), (1, .int (iI x1)), (2, .int (iI x2))] → W p l e R s m args below meth c H locs 0 0 Qf (F0 m 4 ls []) := by
  have hx := F.1
  have hb := F.2.1
  have hown := F.2.2.2.1
  have hts := F.2.2.2.2
  intro n
  induction n with
  | zero =>
    intro x1 x2 μ H locs ls h hw hS hl
    exact h.elim
  | succ n ih =>
    intro x1 x2 μ H locs ls h hw hS hl
    refine lv_iload_n hx hb dX10_rowsThere_4 rfl (lv_at hl 2 rfl) ?_
    refine lv_aload_n hx hb dX10_rowsThere_5 rfl (lv_at hl 0 rfl) ?_
    refine gC_H_rows F hw tw1_206 dX10_rowsThere_6 ?_
    refine aC_20_ln hx hb hw dX10_rowsThere_9 ?_
    obtain ⟨g1, h⟩ := h
    refine q_icmp_ge (tgt := 40) hx hb g1 (by decide) dX10_rowsThere_10 (by decide) (fun c2 => ?_) (fun c2 => ?_)
    · have h := ite_t c2 h
      refine lv_iload_n hx hb dX10_rowsThere_40 rfl (lv_at hl 1 rfl) ?_
      exact ret _ _ _ _ _ _ h hw hS dX10_rowsThere_41
    · have h := ite_f c2 h
      refine lv_aload_n hx hb dX10_rowsThere_13 rfl (lv_at hl 0 rfl) ?_
      refine gC_H_rows F hw tw1_206 dX10_rowsThere_14 ?_
      refine lv_iload_n hx hb dX10_rowsThere_17 rfl (lv_at hl 2 rfl) ?_
      obtain ⟨g3, h⟩ := h
      obtain ⟨g4, h⟩ := h
      refine aC_20_ld hx hb hw g3 g4 dX10_rowsThere_18 ?_
      refine lv_astore_n (lv' := [(3, .ref (ad 1 x2)), (0, .ref (ad 0 0)), (1, .int (iI x1)), (2, .int (iI x2))]) hx hb dX10_rowsThere_19 rfl hl (by decide) rfl (fun ls hl => ?_)
      refine lv_aload_n hx hb dX10_rowsThere_20 rfl (lv_at hl 0 rfl) ?_
      refine lv_ifnull hx hb dX10_rowsThere_21 ?_
      refine lv_aload_n hx hb dX10_rowsThere_24 rfl (lv_at hl 0 rfl) ?_
      refine call_V hexC F (kX6_isThere h (And.intro g3 g4)) 0 tw2_35 tw1_5 tw2_33 tw2_34 tw2_32 hdX6_isThere ⟨Nat.le_trans (by decide) hR.1, Nat.le_trans (by decide) hR.2⟩ (hw.recv (k := 1) (i := x2) (And.intro g3 g4) rfl rfl) hA hw hS rfl hl.1 rfl (Nat.le_of_ble_eq_true rfl) dX10_rowsThere_25 (fun v5 μ6 H locs h hw hS => ?_)
      obtain ⟨z7, h⟩ := h
      refine q_if_eq (tgt := 34) hx hb (rgB z7) dX10_rowsThere_28 (by decide) (fun c8 => ?_) (fun c8 => ?_)
      · have h := ite_t c8 h
        exact wX10_rowsThere_J34 F hA hR ret (fun x1 x2 => ih x1 x2) h hw hS (lv_sub hl [1, 2, 3] rfl)
      · have h := ite_f c8 h
        refine q_iinc (k := 2) (lv' := [(1, .int (iI (x1 + 1))), (3, .ref (ad 1 x2)), (0, .ref (ad 0 0)), (2, .int (iI x2))]) hx hb dX10_rowsThere_31 hl rfl (by decide) rfl (fun ls hl => ?_)
        exact wX10_rowsThere_J34 F hA hR ret (fun x1 x2 => ih x1 x2) h hw hS (lv_sub hl [2, 0, 3] rfl)
def wpX10_rowsThere (G : GG) (μ : MM) (Q : Int → MM → Prop) : Prop := ∃ n1 : Nat, wpX10_rowsThere_L4 G Q n1 0 0 μ
set_option maxRecDepth 100000 in
set_option maxHeartbeats 4000000 in
theorem wX10_rowsThere {G : GG} {Q : Int → MM → Prop} {μ : MM} {H : Heap} {locs : List Loc} {ls : Array Slot} (F : CallFix p m c cX10_rowsThere 4 s args uw RX10) (hA : ∀ q : Nat, s.heap.size ≤ q → A q) (hR : 1 ≤ R.frames ∧ 20 ≤ R.locals) (ret : RetI p l e R s m args below meth c cX10_rowsThere Qf (dmC G) (cfC G) tyC (exC G) D cy ad A Q) (h : wpX10_rowsThere G μ Q) (hw : wdC G D cy ad A μ s H) (hS : va_S A s.heap H locs) (hl : lv_has ls 4 [(0, .ref (ad 0 0))]) : W p l e R s m args below meth c H locs 0 0 Qf (F0 m 0 ls []) := by
  have hx := F.1
  have hb := F.2.1
  have hown := F.2.2.2.1
  have hts := F.2.2.2.2
  refine q_iconst hx hb dX10_rowsThere_0 ?_
  refine lv_istore_n (lv' := [(1, .int (iI 0)), (0, .ref (ad 0 0))]) hx hb dX10_rowsThere_1 rfl hl (by decide) rfl (fun ls hl => ?_)
  refine q_iconst hx hb dX10_rowsThere_2 ?_
  refine lv_istore_n (lv' := [(2, .int (iI 0)), (1, .int (iI 0)), (0, .ref (ad 0 0))]) hx hb dX10_rowsThere_3 rfl hl (by decide) rfl (fun ls hl => ?_)
  obtain ⟨n1, h⟩ := h
  exact wX10_rowsThere_L4 F hA hR ret n1 0 0 _ _ _ _ h hw hS (lv_sub hl [2, 1, 0] rfl)
set_option maxRecDepth 100000 in
set_option maxHeartbeats 4000000 in
theorem kX10_rowsThere {l : Launch} {D : va_G} {cy : Nat → ClassId} {ad : AD} {A : Nat → Prop} {G : GG} {μ : MM} {Q : Int → MM → Prop} (h : wpX10_rowsThere G μ Q) : Met l yX10_rowsThere (Cond.code yX10_rowsThere cX10_rowsThere 4 (some .int) :: uw) (rmm 1 20) (wPc [.ref (ad 0 0)] (dmC G) (cfC G) tyC (exC G) D cy ad A μ) (wQ vI Q (dmC G) (cfC G) D cy ad A) 0 0 A :=
  met_of (by decide) (Nat.le_of_ble_eq_true rfl) (fun p e R s m args below meth c ls hr hk hRR F hA hw hS hl => wX10_rowsThere F hA (by subst hRR; exact ⟨Nat.le_refl _, Nat.le_refl _⟩) (retI_of F hr hk) h hw hS hl)
theorem hdX10_rowsThere : yX10_rowsThere.cls ≠ "java/lang/invoke/MethodHandle" ∧ yX10_rowsThere.cls ≠ "java/lang/invoke/VarHandle" ∧ (parseMethodDescriptor yX10_rowsThere.desc).map (fun d => d.parameters.length) = some 0 := by decide +kernel
def wpX10_strokesEver_J30 (G : GG) (k4 : Int → Int → MM → Prop) (Q : Int → MM → Prop) (x1 : Int) (x2 : Int) (μ : MM) : Prop := k4 x1 (x2 + 1) μ
set_option maxRecDepth 100000 in
set_option maxHeartbeats 4000000 in
theorem wX10_strokesEver_J30 {G : GG} {k4 : Int → Int → MM → Prop} {Q : Int → MM → Prop} {x1 : Int} {x2 : Int} {μ : MM} {H : Heap} {locs : List Loc} {ls : Array Slot} (F : CallFix p m c cX10_strokesEver 4 s args uw RX10) (hA : ∀ q : Nat, s.heap.size ≤ q → A q) (hR : 0 ≤ R.frames ∧ 0 ≤ R.locals) (ret : RetI p l e R s m args below meth c cX10_strokesEver Qf (dmC G) (cfC G) tyC (exC G) D cy ad A Q) (hk4 : ∀ (x1' x2' : Int) (μ' : MM) (H : Heap) (locs : List Loc) (ls : Array Slot), k4 x1' x2' μ' → wdC G D cy ad A μ' s H → va_S A s.heap H locs → lv_has ls 4 [(0, .ref (ad 0 0)), (1, .int (iI (x1'))), (2, .int (iI (x2')))] → W p l e R s m args below meth c H locs 0 0 Qf (F0 m 4 ls [])) (h : wpX10_strokesEver_J30 G k4 Q x1 x2 μ) (hw : wdC G D cy ad A μ s H) (hS : va_S A s.heap H locs) (hl : lv_has ls 4 [(0, .ref (ad 0 0)), (1, .int (iI x1)), (2, .int (iI x2))]) : W p l e R s m args below meth c H locs 0 0 Qf (F0 m 30 ls []) := by
  have hx := F.1
  have hb := F.2.1
  have hown := F.2.2.2.1
  have hts := F.2.2.2.2
  refine q_iinc (k := 2) (lv' := [(2, .int (iI (x2 + 1))), (0, .ref (ad 0 0)), (1, .int (iI x1))]) hx hb dX10_strokesEver_30 hl rfl (by decide) rfl (fun ls hl => ?_)
  refine lv_goto (tgt := 4) hx hb dX10_strokesEver_33 (by decide) ?_
  exact hk4 x1 (x2 + 1) _ _ _ _ h hw hS (lv_sub hl [1, 2, 0] rfl)
def wpX10_strokesEver_L4 (G : GG) (Q : Int → MM → Prop) : Nat → Int → Int → MM → Prop
  | 0, _, _, _ => False
  | n + 1, x1, x2, μ => rg x2 ∧ (rg (μ 0 2 0) ∧ (if (μ 0 2 0) ≤ x2 then (Q x1 μ) else (0 ≤ x2 ∧ (x2 < 16 ∧ (if μ 21 0 x2 < 0 then (wpX10_strokesEver_J30 G (fun x1' x2' μ' => wpX10_strokesEver_L4 G Q n x1' x2' μ') Q x1 x2 μ) else (μ 21 0 x2 < G 0 0 ∧ (∀ y9 : Int, y9 = x1 + (μ 2 8 (μ 21 0 x2)) → (wpX10_strokesEver_J30 G (fun x1' x2' μ' => wpX10_strokesEver_L4 G Q n x1' x2' μ') Q y9 x2 μ))))))))
set_option maxRecDepth 100000 in
set_option maxHeartbeats 4000000 in
theorem wX10_strokesEver_L4 {G : GG} {Q : Int → MM → Prop} (F : CallFix p m c cX10_strokesEver 4 s args uw RX10) (hA : ∀ q : Nat, s.heap.size ≤ q → A q) (hR : 0 ≤ R.frames ∧ 0 ≤ R.locals) (ret : RetI p l e R s m args below meth c cX10_strokesEver Qf (dmC G) (cfC G) tyC (exC G) D cy ad A Q) : ∀ (n : Nat) (x1 x2 : Int) (μ : MM) (H : Heap) (locs : List Loc) (ls : Array Slot), wpX10_strokesEver_L4 G Q n x1 x2 μ → wdC G D cy ad A μ s H → va_S A s.heap H locs → lv_has ls 4 [(0, .ref (ad 0 0)), (1, .int (iI x1)), (2, .int (iI x2))] → W p l e R s m args below meth c H locs 0 0 Qf (F0 m 4 ls []) := by
  have hx := F.1
  have hb := F.2.1
  have hown := F.2.2.2.1
  have hts := F.2.2.2.2
  intro n
  induction n with
  | zero =>
    intro x1 x2 μ H locs ls h hw hS hl
    exact h.elim
  | succ n ih =>
    intro x1 x2 μ H locs ls h hw hS hl
    refine lv_iload_n hx hb dX10_strokesEver_4 rfl (lv_at hl 2 rfl) ?_
    refine lv_aload_n hx hb dX10_strokesEver_5 rfl (lv_at hl 0 rfl) ?_
    refine gC_H_trainCount F hw tw1_208 dX10_strokesEver_6 ?_
    obtain ⟨g1, h⟩ := h
    obtain ⟨g2, h⟩ := h
    refine q_icmp_ge (tgt := 36) hx hb g1 g2 dX10_strokesEver_9 (by decide) (fun c3 => ?_) (fun c3 => ?_)
    · have h := ite_t c3 h
      refine lv_iload_n hx hb dX10_strokesEver_36 rfl (lv_at hl 1 rfl) ?_
      exact ret _ _ _ _ _ _ h hw hS dX10_strokesEver_37
    · have h := ite_f c3 h
      refine lv_aload_n hx hb dX10_strokesEver_12 rfl (lv_at hl 0 rfl) ?_
      refine gC_H_trains F hw tw1_207 dX10_strokesEver_13 ?_
      refine lv_iload_n hx hb dX10_strokesEver_16 rfl (lv_at hl 2 rfl) ?_
      obtain ⟨g4, h⟩ := h
      obtain ⟨g5, h⟩ := h
      refine aC_21_ld hx hb hw g4 g5 dX10_strokesEver_17 ?_
      refine q_astore_n (lv' := [(3, rf ad 2 (μ 21 0 x2)), (0, .ref (ad 0 0)), (1, .int (iI x1)), (2, .int (iI x2))]) hx hb dX10_strokesEver_18 rfl hl (by decide) rfl (fun ls hl => ?_)
      refine q_aload_n hx hb dX10_strokesEver_19 rfl (lv_at hl 0 rfl) ?_
      refine q_ifnull (tgt := 30) hx hb dX10_strokesEver_20 (by decide) (fun c6 => ?_) (fun c6 => ?_)
      · have h := ite_t c6 h
        exact wX10_strokesEver_J30 F hA hR ret (fun x1 x2 => ih x1 x2) h hw hS (lv_sub hl [1, 2, 3] rfl)
      · have h := ite_f c6 h
        obtain ⟨g7, h⟩ := h
        have hi8 : 0 ≤ μ 21 0 x2 ∧ μ 21 0 x2 < G 0 0 := ⟨by omega, g7⟩
        have hl : lv_has ls 4 [(3, .ref (ad 2 (μ 21 0 x2))), (0, .ref (ad 0 0)), (1, .int (iI x1)), (2, .int (iI x2))] := by rw [← rf_pos (ad := ad) (k := 2) hi8.1]; exact hl
        refine lv_iload_n hx hb dX10_strokesEver_23 rfl (lv_at hl 2 rfl) ?_
        refine lv_aload_n hx hb dX10_strokesEver_24 rfl (lv_at hl 0 rfl) ?_
        refine gC_T_struck F hw hi8 tw2_96 (fun _ h => h) dX10_strokesEver_25 ?_
        refine q_iadd hx hb dX10_strokesEver_28 ?_
        obtain ⟨y9, ey9⟩ : ∃ z : Int, z = x1 + (μ 2 8 (μ 21 0 x2)) := ⟨_, rfl⟩
        have h := h y9 ey9
        refine q_nmI ey9 ?_
        refine lv_istore_n (lv' := [(1, .int (iI y9)), (3, .ref (ad 2 (μ 21 0 x2))), (0, .ref (ad 0 0)), (2, .int (iI x2))]) hx hb dX10_strokesEver_29 rfl hl (by decide) rfl (fun ls hl => ?_)
        exact wX10_strokesEver_J30 F hA hR ret (fun x1 x2 => ih x1 x2) h hw hS (lv_sub hl [2, 0, 3] rfl)
def wpX10_strokesEver (G : GG) (μ : MM) (Q : Int → MM → Prop) : Prop := ∃ n1 : Nat, wpX10_strokesEver_L4 G Q n1 0 0 μ
set_option maxRecDepth 100000 in
set_option maxHeartbeats 4000000 in
theorem wX10_strokesEver {G : GG} {Q : Int → MM → Prop} {μ : MM} {H : Heap} {locs : List Loc} {ls : Array Slot} (F : CallFix p m c cX10_strokesEver 4 s args uw RX10) (hA : ∀ q : Nat, s.heap.size ≤ q → A q) (hR : 0 ≤ R.frames ∧ 0 ≤ R.locals) (ret : RetI p l e R s m args below meth c cX10_strokesEver Qf (dmC G) (cfC G) tyC (exC G) D cy ad A Q) (h : wpX10_strokesEver G μ Q) (hw : wdC G D cy ad A μ s H) (hS : va_S A s.heap H locs) (hl : lv_has ls 4 [(0, .ref (ad 0 0))]) : W p l e R s m args below meth c H locs 0 0 Qf (F0 m 0 ls []) := by
  have hx := F.1
  have hb := F.2.1
  have hown := F.2.2.2.1
  have hts := F.2.2.2.2
  refine q_iconst hx hb dX10_strokesEver_0 ?_
  refine lv_istore_n (lv' := [(1, .int (iI 0)), (0, .ref (ad 0 0))]) hx hb dX10_strokesEver_1 rfl hl (by decide) rfl (fun ls hl => ?_)
  refine q_iconst hx hb dX10_strokesEver_2 ?_
  refine lv_istore_n (lv' := [(2, .int (iI 0)), (1, .int (iI 0)), (0, .ref (ad 0 0))]) hx hb dX10_strokesEver_3 rfl hl (by decide) rfl (fun ls hl => ?_)
  obtain ⟨n1, h⟩ := h
  exact wX10_strokesEver_L4 F hA hR ret n1 0 0 _ _ _ _ h hw hS (lv_sub hl [2, 1, 0] rfl)
set_option maxRecDepth 100000 in
set_option maxHeartbeats 4000000 in
theorem kX10_strokesEver {l : Launch} {D : va_G} {cy : Nat → ClassId} {ad : AD} {A : Nat → Prop} {G : GG} {μ : MM} {Q : Int → MM → Prop} (h : wpX10_strokesEver G μ Q) : Met l yX10_strokesEver (Cond.code yX10_strokesEver cX10_strokesEver 4 (some .int) :: uw) (rmm 0 0) (wPc [.ref (ad 0 0)] (dmC G) (cfC G) tyC (exC G) D cy ad A μ) (wQ vI Q (dmC G) (cfC G) D cy ad A) 0 0 A :=
  met_of (by decide) (Nat.le_of_ble_eq_true rfl) (fun p e R s m args below meth c ls hr hk hRR F hA hw hS hl => wX10_strokesEver F hA (by subst hRR; exact ⟨Nat.le_refl _, Nat.le_refl _⟩) (retI_of F hr hk) h hw hS hl)
theorem hdX10_strokesEver : yX10_strokesEver.cls ≠ "java/lang/invoke/MethodHandle" ∧ yX10_strokesEver.cls ≠ "java/lang/invoke/VarHandle" ∧ (parseMethodDescriptor yX10_strokesEver.desc).map (fun d => d.parameters.length) = some 0 := by decide +kernel
def wpX10_towersThere_J34 (G : GG) (k4 : Int → Int → MM → Prop) (Q : Int → MM → Prop) (x1 : Int) (x2 : Int) (μ : MM) : Prop := k4 x1 (x2 + 1) μ
set_option maxRecDepth 100000 in
set_option maxHeartbeats 4000000 in
theorem wX10_towersThere_J34 {G : GG} {k4 : Int → Int → MM → Prop} {Q : Int → MM → Prop} {x1 : Int} {x2 : Int} {μ : MM} {H : Heap} {locs : List Loc} {ls : Array Slot} (F : CallFix p m c cX10_towersThere 4 s args uw RX10) (hA : ∀ q : Nat, s.heap.size ≤ q → A q) (hR : 0 ≤ R.frames ∧ 0 ≤ R.locals) (ret : RetI p l e R s m args below meth c cX10_towersThere Qf (dmC G) (cfC G) tyC (exC G) D cy ad A Q) (hk4 : ∀ (x1' x2' : Int) (μ' : MM) (H : Heap) (locs : List Loc) (ls : Array Slot), k4 x1' x2' μ' → wdC G D cy ad A μ' s H → va_S A s.heap H locs → lv_has ls 4 [(0, .ref (ad 0 0)), (1, .int (iI (x1'))), (2, .int (iI (x2')))] → W p l e R s m args below meth c H locs 0 0 Qf (F0 m 4 ls [])) (h : wpX10_towersThere_J34 G k4 Q x1 x2 μ) (hw : wdC G D cy ad A μ s H) (hS : va_S A s.heap H locs) (hl : lv_has ls 4 [(0, .ref (ad 0 0)), (1, .int (iI x1)), (2, .int (iI x2))]) : W p l e R s m args below meth c H locs 0 0 Qf (F0 m 34 ls []) := by
  have hx := F.1
  have hb := F.2.1
  have hown := F.2.2.2.1
  have hts := F.2.2.2.2
  refine q_iinc (k := 2) (lv' := [(2, .int (iI (x2 + 1))), (0, .ref (ad 0 0)), (1, .int (iI x1))]) hx hb dX10_towersThere_34 hl rfl (by decide) rfl (fun ls hl => ?_)
  refine lv_goto (tgt := 4) hx hb dX10_towersThere_37 (by decide) ?_
  exact hk4 x1 (x2 + 1) _ _ _ _ h hw hS (lv_sub hl [1, 2, 0] rfl)
def wpX10_towersThere_L4 (G : GG) (Q : Int → MM → Prop) : Nat → Int → Int → MM → Prop
  | 0, _, _, _ => False
  | n + 1, x1, x2, μ => rg x2 ∧ (if 4 ≤ x2 then (Q x1 μ) else (0 ≤ x2 ∧ (x2 < 4 ∧ (rg (μ 3 0 x2) ∧ (if (μ 3 0 x2) = 0 then (wpX10_towersThere_J34 G (fun x1' x2' μ' => wpX10_towersThere_L4 G Q n x1' x2' μ') Q x1 x2 μ) else (wpX10_towersThere_J34 G (fun x1' x2' μ' => wpX10_towersThere_L4 G Q n x1' x2' μ') Q (x1 + 1) x2 μ))))))
set_option maxRecDepth 100000 in
set_option maxHeartbeats 4000000 in
theorem wX10_towersThere_L4 {G : GG} {Q : Int → MM → Prop} (F : CallFix p m c cX10_towersThere 4 s args uw RX10) (hA : ∀ q : Nat, s.heap.size ≤ q → A q) (hR : 0 ≤ R.frames ∧ 0 ≤ R.locals) (ret : RetI p l e R s m args below meth c cX10_towersThere Qf (dmC G) (cfC G) tyC (exC G) D cy ad A Q) : ∀ (n : Nat) (x1 x2 : Int) (μ : MM) (H : Heap) (locs : List Loc) (ls : Array Slot), wpX10_towersThere_L4 G Q n x1 x2 μ → wdC G D cy ad A μ s H → va_S A s.heap H locs → lv_has ls 4 [(0, .ref (ad 0 0)), (1, .int (iI x1)), (2, .int (iI x2))] → W p l e R s m args below meth c H locs 0 0 Qf (F0 m 4 ls []) := by
  have hx := F.1
  have hb := F.2.1
  have hown := F.2.2.2.1
  have hts := F.2.2.2.2
  intro n
  induction n with
  | zero =>
    intro x1 x2 μ H locs ls h hw hS hl
    exact h.elim
  | succ n ih =>
    intro x1 x2 μ H locs ls h hw hS hl
    refine lv_iload_n hx hb dX10_towersThere_4 rfl (lv_at hl 2 rfl) ?_
    refine lv_aload_n hx hb dX10_towersThere_5 rfl (lv_at hl 0 rfl) ?_
    refine gC_H_towers F hw tw1_209 dX10_towersThere_6 ?_
    refine aC_22_ln hx hb hw dX10_towersThere_9 ?_
    obtain ⟨g1, h⟩ := h
    refine q_icmp_ge (tgt := 40) hx hb g1 (by decide) dX10_towersThere_10 (by decide) (fun c2 => ?_) (fun c2 => ?_)
    · have h := ite_t c2 h
      refine lv_iload_n hx hb dX10_towersThere_40 rfl (lv_at hl 1 rfl) ?_
      exact ret _ _ _ _ _ _ h hw hS dX10_towersThere_41
    · have h := ite_f c2 h
      refine lv_aload_n hx hb dX10_towersThere_13 rfl (lv_at hl 0 rfl) ?_
      refine gC_H_towers F hw tw1_209 dX10_towersThere_14 ?_
      refine lv_iload_n hx hb dX10_towersThere_17 rfl (lv_at hl 2 rfl) ?_
      obtain ⟨g3, h⟩ := h
      obtain ⟨g4, h⟩ := h
      refine aC_22_ld hx hb hw g3 g4 dX10_towersThere_18 ?_
      refine lv_astore_n (lv' := [(3, .ref (ad 3 x2)), (0, .ref (ad 0 0)), (1, .int (iI x1)), (2, .int (iI x2))]) hx hb dX10_towersThere_19 rfl hl (by decide) rfl (fun ls hl => ?_)
      refine lv_aload_n hx hb dX10_towersThere_20 rfl (lv_at hl 0 rfl) ?_
      refine lv_ifnull hx hb dX10_towersThere_21 ?_
      refine lv_aload_n hx hb dX10_towersThere_24 rfl (lv_at hl 0 rfl) ?_
      refine gC_W_there F hw (And.intro g3 g4) tw1_163 dX10_towersThere_25 ?_
      obtain ⟨g5, h⟩ := h
      refine q_if_eq (tgt := 34) hx hb g5 dX10_towersThere_28 (by decide) (fun c6 => ?_) (fun c6 => ?_)
      · have h := ite_t c6 h
        exact wX10_towersThere_J34 F hA hR ret (fun x1 x2 => ih x1 x2) h hw hS (lv_sub hl [1, 2, 3] rfl)
      · have h := ite_f c6 h
        refine q_iinc (k := 2) (lv' := [(1, .int (iI (x1 + 1))), (3, .ref (ad 3 x2)), (0, .ref (ad 0 0)), (2, .int (iI x2))]) hx hb dX10_towersThere_31 hl rfl (by decide) rfl (fun ls hl => ?_)
        exact wX10_towersThere_J34 F hA hR ret (fun x1 x2 => ih x1 x2) h hw hS (lv_sub hl [2, 0, 3] rfl)
def wpX10_towersThere (G : GG) (μ : MM) (Q : Int → MM → Prop) : Prop := ∃ n1 : Nat, wpX10_towersThere_L4 G Q n1 0 0 μ
set_option maxRecDepth 100000 in
set_option maxHeartbeats 4000000 in
theorem wX10_towersThere {G : GG} {Q : Int → MM → Prop} {μ : MM} {H : Heap} {locs : List Loc} {ls : Array Slot} (F : CallFix p m c cX10_towersThere 4 s args uw RX10) (hA : ∀ q : Nat, s.heap.size ≤ q → A q) (hR : 0 ≤ R.frames ∧ 0 ≤ R.locals) (ret : RetI p l e R s m args below meth c cX10_towersThere Qf (dmC G) (cfC G) tyC (exC G) D cy ad A Q) (h : wpX10_towersThere G μ Q) (hw : wdC G D cy ad A μ s H) (hS : va_S A s.heap H locs) (hl : lv_has ls 4 [(0, .ref (ad 0 0))]) : W p l e R s m args below meth c H locs 0 0 Qf (F0 m 0 ls []) := by
  have hx := F.1
  have hb := F.2.1
  have hown := F.2.2.2.1
  have hts := F.2.2.2.2
  refine q_iconst hx hb dX10_towersThere_0 ?_
  refine lv_istore_n (lv' := [(1, .int (iI 0)), (0, .ref (ad 0 0))]) hx hb dX10_towersThere_1 rfl hl (by decide) rfl (fun ls hl => ?_)
  refine q_iconst hx hb dX10_towersThere_2 ?_
  refine lv_istore_n (lv' := [(2, .int (iI 0)), (1, .int (iI 0)), (0, .ref (ad 0 0))]) hx hb dX10_towersThere_3 rfl hl (by decide) rfl (fun ls hl => ?_)
  obtain ⟨n1, h⟩ := h
  exact wX10_towersThere_L4 F hA hR ret n1 0 0 _ _ _ _ h hw hS (lv_sub hl [2, 1, 0] rfl)
set_option maxRecDepth 100000 in
set_option maxHeartbeats 4000000 in
theorem kX10_towersThere {l : Launch} {D : va_G} {cy : Nat → ClassId} {ad : AD} {A : Nat → Prop} {G : GG} {μ : MM} {Q : Int → MM → Prop} (h : wpX10_towersThere G μ Q) : Met l yX10_towersThere (Cond.code yX10_towersThere cX10_towersThere 4 (some .int) :: uw) (rmm 0 0) (wPc [.ref (ad 0 0)] (dmC G) (cfC G) tyC (exC G) D cy ad A μ) (wQ vI Q (dmC G) (cfC G) D cy ad A) 0 0 A :=
  met_of (by decide) (Nat.le_of_ble_eq_true rfl) (fun p e R s m args below meth c ls hr hk hRR F hA hw hS hl => wX10_towersThere F hA (by subst hRR; exact ⟨Nat.le_refl _, Nat.le_refl _⟩) (retI_of F hr hk) h hw hS hl)
theorem hdX10_towersThere : yX10_towersThere.cls ≠ "java/lang/invoke/MethodHandle" ∧ yX10_towersThere.cls ≠ "java/lang/invoke/VarHandle" ∧ (parseMethodDescriptor yX10_towersThere.desc).map (fun d => d.parameters.length) = some 0 := by decide +kernel
def wpX10_count (G : GG) (x1 : Int) (μ : MM) (Q : Int → MM → Prop) : Prop := rg x1 ∧ (if x1 = 0 then (Q (μ 0 4 0) μ) else (if x1 = 1 then (Q (μ 0 2 0) μ) else (if x1 = 2 then (wpX10_towersThere G μ (fun v5 μ6 => Q v5 μ6)) else (if x1 = 3 then (Q (μ 7 1 0) μ) else (if x1 = 4 then (wpX10_rowsThere G μ (fun v9 μ10 => Q v9 μ10)) else (if x1 = 5 then (wpX10_strokesEver G μ (fun v12 μ13 => Q v12 μ13)) else (Q (-1) μ)))))))
set_option maxRecDepth 100000 in
set_option maxHeartbeats 4000000 in
theorem wX10_count {G : GG} {Q : Int → MM → Prop} {x1 : Int} {μ : MM} {H : Heap} {locs : List Loc} {ls : Array Slot} (F : CallFix p m c cX10_count 2 s args uw RX10) (hA : ∀ q : Nat, s.heap.size ≤ q → A q) (hR : 2 ≤ R.frames ∧ 43 ≤ R.locals) (ret : RetI p l e R s m args below meth c cX10_count Qf (dmC G) (cfC G) tyC (exC G) D cy ad A Q) (h : wpX10_count G x1 μ Q) (hw : wdC G D cy ad A μ s H) (hS : va_S A s.heap H locs) (hl : lv_has ls 2 [(0, .ref (ad 0 0)), (1, .int (iI x1))]) : W p l e R s m args below meth c H locs 0 0 Qf (F0 m 0 ls []) := by
  have hx := F.1
  have hb := F.2.1
  have hown := F.2.2.2.1
  have hts := F.2.2.2.2
  refine lv_iload_n hx hb dX10_count_0 rfl (lv_at hl 1 rfl) ?_
  obtain ⟨g1, h⟩ := h
  by_cases c2 : x1 = 0
  · have h := ite_t c2 h
    refine q_tswIn (tgt := 40) hx hb g1 dX10_count_1 0 (by rw [c2]; decide) (by decide) rfl (by decide) ?_
    refine lv_aload_n hx hb dX10_count_40 rfl (lv_at hl 0 rfl) ?_
    refine gC_H_now F hw tw1_210 dX10_count_41 ?_
    exact ret _ _ _ _ _ _ h hw hS dX10_count_44
  · have h := ite_f c2 h
    by_cases c3 : x1 = 1
    · have h := ite_t c3 h
      refine q_tswIn (tgt := 45) hx hb g1 dX10_count_1 1 (by rw [c3]; decide) (by decide) rfl (by decide) ?_
      refine lv_aload_n hx hb dX10_count_45 rfl (lv_at hl 0 rfl) ?_
      refine gC_H_trainCount F hw tw1_208 dX10_count_46 ?_
      exact ret _ _ _ _ _ _ h hw hS dX10_count_49
    · have h := ite_f c3 h
      by_cases c4 : x1 = 2
      · have h := ite_t c4 h
        refine q_tswIn (tgt := 50) hx hb g1 dX10_count_1 2 (by rw [c4]; decide) (by decide) rfl (by decide) ?_
        refine lv_aload_n hx hb dX10_count_50 rfl (lv_at hl 0 rfl) ?_
        refine call_V hexC F (kX10_towersThere h) 0 tw5_89 tw1_1 tw5_88 tws2_5 tw5_86 hdX10_towersThere ⟨Nat.le_trans (by decide) hR.1, Nat.le_trans (by decide) hR.2⟩ (hw.recv (k := 0) (i := 0) rfl rfl rfl) hA hw hS rfl hl.1 rfl (Nat.le_of_ble_eq_true rfl) dX10_count_51 (fun v5 μ6 H locs h hw hS => ?_)
        exact ret _ _ _ _ _ _ h hw hS dX10_count_54
      · have h := ite_f c4 h
        by_cases c7 : x1 = 3
        · have h := ite_t c7 h
          refine q_tswIn (tgt := 55) hx hb g1 dX10_count_1 3 (by rw [c7]; decide) (by decide) rfl (by decide) ?_
          refine lv_aload_n hx hb dX10_count_55 rfl (lv_at hl 0 rfl) ?_
          refine gC_H_gearing F hw tw1_216 dX10_count_56 ?_
          refine gC_Q_wheels F hw tw1_86 dX10_count_59 ?_
          exact ret _ _ _ _ _ _ h hw hS dX10_count_62
        · have h := ite_f c7 h
          by_cases c8 : x1 = 4
          · have h := ite_t c8 h
            refine q_tswIn (tgt := 63) hx hb g1 dX10_count_1 4 (by rw [c8]; decide) (by decide) rfl (by decide) ?_
            refine lv_aload_n hx hb dX10_count_63 rfl (lv_at hl 0 rfl) ?_
            refine call_V hexC F (kX10_rowsThere h) 0 tw5_93 tw1_1 tw5_92 tws2_6 tw5_90 hdX10_rowsThere ⟨Nat.le_trans (by decide) hR.1, Nat.le_trans (by decide) hR.2⟩ (hw.recv (k := 0) (i := 0) rfl rfl rfl) hA hw hS rfl hl.1 rfl (Nat.le_of_ble_eq_true rfl) dX10_count_64 (fun v9 μ10 H locs h hw hS => ?_)
            exact ret _ _ _ _ _ _ h hw hS dX10_count_67
          · have h := ite_f c8 h
            by_cases c11 : x1 = 5
            · have h := ite_t c11 h
              refine q_tswIn (tgt := 68) hx hb g1 dX10_count_1 5 (by rw [c11]; decide) (by decide) rfl (by decide) ?_
              refine lv_aload_n hx hb dX10_count_68 rfl (lv_at hl 0 rfl) ?_
              refine call_V hexC F (kX10_strokesEver h) 0 tw5_97 tw1_1 tw5_96 tws2_7 tw5_94 hdX10_strokesEver ⟨Nat.le_trans (by decide) hR.1, Nat.le_trans (by decide) hR.2⟩ (hw.recv (k := 0) (i := 0) rfl rfl rfl) hA hw hS rfl hl.1 rfl (Nat.le_of_ble_eq_true rfl) dX10_count_69 (fun v12 μ13 H locs h hw hS => ?_)
              exact ret _ _ _ _ _ _ h hw hS dX10_count_72
            · have h := ite_f c11 h
              refine q_tswOut (tgt := 73) hx hb g1 dX10_count_1 (by omega) (by decide) ?_
              refine q_iconst hx hb dX10_count_73 ?_
              exact ret _ _ _ _ _ _ h hw hS dX10_count_74
set_option maxRecDepth 100000 in
set_option maxHeartbeats 4000000 in
theorem kX10_count {l : Launch} {D : va_G} {cy : Nat → ClassId} {ad : AD} {A : Nat → Prop} {G : GG} {x1 : Int} {μ : MM} {Q : Int → MM → Prop} (h : wpX10_count G x1 μ Q) : Met l yX10_count (Cond.code yX10_count cX10_count 2 (some .int) :: uw) (rmm 2 43) (wPc [.ref (ad 0 0), .int (iI x1)] (dmC G) (cfC G) tyC (exC G) D cy ad A μ) (wQ vI Q (dmC G) (cfC G) D cy ad A) 0 0 A :=
  met_of (by decide) (Nat.le_of_ble_eq_true rfl) (fun p e R s m args below meth c ls hr hk hRR F hA hw hS hl => wX10_count F hA (by subst hRR; exact ⟨Nat.le_refl _, Nat.le_refl _⟩) (retI_of F hr hk) h hw hS hl)
theorem hdX10_count : yX10_count.cls ≠ "java/lang/invoke/MethodHandle" ∧ yX10_count.cls ≠ "java/lang/invoke/VarHandle" ∧ (parseMethodDescriptor yX10_count.desc).map (fun d => d.parameters.length) = some 1 := by decide +kernel
def wpX9_hasPlace (G : GG) (i : Int) (x1 : Int) (μ : MM) (Q : Int → MM → Prop) : Prop := rg x1 ∧ (if x1 < 0 then (Q 0 μ) else (rg (G 2 i) ∧ (if (G 2 i) ≤ x1 then (Q 0 μ) else (Q 1 μ))))
set_option maxRecDepth 100000 in
set_option maxHeartbeats 4000000 in
theorem wX9_hasPlace {G : GG} {Q : Int → MM → Prop} {i : Int} {x1 : Int} {μ : MM} {H : Heap} {locs : List Loc} {ls : Array Slot} (F : CallFix p m c cX9_hasPlace 2 s args uw RX9) (hA : ∀ q : Nat, s.heap.size ≤ q → A q) (hR : 0 ≤ R.frames ∧ 0 ≤ R.locals) (ret : RetZ p l e R s m args below meth c cX9_hasPlace Qf (dmC G) (cfC G) tyC (exC G) D cy ad A Q) (h : wpX9_hasPlace G i x1 μ Q) (hi_i : 0 ≤ i ∧ i < G 0 0) (hw : wdC G D cy ad A μ s H) (hS : va_S A s.heap H locs) (hl : lv_has ls 2 [(0, .ref (ad 2 i)), (1, .int (iI x1))]) : W p l e R s m args below meth c H locs 0 0 Qf (F0 m 0 ls []) := by
  have hx := F.1
  have hb := F.2.1
  have hown := F.2.2.2.1
  have hts := F.2.2.2.2
  refine lv_iload_n hx hb dX9_hasPlace_0 rfl (lv_at hl 1 rfl) ?_
  obtain ⟨g1, h⟩ := h
  refine q_if_lt (tgt := 17) hx hb g1 dX9_hasPlace_1 (by decide) (fun c2 => ?_) (fun c2 => ?_)
  · have h := ite_t c2 h
    refine q_iconst hx hb dX9_hasPlace_17 ?_
    exact ret _ _ _ _ _ _ (Or.inl rfl) h hw hS dX9_hasPlace_18
  · have h := ite_f c2 h
    refine lv_iload_n hx hb dX9_hasPlace_4 rfl (lv_at hl 1 rfl) ?_
    refine lv_aload_n hx hb dX9_hasPlace_5 rfl (lv_at hl 0 rfl) ?_
    refine gC_T_strokes F hw hi_i tw2_74 (fun _ h => h) dX9_hasPlace_6 ?_
    refine aC_9_ln hx hb hw hi_i dX9_hasPlace_9 ?_
    obtain ⟨g3, h⟩ := h
    refine q_icmp_ge (tgt := 17) hx hb g1 g3 dX9_hasPlace_10 (by decide) (fun c4 => ?_) (fun c4 => ?_)
    · have h := ite_t c4 h
      refine q_iconst hx hb dX9_hasPlace_17 ?_
      exact ret _ _ _ _ _ _ (Or.inl rfl) h hw hS dX9_hasPlace_18
    · have h := ite_f c4 h
      refine q_iconst hx hb dX9_hasPlace_13 ?_
      refine lv_goto (tgt := 18) hx hb dX9_hasPlace_14 (by decide) ?_
      exact ret _ _ _ _ _ _ (Or.inr rfl) h hw hS dX9_hasPlace_18
set_option maxRecDepth 100000 in
set_option maxHeartbeats 4000000 in
theorem kX9_hasPlace {l : Launch} {D : va_G} {cy : Nat → ClassId} {ad : AD} {A : Nat → Prop} {G : GG} {i : Int} {x1 : Int} {μ : MM} {Q : Int → MM → Prop} (h : wpX9_hasPlace G i x1 μ Q) (hi_i : 0 ≤ i ∧ i < G 0 0) : Met l yX9_hasPlace (Cond.code yX9_hasPlace cX9_hasPlace 2 (some .boolean) :: uw) (rmm 0 0) (wPc [.ref (ad 2 i), .int (iI x1)] (dmC G) (cfC G) tyC (exC G) D cy ad A μ) (wQ vI (fun v u => (v = 0 ∨ v = 1) ∧ Q v u) (dmC G) (cfC G) D cy ad A) 0 0 A :=
  met_of (by decide) (Nat.le_of_ble_eq_true rfl) (fun p e R s m args below meth c ls hr hk hRR F hA hw hS hl => wX9_hasPlace F hA (by subst hRR; exact ⟨Nat.le_refl _, Nat.le_refl _⟩) (retZ2_of F hr hk) h hi_i hw hS hl)
theorem hdX9_hasPlace : yX9_hasPlace.cls ≠ "java/lang/invoke/MethodHandle" ∧ yX9_hasPlace.cls ≠ "java/lang/invoke/VarHandle" ∧ (parseMethodDescriptor yX9_hasPlace.desc).map (fun d => d.parameters.length) = some 1 := by decide +kernel
set_option maxRecDepth 100000 in
set_option maxHeartbeats 4000000 in
theorem dc_Train_hasPlace {G : GG} {i x1 : Int} {μ : MM} {Q : Int → MM → Prop} {H : Heap} {locs : List Loc} {cc : ByteArray} {pc nL idx : Nat} {ls : Array Slot} {rest st0 : List Value} {own : String} (F : CallFix p m c cc nL s args uw own) (hl : Cond.methodLink own idx yX9_hasPlace ∈ uw) (h : wpX9_hasPlace G i x1 μ Q) (hi : 0 ≤ i ∧ i < G 0 0) (hR : 1 ≤ R.frames ∧ 21 ≤ R.locals) (hA : ∀ q : Nat, s.heap.size ≤ q → A q) (hw : wdC G D cy ad A μ s H) (hS : va_S A s.heap H locs) (hsz : ls.size = nL) (hst0 : st0 = ([.int (iI x1)] : List Value).reverse ++ .ref (ad 2 i) :: rest) (hrm : (rest.map fun v => v.category).sum ≤ 8) (hdg : decode cc pc = .ok (.invokevirtual idx, 3)) (kk : ∀ (v : Int) (u : MM) (H1 : Heap) (locs1 : List Loc), (fun v u => (v = 0 ∨ v = 1) ∧ Q v u) v u → wdC G D cy ad A u s H1 → va_S A s.heap H1 locs1 → W p l e R s m args below meth c H1 locs1 0 0 Qf (F0 m (pc + 3) ls ((vI v).toList ++ rest))) : W p l e R s m args below meth c H locs 0 0 Qf (F0 m pc ls st0) := by
  have hG := (hw.2.1.2.1 i hi.1 hi.2).1
  rcases (show G 1 i = 0 ∨ G 1 i = 1 ∨ G 1 i = 2 ∨ G 1 i = 3 by omega) with q | q | q | q
  · exact call_V hexC F (kX9_hasPlace h hi) 1 tw3_74 tw1_11 tw3_68 tw3_69 hl hdX9_hasPlace ⟨Nat.le_trans (by decide) hR.1, Nat.le_trans (by decide) hR.2⟩ (recvT hw hi (C := RX9) (Or.inl ⟨q, rfl⟩)) hA hw hS rfl hsz hst0 hrm hdg kk
  · exact call_U (owner := "HammerTowers$Train") (x := yX9_hasPlace) hexC F (kX9_hasPlace h hi) 1 tw3_74 tw1_11 tw3_68 tw3_72 hl tw3_70 tw3_68 tw3_74 (by decide +kernel) ⟨Nat.le_trans (by decide) hR.1, Nat.le_trans (by decide) hR.2⟩ (recvT hw hi (C := RX4) (Or.inr (Or.inl ⟨q, rfl⟩))) hA hw hS rfl hsz hst0 hrm hdg kk
  · exact call_U (owner := "HammerTowers$Train") (x := yX9_hasPlace) hexC F (kX9_hasPlace h hi) 1 tw3_74 tw1_11 tw3_68 tw3_73 hl tw3_70 tw3_68 tw3_74 (by decide +kernel) ⟨Nat.le_trans (by decide) hR.1, Nat.le_trans (by decide) hR.2⟩ (recvT hw hi (C := RX7) (Or.inr (Or.inr (Or.inl ⟨q, rfl⟩)))) hA hw hS rfl hsz hst0 hrm hdg kk
  · exact call_U (owner := "HammerTowers$Train") (x := yX9_hasPlace) hexC F (kX9_hasPlace h hi) 1 tw3_74 tw1_11 tw3_68 tw3_71 hl tw3_70 tw3_68 tw3_74 (by decide +kernel) ⟨Nat.le_trans (by decide) hR.1, Nat.le_trans (by decide) hR.2⟩ (recvT hw hi (C := RX0) (Or.inr (Or.inr (Or.inr ⟨q, rfl⟩)))) hA hw hS rfl hsz hst0 hrm hdg kk
set_option maxRecDepth 100000 in
set_option maxHeartbeats 4000000 in
theorem dc_Plate_hasPlace {G : GG} {i x1 : Int} {μ : MM} {Q : Int → MM → Prop} {H : Heap} {locs : List Loc} {cc : ByteArray} {pc nL idx : Nat} {ls : Array Slot} {rest st0 : List Value} {own : String} (F : CallFix p m c cc nL s args uw own) (hl : Cond.methodLink own idx ⟨"HammerTowers$Plate", "hasPlace", "(I)Z"⟩ ∈ uw) (h : wpX9_hasPlace G i x1 μ Q) (hi : 0 ≤ i ∧ i < G 0 0) (hk : G 1 i = 1 ∨ G 1 i = 3) (hR : 1 ≤ R.frames ∧ 21 ≤ R.locals) (hA : ∀ q : Nat, s.heap.size ≤ q → A q) (hw : wdC G D cy ad A μ s H) (hS : va_S A s.heap H locs) (hsz : ls.size = nL) (hst0 : st0 = ([.int (iI x1)] : List Value).reverse ++ .ref (ad 2 i) :: rest) (hrm : (rest.map fun v => v.category).sum ≤ 8) (hdg : decode cc pc = .ok (.invokevirtual idx, 3)) (kk : ∀ (v : Int) (u : MM) (H1 : Heap) (locs1 : List Loc), (fun v u => (v = 0 ∨ v = 1) ∧ Q v u) v u → wdC G D cy ad A u s H1 → va_S A s.heap H1 locs1 → W p l e R s m args below meth c H1 locs1 0 0 Qf (F0 m (pc + 3) ls ((vI v).toList ++ rest))) : W p l e R s m args below meth c H locs 0 0 Qf (F0 m pc ls st0) := by
  have hG := (hw.2.1.2.1 i hi.1 hi.2).1
  rcases (show G 1 i = 1 ∨ G 1 i = 3 by omega) with q | q
  · exact call_U (owner := "HammerTowers$Train") (x := ⟨"HammerTowers$Plate", "hasPlace", "(I)Z"⟩) hexC F (kX9_hasPlace h hi) 1 tw3_74 tw1_11 tw3_68 tw3_87 hl tw3_84 tw3_68 tw3_74 (by decide +kernel) ⟨Nat.le_trans (by decide) hR.1, Nat.le_trans (by decide) hR.2⟩ (recvT hw hi (C := RX4) (Or.inr (Or.inl ⟨q, rfl⟩))) hA hw hS rfl hsz hst0 hrm hdg kk
  · exact call_U (owner := "HammerTowers$Train") (x := ⟨"HammerTowers$Plate", "hasPlace", "(I)Z"⟩) hexC F (kX9_hasPlace h hi) 1 tw3_74 tw1_11 tw3_68 tw3_86 hl tw3_84 tw3_68 tw3_74 (by decide +kernel) ⟨Nat.le_trans (by decide) hR.1, Nat.le_trans (by decide) hR.2⟩ (recvT hw hi (C := RX0) (Or.inr (Or.inr (Or.inr ⟨q, rfl⟩)))) hA hw hS rfl hsz hst0 hrm hdg kk
def wpX10_cut (G : GG) (x1 : Int) (x2 : Int) (x3 : Int) (μ : MM) (Q : Int → MM → Prop) : Prop := wpX10_trainOf G x1 μ (fun v1 μ2 => if v1 < 0 then (Q (-1) μ2) else (v1 < G 0 0 ∧ (rg x3 ∧ (if x3 < 1 then (Q (-1) μ2) else (if x3 ≤ 24 then (rg (G 1 v1) ∧ (if (G 1 v1) = 0 then (wpX10_found G 3 μ2 (fun v21 μ22 => Q v21 μ22)) else (wpX9_hasPlace G v1 x2 μ2 (fun v11 μ12 => if v11 = 0 then (wpX10_found G 2 μ12 (fun v19 μ20 => Q v19 μ20)) else (0 ≤ x2 ∧ (x2 < G 2 v1 ∧ (∀ y17 : Int, y17 = μ12 9 0 (24 * v1 + x2) → (∀ μ18 : MM, μ18 = ms μ12 9 0 (24 * v1 + x2) x3 → (Q y17 μ18))))))))) else (Q (-1) μ2))))))
set_option maxRecDepth 100000 in
set_option maxHeartbeats 4000000 in
theorem wX10_cut {G : GG} {Q : Int → MM → Prop} {x1 : Int} {x2 : Int} {x3 : Int} {μ : MM} {H : Heap} {locs : List Loc} {ls : Array Slot} (F : CallFix p m c cX10_cut 6 s args uw RX10) (hA : ∀ q : Nat, s.heap.size ≤ q → A q) (hR : 1 ≤ R.frames ∧ 21 ≤ R.locals) (ret : RetI p l e R s m args below meth c cX10_cut Qf (dmC G) (cfC G) tyC (exC G) D cy ad A Q) (h : wpX10_cut G x1 x2 x3 μ Q) (hw : wdC G D cy ad A μ s H) (hS : va_S A s.heap H locs) (hl : lv_has ls 6 [(0, .ref (ad 0 0)), (1, .int (iI x1)), (2, .int (iI x2)), (3, .int (iI x3))]) : W p l e R s m args below meth c H locs 0 0 Qf (F0 m 0 ls []) := by
  have hx := F.1
  have hb := F.2.1
  have hown := F.2.2.2.1
  have hts := F.2.2.2.2
  refine lv_aload_n hx hb dX10_cut_0 rfl (lv_at hl 0 rfl) ?_
  refine lv_iload_n hx hb dX10_cut_1 rfl (lv_at hl 1 rfl) ?_
  refine call_V hexC F (kX10_trainOf h) 1 tw3_18 tw1_1 tw3_17 tws1_4 tw3_15 hdX10_trainOf ⟨Nat.le_trans (by decide) hR.1, Nat.le_trans (by decide) hR.2⟩ (hw.recv (k := 0) (i := 0) rfl rfl rfl) hA hw hS rfl hl.1 rfl (Nat.le_of_ble_eq_true rfl) dX10_cut_2 (fun v1 μ2 H locs h hw hS => ?_)
  refine q_astore (lv' := [(4, rf ad 2 v1), (0, .ref (ad 0 0)), (1, .int (iI x1)), (2, .int (iI x2)), (3, .int (iI x3))]) hx hb dX10_cut_5 hl (by decide) rfl (fun ls hl => ?_)
  refine q_aload hx hb dX10_cut_7 (lv_at hl 0 rfl) ?_
  refine q_ifnull (tgt := 23) hx hb dX10_cut_9 (by decide) (fun c3 => ?_) (fun c3 => ?_)
  · have h := ite_t c3 h
    refine q_iconst hx hb dX10_cut_23 ?_
    exact ret _ _ _ _ _ _ h hw hS dX10_cut_24
  · have h := ite_f c3 h
    obtain ⟨g4, h⟩ := h
    have hi5 : 0 ≤ v1 ∧ v1 < G 0 0 := ⟨by omega, g4⟩
    have hl : lv_has ls 6 [(4, .ref (ad 2 v1)), (0, .ref (ad 0 0)), (1, .int (iI x1)), (2, .int (iI x2)), (3, .int (iI x3))] := by rw [← rf_pos (ad := ad) (k := 2) hi5.1]; exact hl
    refine lv_iload_n hx hb dX10_cut_12 rfl (lv_at hl 4 rfl) ?_
    refine q_iconst hx hb dX10_cut_13 ?_
    obtain ⟨g6, h⟩ := h
    refine q_icmp_lt (tgt := 23) hx hb g6 (by decide) dX10_cut_14 (by decide) (fun c7 => ?_) (fun c7 => ?_)
    · have h := ite_t c7 h
      refine q_iconst hx hb dX10_cut_23 ?_
      exact ret _ _ _ _ _ _ h hw hS dX10_cut_24
    · have h := ite_f c7 h
      refine lv_iload_n hx hb dX10_cut_17 rfl (lv_at hl 4 rfl) ?_
      refine q_bipush hx hb (by decide) dX10_cut_18 ?_
      refine q_icmp_le (tgt := 25) hx hb g6 (by decide) dX10_cut_20 (by decide) (fun c8 => ?_) (fun c8 => ?_)
      · have h := ite_t c8 h
        refine lv_aload hx hb dX10_cut_25 (lv_at hl 0 rfl) ?_
        refine gC_T_kind F hw hi5 tw2_73 (fun _ h => h) dX10_cut_27 ?_
        obtain ⟨g9, h⟩ := h
        refine q_if_ne (tgt := 39) hx hb g9 dX10_cut_30 (by decide) (fun c10 => ?_) (fun c10 => ?_)
        · have h := ite_f c10 h
          refine lv_aload hx hb dX10_cut_39 (lv_at hl 0 rfl) ?_
          refine lv_iload_n hx hb dX10_cut_41 rfl (lv_at hl 3 rfl) ?_
          refine dc_Train_hasPlace F tw3_67 h hi5 ⟨Nat.le_trans (by decide) hR.1, Nat.le_trans (by decide) hR.2⟩ hA hw hS hl.1 rfl (Nat.le_of_ble_eq_true rfl) dX10_cut_42 (fun v11 μ12 H locs h hw hS => ?_)
          obtain ⟨z13, h⟩ := h
          refine q_if_ne (tgt := 54) hx hb (rgB z13) dX10_cut_45 (by decide) (fun c14 => ?_) (fun c14 => ?_)
          · have h := ite_f c14 h
            refine lv_aload hx hb dX10_cut_54 (lv_at hl 0 rfl) ?_
            refine gC_T_strokes F hw hi5 tw2_77 (fun _ h => h) dX10_cut_56 ?_
            refine lv_iload_n hx hb dX10_cut_59 rfl (lv_at hl 3 rfl) ?_
            obtain ⟨g15, h⟩ := h
            obtain ⟨g16, h⟩ := h
            refine aC_9_ld hx hb hw hi5 g15 g16 dX10_cut_60 ?_
            obtain ⟨y17, ey17⟩ : ∃ z : Int, z = μ12 9 0 (24 * v1 + x2) := ⟨_, rfl⟩
            have h := h y17 ey17
            refine q_nmI ey17 ?_
            refine lv_istore (lv' := [(5, .int (iI y17)), (4, .ref (ad 2 v1)), (0, .ref (ad 0 0)), (1, .int (iI x1)), (2, .int (iI x2)), (3, .int (iI x3))]) hx hb dX10_cut_61 hl (by decide) rfl (fun ls hl => ?_)
            refine lv_aload hx hb dX10_cut_63 (lv_at hl 1 rfl) ?_
            refine gC_T_strokes F hw hi5 tw2_77 (fun _ h => h) dX10_cut_65 ?_
            refine lv_iload_n hx hb dX10_cut_68 rfl (lv_at hl 4 rfl) ?_
            refine lv_iload_n hx hb dX10_cut_69 rfl (lv_at hl 5 rfl) ?_
            obtain ⟨μ18, eμ18⟩ : ∃ z : MM, z = ms μ12 9 0 (24 * v1 + x2) x3 := ⟨_, rfl⟩
            have h := h μ18 eμ18
            refine aC_9_st hx hb hw hS hi5 g15 g16 eμ18 dX10_cut_70 (fun H locs hw hS => ?_)
            refine lv_iload hx hb dX10_cut_71 (lv_at hl 0 rfl) ?_
            exact ret _ _ _ _ _ _ h hw hS dX10_cut_73
          · have h := ite_t c14 h
            refine lv_aload_n hx hb dX10_cut_48 rfl (lv_at hl 1 rfl) ?_
            refine q_iconst hx hb dX10_cut_49 ?_
            refine call_V hexC F (kX10_found h) 1 tw2_20 tw1_1 tw2_19 tws1_1 tw2_17 hdX10_found ⟨Nat.le_trans (by decide) hR.1, Nat.le_trans (by decide) hR.2⟩ (hw.recv (k := 0) (i := 0) rfl rfl rfl) hA hw hS rfl hl.1 rfl (Nat.le_of_ble_eq_true rfl) dX10_cut_50 (fun v19 μ20 H locs h hw hS => ?_)
            exact ret _ _ _ _ _ _ h hw hS dX10_cut_53
        · have h := ite_t c10 h
          refine lv_aload_n hx hb dX10_cut_33 rfl (lv_at hl 1 rfl) ?_
          refine q_iconst hx hb dX10_cut_34 ?_
          refine call_V hexC F (kX10_found h) 1 tw2_20 tw1_1 tw2_19 tws1_1 tw2_17 hdX10_found ⟨Nat.le_trans (by decide) hR.1, Nat.le_trans (by decide) hR.2⟩ (hw.recv (k := 0) (i := 0) rfl rfl rfl) hA hw hS rfl hl.1 rfl (Nat.le_of_ble_eq_true rfl) dX10_cut_35 (fun v21 μ22 H locs h hw hS => ?_)
          exact ret _ _ _ _ _ _ h hw hS dX10_cut_38
      · have h := ite_f c8 h
        refine q_iconst hx hb dX10_cut_23 ?_
        exact ret _ _ _ _ _ _ h hw hS dX10_cut_24
set_option maxRecDepth 100000 in
set_option maxHeartbeats 4000000 in
theorem kX10_cut {l : Launch} {D : va_G} {cy : Nat → ClassId} {ad : AD} {A : Nat → Prop} {G : GG} {x1 : Int} {x2 : Int} {x3 : Int} {μ : MM} {Q : Int → MM → Prop} (h : wpX10_cut G x1 x2 x3 μ Q) : Met l yX10_cut (Cond.code yX10_cut cX10_cut 6 (some .int) :: uw) (rmm 1 21) (wPc [.ref (ad 0 0), .int (iI x1), .int (iI x2), .int (iI x3)] (dmC G) (cfC G) tyC (exC G) D cy ad A μ) (wQ vI Q (dmC G) (cfC G) D cy ad A) 0 0 A :=
  met_of (by decide) (Nat.le_of_ble_eq_true rfl) (fun p e R s m args below meth c ls hr hk hRR F hA hw hS hl => wX10_cut F hA (by subst hRR; exact ⟨Nat.le_refl _, Nat.le_refl _⟩) (retI_of F hr hk) h hw hS hl)
theorem hdX10_cut : yX10_cut.cls ≠ "java/lang/invoke/MethodHandle" ∧ yX10_cut.cls ≠ "java/lang/invoke/VarHandle" ∧ (parseMethodDescriptor yX10_cut.desc).map (fun d => d.parameters.length) = some 3 := by decide +kernel
def wpX9_strokesRound (G : GG) (i : Int) (x1 : Int) (μ : MM) (Q : Int → MM → Prop) : Prop := rg x1 ∧ (if x1 < 0 then (Q 1 μ) else (rg (G 2 i) ∧ (if (G 2 i) ≤ 0 then (Q 1 μ) else ((G 2 i) ≠ 0 ∧ (0 ≤ (Int.tmod x1 (G 2 i)) ∧ (Int.tmod x1 (G 2 i) < G 2 i ∧ (Q (μ 9 0 (24 * i + (Int.tmod x1 (G 2 i)))) μ)))))))
set_option maxRecDepth 100000 in
set_option maxHeartbeats 4000000 in
theorem wX9_strokesRound {G : GG} {Q : Int → MM → Prop} {i : Int} {x1 : Int} {μ : MM} {H : Heap} {locs : List Loc} {ls : Array Slot} (F : CallFix p m c cX9_strokesRound 3 s args uw RX9) (hA : ∀ q : Nat, s.heap.size ≤ q → A q) (hR : 0 ≤ R.frames ∧ 0 ≤ R.locals) (ret : RetI p l e R s m args below meth c cX9_strokesRound Qf (dmC G) (cfC G) tyC (exC G) D cy ad A Q) (h : wpX9_strokesRound G i x1 μ Q) (hi_i : 0 ≤ i ∧ i < G 0 0) (hw : wdC G D cy ad A μ s H) (hS : va_S A s.heap H locs) (hl : lv_has ls 3 [(0, .ref (ad 2 i)), (1, .int (iI x1))]) : W p l e R s m args below meth c H locs 0 0 Qf (F0 m 0 ls []) := by
  have hx := F.1
  have hb := F.2.1
  have hown := F.2.2.2.1
  have hts := F.2.2.2.2
  refine lv_aload_n hx hb dX9_strokesRound_0 rfl (lv_at hl 0 rfl) ?_
  refine gC_T_strokes F hw hi_i tw2_74 (fun _ h => h) dX9_strokesRound_1 ?_
  refine aC_9_ln hx hb hw hi_i dX9_strokesRound_4 ?_
  refine lv_istore_n (lv' := [(2, .int (iI (G 2 i))), (0, .ref (ad 2 i)), (1, .int (iI x1))]) hx hb dX9_strokesRound_5 rfl hl (by decide) rfl (fun ls hl => ?_)
  refine lv_iload_n hx hb dX9_strokesRound_6 rfl (lv_at hl 2 rfl) ?_
  obtain ⟨g1, h⟩ := h
  refine q_if_lt (tgt := 25) hx hb g1 dX9_strokesRound_7 (by decide) (fun c2 => ?_) (fun c2 => ?_)
  · have h := ite_t c2 h
    refine q_iconst hx hb dX9_strokesRound_25 ?_
    exact ret _ _ _ _ _ _ h hw hS dX9_strokesRound_26
  · have h := ite_f c2 h
    refine lv_iload_n hx hb dX9_strokesRound_10 rfl (lv_at hl 0 rfl) ?_
    obtain ⟨g3, h⟩ := h
    refine q_if_le (tgt := 25) hx hb g3 dX9_strokesRound_11 (by decide) (fun c4 => ?_) (fun c4 => ?_)
    · have h := ite_t c4 h
      refine q_iconst hx hb dX9_strokesRound_25 ?_
      exact ret _ _ _ _ _ _ h hw hS dX9_strokesRound_26
    · have h := ite_f c4 h
      refine lv_aload_n hx hb dX9_strokesRound_14 rfl (lv_at hl 1 rfl) ?_
      refine gC_T_strokes F hw hi_i tw2_74 (fun _ h => h) dX9_strokesRound_15 ?_
      refine lv_iload_n hx hb dX9_strokesRound_18 rfl (lv_at hl 2 rfl) ?_
      refine lv_iload_n hx hb dX9_strokesRound_19 rfl (lv_at hl 0 rfl) ?_
      obtain ⟨g5, h⟩ := h
      refine q_irem hx hb g1 g3 g5 dX9_strokesRound_20 ?_
      obtain ⟨g6, h⟩ := h
      obtain ⟨g7, h⟩ := h
      refine aC_9_ld hx hb hw hi_i g6 g7 dX9_strokesRound_21 ?_
      refine lv_goto (tgt := 26) hx hb dX9_strokesRound_22 (by decide) ?_
      exact ret _ _ _ _ _ _ h hw hS dX9_strokesRound_26
set_option maxRecDepth 100000 in
set_option maxHeartbeats 4000000 in
theorem kX9_strokesRound {l : Launch} {D : va_G} {cy : Nat → ClassId} {ad : AD} {A : Nat → Prop} {G : GG} {i : Int} {x1 : Int} {μ : MM} {Q : Int → MM → Prop} (h : wpX9_strokesRound G i x1 μ Q) (hi_i : 0 ≤ i ∧ i < G 0 0) : Met l yX9_strokesRound (Cond.code yX9_strokesRound cX9_strokesRound 3 (some .int) :: uw) (rmm 0 0) (wPc [.ref (ad 2 i), .int (iI x1)] (dmC G) (cfC G) tyC (exC G) D cy ad A μ) (wQ vI Q (dmC G) (cfC G) D cy ad A) 0 0 A :=
  met_of (by decide) (Nat.le_of_ble_eq_true rfl) (fun p e R s m args below meth c ls hr hk hRR F hA hw hS hl => wX9_strokesRound F hA (by subst hRR; exact ⟨Nat.le_refl _, Nat.le_refl _⟩) (retI_of F hr hk) h hi_i hw hS hl)
theorem hdX9_strokesRound : yX9_strokesRound.cls ≠ "java/lang/invoke/MethodHandle" ∧ yX9_strokesRound.cls ≠ "java/lang/invoke/VarHandle" ∧ (parseMethodDescriptor yX9_strokesRound.desc).map (fun d => d.parameters.length) = some 1 := by decide +kernel
end
