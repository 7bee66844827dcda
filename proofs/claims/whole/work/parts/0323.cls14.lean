section
variable {p : Program} {l : Launch} {e : Env} {R : Room} {s : State} {m : MethodId} {args : Array Value} {below : List Frame} {meth : Method} {c : Code} {Qf : State → Prop} {D : va_G} {cy : Nat → ClassId} {ad : AD} {A : Nat → Prop}
def wpX10_tower_J24 (G : GG) (Q : Int → MM → Prop) (x2 : Int) (t0 : Int) (μ : MM) : Prop := wpX8_begin G x2 μ (fun v1 μ2 => Q t0 μ2)
set_option maxRecDepth 100000 in
set_option maxHeartbeats 4000000 in
theorem wX10_tower_J24 {G : GG} {Q : Int → MM → Prop} {x2 : Int} {t0 : Int} {μ : MM} {H : Heap} {locs : List Loc} {ls : Array Slot} (F : CallFix p m c cX10_tower 4 s args uw RX10) (hA : ∀ q : Nat, s.heap.size ≤ q → A q) (hR : 3 ≤ R.frames ∧ 64 ≤ R.locals) (ret : RetI p l e R s m args below meth c cX10_tower Qf (dmC G) (cfC G) tyC (exC G) D cy ad A Q) (h : wpX10_tower_J24 G Q x2 t0 μ) (hi_x2 : 0 ≤ x2 ∧ x2 < 4) (hw : wdC G D cy ad A μ s H) (hS : va_S A s.heap H locs) (hl : lv_has ls 4 [(2, .ref (ad 3 x2))]) : W p l e R s m args below meth c H locs 0 0 Qf (F0 m 24 ls [.int (iI t0)]) := by
  have hx := F.1
  have hb := F.2.1
  have hown := F.2.2.2.1
  have hts := F.2.2.2.2
  refine lv_istore_n (lv' := [(3, .int (iI t0)), (2, .ref (ad 3 x2))]) hx hb dX10_tower_24 rfl hl (by decide) rfl (fun ls hl => ?_)
  refine lv_aload_n hx hb dX10_tower_25 rfl (lv_at hl 1 rfl) ?_
  refine call_V hexC F (kX8_begin h hi_x2) 0 tw3_103 tw1_6 tw3_101 tw3_102 tw3_100 hdX8_begin ⟨Nat.le_trans (by decide) hR.1, Nat.le_trans (by decide) hR.2⟩ (hw.recv (k := 3) (i := x2) hi_x2 rfl rfl) hA hw hS rfl hl.1 rfl (Nat.le_of_ble_eq_true rfl) dX10_tower_26 (fun v1 μ2 H locs h hw hS => ?_)
  refine lv_iload_n hx hb dX10_tower_29 rfl (lv_at hl 0 rfl) ?_
  exact ret _ _ _ _ _ _ h hw hS dX10_tower_30
def wpX10_tower (G : GG) (x1 : Int) (μ : MM) (Q : Int → MM → Prop) : Prop := wpX10_towerOf G x1 μ (fun v1 μ2 => if v1 < 0 then (Q (-1) μ2) else (v1 < 4 ∧ (rg (μ2 3 0 v1) ∧ (if (μ2 3 0 v1) = 0 then (wpX10_tower_J24 G Q v1 0 μ2) else (wpX10_tower_J24 G Q v1 1 μ2)))))
set_option maxRecDepth 100000 in
set_option maxHeartbeats 4000000 in
theorem wX10_tower {G : GG} {Q : Int → MM → Prop} {x1 : Int} {μ : MM} {H : Heap} {locs : List Loc} {ls : Array Slot} (F : CallFix p m c cX10_tower 4 s args uw RX10) (hA : ∀ q : Nat, s.heap.size ≤ q → A q) (hR : 3 ≤ R.frames ∧ 64 ≤ R.locals) (ret : RetI p l e R s m args below meth c cX10_tower Qf (dmC G) (cfC G) tyC (exC G) D cy ad A Q) (h : wpX10_tower G x1 μ Q) (hw : wdC G D cy ad A μ s H) (hS : va_S A s.heap H locs) (hl : lv_has ls 4 [(0, .ref (ad 0 0)), (1, .int (iI x1))]) : W p l e R s m args below meth c H locs 0 0 Qf (F0 m 0 ls []) := by
  have hx := F.1
  have hb := F.2.1
  have hown := F.2.2.2.1
  have hts := F.2.2.2.2
  refine lv_aload_n hx hb dX10_tower_0 rfl (lv_at hl 0 rfl) ?_
  refine lv_iload_n hx hb dX10_tower_1 rfl (lv_at hl 1 rfl) ?_
  refine call_V hexC F (kX10_towerOf h) 1 tw3_99 tw1_1 tw3_98 tws1_5 tw3_96 hdX10_towerOf ⟨Nat.le_trans (by decide) hR.1, Nat.le_trans (by decide) hR.2⟩ (hw.recv (k := 0) (i := 0) rfl rfl rfl) hA hw hS rfl hl.1 rfl (Nat.le_of_ble_eq_true rfl) dX10_tower_2 (fun v1 μ2 H locs h hw hS => ?_)
  refine q_astore_n (lv' := [(2, rf ad 3 v1), (0, .ref (ad 0 0)), (1, .int (iI x1))]) hx hb dX10_tower_5 rfl hl (by decide) rfl (fun ls hl => ?_)
  refine q_aload_n hx hb dX10_tower_6 rfl (lv_at hl 0 rfl) ?_
  refine q_ifnonnull (tgt := 12) hx hb dX10_tower_7 (by decide) (fun c3 => ?_) (fun c3 => ?_)
  · have h := ite_t c3 h
    refine q_iconst hx hb dX10_tower_10 ?_
    exact ret _ _ _ _ _ _ h hw hS dX10_tower_11
  · have h := ite_f c3 h
    obtain ⟨g4, h⟩ := h
    have hi5 : 0 ≤ v1 ∧ v1 < 4 := ⟨by omega, g4⟩
    have hl : lv_has ls 4 [(2, .ref (ad 3 v1)), (0, .ref (ad 0 0)), (1, .int (iI x1))] := by rw [← rf_pos (ad := ad) (k := 3) hi5.1]; exact hl
    refine lv_aload_n hx hb dX10_tower_12 rfl (lv_at hl 0 rfl) ?_
    refine gC_W_there F hw hi5 tw1_163 dX10_tower_13 ?_
    obtain ⟨g6, h⟩ := h
    refine q_if_eq (tgt := 23) hx hb g6 dX10_tower_16 (by decide) (fun c7 => ?_) (fun c7 => ?_)
    · have h := ite_t c7 h
      refine q_iconst hx hb dX10_tower_23 ?_
      exact wX10_tower_J24 F hA hR ret h hi5 hw hS (lv_sub hl [0] rfl)
    · have h := ite_f c7 h
      refine q_iconst hx hb dX10_tower_19 ?_
      refine lv_goto (tgt := 24) hx hb dX10_tower_20 (by decide) ?_
      exact wX10_tower_J24 F hA hR ret h hi5 hw hS (lv_sub hl [0] rfl)
set_option maxRecDepth 100000 in
set_option maxHeartbeats 4000000 in
theorem kX10_tower {l : Launch} {D : va_G} {cy : Nat → ClassId} {ad : AD} {A : Nat → Prop} {G : GG} {x1 : Int} {μ : MM} {Q : Int → MM → Prop} (h : wpX10_tower G x1 μ Q) : Met l yX10_tower (Cond.code yX10_tower cX10_tower 4 (some .int) :: uw) (rmm 3 64) (wPc [.ref (ad 0 0), .int (iI x1)] (dmC G) (cfC G) tyC (exC G) D cy ad A μ) (wQ vI Q (dmC G) (cfC G) D cy ad A) 0 0 A :=
  met_of (by decide) (Nat.le_of_ble_eq_true rfl) (fun p e R s m args below meth c ls hr hk hRR F hA hw hS hl => wX10_tower F hA (by subst hRR; exact ⟨Nat.le_refl _, Nat.le_refl _⟩) (retI_of F hr hk) h hw hS hl)
theorem hdX10_tower : yX10_tower.cls ≠ "java/lang/invoke/MethodHandle" ∧ yX10_tower.cls ≠ "java/lang/invoke/VarHandle" ∧ (parseMethodDescriptor yX10_tower.desc).map (fun d => d.parameters.length) = some 1 := by decide +kernel
def wpX10_unhang_J27 (G : GG) (Q : Int → MM → Prop) (μ : MM) : Prop := wpX10_found G 1 μ (fun v1 μ2 => Q v1 μ2)
set_option maxRecDepth 100000 in
set_option maxHeartbeats 4000000 in
theorem wX10_unhang_J27 {G : GG} {Q : Int → MM → Prop} {μ : MM} {H : Heap} {locs : List Loc} {ls : Array Slot} (F : CallFix p m c cX10_unhang 4 s args uw RX10) (hA : ∀ q : Nat, s.heap.size ≤ q → A q) (hR : 2 ≤ R.frames ∧ 44 ≤ R.locals) (ret : RetI p l e R s m args below meth c cX10_unhang Qf (dmC G) (cfC G) tyC (exC G) D cy ad A Q) (h : wpX10_unhang_J27 G Q μ) (hw : wdC G D cy ad A μ s H) (hS : va_S A s.heap H locs) (hl : lv_has ls 4 [(0, .ref (ad 0 0))]) : W p l e R s m args below meth c H locs 0 0 Qf (F0 m 27 ls []) := by
  have hx := F.1
  have hb := F.2.1
  have hown := F.2.2.2.1
  have hts := F.2.2.2.2
  refine lv_aload_n hx hb dX10_unhang_27 rfl (lv_at hl 0 rfl) ?_
  refine q_iconst hx hb dX10_unhang_28 ?_
  refine call_V hexC F (kX10_found h) 1 tw2_20 tw1_1 tw2_19 tws1_1 tw2_17 hdX10_found ⟨Nat.le_trans (by decide) hR.1, Nat.le_trans (by decide) hR.2⟩ (hw.recv (k := 0) (i := 0) rfl rfl rfl) hA hw hS rfl hl.1 rfl (Nat.le_of_ble_eq_true rfl) dX10_unhang_29 (fun v1 μ2 H locs h hw hS => ?_)
  exact ret _ _ _ _ _ _ h hw hS dX10_unhang_32
def wpX10_unhang (G : GG) (x1 : Int) (x2 : Int) (μ : MM) (Q : Int → MM → Prop) : Prop := wpX10_towerOf G x1 μ (fun v1 μ2 => if v1 < 0 then (Q (-1) μ2) else (v1 < 4 ∧ (rg (μ2 3 0 v1) ∧ (if (μ2 3 0 v1) = 0 then (wpX10_unhang_J27 G Q  μ2) else (wpX8_trainIn G v1 x2 μ2 (fun v8 μ9 => if v8 < 0 then (wpX10_unhang_J27 G Q  μ9) else (v8 < G 0 0 ∧ (wpX8_release G v1 x2 μ9 (fun v13 μ14 => Q v13 μ14)))))))))
set_option maxRecDepth 100000 in
set_option maxHeartbeats 4000000 in
theorem wX10_unhang {G : GG} {Q : Int → MM → Prop} {x1 : Int} {x2 : Int} {μ : MM} {H : Heap} {locs : List Loc} {ls : Array Slot} (F : CallFix p m c cX10_unhang 4 s args uw RX10) (hA : ∀ q : Nat, s.heap.size ≤ q → A q) (hR : 2 ≤ R.frames ∧ 44 ≤ R.locals) (ret : RetI p l e R s m args below meth c cX10_unhang Qf (dmC G) (cfC G) tyC (exC G) D cy ad A Q) (h : wpX10_unhang G x1 x2 μ Q) (hw : wdC G D cy ad A μ s H) (hS : va_S A s.heap H locs) (hl : lv_has ls 4 [(0, .ref (ad 0 0)), (1, .int (iI x1)), (2, .int (iI x2))]) : W p l e R s m args below meth c H locs 0 0 Qf (F0 m 0 ls []) := by
  have hx := F.1
  have hb := F.2.1
  have hown := F.2.2.2.1
  have hts := F.2.2.2.2
  refine lv_aload_n hx hb dX10_unhang_0 rfl (lv_at hl 0 rfl) ?_
  refine lv_iload_n hx hb dX10_unhang_1 rfl (lv_at hl 1 rfl) ?_
  refine call_V hexC F (kX10_towerOf h) 1 tw3_99 tw1_1 tw3_98 tws1_5 tw3_96 hdX10_towerOf ⟨Nat.le_trans (by decide) hR.1, Nat.le_trans (by decide) hR.2⟩ (hw.recv (k := 0) (i := 0) rfl rfl rfl) hA hw hS rfl hl.1 rfl (Nat.le_of_ble_eq_true rfl) dX10_unhang_2 (fun v1 μ2 H locs h hw hS => ?_)
  refine q_astore_n (lv' := [(3, rf ad 3 v1), (0, .ref (ad 0 0)), (1, .int (iI x1)), (2, .int (iI x2))]) hx hb dX10_unhang_5 rfl hl (by decide) rfl (fun ls hl => ?_)
  refine q_aload_n hx hb dX10_unhang_6 rfl (lv_at hl 0 rfl) ?_
  refine q_ifnonnull (tgt := 12) hx hb dX10_unhang_7 (by decide) (fun c3 => ?_) (fun c3 => ?_)
  · have h := ite_t c3 h
    refine q_iconst hx hb dX10_unhang_10 ?_
    exact ret _ _ _ _ _ _ h hw hS dX10_unhang_11
  · have h := ite_f c3 h
    obtain ⟨g4, h⟩ := h
    have hi5 : 0 ≤ v1 ∧ v1 < 4 := ⟨by omega, g4⟩
    have hl : lv_has ls 4 [(3, .ref (ad 3 v1)), (0, .ref (ad 0 0)), (1, .int (iI x1)), (2, .int (iI x2))] := by rw [← rf_pos (ad := ad) (k := 3) hi5.1]; exact hl
    refine lv_aload_n hx hb dX10_unhang_12 rfl (lv_at hl 0 rfl) ?_
    refine gC_W_there F hw hi5 tw1_163 dX10_unhang_13 ?_
    obtain ⟨g6, h⟩ := h
    refine q_if_eq (tgt := 27) hx hb g6 dX10_unhang_16 (by decide) (fun c7 => ?_) (fun c7 => ?_)
    · have h := ite_t c7 h
      exact wX10_unhang_J27 F hA hR ret h hw hS (lv_sub hl [1] rfl)
    · have h := ite_f c7 h
      refine lv_aload_n hx hb dX10_unhang_19 rfl (lv_at hl 0 rfl) ?_
      refine lv_iload_n hx hb dX10_unhang_20 rfl (lv_at hl 3 rfl) ?_
      refine call_V hexC F (kX8_trainIn h hi5) 1 tw3_111 tw1_6 tw3_109 tw3_110 tw3_142 hdX8_trainIn ⟨Nat.le_trans (by decide) hR.1, Nat.le_trans (by decide) hR.2⟩ (hw.recv (k := 3) (i := v1) hi5 rfl rfl) hA hw hS rfl hl.1 rfl (Nat.le_of_ble_eq_true rfl) dX10_unhang_21 (fun v8 μ9 H locs h hw hS => ?_)
      refine q_ifnonnull (tgt := 33) hx hb dX10_unhang_24 (by decide) (fun c10 => ?_) (fun c10 => ?_)
      · have h := ite_t c10 h
        exact wX10_unhang_J27 F hA hR ret h hw hS (lv_sub hl [1] rfl)
      · have h := ite_f c10 h
        obtain ⟨g11, h⟩ := h
        have hi12 : 0 ≤ v8 ∧ v8 < G 0 0 := ⟨by omega, g11⟩
        refine lv_aload_n hx hb dX10_unhang_33 rfl (lv_at hl 0 rfl) ?_
        refine lv_iload_n hx hb dX10_unhang_34 rfl (lv_at hl 3 rfl) ?_
        refine call_V hexC F (kX8_release h hi5) 1 tw3_107 tw1_6 tw3_105 tw3_106 tw3_128 hdX8_release ⟨Nat.le_trans (by decide) hR.1, Nat.le_trans (by decide) hR.2⟩ (hw.recv (k := 3) (i := v1) hi5 rfl rfl) hA hw hS rfl hl.1 rfl (Nat.le_of_ble_eq_true rfl) dX10_unhang_35 (fun v13 μ14 H locs h hw hS => ?_)
        exact ret _ _ _ _ _ _ h hw hS dX10_unhang_38
set_option maxRecDepth 100000 in
set_option maxHeartbeats 4000000 in
theorem kX10_unhang {l : Launch} {D : va_G} {cy : Nat → ClassId} {ad : AD} {A : Nat → Prop} {G : GG} {x1 : Int} {x2 : Int} {μ : MM} {Q : Int → MM → Prop} (h : wpX10_unhang G x1 x2 μ Q) : Met l yX10_unhang (Cond.code yX10_unhang cX10_unhang 4 (some .int) :: uw) (rmm 2 44) (wPc [.ref (ad 0 0), .int (iI x1), .int (iI x2)] (dmC G) (cfC G) tyC (exC G) D cy ad A μ) (wQ vI Q (dmC G) (cfC G) D cy ad A) 0 0 A :=
  met_of (by decide) (Nat.le_of_ble_eq_true rfl) (fun p e R s m args below meth c ls hr hk hRR F hA hw hS hl => wX10_unhang F hA (by subst hRR; exact ⟨Nat.le_refl _, Nat.le_refl _⟩) (retI_of F hr hk) h hw hS hl)
theorem hdX10_unhang : yX10_unhang.cls ≠ "java/lang/invoke/MethodHandle" ∧ yX10_unhang.cls ≠ "java/lang/invoke/VarHandle" ∧ (parseMethodDescriptor yX10_unhang.desc).map (fun d => d.parameters.length) = some 2 := by decide +kernel
def wpX10_upper (G : GG) (μ : MM) (Q : Int → MM → Prop) : Prop := Q (μ 7 7 0) μ
set_option maxRecDepth 100000 in
set_option maxHeartbeats 4000000 in
theorem wX10_upper {G : GG} {Q : Int → MM → Prop} {μ : MM} {H : Heap} {locs : List Loc} {ls : Array Slot} (F : CallFix p m c cX10_upper 1 s args uw RX10) (hA : ∀ q : Nat, s.heap.size ≤ q → A q) (hR : 0 ≤ R.frames ∧ 0 ≤ R.locals) (ret : RetL p l e R s m args below meth c cX10_upper Qf (dmC G) (cfC G) tyC (exC G) D cy ad A Q) (h : wpX10_upper G μ Q) (hw : wdC G D cy ad A μ s H) (hS : va_S A s.heap H locs) (hl : lv_has ls 1 [(0, .ref (ad 0 0))]) : W p l e R s m args below meth c H locs 0 0 Qf (F0 m 0 ls []) := by
  have hx := F.1
  have hb := F.2.1
  have hown := F.2.2.2.1
  have hts := F.2.2.2.2
  refine lv_aload_n hx hb dX10_upper_0 rfl (lv_at hl 0 rfl) ?_
  refine gC_H_gearing F hw tw1_216 dX10_upper_1 ?_
  refine gC_Q_upper F hw tw1_93 dX10_upper_4 ?_
  exact ret _ _ _ _ _ _ h hw hS dX10_upper_7
set_option maxRecDepth 100000 in
set_option maxHeartbeats 4000000 in
theorem kX10_upper {l : Launch} {D : va_G} {cy : Nat → ClassId} {ad : AD} {A : Nat → Prop} {G : GG} {μ : MM} {Q : Int → MM → Prop} (h : wpX10_upper G μ Q) : Met l yX10_upper (Cond.code yX10_upper cX10_upper 1 (some .long) :: uw) (rmm 0 0) (wPc [.ref (ad 0 0)] (dmC G) (cfC G) tyC (exC G) D cy ad A μ) (wQ vL Q (dmC G) (cfC G) D cy ad A) 0 0 A :=
  met_of (by decide) (Nat.le_of_ble_eq_true rfl) (fun p e R s m args below meth c ls hr hk hRR F hA hw hS hl => wX10_upper F hA (by subst hRR; exact ⟨Nat.le_refl _, Nat.le_refl _⟩) (retL_of F hr hk) h hw hS hl)
theorem hdX10_upper : yX10_upper.cls ≠ "java/lang/invoke/MethodHandle" ∧ yX10_upper.cls ≠ "java/lang/invoke/VarHandle" ∧ (parseMethodDescriptor yX10_upper.desc).map (fun d => d.parameters.length) = some 0 := by decide +kernel
def wpX2_add (G : GG) (x1 : Int) (μ : MM) (Q : Int → MM → Prop) : Prop := rg (μ 7 1 0) ∧ (if (μ 7 1 0) < 0 then (Q (-2) μ) else (if (μ 7 1 0) < 12 then (0 ≤ (μ 7 1 0) ∧ (μ 7 1 0 < 12 ∧ (∀ μ6 : MM, μ6 = ms μ 17 0 (μ 7 1 0) x1 → (∀ μ7 : MM, μ7 = ms μ6 7 1 0 ((μ6 7 1 0) + 1) → (Q ((μ7 7 1 0) - 1) μ7))))) else (Q (-2) μ)))
set_option maxRecDepth 100000 in
set_option maxHeartbeats 4000000 in
theorem wX2_add {G : GG} {Q : Int → MM → Prop} {x1 : Int} {μ : MM} {H : Heap} {locs : List Loc} {ls : Array Slot} (F : CallFix p m c cX2_add 2 s args uw RX2) (hA : ∀ q : Nat, s.heap.size ≤ q → A q) (hR : 0 ≤ R.frames ∧ 0 ≤ R.locals) (ret : RetI p l e R s m args below meth c cX2_add Qf (dmC G) (cfC G) tyC (exC G) D cy ad A Q) (h : wpX2_add G x1 μ Q) (hw : wdC G D cy ad A μ s H) (hS : va_S A s.heap H locs) (hl : lv_has ls 2 [(0, .ref (ad 7 0)), (1, .int (iI x1))]) : W p l e R s m args below meth c H locs 0 0 Qf (F0 m 0 ls []) := by
  have hx := F.1
  have hb := F.2.1
  have hown := F.2.2.2.1
  have hts := F.2.2.2.2
  refine lv_aload_n hx hb dX2_add_0 rfl (lv_at hl 0 rfl) ?_
  refine gC_Q_wheels F hw tw1_85 dX2_add_1 ?_
  obtain ⟨g1, h⟩ := h
  refine q_if_lt (tgt := 19) hx hb g1 dX2_add_4 (by decide) (fun c2 => ?_) (fun c2 => ?_)
  · have h := ite_t c2 h
    refine q_bipush hx hb (by decide) dX2_add_19 ?_
    exact ret _ _ _ _ _ _ h hw hS dX2_add_21
  · have h := ite_f c2 h
    refine lv_aload_n hx hb dX2_add_7 rfl (lv_at hl 0 rfl) ?_
    refine gC_Q_wheels F hw tw1_85 dX2_add_8 ?_
    refine lv_aload_n hx hb dX2_add_11 rfl (lv_at hl 0 rfl) ?_
    refine gC_Q_teeth F hw tw1_84 dX2_add_12 ?_
    refine aC_17_ln hx hb hw dX2_add_15 ?_
    refine q_icmp_lt (tgt := 22) hx hb g1 (by decide) dX2_add_16 (by decide) (fun c3 => ?_) (fun c3 => ?_)
    · have h := ite_t c3 h
      refine lv_aload_n hx hb dX2_add_22 rfl (lv_at hl 0 rfl) ?_
      refine gC_Q_teeth F hw tw1_84 dX2_add_23 ?_
      refine lv_aload_n hx hb dX2_add_26 rfl (lv_at hl 0 rfl) ?_
      refine gC_Q_wheels F hw tw1_85 dX2_add_27 ?_
      refine lv_iload_n hx hb dX2_add_30 rfl (lv_at hl 1 rfl) ?_
      obtain ⟨g4, h⟩ := h
      obtain ⟨g5, h⟩ := h
      obtain ⟨μ6, eμ6⟩ : ∃ z : MM, z = ms μ 17 0 (μ 7 1 0) x1 := ⟨_, rfl⟩
      have h := h μ6 eμ6
      refine aC_17_st hx hb hw hS g4 g5 eμ6 dX2_add_31 (fun H locs hw hS => ?_)
      refine lv_aload_n hx hb dX2_add_32 rfl (lv_at hl 0 rfl) ?_
      refine lv_dup hx hb dX2_add_33 rfl ?_
      refine gC_Q_wheels F hw tw1_85 dX2_add_34 ?_
      refine q_iconst hx hb dX2_add_37 ?_
      refine q_iadd hx hb dX2_add_38 ?_
      obtain ⟨μ7, eμ7⟩ : ∃ z : MM, z = ms μ6 7 1 0 ((μ6 7 1 0) + 1) := ⟨_, rfl⟩
      have h := h μ7 eμ7
      refine pC_Q_wheels F hw hS tw1_85 eμ7 dX2_add_39 (fun H locs hw hS => ?_)
      refine lv_aload_n hx hb dX2_add_42 rfl (lv_at hl 0 rfl) ?_
      refine gC_Q_wheels F hw tw1_85 dX2_add_43 ?_
      refine q_iconst hx hb dX2_add_46 ?_
      refine q_isub hx hb dX2_add_47 ?_
      exact ret _ _ _ _ _ _ h hw hS dX2_add_48
    · have h := ite_f c3 h
      refine q_bipush hx hb (by decide) dX2_add_19 ?_
      exact ret _ _ _ _ _ _ h hw hS dX2_add_21
set_option maxRecDepth 100000 in
set_option maxHeartbeats 4000000 in
theorem kX2_add {l : Launch} {D : va_G} {cy : Nat → ClassId} {ad : AD} {A : Nat → Prop} {G : GG} {x1 : Int} {μ : MM} {Q : Int → MM → Prop} (h : wpX2_add G x1 μ Q) : Met l yX2_add (Cond.code yX2_add cX2_add 2 (some .int) :: uw) (rmm 0 0) (wPc [.ref (ad 7 0), .int (iI x1)] (dmC G) (cfC G) tyC (exC G) D cy ad A μ) (wQ vI Q (dmC G) (cfC G) D cy ad A) 0 0 A :=
  met_of (by decide) (Nat.le_of_ble_eq_true rfl) (fun p e R s m args below meth c ls hr hk hRR F hA hw hS hl => wX2_add F hA (by subst hRR; exact ⟨Nat.le_refl _, Nat.le_refl _⟩) (retI_of F hr hk) h hw hS hl)
theorem hdX2_add : yX2_add.cls ≠ "java/lang/invoke/MethodHandle" ∧ yX2_add.cls ≠ "java/lang/invoke/VarHandle" ∧ (parseMethodDescriptor yX2_add.desc).map (fun d => d.parameters.length) = some 1 := by decide +kernel
def wpX10_wheel (G : GG) (x1 : Int) (μ : MM) (Q : Int → MM → Prop) : Prop := rg x1 ∧ (if x1 < 6 then (Q (-1) μ) else (if x1 ≤ 200 then (rg (μ 7 1 0) ∧ (if (μ 7 1 0) < 12 then (wpX2_add G x1 μ (fun v6 μ7 => Q v6 μ7)) else (Q (-2) μ))) else (Q (-1) μ)))
set_option maxRecDepth 100000 in
set_option maxHeartbeats 4000000 in
theorem wX10_wheel {G : GG} {Q : Int → MM → Prop} {x1 : Int} {μ : MM} {H : Heap} {locs : List Loc} {ls : Array Slot} (F : CallFix p m c cX10_wheel 2 s args uw RX10) (hA : ∀ q : Nat, s.heap.size ≤ q → A q) (hR : 1 ≤ R.frames ∧ 21 ≤ R.locals) (ret : RetI p l e R s m args below meth c cX10_wheel Qf (dmC G) (cfC G) tyC (exC G) D cy ad A Q) (h : wpX10_wheel G x1 μ Q) (hw : wdC G D cy ad A μ s H) (hS : va_S A s.heap H locs) (hl : lv_has ls 2 [(0, .ref (ad 0 0)), (1, .int (iI x1))]) : W p l e R s m args below meth c H locs 0 0 Qf (F0 m 0 ls []) := by
  have hx := F.1
  have hb := F.2.1
  have hown := F.2.2.2.1
  have hts := F.2.2.2.2
  refine lv_iload_n hx hb dX10_wheel_0 rfl (lv_at hl 1 rfl) ?_
  refine q_bipush hx hb (by decide) dX10_wheel_1 ?_
  obtain ⟨g1, h⟩ := h
  refine q_icmp_lt (tgt := 13) hx hb g1 (by decide) dX10_wheel_3 (by decide) (fun c2 => ?_) (fun c2 => ?_)
  · have h := ite_t c2 h
    refine q_iconst hx hb dX10_wheel_13 ?_
    exact ret _ _ _ _ _ _ h hw hS dX10_wheel_14
  · have h := ite_f c2 h
    refine lv_iload_n hx hb dX10_wheel_6 rfl (lv_at hl 1 rfl) ?_
    refine q_sipush hx hb (by decide) dX10_wheel_7 ?_
    refine q_icmp_le (tgt := 15) hx hb g1 (by decide) dX10_wheel_10 (by decide) (fun c3 => ?_) (fun c3 => ?_)
    · have h := ite_t c3 h
      refine lv_aload_n hx hb dX10_wheel_15 rfl (lv_at hl 0 rfl) ?_
      refine gC_H_gearing F hw tw1_216 dX10_wheel_16 ?_
      refine gC_Q_wheels F hw tw1_86 dX10_wheel_19 ?_
      refine q_bipush hx hb (by decide) dX10_wheel_22 ?_
      obtain ⟨g4, h⟩ := h
      refine q_icmp_lt (tgt := 30) hx hb g4 (by decide) dX10_wheel_24 (by decide) (fun c5 => ?_) (fun c5 => ?_)
      · have h := ite_t c5 h
        refine lv_aload_n hx hb dX10_wheel_30 rfl (lv_at hl 0 rfl) ?_
        refine gC_H_gearing F hw tw1_216 dX10_wheel_31 ?_
        refine lv_iload_n hx hb dX10_wheel_34 rfl (lv_at hl 1 rfl) ?_
        refine call_V hexC F (kX2_add h) 1 tw4_221 tw1_4 tw4_219 tw4_220 tw4_218 hdX2_add ⟨Nat.le_trans (by decide) hR.1, Nat.le_trans (by decide) hR.2⟩ (hw.recv (k := 7) (i := 0) rfl rfl rfl) hA hw hS rfl hl.1 rfl (Nat.le_of_ble_eq_true rfl) dX10_wheel_35 (fun v6 μ7 H locs h hw hS => ?_)
        exact ret _ _ _ _ _ _ h hw hS dX10_wheel_38
      · have h := ite_f c5 h
        refine q_bipush hx hb (by decide) dX10_wheel_27 ?_
        exact ret _ _ _ _ _ _ h hw hS dX10_wheel_29
    · have h := ite_f c3 h
      refine q_iconst hx hb dX10_wheel_13 ?_
      exact ret _ _ _ _ _ _ h hw hS dX10_wheel_14
set_option maxRecDepth 100000 in
set_option maxHeartbeats 4000000 in
theorem kX10_wheel {l : Launch} {D : va_G} {cy : Nat → ClassId} {ad : AD} {A : Nat → Prop} {G : GG} {x1 : Int} {μ : MM} {Q : Int → MM → Prop} (h : wpX10_wheel G x1 μ Q) : Met l yX10_wheel (Cond.code yX10_wheel cX10_wheel 2 (some .int) :: uw) (rmm 1 21) (wPc [.ref (ad 0 0), .int (iI x1)] (dmC G) (cfC G) tyC (exC G) D cy ad A μ) (wQ vI Q (dmC G) (cfC G) D cy ad A) 0 0 A :=
  met_of (by decide) (Nat.le_of_ble_eq_true rfl) (fun p e R s m args below meth c ls hr hk hRR F hA hw hS hl => wX10_wheel F hA (by subst hRR; exact ⟨Nat.le_refl _, Nat.le_refl _⟩) (retI_of F hr hk) h hw hS hl)
theorem hdX10_wheel : yX10_wheel.cls ≠ "java/lang/invoke/MethodHandle" ∧ yX10_wheel.cls ≠ "java/lang/invoke/VarHandle" ∧ (parseMethodDescriptor yX10_wheel.desc).map (fun d => d.parameters.length) = some 1 := by decide +kernel
def wpX10_wind (G : GG) (x1 : Int) (μ : MM) (Q : Int → MM → Prop) : Prop := wpX10_trainOf G x1 μ (fun v1 μ2 => if v1 < 0 then (Q (-1) μ2) else (v1 < G 0 0 ∧ (∀ y6 : Int, y6 = (μ2 2 4 v1) - (μ2 2 5 v1) → (∀ μ7 : MM, μ7 = ms μ2 2 5 v1 (μ2 2 4 v1) → (Q y6 μ7)))))
set_option maxRecDepth 100000 in
set_option maxHeartbeats 4000000 in
theorem wX10_wind {G : GG} {Q : Int → MM → Prop} {x1 : Int} {μ : MM} {H : Heap} {locs : List Loc} {ls : Array Slot} (F : CallFix p m c cX10_wind 4 s args uw RX10) (hA : ∀ q : Nat, s.heap.size ≤ q → A q) (hR : 1 ≤ R.frames ∧ 21 ≤ R.locals) (ret : RetI p l e R s m args below meth c cX10_wind Qf (dmC G) (cfC G) tyC (exC G) D cy ad A Q) (h : wpX10_wind G x1 μ Q) (hw : wdC G D cy ad A μ s H) (hS : va_S A s.heap H locs) (hl : lv_has ls 4 [(0, .ref (ad 0 0)), (1, .int (iI x1))]) : W p l e R s m args below meth c H locs 0 0 Qf (F0 m 0 ls []) := by
  have hx := F.1
  have hb := F.2.1
  have hown := F.2.2.2.1
  have hts := F.2.2.2.2
  refine lv_aload_n hx hb dX10_wind_0 rfl (lv_at hl 0 rfl) ?_
  refine lv_iload_n hx hb dX10_wind_1 rfl (lv_at hl 1 rfl) ?_
  refine call_V hexC F (kX10_trainOf h) 1 tw3_18 tw1_1 tw3_17 tws1_4 tw3_15 hdX10_trainOf ⟨Nat.le_trans (by decide) hR.1, Nat.le_trans (by decide) hR.2⟩ (hw.recv (k := 0) (i := 0) rfl rfl rfl) hA hw hS rfl hl.1 rfl (Nat.le_of_ble_eq_true rfl) dX10_wind_2 (fun v1 μ2 H locs h hw hS => ?_)
  refine q_astore_n (lv' := [(2, rf ad 2 v1), (0, .ref (ad 0 0)), (1, .int (iI x1))]) hx hb dX10_wind_5 rfl hl (by decide) rfl (fun ls hl => ?_)
  refine q_aload_n hx hb dX10_wind_6 rfl (lv_at hl 0 rfl) ?_
  refine q_ifnonnull (tgt := 12) hx hb dX10_wind_7 (by decide) (fun c3 => ?_) (fun c3 => ?_)
  · have h := ite_t c3 h
    refine q_iconst hx hb dX10_wind_10 ?_
    exact ret _ _ _ _ _ _ h hw hS dX10_wind_11
  · have h := ite_f c3 h
    obtain ⟨g4, h⟩ := h
    have hi5 : 0 ≤ v1 ∧ v1 < G 0 0 := ⟨by omega, g4⟩
    have hl : lv_has ls 4 [(2, .ref (ad 2 v1)), (0, .ref (ad 0 0)), (1, .int (iI x1))] := by rw [← rf_pos (ad := ad) (k := 2) hi5.1]; exact hl
    refine lv_aload_n hx hb dX10_wind_12 rfl (lv_at hl 0 rfl) ?_
    refine gC_T_fall F hw hi5 tw2_83 (fun _ h => h) dX10_wind_13 ?_
    refine lv_aload_n hx hb dX10_wind_16 rfl (lv_at hl 0 rfl) ?_
    refine gC_T_weight F hw hi5 tw2_85 (fun _ h => h) dX10_wind_17 ?_
    refine q_isub hx hb dX10_wind_20 ?_
    obtain ⟨y6, ey6⟩ : ∃ z : Int, z = (μ2 2 4 v1) - (μ2 2 5 v1) := ⟨_, rfl⟩
    have h := h y6 ey6
    refine q_nmI ey6 ?_
    refine lv_istore_n (lv' := [(3, .int (iI y6)), (2, .ref (ad 2 v1)), (0, .ref (ad 0 0)), (1, .int (iI x1))]) hx hb dX10_wind_21 rfl hl (by decide) rfl (fun ls hl => ?_)
    refine lv_aload_n hx hb dX10_wind_22 rfl (lv_at hl 1 rfl) ?_
    refine lv_aload_n hx hb dX10_wind_23 rfl (lv_at hl 1 rfl) ?_
    refine gC_T_fall F hw hi5 tw2_83 (fun _ h => h) dX10_wind_24 ?_
    obtain ⟨μ7, eμ7⟩ : ∃ z : MM, z = ms μ2 2 5 v1 (μ2 2 4 v1) := ⟨_, rfl⟩
    have h := h μ7 eμ7
    refine pC_T_weight F hw hS hi5 tw2_85 (fun _ h => h) eμ7 dX10_wind_27 (fun H locs hw hS => ?_)
    refine lv_iload_n hx hb dX10_wind_30 rfl (lv_at hl 0 rfl) ?_
    exact ret _ _ _ _ _ _ h hw hS dX10_wind_31
set_option maxRecDepth 100000 in
set_option maxHeartbeats 4000000 in
theorem kX10_wind {l : Launch} {D : va_G} {cy : Nat → ClassId} {ad : AD} {A : Nat → Prop} {G : GG} {x1 : Int} {μ : MM} {Q : Int → MM → Prop} (h : wpX10_wind G x1 μ Q) : Met l yX10_wind (Cond.code yX10_wind cX10_wind 4 (some .int) :: uw) (rmm 1 21) (wPc [.ref (ad 0 0), .int (iI x1)] (dmC G) (cfC G) tyC (exC G) D cy ad A μ) (wQ vI Q (dmC G) (cfC G) D cy ad A) 0 0 A :=
  met_of (by decide) (Nat.le_of_ble_eq_true rfl) (fun p e R s m args below meth c ls hr hk hRR F hA hw hS hl => wX10_wind F hA (by subst hRR; exact ⟨Nat.le_refl _, Nat.le_refl _⟩) (retI_of F hr hk) h hw hS hl)
theorem hdX10_wind : yX10_wind.cls ≠ "java/lang/invoke/MethodHandle" ∧ yX10_wind.cls ≠ "java/lang/invoke/VarHandle" ∧ (parseMethodDescriptor yX10_wind.desc).map (fun d => d.parameters.length) = some 1 := by decide +kernel
def wpX10_windGoing (G : GG) (x1 : Int) (x2 : Int) (μ : MM) (Q : Int → MM → Prop) : Prop := wpX10_towerOf G x1 μ (fun v1 μ2 => if v1 < 0 then (Q (-1) μ2) else (v1 < 4 ∧ (rg x2 ∧ (if x2 < 0 then (Q (-1) μ2) else (if x2 ≤ 100000 then (rg (μ2 3 0 v1) ∧ (if (μ2 3 0 v1) = 0 then (wpX10_found G 1 μ2 (fun v12 μ13 => Q v12 μ13)) else (∀ μ11 : MM, μ11 = ms μ2 3 4 v1 x2 → (Q (μ2 3 4 v1) μ11)))) else (Q (-1) μ2))))))
set_option maxRecDepth 100000 in
set_option maxHeartbeats 4000000 in
theorem wX10_windGoing {G : GG} {Q : Int → MM → Prop} {x1 : Int} {x2 : Int} {μ : MM} {H : Heap} {locs : List Loc} {ls : Array Slot} (F : CallFix p m c cX10_windGoing 5 s args uw RX10) (hA : ∀ q : Nat, s.heap.size ≤ q → A q) (hR : 1 ≤ R.frames ∧ 21 ≤ R.locals) (ret : RetI p l e R s m args below meth c cX10_windGoing Qf (dmC G) (cfC G) tyC (exC G) D cy ad A Q) (h : wpX10_windGoing G x1 x2 μ Q) (hw : wdC G D cy ad A μ s H) (hS : va_S A s.heap H locs) (hl : lv_has ls 5 [(0, .ref (ad 0 0)), (1, .int (iI x1)), (2, .int (iI x2))]) : W p l e R s m args below meth c H locs 0 0 Qf (F0 m 0 ls []) := by
  have hx := F.1
  have hb := F.2.1
  have hown := F.2.2.2.1
  have hts := F.2.2.2.2
  refine lv_aload_n hx hb dX10_windGoing_0 rfl (lv_at hl 0 rfl) ?_
  refine lv_iload_n hx hb dX10_windGoing_1 rfl (lv_at hl 1 rfl) ?_
  refine call_V hexC F (kX10_towerOf h) 1 tw3_99 tw1_1 tw3_98 tws1_5 tw3_96 hdX10_towerOf ⟨Nat.le_trans (by decide) hR.1, Nat.le_trans (by decide) hR.2⟩ (hw.recv (k := 0) (i := 0) rfl rfl rfl) hA hw hS rfl hl.1 rfl (Nat.le_of_ble_eq_true rfl) dX10_windGoing_2 (fun v1 μ2 H locs h hw hS => ?_)
  refine q_astore_n (lv' := [(3, rf ad 3 v1), (0, .ref (ad 0 0)), (1, .int (iI x1)), (2, .int (iI x2))]) hx hb dX10_windGoing_5 rfl hl (by decide) rfl (fun ls hl => ?_)
  refine q_aload_n hx hb dX10_windGoing_6 rfl (lv_at hl 0 rfl) ?_
  refine q_ifnull (tgt := 20) hx hb dX10_windGoing_7 (by decide) (fun c3 => ?_) (fun c3 => ?_)
  · have h := ite_t c3 h
    refine q_iconst hx hb dX10_windGoing_20 ?_
    exact ret _ _ _ _ _ _ h hw hS dX10_windGoing_21
  · have h := ite_f c3 h
    obtain ⟨g4, h⟩ := h
    have hi5 : 0 ≤ v1 ∧ v1 < 4 := ⟨by omega, g4⟩
    have hl : lv_has ls 5 [(3, .ref (ad 3 v1)), (0, .ref (ad 0 0)), (1, .int (iI x1)), (2, .int (iI x2))] := by rw [← rf_pos (ad := ad) (k := 3) hi5.1]; exact hl
    refine lv_iload_n hx hb dX10_windGoing_10 rfl (lv_at hl 3 rfl) ?_
    obtain ⟨g6, h⟩ := h
    refine q_if_lt (tgt := 20) hx hb g6 dX10_windGoing_11 (by decide) (fun c7 => ?_) (fun c7 => ?_)
    · have h := ite_t c7 h
      refine q_iconst hx hb dX10_windGoing_20 ?_
      exact ret _ _ _ _ _ _ h hw hS dX10_windGoing_21
    · have h := ite_f c7 h
      refine lv_iload_n hx hb dX10_windGoing_14 rfl (lv_at hl 3 rfl) ?_
      refine q_ldc (n := 100000) hx hb hown (hts _ tw3_19) (by decide) dX10_windGoing_15 ?_
      refine q_icmp_le (tgt := 22) hx hb g6 (by decide) dX10_windGoing_17 (by decide) (fun c8 => ?_) (fun c8 => ?_)
      · have h := ite_t c8 h
        refine lv_aload_n hx hb dX10_windGoing_22 rfl (lv_at hl 0 rfl) ?_
        refine gC_W_there F hw hi5 tw1_163 dX10_windGoing_23 ?_
        obtain ⟨g9, h⟩ := h
        refine q_if_ne (tgt := 35) hx hb g9 dX10_windGoing_26 (by decide) (fun c10 => ?_) (fun c10 => ?_)
        · have h := ite_f c10 h
          refine lv_aload_n hx hb dX10_windGoing_35 rfl (lv_at hl 0 rfl) ?_
          refine gC_W_going F hw hi5 tw1_171 dX10_windGoing_36 ?_
          refine lv_istore (lv' := [(4, .int (iI (μ2 3 4 v1))), (3, .ref (ad 3 v1)), (0, .ref (ad 0 0)), (1, .int (iI x1)), (2, .int (iI x2))]) hx hb dX10_windGoing_39 hl (by decide) rfl (fun ls hl => ?_)
          refine lv_aload_n hx hb dX10_windGoing_41 rfl (lv_at hl 1 rfl) ?_
          refine lv_iload_n hx hb dX10_windGoing_42 rfl (lv_at hl 4 rfl) ?_
          obtain ⟨μ11, eμ11⟩ : ∃ z : MM, z = ms μ2 3 4 v1 x2 := ⟨_, rfl⟩
          have h := h μ11 eμ11
          refine pC_W_going F hw hS hi5 tw1_171 eμ11 dX10_windGoing_43 (fun H locs hw hS => ?_)
          refine lv_iload hx hb dX10_windGoing_46 (lv_at hl 0 rfl) ?_
          exact ret _ _ _ _ _ _ h hw hS dX10_windGoing_48
        · have h := ite_t c10 h
          refine lv_aload_n hx hb dX10_windGoing_29 rfl (lv_at hl 1 rfl) ?_
          refine q_iconst hx hb dX10_windGoing_30 ?_
          refine call_V hexC F (kX10_found h) 1 tw2_20 tw1_1 tw2_19 tws1_1 tw2_17 hdX10_found ⟨Nat.le_trans (by decide) hR.1, Nat.le_trans (by decide) hR.2⟩ (hw.recv (k := 0) (i := 0) rfl rfl rfl) hA hw hS rfl hl.1 rfl (Nat.le_of_ble_eq_true rfl) dX10_windGoing_31 (fun v12 μ13 H locs h hw hS => ?_)
          exact ret _ _ _ _ _ _ h hw hS dX10_windGoing_34
      · have h := ite_f c8 h
        refine q_iconst hx hb dX10_windGoing_20 ?_
        exact ret _ _ _ _ _ _ h hw hS dX10_windGoing_21
set_option maxRecDepth 100000 in
set_option maxHeartbeats 4000000 in
theorem kX10_windGoing {l : Launch} {D : va_G} {cy : Nat → ClassId} {ad : AD} {A : Nat → Prop} {G : GG} {x1 : Int} {x2 : Int} {μ : MM} {Q : Int → MM → Prop} (h : wpX10_windGoing G x1 x2 μ Q) : Met l yX10_windGoing (Cond.code yX10_windGoing cX10_windGoing 5 (some .int) :: uw) (rmm 1 21) (wPc [.ref (ad 0 0), .int (iI x1), .int (iI x2)] (dmC G) (cfC G) tyC (exC G) D cy ad A μ) (wQ vI Q (dmC G) (cfC G) D cy ad A) 0 0 A :=
  met_of (by decide) (Nat.le_of_ble_eq_true rfl) (fun p e R s m args below meth c ls hr hk hRR F hA hw hS hl => wX10_windGoing F hA (by subst hRR; exact ⟨Nat.le_refl _, Nat.le_refl _⟩) (retI_of F hr hk) h hw hS hl)
theorem hdX10_windGoing : yX10_windGoing.cls ≠ "java/lang/invoke/MethodHandle" ∧ yX10_windGoing.cls ≠ "java/lang/invoke/VarHandle" ∧ (parseMethodDescriptor yX10_windGoing.desc).map (fun d => d.parameters.length) = some 2 := by decide +kernel
def wpX1_firstWithMore_L3 (G : GG) (Q : Int → MM → Prop) : Nat → Int → Int → Int → Int → MM → Prop
  | 0, _, _, _, _, _ => False
  | n + 1, x1, x2, x3, x4, μ => rg x4 ∧ (if 48 ≤ x4 then (Q (-9) μ) else (0 ≤ x4 ∧ (x4 < 48 ∧ (wpX1_dueAt G (μ 6 1 0) x4 x1 x2 x3 μ (fun v5 μ6 => rg (μ 16 0 x4) ∧ (rg v5 ∧ (if (μ 16 0 x4) ≤ v5 then (wpX1_firstWithMore_L3 G Q n x1 x2 x3 (x4 + 1) μ6) else (Q x4 μ6))))))))
set_option maxRecDepth 100000 in
set_option maxHeartbeats 4000000 in
theorem wX1_firstWithMore_L3 {G : GG} {Q : Int → MM → Prop} (F : CallFix p m c cX1_firstWithMore 5 s args uw RX1) (hA : ∀ q : Nat, s.heap.size ≤ q → A q) (hR : 2 ≤ R.frames ∧ 46 ≤ R.locals) (ret : RetI p l e R s m args below meth c cX1_firstWithMore Qf (dmC G) (cfC G) tyC (exC G) D cy ad A Q) : ∀ (n : Nat) (x1 x2 x3 x4 : Int) (μ : MM) (H : Heap) (locs : List Loc) (ls : Array Slot), wpX1_firstWithMore_L3 G Q n x1 x2 x3 x4 μ → wdC G D cy ad A μ s H → va_S A s.heap H locs → lv_has ls 5 [(0, .ref (ad 6 0)), (1, .int (iI x1)), (2, .int (iI x2)), (3, .int (iI x3)), (4, .int (iI x4))] → W p l e R s m args below meth c H locs 0 0 Qf (F0 m 3 ls []) := by
  have hx := F.1
  have hb := F.2.1
  have hown := F.2.2.2.1
  have hts := F.2.2.2.2
  intro n
  induction n with
  | zero =>
    intro x1 x2 x3 x4 μ H locs ls h hw hS hl
    exact h.elim
  | succ n ih =>
    intro x1 x2 x3 x4 μ H locs ls h hw hS hl
    refine lv_iload hx hb dX1_firstWithMore_3 (lv_at hl 4 rfl) ?_
    refine lv_aload_n hx hb dX1_firstWithMore_5 rfl (lv_at hl 0 rfl) ?_
    refine gC_U_heard F hw tw1_51 dX1_firstWithMore_6 ?_
    refine aC_16_ln hx hb hw dX1_firstWithMore_9 ?_
    obtain ⟨g1, h⟩ := h
    refine q_icmp_ge (tgt := 44) hx hb g1 (by decide) dX1_firstWithMore_10 (by decide) (fun c2 => ?_) (fun c2 => ?_)
    · have h := ite_t c2 h
      refine q_bipush hx hb (by decide) dX1_firstWithMore_44 ?_
      exact ret _ _ _ _ _ _ h hw hS dX1_firstWithMore_46
    · have h := ite_f c2 h
      refine lv_aload_n hx hb dX1_firstWithMore_13 rfl (lv_at hl 0 rfl) ?_
      refine gC_U_heard F hw tw1_51 dX1_firstWithMore_14 ?_
      refine lv_iload hx hb dX1_firstWithMore_17 (lv_at hl 4 rfl) ?_
      obtain ⟨g3, h⟩ := h
      obtain ⟨g4, h⟩ := h
      refine aC_16_ld hx hb hw g3 g4 dX1_firstWithMore_19 ?_
      refine lv_aload_n hx hb dX1_firstWithMore_20 rfl (lv_at hl 0 rfl) ?_
      refine gC_U_hour F hw tw1_52 dX1_firstWithMore_21 ?_
      refine lv_iload hx hb dX1_firstWithMore_24 (lv_at hl 4 rfl) ?_
      refine lv_iload_n hx hb dX1_firstWithMore_26 rfl (lv_at hl 1 rfl) ?_
      refine lv_iload_n hx hb dX1_firstWithMore_27 rfl (lv_at hl 2 rfl) ?_
      refine lv_iload_n hx hb dX1_firstWithMore_28 rfl (lv_at hl 3 rfl) ?_
      refine call_S hexC F (kX1_dueAt h) 5 tw4_140 tw1_3 tw4_139 tw4_159 hdX1_dueAt ⟨Nat.le_trans (by decide) hR.1, Nat.le_trans (by decide) hR.2⟩ hA hw hS rfl hl.1 rfl (Nat.le_of_ble_eq_true rfl) dX1_firstWithMore_29 (fun v5 μ6 H locs h hw hS => ?_)
      obtain ⟨g7, h⟩ := h
      obtain ⟨g8, h⟩ := h
      refine q_icmp_le (tgt := 38) hx hb g7 g8 dX1_firstWithMore_32 (by decide) (fun c9 => ?_) (fun c9 => ?_)
      · have h := ite_t c9 h
        refine q_iinc (k := 4) (lv' := [(4, .int (iI (x4 + 1))), (0, .ref (ad 6 0)), (1, .int (iI x1)), (2, .int (iI x2)), (3, .int (iI x3))]) hx hb dX1_firstWithMore_38 hl rfl (by decide) rfl (fun ls hl => ?_)
        refine lv_goto (tgt := 3) hx hb dX1_firstWithMore_41 (by decide) ?_
        exact ih x1 x2 x3 (x4 + 1) _ _ _ _ h hw hS (lv_sub hl [1, 2, 3, 4, 0] rfl)
      · have h := ite_f c9 h
        refine lv_iload hx hb dX1_firstWithMore_35 (lv_at hl 4 rfl) ?_
        exact ret _ _ _ _ _ _ h hw hS dX1_firstWithMore_37
def wpX1_firstWithMore (G : GG) (x1 : Int) (x2 : Int) (x3 : Int) (μ : MM) (Q : Int → MM → Prop) : Prop := ∃ n1 : Nat, wpX1_firstWithMore_L3 G Q n1 x1 x2 x3 0 μ
set_option maxRecDepth 100000 in
set_option maxHeartbeats 4000000 in
theorem wX1_firstWithMore {G : GG} {Q : Int → MM → Prop} {x1 : Int} {x2 : Int} {x3 : Int} {μ : MM} {H : Heap} {locs : List Loc} {ls : Array Slot} (F : CallFix p m c cX1_firstWithMore 5 s args uw RX1) (hA : ∀ q : Nat, s.heap.size ≤ q → A q) (hR : 2 ≤ R.frames ∧ 46 ≤ R.locals) (ret : RetI p l e R s m args below meth c cX1_firstWithMore Qf (dmC G) (cfC G) tyC (exC G) D cy ad A Q) (h : wpX1_firstWithMore G x1 x2 x3 μ Q) (hw : wdC G D cy ad A μ s H) (hS : va_S A s.heap H locs) (hl : lv_has ls 5 [(0, .ref (ad 6 0)), (1, .int (iI x1)), (2, .int (iI x2)), (3, .int (iI x3))]) : W p l e R s m args below meth c H locs 0 0 Qf (F0 m 0 ls []) := by
  have hx := F.1
  have hb := F.2.1
  have hown := F.2.2.2.1
  have hts := F.2.2.2.2
  refine q_iconst hx hb dX1_firstWithMore_0 ?_
  refine lv_istore (lv' := [(4, .int (iI 0)), (0, .ref (ad 6 0)), (1, .int (iI x1)), (2, .int (iI x2)), (3, .int (iI x3))]) hx hb dX1_firstWithMore_1 hl (by decide) rfl (fun ls hl => ?_)
  obtain ⟨n1, h⟩ := h
  exact wX1_firstWithMore_L3 F hA hR ret n1 x1 x2 x3 0 _ _ _ _ h hw hS (lv_sub hl [1, 2, 3, 4, 0] rfl)
set_option maxRecDepth 100000 in
set_option maxHeartbeats 4000000 in
theorem kX1_firstWithMore {l : Launch} {D : va_G} {cy : Nat → ClassId} {ad : AD} {A : Nat → Prop} {G : GG} {x1 : Int} {x2 : Int} {x3 : Int} {μ : MM} {Q : Int → MM → Prop} (h : wpX1_firstWithMore G x1 x2 x3 μ Q) : Met l yX1_firstWithMore (Cond.code yX1_firstWithMore cX1_firstWithMore 5 (some .int) :: uw) (rmm 2 46) (wPc [.ref (ad 6 0), .int (iI x1), .int (iI x2), .int (iI x3)] (dmC G) (cfC G) tyC (exC G) D cy ad A μ) (wQ vI Q (dmC G) (cfC G) D cy ad A) 0 0 A :=
  met_of (by decide) (Nat.le_of_ble_eq_true rfl) (fun p e R s m args below meth c ls hr hk hRR F hA hw hS hl => wX1_firstWithMore F hA (by subst hRR; exact ⟨Nat.le_refl _, Nat.le_refl _⟩) (retI_of F hr hk) h hw hS hl)
theorem hdX1_firstWithMore : yX1_firstWithMore.cls ≠ "java/lang/invoke/MethodHandle" ∧ yX1_firstWithMore.cls ≠ "java/lang/invoke/VarHandle" ∧ (parseMethodDescriptor yX1_firstWithMore.desc).map (fun d => d.parameters.length) = some 3 := by decide +kernel
def wpX10_windy (G : GG) (x1 : Int) (x2 : Int) (x3 : Int) (x4 : Int) (x5 : Int) (μ : MM) (Q : Int → MM → Prop) : Prop := wpX1_isFault G x3 x4 x5 μ (fun v1 μ2 => wpX10_refusalOfHeard G x1 x2 v1 μ2 (fun v4 μ5 => rg v4 ∧ (if v4 = 0 then (wpX10_rowOf G x1 μ5 (fun v8 μ9 => wpX1_listen G v8 x2 μ9 (fun v10 μ11 => wpX1_firstWithMore G x3 x4 x5 μ11 (fun v12 μ13 => rg v12 ∧ (if v12 = (-9) then (Q 1 μ13) else (∀ μ16 : MM, μ16 = ms μ13 0 11 0 v12 → (Q 0 μ16))))))) else (Q v4 μ5))))
set_option maxRecDepth 100000 in
set_option maxHeartbeats 4000000 in
theorem wX10_windy {G : GG} {Q : Int → MM → Prop} {x1 : Int} {x2 : Int} {x3 : Int} {x4 : Int} {x5 : Int} {μ : MM} {H : Heap} {locs : List Loc} {ls : Array Slot} (F : CallFix p m c cX10_windy 8 s args uw RX10) (hA : ∀ q : Nat, s.heap.size ≤ q → A q) (hR : 3 ≤ R.frames ∧ 70 ≤ R.locals) (ret : RetI p l e R s m args below meth c cX10_windy Qf (dmC G) (cfC G) tyC (exC G) D cy ad A Q) (h : wpX10_windy G x1 x2 x3 x4 x5 μ Q) (hw : wdC G D cy ad A μ s H) (hS : va_S A s.heap H locs) (hl : lv_has ls 8 [(0, .ref (ad 0 0)), (1, .int (iI x1)), (2, .int (iI x2)), (3, .int (iI x3)), (4, .int (iI x4)), (5, .int (iI x5))]) : W p l e R s m args below meth c H locs 0 0 Qf (F0 m 0 ls []) := by
  have hx := F.1
  have hb := F.2.1
  have hown := F.2.2.2.1
  have hts := F.2.2.2.2
  refine lv_aload_n hx hb dX10_windy_0 rfl (lv_at hl 0 rfl) ?_
  refine lv_iload_n hx hb dX10_windy_1 rfl (lv_at hl 1 rfl) ?_
  refine lv_iload_n hx hb dX10_windy_2 rfl (lv_at hl 2 rfl) ?_
  refine lv_iload_n hx hb dX10_windy_3 rfl (lv_at hl 3 rfl) ?_
  refine lv_iload hx hb dX10_windy_4 (lv_at hl 4 rfl) ?_
  refine lv_iload hx hb dX10_windy_6 (lv_at hl 5 rfl) ?_
  refine call_S hexC F (kX1_isFault h) 3 tw4_136 tw1_3 tw4_135 tw4_134 hdX1_isFault ⟨Nat.le_trans (by decide) hR.1, Nat.le_trans (by decide) hR.2⟩ hA hw hS rfl hl.1 rfl (Nat.le_of_ble_eq_true rfl) dX10_windy_8 (fun v1 μ2 H locs h hw hS => ?_)
  obtain ⟨z3, h⟩ := h
  refine call_V hexC F (kX10_refusalOfHeard h) 3 tw4_149 tw1_1 tw4_148 tws1_9 tw4_146 hdX10_refusalOfHeard ⟨Nat.le_trans (by decide) hR.1, Nat.le_trans (by decide) hR.2⟩ (hw.recv (k := 0) (i := 0) rfl rfl rfl) hA hw hS rfl hl.1 rfl (Nat.le_of_ble_eq_true rfl) dX10_windy_11 (fun v4 μ5 H locs h hw hS => ?_)
  refine lv_istore (lv' := [(6, .int (iI v4)), (0, .ref (ad 0 0)), (1, .int (iI x1)), (2, .int (iI x2)), (3, .int (iI x3)), (4, .int (iI x4)), (5, .int (iI x5))]) hx hb dX10_windy_14 hl (by decide) rfl (fun ls hl => ?_)
  refine lv_iload hx hb dX10_windy_16 (lv_at hl 0 rfl) ?_
  obtain ⟨g6, h⟩ := h
  refine q_if_eq (tgt := 24) hx hb g6 dX10_windy_18 (by decide) (fun c7 => ?_) (fun c7 => ?_)
  · have h := ite_t c7 h
    refine lv_aload_n hx hb dX10_windy_24 rfl (lv_at hl 1 rfl) ?_
    refine gC_H_faults F hw tw1_212 dX10_windy_25 ?_
    refine lv_aload_n hx hb dX10_windy_28 rfl (lv_at hl 1 rfl) ?_
    refine lv_iload_n hx hb dX10_windy_29 rfl (lv_at hl 2 rfl) ?_
    refine call_V hexC F (kX10_rowOf h) 1 tw2_16 tw1_1 tw2_15 tws1_0 tw2_13 hdX10_rowOf ⟨Nat.le_trans (by decide) hR.1, Nat.le_trans (by decide) hR.2⟩ (hw.recv (k := 0) (i := 0) rfl rfl rfl) hA hw hS rfl hl.1 rfl (Nat.le_of_ble_eq_true rfl) dX10_windy_30 (fun v8 μ9 H locs h hw hS => ?_)
    refine lv_iload_n hx hb dX10_windy_33 rfl (lv_at hl 3 rfl) ?_
    refine call_V hexC F (kX1_listen h) 2 tw4_153 tw1_3 tw4_151 tw4_152 tw4_150 hdX1_listen ⟨Nat.le_trans (by decide) hR.1, Nat.le_trans (by decide) hR.2⟩ (hw.recv (k := 6) (i := 0) rfl rfl rfl) hA hw hS rfl hl.1 rfl (Nat.le_of_ble_eq_true rfl) dX10_windy_34 (fun v10 μ11 H locs h hw hS => ?_)
    refine lv_aload_n hx hb dX10_windy_37 rfl (lv_at hl 1 rfl) ?_
    refine gC_H_faults F hw tw1_212 dX10_windy_38 ?_
    refine lv_iload_n hx hb dX10_windy_41 rfl (lv_at hl 4 rfl) ?_
    refine lv_iload hx hb dX10_windy_42 (lv_at hl 5 rfl) ?_
    refine lv_iload hx hb dX10_windy_44 (lv_at hl 6 rfl) ?_
    refine call_V hexC F (kX1_firstWithMore h) 3 tw4_213 tw1_3 tw4_211 tw4_212 tw4_210 hdX1_firstWithMore ⟨Nat.le_trans (by decide) hR.1, Nat.le_trans (by decide) hR.2⟩ (hw.recv (k := 6) (i := 0) rfl rfl rfl) hA hw hS rfl hl.1 rfl (Nat.le_of_ble_eq_true rfl) dX10_windy_46 (fun v12 μ13 H locs h hw hS => ?_)
    refine lv_istore (lv' := [(7, .int (iI v12)), (6, .int (iI v4)), (0, .ref (ad 0 0)), (1, .int (iI x1)), (2, .int (iI x2)), (3, .int (iI x3)), (4, .int (iI x4)), (5, .int (iI x5))]) hx hb dX10_windy_49 hl (by decide) rfl (fun ls hl => ?_)
    refine lv_iload hx hb dX10_windy_51 (lv_at hl 0 rfl) ?_
    refine q_bipush hx hb (by decide) dX10_windy_53 ?_
    obtain ⟨g14, h⟩ := h
    refine q_icmp_ne (tgt := 60) hx hb g14 (by decide) dX10_windy_55 (by decide) (fun c15 => ?_) (fun c15 => ?_)
    · have h := ite_f c15 h
      refine lv_aload_n hx hb dX10_windy_60 rfl (lv_at hl 2 rfl) ?_
      refine lv_iload hx hb dX10_windy_61 (lv_at hl 0 rfl) ?_
      obtain ⟨μ16, eμ16⟩ : ∃ z : MM, z = ms μ13 0 11 0 v12 := ⟨_, rfl⟩
      have h := h μ16 eμ16
      refine pC_H_asked F hw hS tw1_217 eμ16 dX10_windy_63 (fun H locs hw hS => ?_)
      refine q_iconst hx hb dX10_windy_66 ?_
      exact ret _ _ _ _ _ _ h hw hS dX10_windy_67
    · have h := ite_t c15 h
      refine q_iconst hx hb dX10_windy_58 ?_
      exact ret _ _ _ _ _ _ h hw hS dX10_windy_59
  · have h := ite_f c7 h
    refine lv_iload hx hb dX10_windy_21 (lv_at hl 0 rfl) ?_
    exact ret _ _ _ _ _ _ h hw hS dX10_windy_23
set_option maxRecDepth 100000 in
set_option maxHeartbeats 4000000 in
theorem kX10_windy {l : Launch} {D : va_G} {cy : Nat → ClassId} {ad : AD} {A : Nat → Prop} {G : GG} {x1 : Int} {x2 : Int} {x3 : Int} {x4 : Int} {x5 : Int} {μ : MM} {Q : Int → MM → Prop} (h : wpX10_windy G x1 x2 x3 x4 x5 μ Q) : Met l yX10_windy (Cond.code yX10_windy cX10_windy 8 (some .int) :: uw) (rmm 3 70) (wPc [.ref (ad 0 0), .int (iI x1), .int (iI x2), .int (iI x3), .int (iI x4), .int (iI x5)] (dmC G) (cfC G) tyC (exC G) D cy ad A μ) (wQ vI Q (dmC G) (cfC G) D cy ad A) 0 0 A :=
  met_of (by decide) (Nat.le_of_ble_eq_true rfl) (fun p e R s m args below meth c ls hr hk hRR F hA hw hS hl => wX10_windy F hA (by subst hRR; exact ⟨Nat.le_refl _, Nat.le_refl _⟩) (retI_of F hr hk) h hw hS hl)
theorem hdX10_windy : yX10_windy.cls ≠ "java/lang/invoke/MethodHandle" ∧ yX10_windy.cls ≠ "java/lang/invoke/VarHandle" ∧ (parseMethodDescriptor yX10_windy.desc).map (fun d => d.parameters.length) = some 5 := by decide +kernel
end
