section
variable {p : Program} {l : Launch} {e : Env} {R : Room} {s : State} {m : MethodId} {args : Array Value} {below : List Frame} {meth : Method} {c : Code} {Qf : State → Prop} {D : va_G} {cy : Nat → ClassId} {ad : AD} {A : Nat → Prop}
def wpX10_rate (G : GG) (x1 : Int) (x2 : Int) (μ : MM) (Q : Int → MM → Prop) : Prop := wpX10_towerOf G x1 μ (fun v1 μ2 => if v1 < 0 then (Q (-1) μ2) else (v1 < 4 ∧ (rg x2 ∧ (if x2 < (-3600) then (Q (-1) μ2) else (if x2 ≤ 3600 then (rg (μ2 3 0 v1) ∧ (if (μ2 3 0 v1) = 0 then (wpX10_found G 1 μ2 (fun v12 μ13 => Q v12 μ13)) else (∀ μ11 : MM, μ11 = ms μ2 3 2 v1 x2 → (Q (μ2 3 2 v1) μ11)))) else (Q (-1) μ2))))))
set_option maxRecDepth 100000 in
set_option maxHeartbeats 4000000 in
theorem wX10_rate {G : GG} {Q : Int → MM → Prop} {x1 : Int} {x2 : Int} {μ : MM} {H : Heap} {locs : List Loc} {ls : Array Slot} (F : CallFix p m c cX10_rate 5 s args uw RX10) (hA : ∀ q : Nat, s.heap.size ≤ q → A q) (hR : 1 ≤ R.frames ∧ 21 ≤ R.locals) (ret : RetI p l e R s m args below meth c cX10_rate Qf (dmC G) (cfC G) tyC (exC G) D cy ad A Q) (h : wpX10_rate G x1 x2 μ Q) (hw : wdC G D cy ad A μ s H) (hS : va_S A s.heap H locs) (hl : lv_has ls 5 [(0, .ref (ad 0 0)), (1, .int (iI x1)), (2, .int (iI x2))]) : W p l e R s m args below meth c H locs 0 0 Qf (F0 m 0 ls []) := by
  have hx := F.1
  have hb := F.2.1
  have hown := F.2.2.2.1
  have hts := F.2.2.2.2
  refine lv_aload_n hx hb dX10_rate_0 rfl (lv_at hl 0 rfl) ?_
  refine lv_iload_n hx hb dX10_rate_1 rfl (lv_at hl 1 rfl) ?_
  refine call_V hexC F (kX10_towerOf h) 1 tw3_99 tw1_1 tw3_98 tws1_5 tw3_96 hdX10_towerOf ⟨Nat.le_trans (by decide) hR.1, Nat.le_trans (by decide) hR.2⟩ (hw.recv (k := 0) (i := 0) rfl rfl rfl) hA hw hS rfl hl.1 rfl (Nat.le_of_ble_eq_true rfl) dX10_rate_2 (fun v1 μ2 H locs h hw hS => ?_)
  refine q_astore_n (lv' := [(3, rf ad 3 v1), (0, .ref (ad 0 0)), (1, .int (iI x1)), (2, .int (iI x2))]) hx hb dX10_rate_5 rfl hl (by decide) rfl (fun ls hl => ?_)
  refine q_aload_n hx hb dX10_rate_6 rfl (lv_at hl 0 rfl) ?_
  refine q_ifnull (tgt := 24) hx hb dX10_rate_7 (by decide) (fun c3 => ?_) (fun c3 => ?_)
  · have h := ite_t c3 h
    refine q_iconst hx hb dX10_rate_24 ?_
    exact ret _ _ _ _ _ _ h hw hS dX10_rate_25
  · have h := ite_f c3 h
    obtain ⟨g4, h⟩ := h
    have hi5 : 0 ≤ v1 ∧ v1 < 4 := ⟨by omega, g4⟩
    have hl : lv_has ls 5 [(3, .ref (ad 3 v1)), (0, .ref (ad 0 0)), (1, .int (iI x1)), (2, .int (iI x2))] := by rw [← rf_pos (ad := ad) (k := 3) hi5.1]; exact hl
    refine lv_iload_n hx hb dX10_rate_10 rfl (lv_at hl 3 rfl) ?_
    refine q_sipush hx hb (by decide) dX10_rate_11 ?_
    obtain ⟨g6, h⟩ := h
    refine q_icmp_lt (tgt := 24) hx hb g6 (by decide) dX10_rate_14 (by decide) (fun c7 => ?_) (fun c7 => ?_)
    · have h := ite_t c7 h
      refine q_iconst hx hb dX10_rate_24 ?_
      exact ret _ _ _ _ _ _ h hw hS dX10_rate_25
    · have h := ite_f c7 h
      refine lv_iload_n hx hb dX10_rate_17 rfl (lv_at hl 3 rfl) ?_
      refine q_sipush hx hb (by decide) dX10_rate_18 ?_
      refine q_icmp_le (tgt := 26) hx hb g6 (by decide) dX10_rate_21 (by decide) (fun c8 => ?_) (fun c8 => ?_)
      · have h := ite_t c8 h
        refine lv_aload_n hx hb dX10_rate_26 rfl (lv_at hl 0 rfl) ?_
        refine gC_W_there F hw hi5 tw1_163 dX10_rate_27 ?_
        obtain ⟨g9, h⟩ := h
        refine q_if_ne (tgt := 39) hx hb g9 dX10_rate_30 (by decide) (fun c10 => ?_) (fun c10 => ?_)
        · have h := ite_f c10 h
          refine lv_aload_n hx hb dX10_rate_39 rfl (lv_at hl 0 rfl) ?_
          refine gC_W_rate F hw hi5 tw1_167 dX10_rate_40 ?_
          refine lv_istore (lv' := [(4, .int (iI (μ2 3 2 v1))), (3, .ref (ad 3 v1)), (0, .ref (ad 0 0)), (1, .int (iI x1)), (2, .int (iI x2))]) hx hb dX10_rate_43 hl (by decide) rfl (fun ls hl => ?_)
          refine lv_aload_n hx hb dX10_rate_45 rfl (lv_at hl 1 rfl) ?_
          refine lv_iload_n hx hb dX10_rate_46 rfl (lv_at hl 4 rfl) ?_
          obtain ⟨μ11, eμ11⟩ : ∃ z : MM, z = ms μ2 3 2 v1 x2 := ⟨_, rfl⟩
          have h := h μ11 eμ11
          refine pC_W_rate F hw hS hi5 tw1_167 eμ11 dX10_rate_47 (fun H locs hw hS => ?_)
          refine lv_iload hx hb dX10_rate_50 (lv_at hl 0 rfl) ?_
          exact ret _ _ _ _ _ _ h hw hS dX10_rate_52
        · have h := ite_t c10 h
          refine lv_aload_n hx hb dX10_rate_33 rfl (lv_at hl 1 rfl) ?_
          refine q_iconst hx hb dX10_rate_34 ?_
          refine call_V hexC F (kX10_found h) 1 tw2_20 tw1_1 tw2_19 tws1_1 tw2_17 hdX10_found ⟨Nat.le_trans (by decide) hR.1, Nat.le_trans (by decide) hR.2⟩ (hw.recv (k := 0) (i := 0) rfl rfl rfl) hA hw hS rfl hl.1 rfl (Nat.le_of_ble_eq_true rfl) dX10_rate_35 (fun v12 μ13 H locs h hw hS => ?_)
          exact ret _ _ _ _ _ _ h hw hS dX10_rate_38
      · have h := ite_f c8 h
        refine q_iconst hx hb dX10_rate_24 ?_
        exact ret _ _ _ _ _ _ h hw hS dX10_rate_25
set_option maxRecDepth 100000 in
set_option maxHeartbeats 4000000 in
theorem kX10_rate {l : Launch} {D : va_G} {cy : Nat → ClassId} {ad : AD} {A : Nat → Prop} {G : GG} {x1 : Int} {x2 : Int} {μ : MM} {Q : Int → MM → Prop} (h : wpX10_rate G x1 x2 μ Q) : Met l yX10_rate (Cond.code yX10_rate cX10_rate 5 (some .int) :: uw) (rmm 1 21) (wPc [.ref (ad 0 0), .int (iI x1), .int (iI x2)] (dmC G) (cfC G) tyC (exC G) D cy ad A μ) (wQ vI Q (dmC G) (cfC G) D cy ad A) 0 0 A :=
  met_of (by decide) (Nat.le_of_ble_eq_true rfl) (fun p e R s m args below meth c ls hr hk hRR F hA hw hS hl => wX10_rate F hA (by subst hRR; exact ⟨Nat.le_refl _, Nat.le_refl _⟩) (retI_of F hr hk) h hw hS hl)
theorem hdX10_rate : yX10_rate.cls ≠ "java/lang/invoke/MethodHandle" ∧ yX10_rate.cls ≠ "java/lang/invoke/VarHandle" ∧ (parseMethodDescriptor yX10_rate.desc).map (fun d => d.parameters.length) = some 2 := by decide +kernel
def wpX6_isStrokes_L21 (G : GG) (Q : Int → MM → Prop) : Nat → Int → Int → MM → Prop
  | 0, _, _, _ => False
  | n + 1, i, x1, μ => rg x1 ∧ (rg (μ 1 1 i) ∧ (if (μ 1 1 i) ≤ x1 then (Q 1 μ) else (wpX6_at G i x1 μ (fun v4 μ5 => rg v4 ∧ (if v4 < 1 then (Q 0 μ5) else (wpX6_at G i x1 μ5 (fun v8 μ9 => rg v8 ∧ (if v8 ≤ 24 then (wpX6_isStrokes_L21 G Q n i (x1 + 1) μ9) else (Q 0 μ9)))))))))
set_option maxRecDepth 100000 in
set_option maxHeartbeats 4000000 in
theorem wX6_isStrokes_L21 {G : GG} {Q : Int → MM → Prop} (F : CallFix p m c cX6_isStrokes 2 s args uw RX6) (hA : ∀ q : Nat, s.heap.size ≤ q → A q) (hR : 1 ≤ R.frames ∧ 21 ≤ R.locals) (ret : RetZ p l e R s m args below meth c cX6_isStrokes Qf (dmC G) (cfC G) tyC (exC G) D cy ad A Q) : ∀ (n : Nat) (i x1 : Int) (μ : MM) (H : Heap) (locs : List Loc) (ls : Array Slot), wpX6_isStrokes_L21 G Q n i x1 μ → 0 ≤ i ∧ i < 8 → wdC G D cy ad A μ s H → va_S A s.heap H locs → lv_has ls 2 [(0, .ref (ad 1 i)), (1, .int (iI x1))] → W p l e R s m args below meth c H locs 0 0 Qf (F0 m 21 ls []) := by
  have hx := F.1
  have hb := F.2.1
  have hown := F.2.2.2.1
  have hts := F.2.2.2.2
  intro n
  induction n with
  | zero =>
    intro i x1 μ H locs ls h hi_i hw hS hl
    exact h.elim
  | succ n ih =>
    intro i x1 μ H locs ls h hi_i hw hS hl
    refine lv_iload_n hx hb dX6_isStrokes_21 rfl (lv_at hl 1 rfl) ?_
    refine lv_aload_n hx hb dX6_isStrokes_22 rfl (lv_at hl 0 rfl) ?_
    refine gC_R_size F hw hi_i tw1_122 dX6_isStrokes_23 ?_
    obtain ⟨g1, h⟩ := h
    obtain ⟨g2, h⟩ := h
    refine q_icmp_ge (tgt := 56) hx hb g1 g2 dX6_isStrokes_26 (by decide) (fun c3 => ?_) (fun c3 => ?_)
    · have h := ite_t c3 h
      refine q_iconst hx hb dX6_isStrokes_56 ?_
      exact ret _ _ _ _ _ _ (Or.inr rfl) h hw hS dX6_isStrokes_57
    · have h := ite_f c3 h
      refine lv_aload_n hx hb dX6_isStrokes_29 rfl (lv_at hl 0 rfl) ?_
      refine lv_iload_n hx hb dX6_isStrokes_30 rfl (lv_at hl 1 rfl) ?_
      refine call_V hexC F (kX6_at h hi_i) 1 tw2_43 tw1_5 tw2_41 tw2_42 tw2_158 hdX6_at ⟨Nat.le_trans (by decide) hR.1, Nat.le_trans (by decide) hR.2⟩ (hw.recv (k := 1) (i := i) hi_i rfl rfl) hA hw hS rfl hl.1 rfl (Nat.le_of_ble_eq_true rfl) dX6_isStrokes_31 (fun v4 μ5 H locs h hw hS => ?_)
      refine q_iconst hx hb dX6_isStrokes_34 ?_
      obtain ⟨g6, h⟩ := h
      refine q_icmp_lt (tgt := 48) hx hb g6 (by decide) dX6_isStrokes_35 (by decide) (fun c7 => ?_) (fun c7 => ?_)
      · have h := ite_t c7 h
        refine q_iconst hx hb dX6_isStrokes_48 ?_
        exact ret _ _ _ _ _ _ (Or.inl rfl) h hw hS dX6_isStrokes_49
      · have h := ite_f c7 h
        refine lv_aload_n hx hb dX6_isStrokes_38 rfl (lv_at hl 0 rfl) ?_
        refine lv_iload_n hx hb dX6_isStrokes_39 rfl (lv_at hl 1 rfl) ?_
        refine call_V hexC F (kX6_at h hi_i) 1 tw2_43 tw1_5 tw2_41 tw2_42 tw2_158 hdX6_at ⟨Nat.le_trans (by decide) hR.1, Nat.le_trans (by decide) hR.2⟩ (hw.recv (k := 1) (i := i) hi_i rfl rfl) hA hw hS rfl hl.1 rfl (Nat.le_of_ble_eq_true rfl) dX6_isStrokes_40 (fun v8 μ9 H locs h hw hS => ?_)
        refine q_bipush hx hb (by decide) dX6_isStrokes_43 ?_
        obtain ⟨g10, h⟩ := h
        refine q_icmp_le (tgt := 50) hx hb g10 (by decide) dX6_isStrokes_45 (by decide) (fun c11 => ?_) (fun c11 => ?_)
        · have h := ite_t c11 h
          refine q_iinc (k := 1) (lv' := [(1, .int (iI (x1 + 1))), (0, .ref (ad 1 i))]) hx hb dX6_isStrokes_50 hl rfl (by decide) rfl (fun ls hl => ?_)
          refine lv_goto (tgt := 21) hx hb dX6_isStrokes_53 (by decide) ?_
          exact ih i (x1 + 1) _ _ _ _ h hi_i hw hS (lv_sub hl [1, 0] rfl)
        · have h := ite_f c11 h
          refine q_iconst hx hb dX6_isStrokes_48 ?_
          exact ret _ _ _ _ _ _ (Or.inl rfl) h hw hS dX6_isStrokes_49
def wpX6_isStrokes (G : GG) (i : Int) (μ : MM) (Q : Int → MM → Prop) : Prop := rg (μ 1 1 i) ∧ (if (μ 1 1 i) < 1 then (Q 0 μ) else (if (μ 1 1 i) ≤ 24 then (∃ n4 : Nat, wpX6_isStrokes_L21 G Q n4 i 0 μ) else (Q 0 μ)))
set_option maxRecDepth 100000 in
set_option maxHeartbeats 4000000 in
theorem wX6_isStrokes {G : GG} {Q : Int → MM → Prop} {i : Int} {μ : MM} {H : Heap} {locs : List Loc} {ls : Array Slot} (F : CallFix p m c cX6_isStrokes 2 s args uw RX6) (hA : ∀ q : Nat, s.heap.size ≤ q → A q) (hR : 1 ≤ R.frames ∧ 21 ≤ R.locals) (ret : RetZ p l e R s m args below meth c cX6_isStrokes Qf (dmC G) (cfC G) tyC (exC G) D cy ad A Q) (h : wpX6_isStrokes G i μ Q) (hi_i : 0 ≤ i ∧ i < 8) (hw : wdC G D cy ad A μ s H) (hS : va_S A s.heap H locs) (hl : lv_has ls 2 [(0, .ref (ad 1 i))]) : W p l e R s m args below meth c H locs 0 0 Qf (F0 m 0 ls []) := by
  have hx := F.1
  have hb := F.2.1
  have hown := F.2.2.2.1
  have hts := F.2.2.2.2
  refine lv_aload_n hx hb dX6_isStrokes_0 rfl (lv_at hl 0 rfl) ?_
  refine gC_R_size F hw hi_i tw1_122 dX6_isStrokes_1 ?_
  refine q_iconst hx hb dX6_isStrokes_4 ?_
  obtain ⟨g1, h⟩ := h
  refine q_icmp_lt (tgt := 17) hx hb g1 (by decide) dX6_isStrokes_5 (by decide) (fun c2 => ?_) (fun c2 => ?_)
  · have h := ite_t c2 h
    refine q_iconst hx hb dX6_isStrokes_17 ?_
    exact ret _ _ _ _ _ _ (Or.inl rfl) h hw hS dX6_isStrokes_18
  · have h := ite_f c2 h
    refine lv_aload_n hx hb dX6_isStrokes_8 rfl (lv_at hl 0 rfl) ?_
    refine gC_R_size F hw hi_i tw1_122 dX6_isStrokes_9 ?_
    refine q_bipush hx hb (by decide) dX6_isStrokes_12 ?_
    refine q_icmp_le (tgt := 19) hx hb g1 (by decide) dX6_isStrokes_14 (by decide) (fun c3 => ?_) (fun c3 => ?_)
    · have h := ite_t c3 h
      refine q_iconst hx hb dX6_isStrokes_19 ?_
      refine lv_istore_n (lv' := [(1, .int (iI 0)), (0, .ref (ad 1 i))]) hx hb dX6_isStrokes_20 rfl hl (by decide) rfl (fun ls hl => ?_)
      obtain ⟨n4, h⟩ := h
      exact wX6_isStrokes_L21 F hA hR ret n4 i 0 _ _ _ _ h hi_i hw hS (lv_sub hl [1, 0] rfl)
    · have h := ite_f c3 h
      refine q_iconst hx hb dX6_isStrokes_17 ?_
      exact ret _ _ _ _ _ _ (Or.inl rfl) h hw hS dX6_isStrokes_18
set_option maxRecDepth 100000 in
set_option maxHeartbeats 4000000 in
theorem kX6_isStrokes {l : Launch} {D : va_G} {cy : Nat → ClassId} {ad : AD} {A : Nat → Prop} {G : GG} {i : Int} {μ : MM} {Q : Int → MM → Prop} (h : wpX6_isStrokes G i μ Q) (hi_i : 0 ≤ i ∧ i < 8) : Met l yX6_isStrokes (Cond.code yX6_isStrokes cX6_isStrokes 2 (some .boolean) :: uw) (rmm 1 21) (wPc [.ref (ad 1 i)] (dmC G) (cfC G) tyC (exC G) D cy ad A μ) (wQ vI (fun v u => (v = 0 ∨ v = 1) ∧ Q v u) (dmC G) (cfC G) D cy ad A) 0 0 A :=
  met_of (by decide) (Nat.le_of_ble_eq_true rfl) (fun p e R s m args below meth c ls hr hk hRR F hA hw hS hl => wX6_isStrokes F hA (by subst hRR; exact ⟨Nat.le_refl _, Nat.le_refl _⟩) (retZ2_of F hr hk) h hi_i hw hS hl)
theorem hdX6_isStrokes : yX6_isStrokes.cls ≠ "java/lang/invoke/MethodHandle" ∧ yX6_isStrokes.cls ≠ "java/lang/invoke/VarHandle" ∧ (parseMethodDescriptor yX6_isStrokes.desc).map (fun d => d.parameters.length) = some 0 := by decide +kernel
def wpX10_refusalOfStrokes_J54 (G : GG) (Q : Int → MM → Prop) (μ : MM) : Prop := wpX10_found G 1 μ (fun v1 μ2 => Q v1 μ2)
set_option maxRecDepth 100000 in
set_option maxHeartbeats 4000000 in
theorem wX10_refusalOfStrokes_J54 {G : GG} {Q : Int → MM → Prop} {μ : MM} {H : Heap} {locs : List Loc} {ls : Array Slot} (F : CallFix p m c cX10_refusalOfStrokes 5 s args uw RX10) (hA : ∀ q : Nat, s.heap.size ≤ q → A q) (hR : 2 ≤ R.frames ∧ 42 ≤ R.locals) (ret : RetI p l e R s m args below meth c cX10_refusalOfStrokes Qf (dmC G) (cfC G) tyC (exC G) D cy ad A Q) (h : wpX10_refusalOfStrokes_J54 G Q μ) (hw : wdC G D cy ad A μ s H) (hS : va_S A s.heap H locs) (hl : lv_has ls 5 [(0, .ref (ad 0 0))]) : W p l e R s m args below meth c H locs 0 0 Qf (F0 m 54 ls []) := by
  have hx := F.1
  have hb := F.2.1
  have hown := F.2.2.2.1
  have hts := F.2.2.2.2
  refine lv_aload_n hx hb dX10_refusalOfStrokes_54 rfl (lv_at hl 0 rfl) ?_
  refine q_iconst hx hb dX10_refusalOfStrokes_55 ?_
  refine call_V hexC F (kX10_found h) 1 tw2_20 tw1_1 tw2_19 tws1_1 tw2_17 hdX10_found ⟨Nat.le_trans (by decide) hR.1, Nat.le_trans (by decide) hR.2⟩ (hw.recv (k := 0) (i := 0) rfl rfl rfl) hA hw hS rfl hl.1 rfl (Nat.le_of_ble_eq_true rfl) dX10_refusalOfStrokes_56 (fun v1 μ2 H locs h hw hS => ?_)
  exact ret _ _ _ _ _ _ h hw hS dX10_refusalOfStrokes_59
def wpX10_refusalOfStrokes_J79 (G : GG) (Q : Int → MM → Prop) (μ : MM) : Prop := wpX10_found G 5 μ (fun v1 μ2 => Q v1 μ2)
set_option maxRecDepth 100000 in
set_option maxHeartbeats 4000000 in
theorem wX10_refusalOfStrokes_J79 {G : GG} {Q : Int → MM → Prop} {μ : MM} {H : Heap} {locs : List Loc} {ls : Array Slot} (F : CallFix p m c cX10_refusalOfStrokes 5 s args uw RX10) (hA : ∀ q : Nat, s.heap.size ≤ q → A q) (hR : 2 ≤ R.frames ∧ 42 ≤ R.locals) (ret : RetI p l e R s m args below meth c cX10_refusalOfStrokes Qf (dmC G) (cfC G) tyC (exC G) D cy ad A Q) (h : wpX10_refusalOfStrokes_J79 G Q μ) (hw : wdC G D cy ad A μ s H) (hS : va_S A s.heap H locs) (hl : lv_has ls 5 [(0, .ref (ad 0 0))]) : W p l e R s m args below meth c H locs 0 0 Qf (F0 m 79 ls []) := by
  have hx := F.1
  have hb := F.2.1
  have hown := F.2.2.2.1
  have hts := F.2.2.2.2
  refine lv_aload_n hx hb dX10_refusalOfStrokes_79 rfl (lv_at hl 0 rfl) ?_
  refine q_iconst hx hb dX10_refusalOfStrokes_80 ?_
  refine call_V hexC F (kX10_found h) 1 tw2_20 tw1_1 tw2_19 tws1_1 tw2_17 hdX10_found ⟨Nat.le_trans (by decide) hR.1, Nat.le_trans (by decide) hR.2⟩ (hw.recv (k := 0) (i := 0) rfl rfl rfl) hA hw hS rfl hl.1 rfl (Nat.le_of_ble_eq_true rfl) dX10_refusalOfStrokes_81 (fun v1 μ2 H locs h hw hS => ?_)
  exact ret _ _ _ _ _ _ h hw hS dX10_refusalOfStrokes_84
def wpX10_refusalOfStrokes (G : GG) (x1 : Int) (x2 : Int) (μ : MM) (Q : Int → MM → Prop) : Prop := wpX10_rowOf G x1 μ (fun v1 μ2 => wpX10_rowOf G x2 μ2 (fun v3 μ4 => if v1 < 0 then (Q (-1) μ4) else (v1 < 8 ∧ (if v3 < 0 then (Q (-1) μ4) else (v3 < 8 ∧ (rg (μ4 0 2 0) ∧ (if (μ4 0 2 0) < 16 then (wpX6_isThere G v1 μ4 (fun v13 μ14 => if v13 = 0 then (wpX10_refusalOfStrokes_J54 G Q  μ14) else (wpX6_isThere G v3 μ14 (fun v17 μ18 => if v17 = 0 then (wpX10_refusalOfStrokes_J54 G Q  μ18) else (wpX6_isStrokes G v1 μ18 (fun v21 μ22 => if v21 = 0 then (wpX10_refusalOfStrokes_J79 G Q  μ22) else (rg (μ22 1 1 v3) ∧ (if (μ22 1 1 v3) ≤ 0 then (wpX10_refusalOfStrokes_J79 G Q  μ22) else (Q 0 μ22))))))))) else (Q (-2) μ4))))))))
set_option maxRecDepth 100000 in
set_option maxHeartbeats 4000000 in
theorem wX10_refusalOfStrokes {G : GG} {Q : Int → MM → Prop} {x1 : Int} {x2 : Int} {μ : MM} {H : Heap} {locs : List Loc} {ls : Array Slot} (F : CallFix p m c cX10_refusalOfStrokes 5 s args uw RX10) (hA : ∀ q : Nat, s.heap.size ≤ q → A q) (hR : 2 ≤ R.frames ∧ 42 ≤ R.locals) (ret : RetI p l e R s m args below meth c cX10_refusalOfStrokes Qf (dmC G) (cfC G) tyC (exC G) D cy ad A Q) (h : wpX10_refusalOfStrokes G x1 x2 μ Q) (hw : wdC G D cy ad A μ s H) (hS : va_S A s.heap H locs) (hl : lv_has ls 5 [(0, .ref (ad 0 0)), (1, .int (iI x1)), (2, .int (iI x2))]) : W p l e R s m args below meth c H locs 0 0 Qf (F0 m 0 ls []) := by
  have hx := F.1
  have hb := F.2.1
  have hown := F.2.2.2.1
  have hts := F.2.2.2.2
  refine lv_aload_n hx hb dX10_refusalOfStrokes_0 rfl (lv_at hl 0 rfl) ?_
  refine lv_iload_n hx hb dX10_refusalOfStrokes_1 rfl (lv_at hl 1 rfl) ?_
  refine call_V hexC F (kX10_rowOf h) 1 tw2_16 tw1_1 tw2_15 tws1_0 tw2_13 hdX10_rowOf ⟨Nat.le_trans (by decide) hR.1, Nat.le_trans (by decide) hR.2⟩ (hw.recv (k := 0) (i := 0) rfl rfl rfl) hA hw hS rfl hl.1 rfl (Nat.le_of_ble_eq_true rfl) dX10_refusalOfStrokes_2 (fun v1 μ2 H locs h hw hS => ?_)
  refine q_astore_n (lv' := [(3, rf ad 1 v1), (0, .ref (ad 0 0)), (1, .int (iI x1)), (2, .int (iI x2))]) hx hb dX10_refusalOfStrokes_5 rfl hl (by decide) rfl (fun ls hl => ?_)
  refine lv_aload_n hx hb dX10_refusalOfStrokes_6 rfl (lv_at hl 1 rfl) ?_
  refine lv_iload_n hx hb dX10_refusalOfStrokes_7 rfl (lv_at hl 3 rfl) ?_
  refine call_V hexC F (kX10_rowOf h) 1 tw2_16 tw1_1 tw2_15 tws1_0 tw2_13 hdX10_rowOf ⟨Nat.le_trans (by decide) hR.1, Nat.le_trans (by decide) hR.2⟩ (hw.recv (k := 0) (i := 0) rfl rfl rfl) hA hw hS rfl hl.1 rfl (Nat.le_of_ble_eq_true rfl) dX10_refusalOfStrokes_8 (fun v3 μ4 H locs h hw hS => ?_)
  refine q_astore (lv' := [(4, rf ad 1 v3), (3, rf ad 1 v1), (0, .ref (ad 0 0)), (1, .int (iI x1)), (2, .int (iI x2))]) hx hb dX10_refusalOfStrokes_11 hl (by decide) (by simp [rf_cat]) (fun ls hl => ?_)
  refine q_aload_n hx hb dX10_refusalOfStrokes_13 rfl (lv_at hl 1 rfl) ?_
  refine q_ifnull (tgt := 22) hx hb dX10_refusalOfStrokes_14 (by decide) (fun c5 => ?_) (fun c5 => ?_)
  · have h := ite_t c5 h
    refine q_iconst hx hb dX10_refusalOfStrokes_22 ?_
    exact ret _ _ _ _ _ _ h hw hS dX10_refusalOfStrokes_23
  · have h := ite_f c5 h
    obtain ⟨g6, h⟩ := h
    have hi7 : 0 ≤ v1 ∧ v1 < 8 := ⟨by omega, g6⟩
    have hl : lv_has ls 5 [(4, rf ad 1 v3), (3, .ref (ad 1 v1)), (0, .ref (ad 0 0)), (1, .int (iI x1)), (2, .int (iI x2))] := by rw [← rf_pos (ad := ad) (k := 1) hi7.1]; exact hl
    refine q_aload hx hb dX10_refusalOfStrokes_17 (lv_at hl 0 rfl) ?_
    refine q_ifnonnull (tgt := 24) hx hb dX10_refusalOfStrokes_19 (by decide) (fun c8 => ?_) (fun c8 => ?_)
    · have h := ite_t c8 h
      refine q_iconst hx hb dX10_refusalOfStrokes_22 ?_
      exact ret _ _ _ _ _ _ h hw hS dX10_refusalOfStrokes_23
    · have h := ite_f c8 h
      obtain ⟨g9, h⟩ := h
      have hi10 : 0 ≤ v3 ∧ v3 < 8 := ⟨by omega, g9⟩
      have hl : lv_has ls 5 [(4, .ref (ad 1 v3)), (3, .ref (ad 1 v1)), (0, .ref (ad 0 0)), (1, .int (iI x1)), (2, .int (iI x2))] := by rw [← rf_pos (ad := ad) (k := 1) hi10.1]; exact hl
      refine lv_aload_n hx hb dX10_refusalOfStrokes_24 rfl (lv_at hl 2 rfl) ?_
      refine gC_H_trainCount F hw tw1_208 dX10_refusalOfStrokes_25 ?_
      refine lv_aload_n hx hb dX10_refusalOfStrokes_28 rfl (lv_at hl 2 rfl) ?_
      refine gC_H_trains F hw tw1_207 dX10_refusalOfStrokes_29 ?_
      refine aC_21_ln hx hb hw dX10_refusalOfStrokes_32 ?_
      obtain ⟨g11, h⟩ := h
      refine q_icmp_lt (tgt := 39) hx hb g11 (by decide) dX10_refusalOfStrokes_33 (by decide) (fun c12 => ?_) (fun c12 => ?_)
      · have h := ite_t c12 h
        refine lv_aload_n hx hb dX10_refusalOfStrokes_39 rfl (lv_at hl 1 rfl) ?_
        refine call_V hexC F (kX6_isThere h hi7) 0 tw2_35 tw1_5 tw2_33 tw2_34 tw2_32 hdX6_isThere ⟨Nat.le_trans (by decide) hR.1, Nat.le_trans (by decide) hR.2⟩ (hw.recv (k := 1) (i := v1) hi7 rfl rfl) hA hw hS rfl hl.1 rfl (Nat.le_of_ble_eq_true rfl) dX10_refusalOfStrokes_40 (fun v13 μ14 H locs h hw hS => ?_)
        obtain ⟨z15, h⟩ := h
        refine q_if_eq (tgt := 54) hx hb (rgB z15) dX10_refusalOfStrokes_43 (by decide) (fun c16 => ?_) (fun c16 => ?_)
        · have h := ite_t c16 h
          exact wX10_refusalOfStrokes_J54 F hA hR ret h hw hS (lv_sub hl [2] rfl)
        · have h := ite_f c16 h
          refine lv_aload hx hb dX10_refusalOfStrokes_46 (lv_at hl 0 rfl) ?_
          refine call_V hexC F (kX6_isThere h hi10) 0 tw2_35 tw1_5 tw2_33 tw2_34 tw2_32 hdX6_isThere ⟨Nat.le_trans (by decide) hR.1, Nat.le_trans (by decide) hR.2⟩ (hw.recv (k := 1) (i := v3) hi10 rfl rfl) hA hw hS rfl hl.1 rfl (Nat.le_of_ble_eq_true rfl) dX10_refusalOfStrokes_48 (fun v17 μ18 H locs h hw hS => ?_)
          obtain ⟨z19, h⟩ := h
          refine q_if_ne (tgt := 60) hx hb (rgB z19) dX10_refusalOfStrokes_51 (by decide) (fun c20 => ?_) (fun c20 => ?_)
          · have h := ite_f c20 h
            refine lv_aload_n hx hb dX10_refusalOfStrokes_60 rfl (lv_at hl 1 rfl) ?_
            refine call_V hexC F (kX6_isStrokes h hi7) 0 tw2_157 tw1_5 tw2_155 tw2_156 tw2_154 hdX6_isStrokes ⟨Nat.le_trans (by decide) hR.1, Nat.le_trans (by decide) hR.2⟩ (hw.recv (k := 1) (i := v1) hi7 rfl rfl) hA hw hS rfl hl.1 rfl (Nat.le_of_ble_eq_true rfl) dX10_refusalOfStrokes_61 (fun v21 μ22 H locs h hw hS => ?_)
            obtain ⟨z23, h⟩ := h
            refine q_if_eq (tgt := 79) hx hb (rgB z23) dX10_refusalOfStrokes_64 (by decide) (fun c24 => ?_) (fun c24 => ?_)
            · have h := ite_t c24 h
              exact wX10_refusalOfStrokes_J79 F hA hR ret h hw hS (lv_sub hl [2] rfl)
            · have h := ite_f c24 h
              refine lv_aload hx hb dX10_refusalOfStrokes_67 (lv_at hl 0 rfl) ?_
              refine gC_R_size F hw hi10 tw1_123 dX10_refusalOfStrokes_69 ?_
              obtain ⟨g25, h⟩ := h
              refine q_if_le (tgt := 79) hx hb g25 dX10_refusalOfStrokes_72 (by decide) (fun c26 => ?_) (fun c26 => ?_)
              · have h := ite_t c26 h
                exact wX10_refusalOfStrokes_J79 F hA hR ret h hw hS (lv_sub hl [2] rfl)
              · have h := ite_f c26 h
                refine q_iconst hx hb dX10_refusalOfStrokes_75 ?_
                refine lv_goto (tgt := 84) hx hb dX10_refusalOfStrokes_76 (by decide) ?_
                exact ret _ _ _ _ _ _ h hw hS dX10_refusalOfStrokes_84
          · have h := ite_t c20 h
            exact wX10_refusalOfStrokes_J54 F hA hR ret h hw hS (lv_sub hl [2] rfl)
      · have h := ite_f c12 h
        refine q_bipush hx hb (by decide) dX10_refusalOfStrokes_36 ?_
        exact ret _ _ _ _ _ _ h hw hS dX10_refusalOfStrokes_38
set_option maxRecDepth 100000 in
set_option maxHeartbeats 4000000 in
theorem kX10_refusalOfStrokes {l : Launch} {D : va_G} {cy : Nat → ClassId} {ad : AD} {A : Nat → Prop} {G : GG} {x1 : Int} {x2 : Int} {μ : MM} {Q : Int → MM → Prop} (h : wpX10_refusalOfStrokes G x1 x2 μ Q) : Met l yX10_refusalOfStrokes (Cond.code yX10_refusalOfStrokes cX10_refusalOfStrokes 5 (some .int) :: uw) (rmm 2 42) (wPc [.ref (ad 0 0), .int (iI x1), .int (iI x2)] (dmC G) (cfC G) tyC (exC G) D cy ad A μ) (wQ vI Q (dmC G) (cfC G) D cy ad A) 0 0 A :=
  met_of (by decide) (Nat.le_of_ble_eq_true rfl) (fun p e R s m args below meth c ls hr hk hRR F hA hw hS hl => wX10_refusalOfStrokes F hA (by subst hRR; exact ⟨Nat.le_refl _, Nat.le_refl _⟩) (retI_of F hr hk) h hw hS hl)
theorem hdX10_refusalOfStrokes : yX10_refusalOfStrokes.cls ≠ "java/lang/invoke/MethodHandle" ∧ yX10_refusalOfStrokes.cls ≠ "java/lang/invoke/VarHandle" ∧ (parseMethodDescriptor yX10_refusalOfStrokes.desc).map (fun d => d.parameters.length) = some 2 := by decide +kernel
def wpX10_right (G : GG) (x1 : Int) (x2 : Int) (μ : MM) (Q : Int → MM → Prop) : Prop := wpX10_off G x1 x2 μ (fun v1 μ2 => rg v1 ∧ (if 0 ≤ v1 then (if v1 = 0 then (Q 1 μ2) else (Q 0 μ2)) else (Q v1 μ2)))
set_option maxRecDepth 100000 in
set_option maxHeartbeats 4000000 in
theorem wX10_right {G : GG} {Q : Int → MM → Prop} {x1 : Int} {x2 : Int} {μ : MM} {H : Heap} {locs : List Loc} {ls : Array Slot} (F : CallFix p m c cX10_right 4 s args uw RX10) (hA : ∀ q : Nat, s.heap.size ≤ q → A q) (hR : 3 ≤ R.frames ∧ 69 ≤ R.locals) (ret : RetI p l e R s m args below meth c cX10_right Qf (dmC G) (cfC G) tyC (exC G) D cy ad A Q) (h : wpX10_right G x1 x2 μ Q) (hw : wdC G D cy ad A μ s H) (hS : va_S A s.heap H locs) (hl : lv_has ls 4 [(0, .ref (ad 0 0)), (1, .int (iI x1)), (2, .int (iI x2))]) : W p l e R s m args below meth c H locs 0 0 Qf (F0 m 0 ls []) := by
  have hx := F.1
  have hb := F.2.1
  have hown := F.2.2.2.1
  have hts := F.2.2.2.2
  refine lv_aload_n hx hb dX10_right_0 rfl (lv_at hl 0 rfl) ?_
  refine lv_iload_n hx hb dX10_right_1 rfl (lv_at hl 1 rfl) ?_
  refine lv_iload_n hx hb dX10_right_2 rfl (lv_at hl 2 rfl) ?_
  refine call_V hexC F (kX10_off h) 2 tw4_95 tw1_1 tw4_93 tw4_94 tw4_92 hdX10_off ⟨Nat.le_trans (by decide) hR.1, Nat.le_trans (by decide) hR.2⟩ (hw.recv (k := 0) (i := 0) rfl rfl rfl) hA hw hS rfl hl.1 rfl (Nat.le_of_ble_eq_true rfl) dX10_right_3 (fun v1 μ2 H locs h hw hS => ?_)
  refine lv_istore_n (lv' := [(3, .int (iI v1)), (0, .ref (ad 0 0)), (1, .int (iI x1)), (2, .int (iI x2))]) hx hb dX10_right_6 rfl hl (by decide) rfl (fun ls hl => ?_)
  refine lv_iload_n hx hb dX10_right_7 rfl (lv_at hl 0 rfl) ?_
  obtain ⟨g3, h⟩ := h
  refine q_if_ge (tgt := 13) hx hb g3 dX10_right_8 (by decide) (fun c4 => ?_) (fun c4 => ?_)
  · have h := ite_t c4 h
    refine lv_iload_n hx hb dX10_right_13 rfl (lv_at hl 0 rfl) ?_
    refine q_if_ne (tgt := 21) hx hb g3 dX10_right_14 (by decide) (fun c5 => ?_) (fun c5 => ?_)
    · have h := ite_f c5 h
      refine q_iconst hx hb dX10_right_21 ?_
      exact ret _ _ _ _ _ _ h hw hS dX10_right_22
    · have h := ite_t c5 h
      refine q_iconst hx hb dX10_right_17 ?_
      refine lv_goto (tgt := 22) hx hb dX10_right_18 (by decide) ?_
      exact ret _ _ _ _ _ _ h hw hS dX10_right_22
  · have h := ite_f c4 h
    refine lv_iload_n hx hb dX10_right_11 rfl (lv_at hl 0 rfl) ?_
    exact ret _ _ _ _ _ _ h hw hS dX10_right_12
set_option maxRecDepth 100000 in
set_option maxHeartbeats 4000000 in
theorem kX10_right {l : Launch} {D : va_G} {cy : Nat → ClassId} {ad : AD} {A : Nat → Prop} {G : GG} {x1 : Int} {x2 : Int} {μ : MM} {Q : Int → MM → Prop} (h : wpX10_right G x1 x2 μ Q) : Met l yX10_right (Cond.code yX10_right cX10_right 4 (some .int) :: uw) (rmm 3 69) (wPc [.ref (ad 0 0), .int (iI x1), .int (iI x2)] (dmC G) (cfC G) tyC (exC G) D cy ad A μ) (wQ vI Q (dmC G) (cfC G) D cy ad A) 0 0 A :=
  met_of (by decide) (Nat.le_of_ble_eq_true rfl) (fun p e R s m args below meth c ls hr hk hRR F hA hw hS hl => wX10_right F hA (by subst hRR; exact ⟨Nat.le_refl _, Nat.le_refl _⟩) (retI_of F hr hk) h hw hS hl)
theorem hdX10_right : yX10_right.cls ≠ "java/lang/invoke/MethodHandle" ∧ yX10_right.cls ≠ "java/lang/invoke/VarHandle" ∧ (parseMethodDescriptor yX10_right.desc).map (fun d => d.parameters.length) = some 2 := by decide +kernel
def wpX6_begin (G : GG) (i : Int) (x1 : Int) (μ : MM) (Q : Int → MM → Prop) : Prop := wpJ7_fill_031fb G i 0 μ (fun v1 μ2 => ∀ μ3 : MM, μ3 = ms μ2 1 1 i x1 → (Q 0 μ3))
set_option maxRecDepth 100000 in
set_option maxHeartbeats 4000000 in
theorem wX6_begin {G : GG} {Q : Int → MM → Prop} {i : Int} {x1 : Int} {μ : MM} {H : Heap} {locs : List Loc} {ls : Array Slot} (F : CallFix p m c cX6_begin 2 s args uw RX6) (hA : ∀ q : Nat, s.heap.size ≤ q → A q) (hR : 1 ≤ R.frames ∧ 23 ≤ R.locals) (ret : RetV p l e R s m args below meth c cX6_begin Qf (dmC G) (cfC G) tyC (exC G) D cy ad A Q) (h : wpX6_begin G i x1 μ Q) (hi_i : 0 ≤ i ∧ i < 8) (hw : wdC G D cy ad A μ s H) (hS : va_S A s.heap H locs) (hl : lv_has ls 2 [(0, .ref (ad 1 i)), (1, .int (iI x1))]) : W p l e R s m args below meth c H locs 0 0 Qf (F0 m 0 ls []) := by
  have hx := F.1
  have hb := F.2.1
  have hown := F.2.2.2.1
  have hts := F.2.2.2.2
  refine lv_aload_n hx hb dX6_begin_0 rfl (lv_at hl 0 rfl) ?_
  refine gC_R_bytes F hw hi_i tw1_120 dX6_begin_1 ?_
  refine q_iconst hx hb dX6_begin_4 ?_
  refine call_S hexC F (kJ7_fill_031fb h hi_i) 2 tw2_27 tw1_9 tw2_26 tw2_25 hdJ7_fill_031fb ⟨Nat.le_trans (by decide) hR.1, Nat.le_trans (by decide) hR.2⟩ hA hw hS rfl hl.1 rfl (Nat.le_of_ble_eq_true rfl) dX6_begin_5 (fun v1 μ2 H locs h hw hS => ?_)
  refine lv_aload_n hx hb dX6_begin_8 rfl (lv_at hl 0 rfl) ?_
  refine lv_iload_n hx hb dX6_begin_9 rfl (lv_at hl 1 rfl) ?_
  obtain ⟨μ3, eμ3⟩ : ∃ z : MM, z = ms μ2 1 1 i x1 := ⟨_, rfl⟩
  have h := h μ3 eμ3
  refine pC_R_size F hw hS hi_i tw1_122 eμ3 dX6_begin_10 (fun H locs hw hS => ?_)
  exact ret _ _ _ _ _ h hw hS dX6_begin_13
set_option maxRecDepth 100000 in
set_option maxHeartbeats 4000000 in
theorem kX6_begin {l : Launch} {D : va_G} {cy : Nat → ClassId} {ad : AD} {A : Nat → Prop} {G : GG} {i : Int} {x1 : Int} {μ : MM} {Q : Int → MM → Prop} (h : wpX6_begin G i x1 μ Q) (hi_i : 0 ≤ i ∧ i < 8) : Met l yX6_begin (Cond.code yX6_begin cX6_begin 2 none :: uw) (rmm 1 23) (wPc [.ref (ad 1 i), .int (iI x1)] (dmC G) (cfC G) tyC (exC G) D cy ad A μ) (wQ vV Q (dmC G) (cfC G) D cy ad A) 0 0 A :=
  met_of (by decide) (Nat.le_of_ble_eq_true rfl) (fun p e R s m args below meth c ls hr hk hRR F hA hw hS hl => wX6_begin F hA (by subst hRR; exact ⟨Nat.le_refl _, Nat.le_refl _⟩) (retV_of F hr hk) h hi_i hw hS hl)
theorem hdX6_begin : yX6_begin.cls ≠ "java/lang/invoke/MethodHandle" ∧ yX6_begin.cls ≠ "java/lang/invoke/VarHandle" ∧ (parseMethodDescriptor yX6_begin.desc).map (fun d => d.parameters.length) = some 1 := by decide +kernel
def wpX10_row (G : GG) (x1 : Int) (x2 : Int) (μ : MM) (Q : Int → MM → Prop) : Prop := wpX10_rowOf G x1 μ (fun v1 μ2 => if v1 < 0 then (Q (-1) μ2) else (v1 < 8 ∧ (rg x2 ∧ (if x2 ≤ 48 then (if 0 ≤ x2 then (wpX6_begin G v1 x2 μ2 (fun v9 μ10 => Q x2 μ10)) else (wpX10_found G 5 μ2 (fun v11 μ12 => Q v11 μ12))) else (Q (-1) μ2)))))
set_option maxRecDepth 100000 in
set_option maxHeartbeats 4000000 in
theorem wX10_row {G : GG} {Q : Int → MM → Prop} {x1 : Int} {x2 : Int} {μ : MM} {H : Heap} {locs : List Loc} {ls : Array Slot} (F : CallFix p m c cX10_row 4 s args uw RX10) (hA : ∀ q : Nat, s.heap.size ≤ q → A q) (hR : 2 ≤ R.frames ∧ 44 ≤ R.locals) (ret : RetI p l e R s m args below meth c cX10_row Qf (dmC G) (cfC G) tyC (exC G) D cy ad A Q) (h : wpX10_row G x1 x2 μ Q) (hw : wdC G D cy ad A μ s H) (hS : va_S A s.heap H locs) (hl : lv_has ls 4 [(0, .ref (ad 0 0)), (1, .int (iI x1)), (2, .int (iI x2))]) : W p l e R s m args below meth c H locs 0 0 Qf (F0 m 0 ls []) := by
  have hx := F.1
  have hb := F.2.1
  have hown := F.2.2.2.1
  have hts := F.2.2.2.2
  refine lv_aload_n hx hb dX10_row_0 rfl (lv_at hl 0 rfl) ?_
  refine lv_iload_n hx hb dX10_row_1 rfl (lv_at hl 1 rfl) ?_
  refine call_V hexC F (kX10_rowOf h) 1 tw2_16 tw1_1 tw2_15 tws1_0 tw2_13 hdX10_rowOf ⟨Nat.le_trans (by decide) hR.1, Nat.le_trans (by decide) hR.2⟩ (hw.recv (k := 0) (i := 0) rfl rfl rfl) hA hw hS rfl hl.1 rfl (Nat.le_of_ble_eq_true rfl) dX10_row_2 (fun v1 μ2 H locs h hw hS => ?_)
  refine q_astore_n (lv' := [(3, rf ad 1 v1), (0, .ref (ad 0 0)), (1, .int (iI x1)), (2, .int (iI x2))]) hx hb dX10_row_5 rfl hl (by decide) rfl (fun ls hl => ?_)
  refine q_aload_n hx hb dX10_row_6 rfl (lv_at hl 0 rfl) ?_
  refine q_ifnull (tgt := 16) hx hb dX10_row_7 (by decide) (fun c3 => ?_) (fun c3 => ?_)
  · have h := ite_t c3 h
    refine q_iconst hx hb dX10_row_16 ?_
    exact ret _ _ _ _ _ _ h hw hS dX10_row_17
  · have h := ite_f c3 h
    obtain ⟨g4, h⟩ := h
    have hi5 : 0 ≤ v1 ∧ v1 < 8 := ⟨by omega, g4⟩
    have hl : lv_has ls 4 [(3, .ref (ad 1 v1)), (0, .ref (ad 0 0)), (1, .int (iI x1)), (2, .int (iI x2))] := by rw [← rf_pos (ad := ad) (k := 1) hi5.1]; exact hl
    refine lv_iload_n hx hb dX10_row_10 rfl (lv_at hl 3 rfl) ?_
    refine q_bipush hx hb (by decide) dX10_row_11 ?_
    obtain ⟨g6, h⟩ := h
    refine q_icmp_le (tgt := 18) hx hb g6 (by decide) dX10_row_13 (by decide) (fun c7 => ?_) (fun c7 => ?_)
    · have h := ite_t c7 h
      refine lv_iload_n hx hb dX10_row_18 rfl (lv_at hl 3 rfl) ?_
      refine q_if_ge (tgt := 28) hx hb g6 dX10_row_19 (by decide) (fun c8 => ?_) (fun c8 => ?_)
      · have h := ite_t c8 h
        refine lv_aload_n hx hb dX10_row_28 rfl (lv_at hl 0 rfl) ?_
        refine lv_iload_n hx hb dX10_row_29 rfl (lv_at hl 3 rfl) ?_
        refine call_V hexC F (kX6_begin h hi5) 1 tw2_24 tw1_5 tw2_22 tw2_23 tw2_21 hdX6_begin ⟨Nat.le_trans (by decide) hR.1, Nat.le_trans (by decide) hR.2⟩ (hw.recv (k := 1) (i := v1) hi5 rfl rfl) hA hw hS rfl hl.1 rfl (Nat.le_of_ble_eq_true rfl) dX10_row_30 (fun v9 μ10 H locs h hw hS => ?_)
        refine lv_iload_n hx hb dX10_row_33 rfl (lv_at hl 3 rfl) ?_
        exact ret _ _ _ _ _ _ h hw hS dX10_row_34
      · have h := ite_f c8 h
        refine lv_aload_n hx hb dX10_row_22 rfl (lv_at hl 1 rfl) ?_
        refine q_iconst hx hb dX10_row_23 ?_
        refine call_V hexC F (kX10_found h) 1 tw2_20 tw1_1 tw2_19 tws1_1 tw2_17 hdX10_found ⟨Nat.le_trans (by decide) hR.1, Nat.le_trans (by decide) hR.2⟩ (hw.recv (k := 0) (i := 0) rfl rfl rfl) hA hw hS rfl hl.1 rfl (Nat.le_of_ble_eq_true rfl) dX10_row_24 (fun v11 μ12 H locs h hw hS => ?_)
        exact ret _ _ _ _ _ _ h hw hS dX10_row_27
    · have h := ite_f c7 h
      refine q_iconst hx hb dX10_row_16 ?_
      exact ret _ _ _ _ _ _ h hw hS dX10_row_17
set_option maxRecDepth 100000 in
set_option maxHeartbeats 4000000 in
theorem kX10_row {l : Launch} {D : va_G} {cy : Nat → ClassId} {ad : AD} {A : Nat → Prop} {G : GG} {x1 : Int} {x2 : Int} {μ : MM} {Q : Int → MM → Prop} (h : wpX10_row G x1 x2 μ Q) : Met l yX10_row (Cond.code yX10_row cX10_row 4 (some .int) :: uw) (rmm 2 44) (wPc [.ref (ad 0 0), .int (iI x1), .int (iI x2)] (dmC G) (cfC G) tyC (exC G) D cy ad A μ) (wQ vI Q (dmC G) (cfC G) D cy ad A) 0 0 A :=
  met_of (by decide) (Nat.le_of_ble_eq_true rfl) (fun p e R s m args below meth c ls hr hk hRR F hA hw hS hl => wX10_row F hA (by subst hRR; exact ⟨Nat.le_refl _, Nat.le_refl _⟩) (retI_of F hr hk) h hw hS hl)
theorem hdX10_row : yX10_row.cls ≠ "java/lang/invoke/MethodHandle" ∧ yX10_row.cls ≠ "java/lang/invoke/VarHandle" ∧ (parseMethodDescriptor yX10_row.desc).map (fun d => d.parameters.length) = some 2 := by decide +kernel
def wpX10_runOut_J31 (G : GG) (Q : Int → MM → Prop) (μ : MM) : Prop := wpX10_found G 1 μ (fun v1 μ2 => Q v1 μ2)
set_option maxRecDepth 100000 in
set_option maxHeartbeats 4000000 in
theorem wX10_runOut_J31 {G : GG} {Q : Int → MM → Prop} {μ : MM} {H : Heap} {locs : List Loc} {ls : Array Slot} (F : CallFix p m c cX10_runOut 5 s args uw RX10) (hA : ∀ q : Nat, s.heap.size ≤ q → A q) (hR : 5 ≤ R.frames ∧ 113 ≤ R.locals) (ret : RetI p l e R s m args below meth c cX10_runOut Qf (dmC G) (cfC G) tyC (exC G) D cy ad A Q) (h : wpX10_runOut_J31 G Q μ) (hw : wdC G D cy ad A μ s H) (hS : va_S A s.heap H locs) (hl : lv_has ls 5 [(0, .ref (ad 0 0))]) : W p l e R s m args below meth c H locs 0 0 Qf (F0 m 31 ls []) := by
  have hx := F.1
  have hb := F.2.1
  have hown := F.2.2.2.1
  have hts := F.2.2.2.2
  refine lv_aload_n hx hb dX10_runOut_31 rfl (lv_at hl 0 rfl) ?_
  refine q_iconst hx hb dX10_runOut_32 ?_
  refine call_V hexC F (kX10_found h) 1 tw2_20 tw1_1 tw2_19 tws1_1 tw2_17 hdX10_found ⟨Nat.le_trans (by decide) hR.1, Nat.le_trans (by decide) hR.2⟩ (hw.recv (k := 0) (i := 0) rfl rfl rfl) hA hw hS rfl hl.1 rfl (Nat.le_of_ble_eq_true rfl) dX10_runOut_33 (fun v1 μ2 H locs h hw hS => ?_)
  exact ret _ _ _ _ _ _ h hw hS dX10_runOut_36
def wpX10_runOut (G : GG) (x1 : Int) (x2 : Int) (μ : MM) (Q : Int → MM → Prop) : Prop := wpX10_towerOf G x1 μ (fun v1 μ2 => if v1 < 0 then (Q (-1) μ2) else (v1 < 4 ∧ (wpX8_trainIn G v1 x2 μ2 (fun v6 μ7 => rg (μ7 3 0 v1) ∧ (if (μ7 3 0 v1) = 0 then (wpX10_runOut_J31 G Q  μ7) else (if v6 < 0 then (wpX10_runOut_J31 G Q  μ7) else (v6 < G 0 0 ∧ (wpX8_run G v1 v6 (μ7 2 7 v6) (μ7 0 4 0) μ7 (fun v13 μ14 => Q v13 μ14)))))))))
set_option maxRecDepth 100000 in
set_option maxHeartbeats 4000000 in
theorem wX10_runOut {G : GG} {Q : Int → MM → Prop} {x1 : Int} {x2 : Int} {μ : MM} {H : Heap} {locs : List Loc} {ls : Array Slot} (F : CallFix p m c cX10_runOut 5 s args uw RX10) (hA : ∀ q : Nat, s.heap.size ≤ q → A q) (hR : 5 ≤ R.frames ∧ 113 ≤ R.locals) (ret : RetI p l e R s m args below meth c cX10_runOut Qf (dmC G) (cfC G) tyC (exC G) D cy ad A Q) (h : wpX10_runOut G x1 x2 μ Q) (hw : wdC G D cy ad A μ s H) (hS : va_S A s.heap H locs) (hl : lv_has ls 5 [(0, .ref (ad 0 0)), (1, .int (iI x1)), (2, .int (iI x2))]) : W p l e R s m args below meth c H locs 0 0 Qf (F0 m 0 ls []) := by
  have hx := F.1
  have hb := F.2.1
  have hown := F.2.2.2.1
  have hts := F.2.2.2.2
  refine lv_aload_n hx hb dX10_runOut_0 rfl (lv_at hl 0 rfl) ?_
  refine lv_iload_n hx hb dX10_runOut_1 rfl (lv_at hl 1 rfl) ?_
  refine call_V hexC F (kX10_towerOf h) 1 tw3_99 tw1_1 tw3_98 tws1_5 tw3_96 hdX10_towerOf ⟨Nat.le_trans (by decide) hR.1, Nat.le_trans (by decide) hR.2⟩ (hw.recv (k := 0) (i := 0) rfl rfl rfl) hA hw hS rfl hl.1 rfl (Nat.le_of_ble_eq_true rfl) dX10_runOut_2 (fun v1 μ2 H locs h hw hS => ?_)
  refine q_astore_n (lv' := [(3, rf ad 3 v1), (0, .ref (ad 0 0)), (1, .int (iI x1)), (2, .int (iI x2))]) hx hb dX10_runOut_5 rfl hl (by decide) rfl (fun ls hl => ?_)
  refine q_aload_n hx hb dX10_runOut_6 rfl (lv_at hl 0 rfl) ?_
  refine q_ifnonnull (tgt := 12) hx hb dX10_runOut_7 (by decide) (fun c3 => ?_) (fun c3 => ?_)
  · have h := ite_t c3 h
    refine q_iconst hx hb dX10_runOut_10 ?_
    exact ret _ _ _ _ _ _ h hw hS dX10_runOut_11
  · have h := ite_f c3 h
    obtain ⟨g4, h⟩ := h
    have hi5 : 0 ≤ v1 ∧ v1 < 4 := ⟨by omega, g4⟩
    have hl : lv_has ls 5 [(3, .ref (ad 3 v1)), (0, .ref (ad 0 0)), (1, .int (iI x1)), (2, .int (iI x2))] := by rw [← rf_pos (ad := ad) (k := 3) hi5.1]; exact hl
    refine lv_aload_n hx hb dX10_runOut_12 rfl (lv_at hl 0 rfl) ?_
    refine lv_iload_n hx hb dX10_runOut_13 rfl (lv_at hl 3 rfl) ?_
    refine call_V hexC F (kX8_trainIn h hi5) 1 tw3_111 tw1_6 tw3_109 tw3_110 tw3_142 hdX8_trainIn ⟨Nat.le_trans (by decide) hR.1, Nat.le_trans (by decide) hR.2⟩ (hw.recv (k := 3) (i := v1) hi5 rfl rfl) hA hw hS rfl hl.1 rfl (Nat.le_of_ble_eq_true rfl) dX10_runOut_14 (fun v6 μ7 H locs h hw hS => ?_)
    refine q_astore (lv' := [(4, rf ad 2 v6), (3, .ref (ad 3 v1)), (0, .ref (ad 0 0)), (1, .int (iI x1)), (2, .int (iI x2))]) hx hb dX10_runOut_17 hl (by decide) rfl (fun ls hl => ?_)
    refine lv_aload_n hx hb dX10_runOut_19 rfl (lv_at hl 1 rfl) ?_
    refine gC_W_there F hw hi5 tw1_163 dX10_runOut_20 ?_
    obtain ⟨g8, h⟩ := h
    refine q_if_eq (tgt := 31) hx hb g8 dX10_runOut_23 (by decide) (fun c9 => ?_) (fun c9 => ?_)
    · have h := ite_t c9 h
      exact wX10_runOut_J31 F hA hR ret h hw hS (lv_sub hl [2] rfl)
    · have h := ite_f c9 h
      refine q_aload hx hb dX10_runOut_26 (lv_at hl 0 rfl) ?_
      refine q_ifnonnull (tgt := 37) hx hb dX10_runOut_28 (by decide) (fun c10 => ?_) (fun c10 => ?_)
      · have h := ite_t c10 h
        exact wX10_runOut_J31 F hA hR ret h hw hS (lv_sub hl [2] rfl)
      · have h := ite_f c10 h
        obtain ⟨g11, h⟩ := h
        have hi12 : 0 ≤ v6 ∧ v6 < G 0 0 := ⟨by omega, g11⟩
        have hl : lv_has ls 5 [(4, .ref (ad 2 v6)), (3, .ref (ad 3 v1)), (0, .ref (ad 0 0)), (1, .int (iI x1)), (2, .int (iI x2))] := by rw [← rf_pos (ad := ad) (k := 2) hi12.1]; exact hl
        refine lv_aload_n hx hb dX10_runOut_37 rfl (lv_at hl 1 rfl) ?_
        refine lv_aload hx hb dX10_runOut_38 (lv_at hl 0 rfl) ?_
        refine lv_aload hx hb dX10_runOut_40 (lv_at hl 0 rfl) ?_
        refine gC_T_due F hw hi12 tw2_93 (fun _ h => h) dX10_runOut_42 ?_
        refine lv_aload_n hx hb dX10_runOut_45 rfl (lv_at hl 2 rfl) ?_
        refine gC_H_now F hw tw1_210 dX10_runOut_46 ?_
        refine call_V hexC F (kX8_run h hi5 hi12) 3 tw3_233 tw1_6 tw3_231 tw3_232 tw3_230 hdX8_run ⟨Nat.le_trans (by decide) hR.1, Nat.le_trans (by decide) hR.2⟩ (hw.recv (k := 3) (i := v1) hi5 rfl rfl) hA hw hS rfl hl.1 rfl (Nat.le_of_ble_eq_true rfl) dX10_runOut_49 (fun v13 μ14 H locs h hw hS => ?_)
        exact ret _ _ _ _ _ _ h hw hS dX10_runOut_52
set_option maxRecDepth 100000 in
set_option maxHeartbeats 4000000 in
theorem kX10_runOut {l : Launch} {D : va_G} {cy : Nat → ClassId} {ad : AD} {A : Nat → Prop} {G : GG} {x1 : Int} {x2 : Int} {μ : MM} {Q : Int → MM → Prop} (h : wpX10_runOut G x1 x2 μ Q) : Met l yX10_runOut (Cond.code yX10_runOut cX10_runOut 5 (some .int) :: uw) (rmm 5 113) (wPc [.ref (ad 0 0), .int (iI x1), .int (iI x2)] (dmC G) (cfC G) tyC (exC G) D cy ad A μ) (wQ vI Q (dmC G) (cfC G) D cy ad A) 0 0 A :=
  met_of (by decide) (Nat.le_of_ble_eq_true rfl) (fun p e R s m args below meth c ls hr hk hRR F hA hw hS hl => wX10_runOut F hA (by subst hRR; exact ⟨Nat.le_refl _, Nat.le_refl _⟩) (retI_of F hr hk) h hw hS hl)
theorem hdX10_runOut : yX10_runOut.cls ≠ "java/lang/invoke/MethodHandle" ∧ yX10_runOut.cls ≠ "java/lang/invoke/VarHandle" ∧ (parseMethodDescriptor yX10_runOut.desc).map (fun d => d.parameters.length) = some 2 := by decide +kernel
def wpX8_keepSilence (G : GG) (i : Int) (x1 : Int) (x2 : Int) (x3 : Int) (μ : MM) (Q : Int → MM → Prop) : Prop := ∀ μ1 : MM, μ1 = ms μ 3 8 i x1 → (∀ μ2 : MM, μ2 = ms μ1 3 9 i x2 → (∀ μ3 : MM, μ3 = ms μ2 3 10 i x3 → (Q 0 μ3)))
set_option maxRecDepth 100000 in
set_option maxHeartbeats 4000000 in
theorem wX8_keepSilence {G : GG} {Q : Int → MM → Prop} {i : Int} {x1 : Int} {x2 : Int} {x3 : Int} {μ : MM} {H : Heap} {locs : List Loc} {ls : Array Slot} (F : CallFix p m c cX8_keepSilence 4 s args uw RX8) (hA : ∀ q : Nat, s.heap.size ≤ q → A q) (hR : 0 ≤ R.frames ∧ 0 ≤ R.locals) (ret : RetV p l e R s m args below meth c cX8_keepSilence Qf (dmC G) (cfC G) tyC (exC G) D cy ad A Q) (h : wpX8_keepSilence G i x1 x2 x3 μ Q) (hi_i : 0 ≤ i ∧ i < 4) (hw : wdC G D cy ad A μ s H) (hS : va_S A s.heap H locs) (hl : lv_has ls 4 [(0, .ref (ad 3 i)), (1, .int (iI x1)), (2, .int (iI x2)), (3, .int (iI x3))]) : W p l e R s m args below meth c H locs 0 0 Qf (F0 m 0 ls []) := by
  have hx := F.1
  have hb := F.2.1
  have hown := F.2.2.2.1
  have hts := F.2.2.2.2
  refine lv_aload_n hx hb dX8_keepSilence_0 rfl (lv_at hl 0 rfl) ?_
  refine lv_iload_n hx hb dX8_keepSilence_1 rfl (lv_at hl 1 rfl) ?_
  obtain ⟨μ1, eμ1⟩ : ∃ z : MM, z = ms μ 3 8 i x1 := ⟨_, rfl⟩
  have h := h μ1 eμ1
  refine pC_W_silentFrom F hw hS hi_i tw1_176 eμ1 dX8_keepSilence_2 (fun H locs hw hS => ?_)
  refine lv_aload_n hx hb dX8_keepSilence_5 rfl (lv_at hl 0 rfl) ?_
  refine lv_iload_n hx hb dX8_keepSilence_6 rfl (lv_at hl 2 rfl) ?_
  obtain ⟨μ2, eμ2⟩ : ∃ z : MM, z = ms μ1 3 9 i x2 := ⟨_, rfl⟩
  have h := h μ2 eμ2
  refine pC_W_silentTo F hw hS hi_i tw1_177 eμ2 dX8_keepSilence_7 (fun H locs hw hS => ?_)
  refine lv_aload_n hx hb dX8_keepSilence_10 rfl (lv_at hl 0 rfl) ?_
  refine lv_iload_n hx hb dX8_keepSilence_11 rfl (lv_at hl 3 rfl) ?_
  obtain ⟨μ3, eμ3⟩ : ∃ z : MM, z = ms μ2 3 10 i x3 := ⟨_, rfl⟩
  have h := h μ3 eμ3
  refine pC_W_silentSort F hw hS hi_i tw1_178 eμ3 dX8_keepSilence_12 (fun H locs hw hS => ?_)
  exact ret _ _ _ _ _ h hw hS dX8_keepSilence_15
set_option maxRecDepth 100000 in
set_option maxHeartbeats 4000000 in
theorem kX8_keepSilence {l : Launch} {D : va_G} {cy : Nat → ClassId} {ad : AD} {A : Nat → Prop} {G : GG} {i : Int} {x1 : Int} {x2 : Int} {x3 : Int} {μ : MM} {Q : Int → MM → Prop} (h : wpX8_keepSilence G i x1 x2 x3 μ Q) (hi_i : 0 ≤ i ∧ i < 4) : Met l yX8_keepSilence (Cond.code yX8_keepSilence cX8_keepSilence 4 none :: uw) (rmm 0 0) (wPc [.ref (ad 3 i), .int (iI x1), .int (iI x2), .int (iI x3)] (dmC G) (cfC G) tyC (exC G) D cy ad A μ) (wQ vV Q (dmC G) (cfC G) D cy ad A) 0 0 A :=
  met_of (by decide) (Nat.le_of_ble_eq_true rfl) (fun p e R s m args below meth c ls hr hk hRR F hA hw hS hl => wX8_keepSilence F hA (by subst hRR; exact ⟨Nat.le_refl _, Nat.le_refl _⟩) (retV_of F hr hk) h hi_i hw hS hl)
theorem hdX8_keepSilence : yX8_keepSilence.cls ≠ "java/lang/invoke/MethodHandle" ∧ yX8_keepSilence.cls ≠ "java/lang/invoke/VarHandle" ∧ (parseMethodDescriptor yX8_keepSilence.desc).map (fun d => d.parameters.length) = some 3 := by decide +kernel
def wpX10_silence_J67 (G : GG) (Q : Int → MM → Prop) (t0 : Int) (t1 : Int) (t2 : Int) (t3 : Int) (μ : MM) : Prop := wpX8_keepSilence G t0 t1 t2 t3 μ (fun v1 μ2 => Q 1 μ2)
set_option maxRecDepth 100000 in
set_option maxHeartbeats 4000000 in
theorem wX10_silence_J67 {G : GG} {Q : Int → MM → Prop} {t0 : Int} {t1 : Int} {t2 : Int} {t3 : Int} {μ : MM} {H : Heap} {locs : List Loc} {ls : Array Slot} (F : CallFix p m c cX10_silence 6 s args uw RX10) (hA : ∀ q : Nat, s.heap.size ≤ q → A q) (hR : 1 ≤ R.frames ∧ 23 ≤ R.locals) (ret : RetI p l e R s m args below meth c cX10_silence Qf (dmC G) (cfC G) tyC (exC G) D cy ad A Q) (h : wpX10_silence_J67 G Q t0 t1 t2 t3 μ) (hi_t0 : 0 ≤ t0 ∧ t0 < 4) (hw : wdC G D cy ad A μ s H) (hS : va_S A s.heap H locs) (hl : lv_has ls 6 []) : W p l e R s m args below meth c H locs 0 0 Qf (F0 m 67 ls [.int (iI t3), .int (iI t2), .int (iI t1), .ref (ad 3 t0)]) := by
  have hx := F.1
  have hb := F.2.1
  have hown := F.2.2.2.1
  have hts := F.2.2.2.2
  refine call_V hexC F (kX8_keepSilence h hi_t0) 3 tw3_119 tw1_6 tw3_117 tw3_118 tw3_220 hdX8_keepSilence ⟨Nat.le_trans (by decide) hR.1, Nat.le_trans (by decide) hR.2⟩ (hw.recv (k := 3) (i := t0) hi_t0 rfl rfl) hA hw hS rfl hl.1 rfl (Nat.le_of_ble_eq_true rfl) dX10_silence_67 (fun v1 μ2 H locs h hw hS => ?_)
  refine q_iconst hx hb dX10_silence_70 ?_
  exact ret _ _ _ _ _ _ h hw hS dX10_silence_71
def wpX10_silence (G : GG) (x1 : Int) (x2 : Int) (x3 : Int) (x4 : Int) (μ : MM) (Q : Int → MM → Prop) : Prop := wpX10_towerOf G x1 μ (fun v1 μ2 => if v1 < 0 then (Q (-1) μ2) else (v1 < 4 ∧ (wpX10_isDayHour G x2 μ2 (fun v6 μ7 => if v6 = 0 then (Q (-1) μ7) else (wpX10_isDayHour G x3 μ7 (fun v10 μ11 => if v10 = 0 then (Q (-1) μ11) else (rg x4 ∧ (if x4 < 0 then (Q (-1) μ11) else (if x4 ≤ 1 then (rg (μ11 3 0 v1) ∧ (if (μ11 3 0 v1) = 0 then (wpX10_found G 1 μ11 (fun v20 μ21 => Q v20 μ21)) else (if x4 = 0 then (wpX10_silence_J67 G Q v1 x2 x3 1 μ11) else (wpX10_silence_J67 G Q v1 x2 x3 2 μ11)))) else (Q (-1) μ11))))))))))
set_option maxRecDepth 100000 in
set_option maxHeartbeats 4000000 in
theorem wX10_silence {G : GG} {Q : Int → MM → Prop} {x1 : Int} {x2 : Int} {x3 : Int} {x4 : Int} {μ : MM} {H : Heap} {locs : List Loc} {ls : Array Slot} (F : CallFix p m c cX10_silence 6 s args uw RX10) (hA : ∀ q : Nat, s.heap.size ≤ q → A q) (hR : 1 ≤ R.frames ∧ 23 ≤ R.locals) (ret : RetI p l e R s m args below meth c cX10_silence Qf (dmC G) (cfC G) tyC (exC G) D cy ad A Q) (h : wpX10_silence G x1 x2 x3 x4 μ Q) (hw : wdC G D cy ad A μ s H) (hS : va_S A s.heap H locs) (hl : lv_has ls 6 [(0, .ref (ad 0 0)), (1, .int (iI x1)), (2, .int (iI x2)), (3, .int (iI x3)), (4, .int (iI x4))]) : W p l e R s m args below meth c H locs 0 0 Qf (F0 m 0 ls []) := by
  have hx := F.1
  have hb := F.2.1
  have hown := F.2.2.2.1
  have hts := F.2.2.2.2
  refine lv_aload_n hx hb dX10_silence_0 rfl (lv_at hl 0 rfl) ?_
  refine lv_iload_n hx hb dX10_silence_1 rfl (lv_at hl 1 rfl) ?_
  refine call_V hexC F (kX10_towerOf h) 1 tw3_99 tw1_1 tw3_98 tws1_5 tw3_96 hdX10_towerOf ⟨Nat.le_trans (by decide) hR.1, Nat.le_trans (by decide) hR.2⟩ (hw.recv (k := 0) (i := 0) rfl rfl rfl) hA hw hS rfl hl.1 rfl (Nat.le_of_ble_eq_true rfl) dX10_silence_2 (fun v1 μ2 H locs h hw hS => ?_)
  refine q_astore (lv' := [(5, rf ad 3 v1), (0, .ref (ad 0 0)), (1, .int (iI x1)), (2, .int (iI x2)), (3, .int (iI x3)), (4, .int (iI x4))]) hx hb dX10_silence_5 hl (by decide) rfl (fun ls hl => ?_)
  refine q_aload hx hb dX10_silence_7 (lv_at hl 0 rfl) ?_
  refine q_ifnull (tgt := 37) hx hb dX10_silence_9 (by decide) (fun c3 => ?_) (fun c3 => ?_)
  · have h := ite_t c3 h
    refine q_iconst hx hb dX10_silence_37 ?_
    exact ret _ _ _ _ _ _ h hw hS dX10_silence_38
  · have h := ite_f c3 h
    obtain ⟨g4, h⟩ := h
    have hi5 : 0 ≤ v1 ∧ v1 < 4 := ⟨by omega, g4⟩
    have hl : lv_has ls 6 [(5, .ref (ad 3 v1)), (0, .ref (ad 0 0)), (1, .int (iI x1)), (2, .int (iI x2)), (3, .int (iI x3)), (4, .int (iI x4))] := by rw [← rf_pos (ad := ad) (k := 3) hi5.1]; exact hl
    refine lv_iload_n hx hb dX10_silence_12 rfl (lv_at hl 3 rfl) ?_
    refine call_S hexC F (kX10_isDayHour h) 1 tw3_219 tw1_1 tw3_218 tw3_217 hdX10_isDayHour ⟨Nat.le_trans (by decide) hR.1, Nat.le_trans (by decide) hR.2⟩ hA hw hS rfl hl.1 rfl (Nat.le_of_ble_eq_true rfl) dX10_silence_13 (fun v6 μ7 H locs h hw hS => ?_)
    obtain ⟨z8, h⟩ := h
    refine q_if_eq (tgt := 37) hx hb (rgB z8) dX10_silence_16 (by decide) (fun c9 => ?_) (fun c9 => ?_)
    · have h := ite_t c9 h
      refine q_iconst hx hb dX10_silence_37 ?_
      exact ret _ _ _ _ _ _ h hw hS dX10_silence_38
    · have h := ite_f c9 h
      refine lv_iload_n hx hb dX10_silence_19 rfl (lv_at hl 4 rfl) ?_
      refine call_S hexC F (kX10_isDayHour h) 1 tw3_219 tw1_1 tw3_218 tw3_217 hdX10_isDayHour ⟨Nat.le_trans (by decide) hR.1, Nat.le_trans (by decide) hR.2⟩ hA hw hS rfl hl.1 rfl (Nat.le_of_ble_eq_true rfl) dX10_silence_20 (fun v10 μ11 H locs h hw hS => ?_)
      obtain ⟨z12, h⟩ := h
      refine q_if_eq (tgt := 37) hx hb (rgB z12) dX10_silence_23 (by decide) (fun c13 => ?_) (fun c13 => ?_)
      · have h := ite_t c13 h
        refine q_iconst hx hb dX10_silence_37 ?_
        exact ret _ _ _ _ _ _ h hw hS dX10_silence_38
      · have h := ite_f c13 h
        refine lv_iload hx hb dX10_silence_26 (lv_at hl 5 rfl) ?_
        obtain ⟨g14, h⟩ := h
        refine q_if_lt (tgt := 37) hx hb g14 dX10_silence_28 (by decide) (fun c15 => ?_) (fun c15 => ?_)
        · have h := ite_t c15 h
          refine q_iconst hx hb dX10_silence_37 ?_
          exact ret _ _ _ _ _ _ h hw hS dX10_silence_38
        · have h := ite_f c15 h
          refine lv_iload hx hb dX10_silence_31 (lv_at hl 5 rfl) ?_
          refine q_iconst hx hb dX10_silence_33 ?_
          refine q_icmp_le (tgt := 39) hx hb g14 (by decide) dX10_silence_34 (by decide) (fun c16 => ?_) (fun c16 => ?_)
          · have h := ite_t c16 h
            refine lv_aload hx hb dX10_silence_39 (lv_at hl 0 rfl) ?_
            refine gC_W_there F hw hi5 tw1_163 dX10_silence_41 ?_
            obtain ⟨g17, h⟩ := h
            refine q_if_ne (tgt := 53) hx hb g17 dX10_silence_44 (by decide) (fun c18 => ?_) (fun c18 => ?_)
            · have h := ite_f c18 h
              refine lv_aload hx hb dX10_silence_53 (lv_at hl 0 rfl) ?_
              refine lv_iload_n hx hb dX10_silence_55 rfl (lv_at hl 3 rfl) ?_
              refine lv_iload_n hx hb dX10_silence_56 rfl (lv_at hl 4 rfl) ?_
              refine lv_iload hx hb dX10_silence_57 (lv_at hl 5 rfl) ?_
              refine q_if_ne (tgt := 66) hx hb g14 dX10_silence_59 (by decide) (fun c19 => ?_) (fun c19 => ?_)
              · have h := ite_f c19 h
                refine q_iconst hx hb dX10_silence_66 ?_
                exact wX10_silence_J67 F hA hR ret h hi5 hw hS (lv_sub hl [] rfl)
              · have h := ite_t c19 h
                refine q_iconst hx hb dX10_silence_62 ?_
                refine lv_goto (tgt := 67) hx hb dX10_silence_63 (by decide) ?_
                exact wX10_silence_J67 F hA hR ret h hi5 hw hS (lv_sub hl [] rfl)
            · have h := ite_t c18 h
              refine lv_aload_n hx hb dX10_silence_47 rfl (lv_at hl 1 rfl) ?_
              refine q_iconst hx hb dX10_silence_48 ?_
              refine call_V hexC F (kX10_found h) 1 tw2_20 tw1_1 tw2_19 tws1_1 tw2_17 hdX10_found ⟨Nat.le_trans (by decide) hR.1, Nat.le_trans (by decide) hR.2⟩ (hw.recv (k := 0) (i := 0) rfl rfl rfl) hA hw hS rfl hl.1 rfl (Nat.le_of_ble_eq_true rfl) dX10_silence_49 (fun v20 μ21 H locs h hw hS => ?_)
              exact ret _ _ _ _ _ _ h hw hS dX10_silence_52
          · have h := ite_f c16 h
            refine q_iconst hx hb dX10_silence_37 ?_
            exact ret _ _ _ _ _ _ h hw hS dX10_silence_38
set_option maxRecDepth 100000 in
set_option maxHeartbeats 4000000 in
theorem kX10_silence {l : Launch} {D : va_G} {cy : Nat → ClassId} {ad : AD} {A : Nat → Prop} {G : GG} {x1 : Int} {x2 : Int} {x3 : Int} {x4 : Int} {μ : MM} {Q : Int → MM → Prop} (h : wpX10_silence G x1 x2 x3 x4 μ Q) : Met l yX10_silence (Cond.code yX10_silence cX10_silence 6 (some .int) :: uw) (rmm 1 23) (wPc [.ref (ad 0 0), .int (iI x1), .int (iI x2), .int (iI x3), .int (iI x4)] (dmC G) (cfC G) tyC (exC G) D cy ad A μ) (wQ vI Q (dmC G) (cfC G) D cy ad A) 0 0 A :=
  met_of (by decide) (Nat.le_of_ble_eq_true rfl) (fun p e R s m args below meth c ls hr hk hRR F hA hw hS hl => wX10_silence F hA (by subst hRR; exact ⟨Nat.le_refl _, Nat.le_refl _⟩) (retI_of F hr hk) h hw hS hl)
theorem hdX10_silence : yX10_silence.cls ≠ "java/lang/invoke/MethodHandle" ∧ yX10_silence.cls ≠ "java/lang/invoke/VarHandle" ∧ (parseMethodDescriptor yX10_silence.desc).map (fun d => d.parameters.length) = some 4 := by decide +kernel
def wpX10_tear (G : GG) (x1 : Int) (μ : MM) (Q : Int → MM → Prop) : Prop := wpX10_rowOf G x1 μ (fun v1 μ2 => if v1 < 0 then (Q (-1) μ2) else (v1 < 8 ∧ (wpX6_isThere G v1 μ2 (fun v6 μ7 => if v6 = 0 then (wpX10_found G 1 μ7 (fun v11 μ12 => Q v11 μ12)) else (∀ μ10 : MM, μ10 = ms μ7 1 1 v1 (-1) → (Q 1 μ10))))))
set_option maxRecDepth 100000 in
set_option maxHeartbeats 4000000 in
theorem wX10_tear {G : GG} {Q : Int → MM → Prop} {x1 : Int} {μ : MM} {H : Heap} {locs : List Loc} {ls : Array Slot} (F : CallFix p m c cX10_tear 3 s args uw RX10) (hA : ∀ q : Nat, s.heap.size ≤ q → A q) (hR : 1 ≤ R.frames ∧ 21 ≤ R.locals) (ret : RetI p l e R s m args below meth c cX10_tear Qf (dmC G) (cfC G) tyC (exC G) D cy ad A Q) (h : wpX10_tear G x1 μ Q) (hw : wdC G D cy ad A μ s H) (hS : va_S A s.heap H locs) (hl : lv_has ls 3 [(0, .ref (ad 0 0)), (1, .int (iI x1))]) : W p l e R s m args below meth c H locs 0 0 Qf (F0 m 0 ls []) := by
  have hx := F.1
  have hb := F.2.1
  have hown := F.2.2.2.1
  have hts := F.2.2.2.2
  refine lv_aload_n hx hb dX10_tear_0 rfl (lv_at hl 0 rfl) ?_
  refine lv_iload_n hx hb dX10_tear_1 rfl (lv_at hl 1 rfl) ?_
  refine call_V hexC F (kX10_rowOf h) 1 tw2_16 tw1_1 tw2_15 tws1_0 tw2_13 hdX10_rowOf ⟨Nat.le_trans (by decide) hR.1, Nat.le_trans (by decide) hR.2⟩ (hw.recv (k := 0) (i := 0) rfl rfl rfl) hA hw hS rfl hl.1 rfl (Nat.le_of_ble_eq_true rfl) dX10_tear_2 (fun v1 μ2 H locs h hw hS => ?_)
  refine q_astore_n (lv' := [(2, rf ad 1 v1), (0, .ref (ad 0 0)), (1, .int (iI x1))]) hx hb dX10_tear_5 rfl hl (by decide) rfl (fun ls hl => ?_)
  refine q_aload_n hx hb dX10_tear_6 rfl (lv_at hl 0 rfl) ?_
  refine q_ifnonnull (tgt := 12) hx hb dX10_tear_7 (by decide) (fun c3 => ?_) (fun c3 => ?_)
  · have h := ite_t c3 h
    refine q_iconst hx hb dX10_tear_10 ?_
    exact ret _ _ _ _ _ _ h hw hS dX10_tear_11
  · have h := ite_f c3 h
    obtain ⟨g4, h⟩ := h
    have hi5 : 0 ≤ v1 ∧ v1 < 8 := ⟨by omega, g4⟩
    have hl : lv_has ls 3 [(2, .ref (ad 1 v1)), (0, .ref (ad 0 0)), (1, .int (iI x1))] := by rw [← rf_pos (ad := ad) (k := 1) hi5.1]; exact hl
    refine lv_aload_n hx hb dX10_tear_12 rfl (lv_at hl 0 rfl) ?_
    refine call_V hexC F (kX6_isThere h hi5) 0 tw2_35 tw1_5 tw2_33 tw2_34 tw2_32 hdX6_isThere ⟨Nat.le_trans (by decide) hR.1, Nat.le_trans (by decide) hR.2⟩ (hw.recv (k := 1) (i := v1) hi5 rfl rfl) hA hw hS rfl hl.1 rfl (Nat.le_of_ble_eq_true rfl) dX10_tear_13 (fun v6 μ7 H locs h hw hS => ?_)
    obtain ⟨z8, h⟩ := h
    refine q_if_ne (tgt := 25) hx hb (rgB z8) dX10_tear_16 (by decide) (fun c9 => ?_) (fun c9 => ?_)
    · have h := ite_f c9 h
      refine lv_aload_n hx hb dX10_tear_25 rfl (lv_at hl 0 rfl) ?_
      refine q_iconst hx hb dX10_tear_26 ?_
      obtain ⟨μ10, eμ10⟩ : ∃ z : MM, z = ms μ7 1 1 v1 (-1) := ⟨_, rfl⟩
      have h := h μ10 eμ10
      refine pC_R_size F hw hS hi5 tw1_123 eμ10 dX10_tear_27 (fun H locs hw hS => ?_)
      refine q_iconst hx hb dX10_tear_30 ?_
      exact ret _ _ _ _ _ _ h hw hS dX10_tear_31
    · have h := ite_t c9 h
      refine lv_aload_n hx hb dX10_tear_19 rfl (lv_at hl 1 rfl) ?_
      refine q_iconst hx hb dX10_tear_20 ?_
      refine call_V hexC F (kX10_found h) 1 tw2_20 tw1_1 tw2_19 tws1_1 tw2_17 hdX10_found ⟨Nat.le_trans (by decide) hR.1, Nat.le_trans (by decide) hR.2⟩ (hw.recv (k := 0) (i := 0) rfl rfl rfl) hA hw hS rfl hl.1 rfl (Nat.le_of_ble_eq_true rfl) dX10_tear_21 (fun v11 μ12 H locs h hw hS => ?_)
      exact ret _ _ _ _ _ _ h hw hS dX10_tear_24
set_option maxRecDepth 100000 in
set_option maxHeartbeats 4000000 in
theorem kX10_tear {l : Launch} {D : va_G} {cy : Nat → ClassId} {ad : AD} {A : Nat → Prop} {G : GG} {x1 : Int} {μ : MM} {Q : Int → MM → Prop} (h : wpX10_tear G x1 μ Q) : Met l yX10_tear (Cond.code yX10_tear cX10_tear 3 (some .int) :: uw) (rmm 1 21) (wPc [.ref (ad 0 0), .int (iI x1)] (dmC G) (cfC G) tyC (exC G) D cy ad A μ) (wQ vI Q (dmC G) (cfC G) D cy ad A) 0 0 A :=
  met_of (by decide) (Nat.le_of_ble_eq_true rfl) (fun p e R s m args below meth c ls hr hk hRR F hA hw hS hl => wX10_tear F hA (by subst hRR; exact ⟨Nat.le_refl _, Nat.le_refl _⟩) (retI_of F hr hk) h hw hS hl)
theorem hdX10_tear : yX10_tear.cls ≠ "java/lang/invoke/MethodHandle" ∧ yX10_tear.cls ≠ "java/lang/invoke/VarHandle" ∧ (parseMethodDescriptor yX10_tear.desc).map (fun d => d.parameters.length) = some 1 := by decide +kernel
def wpX3_clear (G : GG) (i : Int) (μ : MM) (Q : Int → MM → Prop) : Prop := ∀ μ1 : MM, μ1 = ms μ 4 4 i 0 → (∀ μ2 : MM, μ2 = ms μ1 4 5 i 0 → (Q 0 μ2))
set_option maxRecDepth 100000 in
set_option maxHeartbeats 4000000 in
theorem wX3_clear {G : GG} {Q : Int → MM → Prop} {i : Int} {μ : MM} {H : Heap} {locs : List Loc} {ls : Array Slot} (F : CallFix p m c cX3_clear 1 s args uw RX3) (hA : ∀ q : Nat, s.heap.size ≤ q → A q) (hR : 0 ≤ R.frames ∧ 0 ≤ R.locals) (ret : RetV p l e R s m args below meth c cX3_clear Qf (dmC G) (cfC G) tyC (exC G) D cy ad A Q) (h : wpX3_clear G i μ Q) (hi_i : 0 ≤ i ∧ i < 4) (hw : wdC G D cy ad A μ s H) (hS : va_S A s.heap H locs) (hl : lv_has ls 1 [(0, .ref (ad 4 i))]) : W p l e R s m args below meth c H locs 0 0 Qf (F0 m 0 ls []) := by
  have hx := F.1
  have hb := F.2.1
  have hown := F.2.2.2.1
  have hts := F.2.2.2.2
  refine lv_aload_n hx hb dX3_clear_0 rfl (lv_at hl 0 rfl) ?_
  refine q_iconst hx hb dX3_clear_1 ?_
  obtain ⟨μ1, eμ1⟩ : ∃ z : MM, z = ms μ 4 4 i 0 := ⟨_, rfl⟩
  have h := h μ1 eμ1
  refine pC_L_next F hw hS hi_i tw1_146 eμ1 dX3_clear_2 (fun H locs hw hS => ?_)
  refine lv_aload_n hx hb dX3_clear_5 rfl (lv_at hl 0 rfl) ?_
  refine q_iconst hx hb dX3_clear_6 ?_
  obtain ⟨μ2, eμ2⟩ : ∃ z : MM, z = ms μ1 4 5 i 0 := ⟨_, rfl⟩
  have h := h μ2 eμ2
  refine pC_L_size F hw hS hi_i tw1_147 eμ2 dX3_clear_7 (fun H locs hw hS => ?_)
  exact ret _ _ _ _ _ h hw hS dX3_clear_10
set_option maxRecDepth 100000 in
set_option maxHeartbeats 4000000 in
theorem kX3_clear {l : Launch} {D : va_G} {cy : Nat → ClassId} {ad : AD} {A : Nat → Prop} {G : GG} {i : Int} {μ : MM} {Q : Int → MM → Prop} (h : wpX3_clear G i μ Q) (hi_i : 0 ≤ i ∧ i < 4) : Met l yX3_clear (Cond.code yX3_clear cX3_clear 1 none :: uw) (rmm 0 0) (wPc [.ref (ad 4 i)] (dmC G) (cfC G) tyC (exC G) D cy ad A μ) (wQ vV Q (dmC G) (cfC G) D cy ad A) 0 0 A :=
  met_of (by decide) (Nat.le_of_ble_eq_true rfl) (fun p e R s m args below meth c ls hr hk hRR F hA hw hS hl => wX3_clear F hA (by subst hRR; exact ⟨Nat.le_refl _, Nat.le_refl _⟩) (retV_of F hr hk) h hi_i hw hS hl)
theorem hdX3_clear : yX3_clear.cls ≠ "java/lang/invoke/MethodHandle" ∧ yX3_clear.cls ≠ "java/lang/invoke/VarHandle" ∧ (parseMethodDescriptor yX3_clear.desc).map (fun d => d.parameters.length) = some 0 := by decide +kernel
def wpX8_begin (G : GG) (i : Int) (μ : MM) (Q : Int → MM → Prop) : Prop := ∀ μ1 : MM, μ1 = ms μ 3 0 i 1 → (∀ μ2 : MM, μ2 = ms μ1 3 1 i 0 → (∀ μ3 : MM, μ3 = ms μ2 3 2 i 0 → (∀ μ4 : MM, μ4 = ms μ3 3 3 i 0 → (∀ μ5 : MM, μ5 = ms μ4 3 4 i 20000 → (∀ μ6 : MM, μ6 = ms μ5 3 5 i 1 → (wpX8_release G i 0 μ6 (fun v7 μ8 => wpX8_release G i 1 μ8 (fun v9 μ10 => wpX8_keepSilence G i 0 0 1 μ10 (fun v11 μ12 => wpX3_clear G i μ12 (fun v13 μ14 => Q 0 μ14))))))))))
set_option maxRecDepth 100000 in
set_option maxHeartbeats 4000000 in
theorem wX8_begin {G : GG} {Q : Int → MM → Prop} {i : Int} {μ : MM} {H : Heap} {locs : List Loc} {ls : Array Slot} (F : CallFix p m c cX8_begin 1 s args uw RX8) (hA : ∀ q : Nat, s.heap.size ≤ q → A q) (hR : 2 ≤ R.frames ∧ 44 ≤ R.locals) (ret : RetV p l e R s m args below meth c cX8_begin Qf (dmC G) (cfC G) tyC (exC G) D cy ad A Q) (h : wpX8_begin G i μ Q) (hi_i : 0 ≤ i ∧ i < 4) (hw : wdC G D cy ad A μ s H) (hS : va_S A s.heap H locs) (hl : lv_has ls 1 [(0, .ref (ad 3 i))]) : W p l e R s m args below meth c H locs 0 0 Qf (F0 m 0 ls []) := by
  have hx := F.1
  have hb := F.2.1
  have hown := F.2.2.2.1
  have hts := F.2.2.2.2
  refine lv_aload_n hx hb dX8_begin_0 rfl (lv_at hl 0 rfl) ?_
  refine q_iconst hx hb dX8_begin_1 ?_
  obtain ⟨μ1, eμ1⟩ : ∃ z : MM, z = ms μ 3 0 i 1 := ⟨_, rfl⟩
  have h := h μ1 eμ1
  refine pC_W_there F hw hS hi_i tw1_162 (Or.inr rfl) eμ1 dX8_begin_2 (fun H locs hw hS => ?_)
  refine lv_aload_n hx hb dX8_begin_5 rfl (lv_at hl 0 rfl) ?_
  refine q_iconst hx hb dX8_begin_6 ?_
  obtain ⟨μ2, eμ2⟩ : ∃ z : MM, z = ms μ1 3 1 i 0 := ⟨_, rfl⟩
  have h := h μ2 eμ2
  refine pC_W_hands F hw hS hi_i tw1_164 eμ2 dX8_begin_7 (fun H locs hw hS => ?_)
  refine lv_aload_n hx hb dX8_begin_10 rfl (lv_at hl 0 rfl) ?_
  refine q_iconst hx hb dX8_begin_11 ?_
  obtain ⟨μ3, eμ3⟩ : ∃ z : MM, z = ms μ2 3 2 i 0 := ⟨_, rfl⟩
  have h := h μ3 eμ3
  refine pC_W_rate F hw hS hi_i tw1_166 eμ3 dX8_begin_12 (fun H locs hw hS => ?_)
  refine lv_aload_n hx hb dX8_begin_15 rfl (lv_at hl 0 rfl) ?_
  refine q_iconst hx hb dX8_begin_16 ?_
  obtain ⟨μ4, eμ4⟩ : ∃ z : MM, z = ms μ3 3 3 i 0 := ⟨_, rfl⟩
  have h := h μ4 eμ4
  refine pC_W_sum F hw hS hi_i tw1_168 eμ4 dX8_begin_17 (fun H locs hw hS => ?_)
  refine lv_aload_n hx hb dX8_begin_20 rfl (lv_at hl 0 rfl) ?_
  refine q_sipush hx hb (by decide) dX8_begin_21 ?_
  obtain ⟨μ5, eμ5⟩ : ∃ z : MM, z = ms μ4 3 4 i 20000 := ⟨_, rfl⟩
  have h := h μ5 eμ5
  refine pC_W_going F hw hS hi_i tw1_170 eμ5 dX8_begin_24 (fun H locs hw hS => ?_)
  refine lv_aload_n hx hb dX8_begin_27 rfl (lv_at hl 0 rfl) ?_
  refine q_iconst hx hb dX8_begin_28 ?_
  obtain ⟨μ6, eμ6⟩ : ∃ z : MM, z = ms μ5 3 5 i 1 := ⟨_, rfl⟩
  have h := h μ6 eμ6
  refine pC_W_goes F hw hS hi_i tw1_172 (Or.inr rfl) eμ6 dX8_begin_29 (fun H locs hw hS => ?_)
  refine lv_aload_n hx hb dX8_begin_32 rfl (lv_at hl 0 rfl) ?_
  refine q_iconst hx hb dX8_begin_33 ?_
  refine call_V hexC F (kX8_release h hi_i) 1 tw3_107 tw1_6 tw3_105 tw3_106 tw3_104 hdX8_release ⟨Nat.le_trans (by decide) hR.1, Nat.le_trans (by decide) hR.2⟩ (hw.recv (k := 3) (i := i) hi_i rfl rfl) hA hw hS rfl hl.1 rfl (Nat.le_of_ble_eq_true rfl) dX8_begin_34 (fun v7 μ8 H locs h hw hS => ?_)
  refine lv_pop hx hb dX8_begin_37 rfl ?_
  refine lv_aload_n hx hb dX8_begin_38 rfl (lv_at hl 0 rfl) ?_
  refine q_iconst hx hb dX8_begin_39 ?_
  refine call_V hexC F (kX8_release h hi_i) 1 tw3_107 tw1_6 tw3_105 tw3_106 tw3_104 hdX8_release ⟨Nat.le_trans (by decide) hR.1, Nat.le_trans (by decide) hR.2⟩ (hw.recv (k := 3) (i := i) hi_i rfl rfl) hA hw hS rfl hl.1 rfl (Nat.le_of_ble_eq_true rfl) dX8_begin_40 (fun v9 μ10 H locs h hw hS => ?_)
  refine lv_pop hx hb dX8_begin_43 rfl ?_
  refine lv_aload_n hx hb dX8_begin_44 rfl (lv_at hl 0 rfl) ?_
  refine q_iconst hx hb dX8_begin_45 ?_
  refine q_iconst hx hb dX8_begin_46 ?_
  refine q_iconst hx hb dX8_begin_47 ?_
  refine call_V hexC F (kX8_keepSilence h hi_i) 3 tw3_119 tw1_6 tw3_117 tw3_118 tw3_116 hdX8_keepSilence ⟨Nat.le_trans (by decide) hR.1, Nat.le_trans (by decide) hR.2⟩ (hw.recv (k := 3) (i := i) hi_i rfl rfl) hA hw hS rfl hl.1 rfl (Nat.le_of_ble_eq_true rfl) dX8_begin_48 (fun v11 μ12 H locs h hw hS => ?_)
  refine lv_aload_n hx hb dX8_begin_51 rfl (lv_at hl 0 rfl) ?_
  refine gC_W_log F hw hi_i tw1_179 dX8_begin_52 ?_
  refine call_V hexC F (kX3_clear h hi_i) 0 tw3_123 tw1_7 tw3_121 tw3_122 tw3_120 hdX3_clear ⟨Nat.le_trans (by decide) hR.1, Nat.le_trans (by decide) hR.2⟩ (hw.recv (k := 4) (i := i) hi_i rfl rfl) hA hw hS rfl hl.1 rfl (Nat.le_of_ble_eq_true rfl) dX8_begin_55 (fun v13 μ14 H locs h hw hS => ?_)
  exact ret _ _ _ _ _ h hw hS dX8_begin_58
set_option maxRecDepth 100000 in
set_option maxHeartbeats 4000000 in
theorem kX8_begin {l : Launch} {D : va_G} {cy : Nat → ClassId} {ad : AD} {A : Nat → Prop} {G : GG} {i : Int} {μ : MM} {Q : Int → MM → Prop} (h : wpX8_begin G i μ Q) (hi_i : 0 ≤ i ∧ i < 4) : Met l yX8_begin (Cond.code yX8_begin cX8_begin 1 none :: uw) (rmm 2 44) (wPc [.ref (ad 3 i)] (dmC G) (cfC G) tyC (exC G) D cy ad A μ) (wQ vV Q (dmC G) (cfC G) D cy ad A) 0 0 A :=
  met_of (by decide) (Nat.le_of_ble_eq_true rfl) (fun p e R s m args below meth c ls hr hk hRR F hA hw hS hl => wX8_begin F hA (by subst hRR; exact ⟨Nat.le_refl _, Nat.le_refl _⟩) (retV_of F hr hk) h hi_i hw hS hl)
theorem hdX8_begin : yX8_begin.cls ≠ "java/lang/invoke/MethodHandle" ∧ yX8_begin.cls ≠ "java/lang/invoke/VarHandle" ∧ (parseMethodDescriptor yX8_begin.desc).map (fun d => d.parameters.length) = some 0 := by decide +kernel
end
