section
variable {p : Program} {l : Launch} {e : Env} {R : Room} {s : State} {m : MethodId} {args : Array Value} {below : List Frame} {meth : Method} {c : Code} {Qf : State → Prop} {D : va_G} {cy : Nat → ClassId} {ad : AD} {A : Nat → Prop}
def wpX8_minute_J98 (G : GG) (Q : Int → MM → Prop) (i : Int) (x1 : Int) (μ : MM) : Prop := if μ 3 6 i < 0 then (Q 0 μ) else (μ 3 6 i < G 0 0 ∧ (wpX8_run G i (μ 3 6 i) (μ 2 3 (μ 3 6 i)) x1 μ (fun v4 μ5 => Q 0 μ5)))
set_option maxRecDepth 100000 in
set_option maxHeartbeats 4000000 in
theorem wX8_minute_J98 {G : GG} {Q : Int → MM → Prop} {i : Int} {x1 : Int} {μ : MM} {H : Heap} {locs : List Loc} {ls : Array Slot} (F : CallFix p m c cX8_minute 2 s args uw RX8) (hA : ∀ q : Nat, s.heap.size ≤ q → A q) (hR : 5 ≤ R.frames ∧ 114 ≤ R.locals) (ret : RetV p l e R s m args below meth c cX8_minute Qf (dmC G) (cfC G) tyC (exC G) D cy ad A Q) (h : wpX8_minute_J98 G Q i x1 μ) (hi_i : 0 ≤ i ∧ i < 4) (hw : wdC G D cy ad A μ s H) (hS : va_S A s.heap H locs) (hl : lv_has ls 2 [(0, .ref (ad 3 i)), (1, .int (iI x1))]) : W p l e R s m args below meth c H locs 0 0 Qf (F0 m 98 ls []) := by
  have hx := F.1
  have hb := F.2.1
  have hown := F.2.2.2.1
  have hts := F.2.2.2.2
  refine lv_aload_n hx hb dX8_minute_98 rfl (lv_at hl 0 rfl) ?_
  refine gC_W_hourTrain F hw hi_i tw1_174 dX8_minute_99 ?_
  refine q_ifnull (tgt := 122) hx hb dX8_minute_102 (by decide) (fun c1 => ?_) (fun c1 => ?_)
  · have h := ite_t c1 h
    exact ret _ _ _ _ _ h hw hS dX8_minute_122
  · have h := ite_f c1 h
    obtain ⟨g2, h⟩ := h
    have hi3 : 0 ≤ μ 3 6 i ∧ μ 3 6 i < G 0 0 := ⟨by omega, g2⟩
    refine lv_aload_n hx hb dX8_minute_105 rfl (lv_at hl 0 rfl) ?_
    refine lv_aload_n hx hb dX8_minute_106 rfl (lv_at hl 0 rfl) ?_
    refine gC_W_hourTrain F hw hi_i tw1_174 dX8_minute_107 ?_
    refine lv_aload_n hx hb dX8_minute_110 rfl (lv_at hl 0 rfl) ?_
    refine gC_W_hourTrain F hw hi_i tw1_174 dX8_minute_111 ?_
    refine q_rf (hi3).1 ?_
    refine gC_T_pace F hw hi3 tw2_81 (fun _ h => h) dX8_minute_114 ?_
    refine lv_iload_n hx hb dX8_minute_117 rfl (lv_at hl 1 rfl) ?_
    refine call_V hexC F (kX8_run h hi_i hi3) 3 tw3_233 tw1_6 tw3_231 tw3_232 tw4_34 hdX8_run ⟨Nat.le_trans (by decide) hR.1, Nat.le_trans (by decide) hR.2⟩ (hw.recv (k := 3) (i := i) hi_i rfl rfl) hA hw hS rfl hl.1 (by first | (rw [rf_pos (ad := ad) (k := 2) (hi3).1]; rfl) | (simp only [rf_pos (ad := ad) (k := 2) (hi3).1]; rfl)) (Nat.le_of_ble_eq_true rfl) dX8_minute_118 (fun v4 μ5 H locs h hw hS => ?_)
    refine lv_pop hx hb dX8_minute_121 rfl ?_
    exact ret _ _ _ _ _ h hw hS dX8_minute_122
def wpX8_minute_J74 (G : GG) (Q : Int → MM → Prop) (i : Int) (x1 : Int) (μ : MM) : Prop := if μ 3 7 i < 0 then (wpX8_minute_J98 G Q i x1 μ) else (μ 3 7 i < G 0 0 ∧ (wpX8_run G i (μ 3 7 i) (μ 2 3 (μ 3 7 i)) x1 μ (fun v4 μ5 => wpX8_minute_J98 G Q i x1 μ5)))
set_option maxRecDepth 100000 in
set_option maxHeartbeats 4000000 in
theorem wX8_minute_J74 {G : GG} {Q : Int → MM → Prop} {i : Int} {x1 : Int} {μ : MM} {H : Heap} {locs : List Loc} {ls : Array Slot} (F : CallFix p m c cX8_minute 2 s args uw RX8) (hA : ∀ q : Nat, s.heap.size ≤ q → A q) (hR : 5 ≤ R.frames ∧ 114 ≤ R.locals) (ret : RetV p l e R s m args below meth c cX8_minute Qf (dmC G) (cfC G) tyC (exC G) D cy ad A Q) (h : wpX8_minute_J74 G Q i x1 μ) (hi_i : 0 ≤ i ∧ i < 4) (hw : wdC G D cy ad A μ s H) (hS : va_S A s.heap H locs) (hl : lv_has ls 2 [(0, .ref (ad 3 i)), (1, .int (iI x1))]) : W p l e R s m args below meth c H locs 0 0 Qf (F0 m 74 ls []) := by
  have hx := F.1
  have hb := F.2.1
  have hown := F.2.2.2.1
  have hts := F.2.2.2.2
  refine lv_aload_n hx hb dX8_minute_74 rfl (lv_at hl 0 rfl) ?_
  refine gC_W_quarterTrain F hw hi_i tw1_175 dX8_minute_75 ?_
  refine q_ifnull (tgt := 98) hx hb dX8_minute_78 (by decide) (fun c1 => ?_) (fun c1 => ?_)
  · have h := ite_t c1 h
    exact wX8_minute_J98 F hA hR ret h hi_i hw hS (lv_sub hl [0, 1] rfl)
  · have h := ite_f c1 h
    obtain ⟨g2, h⟩ := h
    have hi3 : 0 ≤ μ 3 7 i ∧ μ 3 7 i < G 0 0 := ⟨by omega, g2⟩
    refine lv_aload_n hx hb dX8_minute_81 rfl (lv_at hl 0 rfl) ?_
    refine lv_aload_n hx hb dX8_minute_82 rfl (lv_at hl 0 rfl) ?_
    refine gC_W_quarterTrain F hw hi_i tw1_175 dX8_minute_83 ?_
    refine lv_aload_n hx hb dX8_minute_86 rfl (lv_at hl 0 rfl) ?_
    refine gC_W_quarterTrain F hw hi_i tw1_175 dX8_minute_87 ?_
    refine q_rf (hi3).1 ?_
    refine gC_T_pace F hw hi3 tw2_81 (fun _ h => h) dX8_minute_90 ?_
    refine lv_iload_n hx hb dX8_minute_93 rfl (lv_at hl 1 rfl) ?_
    refine call_V hexC F (kX8_run h hi_i hi3) 3 tw3_233 tw1_6 tw3_231 tw3_232 tw4_34 hdX8_run ⟨Nat.le_trans (by decide) hR.1, Nat.le_trans (by decide) hR.2⟩ (hw.recv (k := 3) (i := i) hi_i rfl rfl) hA hw hS rfl hl.1 (by first | (rw [rf_pos (ad := ad) (k := 2) (hi3).1]; rfl) | (simp only [rf_pos (ad := ad) (k := 2) (hi3).1]; rfl)) (Nat.le_of_ble_eq_true rfl) dX8_minute_94 (fun v4 μ5 H locs h hw hS => ?_)
    refine lv_pop hx hb dX8_minute_97 rfl ?_
    exact wX8_minute_J98 F hA hR ret h hi_i hw hS (lv_sub hl [0, 1] rfl)
def wpX8_minute_L30 (G : GG) (Q : Int → MM → Prop) : Nat → Int → Int → MM → Prop
  | 0, _, _, _ => False
  | n + 1, i, x1, μ => rg (μ 3 3 i) ∧ (if (μ 3 3 i) < 86400 then (wpX8_minute_J74 G Q i x1 μ) else (rg (μ 3 4 i) ∧ (if (μ 3 4 i) ≤ 0 then (wpX8_minute_J74 G Q i x1 μ) else (∀ μ5 : MM, μ5 = ms μ 3 3 i ((μ 3 3 i) - 86400) → (∀ μ6 : MM, μ6 = ms μ5 3 4 i ((μ5 3 4 i) - 1) → (wpX8_stepForward G i μ6 (fun v7 μ8 => wpX8_minute_L30 G Q n i x1 μ8)))))))
set_option maxRecDepth 100000 in
set_option maxHeartbeats 4000000 in
theorem wX8_minute_L30 {G : GG} {Q : Int → MM → Prop} (F : CallFix p m c cX8_minute 2 s args uw RX8) (hA : ∀ q : Nat, s.heap.size ≤ q → A q) (hR : 5 ≤ R.frames ∧ 114 ≤ R.locals) (ret : RetV p l e R s m args below meth c cX8_minute Qf (dmC G) (cfC G) tyC (exC G) D cy ad A Q) : ∀ (n : Nat) (i x1 : Int) (μ : MM) (H : Heap) (locs : List Loc) (ls : Array Slot), wpX8_minute_L30 G Q n i x1 μ → 0 ≤ i ∧ i < 4 → wdC G D cy ad A μ s H → va_S A s.heap H locs → lv_has ls 2 [(0, .ref (ad 3 i)), (1, .int (iI x1))] → W p l e R s m args below meth c H locs 0 0 Qf (F0 m 30 ls []) := by
  have hx := F.1
  have hb := F.2.1
  have hown := F.2.2.2.1
  have hts := F.2.2.2.2
  intro n
  induction n with
  | zero =>
    intro i x1 μ H locs ls h hi_i hw hS hl
    exact h.elim
  | succ n ih =>
    intro i x1 μ H locs ls h hi_i hw hS hl
    refine lv_aload_n hx hb dX8_minute_30 rfl (lv_at hl 0 rfl) ?_
    refine gC_W_sum F hw hi_i tw1_168 dX8_minute_31 ?_
    refine q_ldc (n := 86400) hx hb hown (hts _ tw4_32) (by decide) dX8_minute_34 ?_
    obtain ⟨g1, h⟩ := h
    refine q_icmp_lt (tgt := 74) hx hb g1 (by decide) dX8_minute_36 (by decide) (fun c2 => ?_) (fun c2 => ?_)
    · have h := ite_t c2 h
      exact wX8_minute_J74 F hA hR ret h hi_i hw hS (lv_sub hl [0, 1] rfl)
    · have h := ite_f c2 h
      refine lv_aload_n hx hb dX8_minute_39 rfl (lv_at hl 0 rfl) ?_
      refine gC_W_going F hw hi_i tw1_170 dX8_minute_40 ?_
      obtain ⟨g3, h⟩ := h
      refine q_if_le (tgt := 74) hx hb g3 dX8_minute_43 (by decide) (fun c4 => ?_) (fun c4 => ?_)
      · have h := ite_t c4 h
        exact wX8_minute_J74 F hA hR ret h hi_i hw hS (lv_sub hl [0, 1] rfl)
      · have h := ite_f c4 h
        refine lv_aload_n hx hb dX8_minute_46 rfl (lv_at hl 0 rfl) ?_
        refine lv_dup hx hb dX8_minute_47 rfl ?_
        refine gC_W_sum F hw hi_i tw1_168 dX8_minute_48 ?_
        refine q_ldc (n := 86400) hx hb hown (hts _ tw4_32) (by decide) dX8_minute_51 ?_
        refine q_isub hx hb dX8_minute_53 ?_
        obtain ⟨μ5, eμ5⟩ : ∃ z : MM, z = ms μ 3 3 i ((μ 3 3 i) - 86400) := ⟨_, rfl⟩
        have h := h μ5 eμ5
        refine pC_W_sum F hw hS hi_i tw1_168 eμ5 dX8_minute_54 (fun H locs hw hS => ?_)
        refine lv_aload_n hx hb dX8_minute_57 rfl (lv_at hl 0 rfl) ?_
        refine lv_dup hx hb dX8_minute_58 rfl ?_
        refine gC_W_going F hw hi_i tw1_170 dX8_minute_59 ?_
        refine q_iconst hx hb dX8_minute_62 ?_
        refine q_isub hx hb dX8_minute_63 ?_
        obtain ⟨μ6, eμ6⟩ : ∃ z : MM, z = ms μ5 3 4 i ((μ5 3 4 i) - 1) := ⟨_, rfl⟩
        have h := h μ6 eμ6
        refine pC_W_going F hw hS hi_i tw1_170 eμ6 dX8_minute_64 (fun H locs hw hS => ?_)
        refine lv_aload_n hx hb dX8_minute_67 rfl (lv_at hl 0 rfl) ?_
        refine call_V hexC F (kX8_stepForward h hi_i) 0 tw3_154 tw1_6 tw3_152 tw3_153 tw4_33 hdX8_stepForward ⟨Nat.le_trans (by decide) hR.1, Nat.le_trans (by decide) hR.2⟩ (hw.recv (k := 3) (i := i) hi_i rfl rfl) hA hw hS rfl hl.1 rfl (Nat.le_of_ble_eq_true rfl) dX8_minute_68 (fun v7 μ8 H locs h hw hS => ?_)
        refine lv_goto (tgt := 30) hx hb dX8_minute_71 (by decide) ?_
        exact ih i x1 _ _ _ _ h hi_i hw hS (lv_sub hl [0, 1] rfl)
def wpX8_minute (G : GG) (i : Int) (x1 : Int) (μ : MM) (Q : Int → MM → Prop) : Prop := rg (μ 3 5 i) ∧ (if (μ 3 5 i) = 0 then (wpX8_minute_J74 G Q i x1 μ) else (rg (μ 3 4 i) ∧ (if (μ 3 4 i) ≤ 0 then (wpX8_minute_J74 G Q i x1 μ) else (∀ μ5 : MM, μ5 = ms μ 3 3 i ((μ 3 3 i) + (86400 + (μ 3 2 i))) → (∃ n6 : Nat, wpX8_minute_L30 G Q n6 i x1 μ5)))))
set_option maxRecDepth 100000 in
set_option maxHeartbeats 4000000 in
theorem wX8_minute {G : GG} {Q : Int → MM → Prop} {i : Int} {x1 : Int} {μ : MM} {H : Heap} {locs : List Loc} {ls : Array Slot} (F : CallFix p m c cX8_minute 2 s args uw RX8) (hA : ∀ q : Nat, s.heap.size ≤ q → A q) (hR : 5 ≤ R.frames ∧ 114 ≤ R.locals) (ret : RetV p l e R s m args below meth c cX8_minute Qf (dmC G) (cfC G) tyC (exC G) D cy ad A Q) (h : wpX8_minute G i x1 μ Q) (hi_i : 0 ≤ i ∧ i < 4) (hw : wdC G D cy ad A μ s H) (hS : va_S A s.heap H locs) (hl : lv_has ls 2 [(0, .ref (ad 3 i)), (1, .int (iI x1))]) : W p l e R s m args below meth c H locs 0 0 Qf (F0 m 0 ls []) := by
  have hx := F.1
  have hb := F.2.1
  have hown := F.2.2.2.1
  have hts := F.2.2.2.2
  refine lv_aload_n hx hb dX8_minute_0 rfl (lv_at hl 0 rfl) ?_
  refine gC_W_goes F hw hi_i tw1_172 dX8_minute_1 ?_
  obtain ⟨g1, h⟩ := h
  refine q_if_eq (tgt := 74) hx hb g1 dX8_minute_4 (by decide) (fun c2 => ?_) (fun c2 => ?_)
  · have h := ite_t c2 h
    exact wX8_minute_J74 F hA hR ret h hi_i hw hS (lv_sub hl [0, 1] rfl)
  · have h := ite_f c2 h
    refine lv_aload_n hx hb dX8_minute_7 rfl (lv_at hl 0 rfl) ?_
    refine gC_W_going F hw hi_i tw1_170 dX8_minute_8 ?_
    obtain ⟨g3, h⟩ := h
    refine q_if_le (tgt := 74) hx hb g3 dX8_minute_11 (by decide) (fun c4 => ?_) (fun c4 => ?_)
    · have h := ite_t c4 h
      exact wX8_minute_J74 F hA hR ret h hi_i hw hS (lv_sub hl [0, 1] rfl)
    · have h := ite_f c4 h
      refine lv_aload_n hx hb dX8_minute_14 rfl (lv_at hl 0 rfl) ?_
      refine lv_dup hx hb dX8_minute_15 rfl ?_
      refine gC_W_sum F hw hi_i tw1_168 dX8_minute_16 ?_
      refine q_ldc (n := 86400) hx hb hown (hts _ tw4_32) (by decide) dX8_minute_19 ?_
      refine lv_aload_n hx hb dX8_minute_21 rfl (lv_at hl 0 rfl) ?_
      refine gC_W_rate F hw hi_i tw1_166 dX8_minute_22 ?_
      refine q_iadd hx hb dX8_minute_25 ?_
      refine q_iadd hx hb dX8_minute_26 ?_
      obtain ⟨μ5, eμ5⟩ : ∃ z : MM, z = ms μ 3 3 i ((μ 3 3 i) + (86400 + (μ 3 2 i))) := ⟨_, rfl⟩
      have h := h μ5 eμ5
      refine pC_W_sum F hw hS hi_i tw1_168 eμ5 dX8_minute_27 (fun H locs hw hS => ?_)
      obtain ⟨n6, h⟩ := h
      exact wX8_minute_L30 F hA hR ret n6 i x1 _ _ _ _ h hi_i hw hS (lv_sub hl [0, 1] rfl)
set_option maxRecDepth 100000 in
set_option maxHeartbeats 4000000 in
theorem kX8_minute {l : Launch} {D : va_G} {cy : Nat → ClassId} {ad : AD} {A : Nat → Prop} {G : GG} {i : Int} {x1 : Int} {μ : MM} {Q : Int → MM → Prop} (h : wpX8_minute G i x1 μ Q) (hi_i : 0 ≤ i ∧ i < 4) : Met l yX8_minute (Cond.code yX8_minute cX8_minute 2 none :: uw) (rmm 5 114) (wPc [.ref (ad 3 i), .int (iI x1)] (dmC G) (cfC G) tyC (exC G) D cy ad A μ) (wQ vV Q (dmC G) (cfC G) D cy ad A) 0 0 A :=
  met_of (by decide) (Nat.le_of_ble_eq_true rfl) (fun p e R s m args below meth c ls hr hk hRR F hA hw hS hl => wX8_minute F hA (by subst hRR; exact ⟨Nat.le_refl _, Nat.le_refl _⟩) (retV_of F hr hk) h hi_i hw hS hl)
theorem hdX8_minute : yX8_minute.cls ≠ "java/lang/invoke/MethodHandle" ∧ yX8_minute.cls ≠ "java/lang/invoke/VarHandle" ∧ (parseMethodDescriptor yX8_minute.desc).map (fun d => d.parameters.length) = some 1 := by decide +kernel
def wpX10_pass_J75 (G : GG) (k36 : Int → Int → Int → MM → Prop) (k29 : Int → Int → MM → Prop) (Q : Int → MM → Prop) (x1 : Int) (x2 : Int) (x3 : Int) (μ : MM) : Prop := k36 x1 x2 (x3 + 1) μ
set_option maxRecDepth 100000 in
set_option maxHeartbeats 4000000 in
theorem wX10_pass_J75 {G : GG} {k36 : Int → Int → Int → MM → Prop} {k29 : Int → Int → MM → Prop} {Q : Int → MM → Prop} {x1 : Int} {x2 : Int} {x3 : Int} {μ : MM} {H : Heap} {locs : List Loc} {ls : Array Slot} (F : CallFix p m c cX10_pass 5 s args uw RX10) (hA : ∀ q : Nat, s.heap.size ≤ q → A q) (hR : 6 ≤ R.frames ∧ 135 ≤ R.locals) (ret : RetI p l e R s m args below meth c cX10_pass Qf (dmC G) (cfC G) tyC (exC G) D cy ad A Q) (hk36 : ∀ (x1' x2' x3' : Int) (μ' : MM) (H : Heap) (locs : List Loc) (ls : Array Slot), k36 x1' x2' x3' μ' → wdC G D cy ad A μ' s H → va_S A s.heap H locs → lv_has ls 5 [(0, .ref (ad 0 0)), (1, .int (iI (x1'))), (2, .int (iI (x2'))), (3, .int (iI (x3')))] → W p l e R s m args below meth c H locs 0 0 Qf (F0 m 36 ls [])) (hk29 : ∀ (x1' x2' : Int) (μ' : MM) (H : Heap) (locs : List Loc) (ls : Array Slot), k29 x1' x2' μ' → wdC G D cy ad A μ' s H → va_S A s.heap H locs → lv_has ls 5 [(0, .ref (ad 0 0)), (1, .int (iI (x1'))), (2, .int (iI (x2')))] → W p l e R s m args below meth c H locs 0 0 Qf (F0 m 29 ls [])) (h : wpX10_pass_J75 G k36 k29 Q x1 x2 x3 μ) (hw : wdC G D cy ad A μ s H) (hS : va_S A s.heap H locs) (hl : lv_has ls 5 [(0, .ref (ad 0 0)), (1, .int (iI x1)), (2, .int (iI x2)), (3, .int (iI x3))]) : W p l e R s m args below meth c H locs 0 0 Qf (F0 m 75 ls []) := by
  have hx := F.1
  have hb := F.2.1
  have hown := F.2.2.2.1
  have hts := F.2.2.2.2
  refine q_iinc (k := 3) (lv' := [(3, .int (iI (x3 + 1))), (0, .ref (ad 0 0)), (1, .int (iI x1)), (2, .int (iI x2))]) hx hb dX10_pass_75 hl rfl (by decide) rfl (fun ls hl => ?_)
  refine lv_goto (tgt := 36) hx hb dX10_pass_78 (by decide) ?_
  exact hk36 x1 x2 (x3 + 1) _ _ _ _ h hw hS (lv_sub hl [1, 2, 3, 0] rfl)
def wpX10_pass_L36 (G : GG) (k29 : Int → Int → MM → Prop) (Q : Int → MM → Prop) : Nat → Int → Int → Int → MM → Prop
  | 0, _, _, _, _ => False
  | n + 1, x1, x2, x3, μ => rg x3 ∧ (if 4 ≤ x3 then (∀ μ3 : MM, μ3 = ms μ 0 4 0 ((μ 0 4 0) + 1) → (k29 x1 (x2 + 1) μ3)) else (0 ≤ x3 ∧ (x3 < 4 ∧ (rg (μ 3 0 x3) ∧ (if (μ 3 0 x3) = 0 then (wpX10_pass_J75 G (fun x1' x2' x3' μ' => wpX10_pass_L36 G k29 Q n x1' x2' x3' μ') k29 Q x1 x2 x3 μ) else (wpX8_minute G x3 (μ 0 4 0) μ (fun v8 μ9 => wpX10_pass_J75 G (fun x1' x2' x3' μ' => wpX10_pass_L36 G k29 Q n x1' x2' x3' μ') k29 Q x1 x2 x3 μ9)))))))
set_option maxRecDepth 100000 in
set_option maxHeartbeats 4000000 in
theorem wX10_pass_L36 {G : GG} {k29 : Int → Int → MM → Prop} {Q : Int → MM → Prop} (F : CallFix p m c cX10_pass 5 s args uw RX10) (hA : ∀ q : Nat, s.heap.size ≤ q → A q) (hR : 6 ≤ R.frames ∧ 135 ≤ R.locals) (ret : RetI p l e R s m args below meth c cX10_pass Qf (dmC G) (cfC G) tyC (exC G) D cy ad A Q) (hk29 : ∀ (x1' x2' : Int) (μ' : MM) (H : Heap) (locs : List Loc) (ls : Array Slot), k29 x1' x2' μ' → wdC G D cy ad A μ' s H → va_S A s.heap H locs → lv_has ls 5 [(0, .ref (ad 0 0)), (1, .int (iI (x1'))), (2, .int (iI (x2')))] → W p l e R s m args below meth c H locs 0 0 Qf (F0 m 29 ls [])) : ∀ (n : Nat) (x1 x2 x3 : Int) (μ : MM) (H : Heap) (locs : List Loc) (ls : Array Slot), wpX10_pass_L36 G k29 Q n x1 x2 x3 μ → wdC G D cy ad A μ s H → va_S A s.heap H locs → lv_has ls 5 [(0, .ref (ad 0 0)), (1, .int (iI x1)), (2, .int (iI x2)), (3, .int (iI x3))] → W p l e R s m args below meth c H locs 0 0 Qf (F0 m 36 ls []) := by
  have hx := F.1
  have hb := F.2.1
  have hown := F.2.2.2.1
  have hts := F.2.2.2.2
  intro n
  induction n with
  | zero =>
    intro x1 x2 x3 μ H locs ls h hw hS hl
    exact h.elim
  | succ n ih =>
    intro x1 x2 x3 μ H locs ls h hw hS hl
    refine lv_iload_n hx hb dX10_pass_36 rfl (lv_at hl 3 rfl) ?_
    refine lv_aload_n hx hb dX10_pass_37 rfl (lv_at hl 0 rfl) ?_
    refine gC_H_towers F hw tw1_209 dX10_pass_38 ?_
    refine aC_22_ln hx hb hw dX10_pass_41 ?_
    obtain ⟨g1, h⟩ := h
    refine q_icmp_ge (tgt := 81) hx hb g1 (by decide) dX10_pass_42 (by decide) (fun c2 => ?_) (fun c2 => ?_)
    · have h := ite_t c2 h
      refine lv_aload_n hx hb dX10_pass_81 rfl (lv_at hl 0 rfl) ?_
      refine lv_dup hx hb dX10_pass_82 rfl ?_
      refine gC_H_now F hw tw1_210 dX10_pass_83 ?_
      refine q_iconst hx hb dX10_pass_86 ?_
      refine q_iadd hx hb dX10_pass_87 ?_
      obtain ⟨μ3, eμ3⟩ : ∃ z : MM, z = ms μ 0 4 0 ((μ 0 4 0) + 1) := ⟨_, rfl⟩
      have h := h μ3 eμ3
      refine pC_H_now F hw hS tw1_210 eμ3 dX10_pass_88 (fun H locs hw hS => ?_)
      refine q_iinc (k := 2) (lv' := [(2, .int (iI (x2 + 1))), (0, .ref (ad 0 0)), (1, .int (iI x1)), (3, .int (iI x3))]) hx hb dX10_pass_91 hl rfl (by decide) rfl (fun ls hl => ?_)
      refine lv_goto (tgt := 29) hx hb dX10_pass_94 (by decide) ?_
      exact hk29 x1 (x2 + 1) _ _ _ _ h hw hS (lv_sub hl [1, 2, 0] rfl)
    · have h := ite_f c2 h
      refine lv_aload_n hx hb dX10_pass_45 rfl (lv_at hl 0 rfl) ?_
      refine gC_H_towers F hw tw1_209 dX10_pass_46 ?_
      refine lv_iload_n hx hb dX10_pass_49 rfl (lv_at hl 3 rfl) ?_
      obtain ⟨g4, h⟩ := h
      obtain ⟨g5, h⟩ := h
      refine aC_22_ld hx hb hw g4 g5 dX10_pass_50 ?_
      refine lv_astore (lv' := [(4, .ref (ad 3 x3)), (0, .ref (ad 0 0)), (1, .int (iI x1)), (2, .int (iI x2)), (3, .int (iI x3))]) hx hb dX10_pass_51 hl (by decide) rfl (fun ls hl => ?_)
      refine lv_aload hx hb dX10_pass_53 (lv_at hl 0 rfl) ?_
      refine lv_ifnull hx hb dX10_pass_55 ?_
      refine lv_aload hx hb dX10_pass_58 (lv_at hl 0 rfl) ?_
      refine gC_W_there F hw (And.intro g4 g5) tw1_163 dX10_pass_60 ?_
      obtain ⟨g6, h⟩ := h
      refine q_if_eq (tgt := 75) hx hb g6 dX10_pass_63 (by decide) (fun c7 => ?_) (fun c7 => ?_)
      · have h := ite_t c7 h
        exact wX10_pass_J75 F hA hR ret (fun x1 x2 x3 => ih x1 x2 x3) hk29 h hw hS (lv_sub hl [1, 2, 3, 4] rfl)
      · have h := ite_f c7 h
        refine lv_aload hx hb dX10_pass_66 (lv_at hl 0 rfl) ?_
        refine lv_aload_n hx hb dX10_pass_68 rfl (lv_at hl 1 rfl) ?_
        refine gC_H_now F hw tw1_210 dX10_pass_69 ?_
        refine call_V hexC F (kX8_minute h (And.intro g4 g5)) 1 tw4_31 tw1_6 tw4_29 tw4_30 tw4_28 hdX8_minute ⟨Nat.le_trans (by decide) hR.1, Nat.le_trans (by decide) hR.2⟩ (hw.recv (k := 3) (i := x3) (And.intro g4 g5) rfl rfl) hA hw hS rfl hl.1 rfl (Nat.le_of_ble_eq_true rfl) dX10_pass_72 (fun v8 μ9 H locs h hw hS => ?_)
        exact wX10_pass_J75 F hA hR ret (fun x1 x2 x3 => ih x1 x2 x3) hk29 h hw hS (lv_sub hl [1, 2, 3, 4] rfl)
def wpX10_pass_L29 (G : GG) (Q : Int → MM → Prop) : Nat → Int → Int → MM → Prop
  | 0, _, _, _ => False
  | n + 1, x1, x2, μ => rg x2 ∧ (rg x1 ∧ (if x1 ≤ x2 then (Q (μ 0 4 0) μ) else (∃ n4 : Nat, wpX10_pass_L36 G (fun x1' x2' μ' => wpX10_pass_L29 G Q n x1' x2' μ') Q n4 x1 x2 0 μ)))
set_option maxRecDepth 100000 in
set_option maxHeartbeats 4000000 in
theorem wX10_pass_L29 {G : GG} {Q : Int → MM → Prop} (F : CallFix p m c cX10_pass 5 s args uw RX10) (hA : ∀ q : Nat, s.heap.size ≤ q → A q) (hR : 6 ≤ R.frames ∧ 135 ≤ R.locals) (ret : RetI p l e R s m args below meth c cX10_pass Qf (dmC G) (cfC G) tyC (exC G) D cy ad A Q) : ∀ (n : Nat) (x1 x2 : Int) (μ : MM) (H : Heap) (locs : List Loc) (ls : Array Slot), wpX10_pass_L29 G Q n x1 x2 μ → wdC G D cy ad A μ s H → va_S A s.heap H locs → lv_has ls 5 [(0, .ref (ad 0 0)), (1, .int (iI x1)), (2, .int (iI x2))] → W p l e R s m args below meth c H locs 0 0 Qf (F0 m 29 ls []) := by
  have hx := F.1
  have hb := F.2.1
  have hown := F.2.2.2.1
  have hts := F.2.2.2.2
  intro n
  induction n with
  | zero =>
    intro x1 x2 μ H locs ls h hw hS hl
    exact h.elim
  | succ n ih =>
    intro x1 x2 μ H locs ls h hw hS hl
    refine lv_iload_n hx hb dX10_pass_29 rfl (lv_at hl 2 rfl) ?_
    refine lv_iload_n hx hb dX10_pass_30 rfl (lv_at hl 1 rfl) ?_
    obtain ⟨g1, h⟩ := h
    obtain ⟨g2, h⟩ := h
    refine q_icmp_ge (tgt := 97) hx hb g1 g2 dX10_pass_31 (by decide) (fun c3 => ?_) (fun c3 => ?_)
    · have h := ite_t c3 h
      refine lv_aload_n hx hb dX10_pass_97 rfl (lv_at hl 0 rfl) ?_
      refine gC_H_now F hw tw1_210 dX10_pass_98 ?_
      exact ret _ _ _ _ _ _ h hw hS dX10_pass_101
    · have h := ite_f c3 h
      refine q_iconst hx hb dX10_pass_34 ?_
      refine lv_istore_n (lv' := [(3, .int (iI 0)), (0, .ref (ad 0 0)), (1, .int (iI x1)), (2, .int (iI x2))]) hx hb dX10_pass_35 rfl hl (by decide) rfl (fun ls hl => ?_)
      obtain ⟨n4, h⟩ := h
      exact wX10_pass_L36 F hA hR ret (fun x1 x2 => ih x1 x2) n4 x1 x2 0 _ _ _ _ h hw hS (lv_sub hl [1, 2, 3, 0] rfl)
def wpX10_pass (G : GG) (x1 : Int) (μ : MM) (Q : Int → MM → Prop) : Prop := rg x1 ∧ (if x1 < 0 then (Q (-1) μ) else (if x1 ≤ 3000 then (rg (1000000 - (μ 0 4 0)) ∧ (if x1 ≤ (1000000 - (μ 0 4 0)) then (∃ n6 : Nat, wpX10_pass_L29 G Q n6 x1 0 μ) else (Q (-2) μ))) else (Q (-1) μ)))
set_option maxRecDepth 100000 in
set_option maxHeartbeats 4000000 in
theorem wX10_pass {G : GG} {Q : Int → MM → Prop} {x1 : Int} {μ : MM} {H : Heap} {locs : List Loc} {ls : Array Slot} (F : CallFix p m c cX10_pass 5 s args uw RX10) (hA : ∀ q : Nat, s.heap.size ≤ q → A q) (hR : 6 ≤ R.frames ∧ 135 ≤ R.locals) (ret : RetI p l e R s m args below meth c cX10_pass Qf (dmC G) (cfC G) tyC (exC G) D cy ad A Q) (h : wpX10_pass G x1 μ Q) (hw : wdC G D cy ad A μ s H) (hS : va_S A s.heap H locs) (hl : lv_has ls 5 [(0, .ref (ad 0 0)), (1, .int (iI x1))]) : W p l e R s m args below meth c H locs 0 0 Qf (F0 m 0 ls []) := by
  have hx := F.1
  have hb := F.2.1
  have hown := F.2.2.2.1
  have hts := F.2.2.2.2
  refine lv_iload_n hx hb dX10_pass_0 rfl (lv_at hl 1 rfl) ?_
  obtain ⟨g1, h⟩ := h
  refine q_if_lt (tgt := 11) hx hb g1 dX10_pass_1 (by decide) (fun c2 => ?_) (fun c2 => ?_)
  · have h := ite_t c2 h
    refine q_iconst hx hb dX10_pass_11 ?_
    exact ret _ _ _ _ _ _ h hw hS dX10_pass_12
  · have h := ite_f c2 h
    refine lv_iload_n hx hb dX10_pass_4 rfl (lv_at hl 1 rfl) ?_
    refine q_sipush hx hb (by decide) dX10_pass_5 ?_
    refine q_icmp_le (tgt := 13) hx hb g1 (by decide) dX10_pass_8 (by decide) (fun c3 => ?_) (fun c3 => ?_)
    · have h := ite_t c3 h
      refine lv_iload_n hx hb dX10_pass_13 rfl (lv_at hl 1 rfl) ?_
      refine q_ldc (n := 1000000) hx hb hown (hts _ tw4_27) (by decide) dX10_pass_14 ?_
      refine lv_aload_n hx hb dX10_pass_16 rfl (lv_at hl 0 rfl) ?_
      refine gC_H_now F hw tw1_210 dX10_pass_17 ?_
      refine q_isub hx hb dX10_pass_20 ?_
      obtain ⟨g4, h⟩ := h
      refine q_icmp_le (tgt := 27) hx hb g1 g4 dX10_pass_21 (by decide) (fun c5 => ?_) (fun c5 => ?_)
      · have h := ite_t c5 h
        refine q_iconst hx hb dX10_pass_27 ?_
        refine lv_istore_n (lv' := [(2, .int (iI 0)), (0, .ref (ad 0 0)), (1, .int (iI x1))]) hx hb dX10_pass_28 rfl hl (by decide) rfl (fun ls hl => ?_)
        obtain ⟨n6, h⟩ := h
        exact wX10_pass_L29 F hA hR ret n6 x1 0 _ _ _ _ h hw hS (lv_sub hl [1, 2, 0] rfl)
      · have h := ite_f c5 h
        refine q_bipush hx hb (by decide) dX10_pass_24 ?_
        exact ret _ _ _ _ _ _ h hw hS dX10_pass_26
    · have h := ite_f c3 h
      refine q_iconst hx hb dX10_pass_11 ?_
      exact ret _ _ _ _ _ _ h hw hS dX10_pass_12
set_option maxRecDepth 100000 in
set_option maxHeartbeats 4000000 in
theorem kX10_pass {l : Launch} {D : va_G} {cy : Nat → ClassId} {ad : AD} {A : Nat → Prop} {G : GG} {x1 : Int} {μ : MM} {Q : Int → MM → Prop} (h : wpX10_pass G x1 μ Q) : Met l yX10_pass (Cond.code yX10_pass cX10_pass 5 (some .int) :: uw) (rmm 6 135) (wPc [.ref (ad 0 0), .int (iI x1)] (dmC G) (cfC G) tyC (exC G) D cy ad A μ) (wQ vI Q (dmC G) (cfC G) D cy ad A) 0 0 A :=
  met_of (by decide) (Nat.le_of_ble_eq_true rfl) (fun p e R s m args below meth c ls hr hk hRR F hA hw hS hl => wX10_pass F hA (by subst hRR; exact ⟨Nat.le_refl _, Nat.le_refl _⟩) (retI_of F hr hk) h hw hS hl)
theorem hdX10_pass : yX10_pass.cls ≠ "java/lang/invoke/MethodHandle" ∧ yX10_pass.cls ≠ "java/lang/invoke/VarHandle" ∧ (parseMethodDescriptor yX10_pass.desc).map (fun d => d.parameters.length) = some 1 := by decide +kernel
def wpX10_put (G : GG) (x1 : Int) (x2 : Int) (μ : MM) (Q : Int → MM → Prop) : Prop := wpX10_trainOf G x1 μ (fun v1 μ2 => if v1 < 0 then (Q (-1) μ2) else (v1 < G 0 0 ∧ (if G 1 v1 = 1 ∨ G 1 v1 = 3 then (wpX9_hasPlace G v1 x2 μ2 (fun v7 μ8 => if v7 = 0 then (wpX10_found G 2 μ8 (fun v12 μ13 => Q v12 μ13)) else (∀ μ11 : MM, μ11 = ms μ8 2 14 v1 x2 → (Q (μ8 2 14 v1) μ11)))) else (wpX10_found G 3 μ2 (fun v14 μ15 => Q v14 μ15)))))
set_option maxRecDepth 100000 in
set_option maxHeartbeats 4000000 in
theorem wX10_put {G : GG} {Q : Int → MM → Prop} {x1 : Int} {x2 : Int} {μ : MM} {H : Heap} {locs : List Loc} {ls : Array Slot} (F : CallFix p m c cX10_put 6 s args uw RX10) (hA : ∀ q : Nat, s.heap.size ≤ q → A q) (hR : 1 ≤ R.frames ∧ 21 ≤ R.locals) (ret : RetI p l e R s m args below meth c cX10_put Qf (dmC G) (cfC G) tyC (exC G) D cy ad A Q) (h : wpX10_put G x1 x2 μ Q) (hw : wdC G D cy ad A μ s H) (hS : va_S A s.heap H locs) (hl : lv_has ls 6 [(0, .ref (ad 0 0)), (1, .int (iI x1)), (2, .int (iI x2))]) : W p l e R s m args below meth c H locs 0 0 Qf (F0 m 0 ls []) := by
  have hx := F.1
  have hb := F.2.1
  have hown := F.2.2.2.1
  have hts := F.2.2.2.2
  refine lv_aload_n hx hb dX10_put_0 rfl (lv_at hl 0 rfl) ?_
  refine lv_iload_n hx hb dX10_put_1 rfl (lv_at hl 1 rfl) ?_
  refine call_V hexC F (kX10_trainOf h) 1 tw3_18 tw1_1 tw3_17 tws1_4 tw3_15 hdX10_trainOf ⟨Nat.le_trans (by decide) hR.1, Nat.le_trans (by decide) hR.2⟩ (hw.recv (k := 0) (i := 0) rfl rfl rfl) hA hw hS rfl hl.1 rfl (Nat.le_of_ble_eq_true rfl) dX10_put_2 (fun v1 μ2 H locs h hw hS => ?_)
  refine q_astore_n (lv' := [(3, rf ad 2 v1), (0, .ref (ad 0 0)), (1, .int (iI x1)), (2, .int (iI x2))]) hx hb dX10_put_5 rfl hl (by decide) rfl (fun ls hl => ?_)
  refine q_aload_n hx hb dX10_put_6 rfl (lv_at hl 0 rfl) ?_
  refine q_ifnonnull (tgt := 12) hx hb dX10_put_7 (by decide) (fun c3 => ?_) (fun c3 => ?_)
  · have h := ite_t c3 h
    refine q_iconst hx hb dX10_put_10 ?_
    exact ret _ _ _ _ _ _ h hw hS dX10_put_11
  · have h := ite_f c3 h
    obtain ⟨g4, h⟩ := h
    have hi5 : 0 ≤ v1 ∧ v1 < G 0 0 := ⟨by omega, g4⟩
    have hl : lv_has ls 6 [(3, .ref (ad 2 v1)), (0, .ref (ad 0 0)), (1, .int (iI x1)), (2, .int (iI x2))] := by rw [← rf_pos (ad := ad) (k := 2) hi5.1]; exact hl
    refine lv_aload_n hx hb dX10_put_12 rfl (lv_at hl 0 rfl) ?_
    refine inst_Plate F hw hi5 tw2_159 dX10_put_13 (fun c6 => ?_) (fun c6 => ?_)
    · refine q_if_eq (tgt := 28) hx hb (by decide) dX10_put_16 (by decide) (fun q => absurd q (by decide)) (fun q => ?_)
      have h := ite_t c6 h
      refine lv_aload_n hx hb dX10_put_19 rfl (lv_at hl 0 rfl) ?_
      refine cast_Plate F hw hi5 c6 tw2_159 dX10_put_20 ?_
      refine lv_astore (lv' := [(4, .ref (ad 2 v1)), (3, .ref (ad 2 v1)), (0, .ref (ad 0 0)), (1, .int (iI x1)), (2, .int (iI x2))]) hx hb dX10_put_23 hl (by decide) rfl (fun ls hl => ?_)
      refine lv_goto (tgt := 34) hx hb dX10_put_25 (by decide) ?_
      refine lv_aload hx hb dX10_put_34 (lv_at hl 0 rfl) ?_
      refine lv_iload_n hx hb dX10_put_36 rfl (lv_at hl 4 rfl) ?_
      refine dc_Plate_hasPlace F tw3_83 h hi5 c6 ⟨Nat.le_trans (by decide) hR.1, Nat.le_trans (by decide) hR.2⟩ hA hw hS hl.1 rfl (Nat.le_of_ble_eq_true rfl) dX10_put_37 (fun v7 μ8 H locs h hw hS => ?_)
      obtain ⟨z9, h⟩ := h
      refine q_if_ne (tgt := 49) hx hb (rgB z9) dX10_put_40 (by decide) (fun c10 => ?_) (fun c10 => ?_)
      · have h := ite_f c10 h
        refine lv_aload hx hb dX10_put_49 (lv_at hl 0 rfl) ?_
        refine gC_T_at F hw hi5 c6 tw2_174 (fun _ h => h) dX10_put_51 ?_
        refine lv_istore (lv' := [(5, .int (iI (μ8 2 14 v1))), (4, .ref (ad 2 v1)), (3, .ref (ad 2 v1)), (0, .ref (ad 0 0)), (1, .int (iI x1)), (2, .int (iI x2))]) hx hb dX10_put_54 hl (by decide) rfl (fun ls hl => ?_)
        refine lv_aload hx hb dX10_put_56 (lv_at hl 1 rfl) ?_
        refine lv_iload_n hx hb dX10_put_58 rfl (lv_at hl 5 rfl) ?_
        obtain ⟨μ11, eμ11⟩ : ∃ z : MM, z = ms μ8 2 14 v1 x2 := ⟨_, rfl⟩
        have h := h μ11 eμ11
        refine pC_T_at F hw hS hi5 c6 tw2_174 (fun _ h => h) eμ11 dX10_put_59 (fun H locs hw hS => ?_)
        refine lv_iload hx hb dX10_put_62 (lv_at hl 0 rfl) ?_
        exact ret _ _ _ _ _ _ h hw hS dX10_put_64
      · have h := ite_t c10 h
        refine lv_aload_n hx hb dX10_put_43 rfl (lv_at hl 2 rfl) ?_
        refine q_iconst hx hb dX10_put_44 ?_
        refine call_V hexC F (kX10_found h) 1 tw2_20 tw1_1 tw2_19 tws1_1 tw2_17 hdX10_found ⟨Nat.le_trans (by decide) hR.1, Nat.le_trans (by decide) hR.2⟩ (hw.recv (k := 0) (i := 0) rfl rfl rfl) hA hw hS rfl hl.1 rfl (Nat.le_of_ble_eq_true rfl) dX10_put_45 (fun v12 μ13 H locs h hw hS => ?_)
        exact ret _ _ _ _ _ _ h hw hS dX10_put_48
    · refine q_if_eq (tgt := 28) hx hb (by decide) dX10_put_16 (by decide) (fun q => ?_) (fun q => absurd rfl q)
      have h := ite_f c6 h
      refine lv_aload_n hx hb dX10_put_28 rfl (lv_at hl 1 rfl) ?_
      refine q_iconst hx hb dX10_put_29 ?_
      refine call_V hexC F (kX10_found h) 1 tw2_20 tw1_1 tw2_19 tws1_1 tw2_17 hdX10_found ⟨Nat.le_trans (by decide) hR.1, Nat.le_trans (by decide) hR.2⟩ (hw.recv (k := 0) (i := 0) rfl rfl rfl) hA hw hS rfl hl.1 rfl (Nat.le_of_ble_eq_true rfl) dX10_put_30 (fun v14 μ15 H locs h hw hS => ?_)
      exact ret _ _ _ _ _ _ h hw hS dX10_put_33
set_option maxRecDepth 100000 in
set_option maxHeartbeats 4000000 in
theorem kX10_put {l : Launch} {D : va_G} {cy : Nat → ClassId} {ad : AD} {A : Nat → Prop} {G : GG} {x1 : Int} {x2 : Int} {μ : MM} {Q : Int → MM → Prop} (h : wpX10_put G x1 x2 μ Q) : Met l yX10_put (Cond.code yX10_put cX10_put 6 (some .int) :: uw) (rmm 1 21) (wPc [.ref (ad 0 0), .int (iI x1), .int (iI x2)] (dmC G) (cfC G) tyC (exC G) D cy ad A μ) (wQ vI Q (dmC G) (cfC G) D cy ad A) 0 0 A :=
  met_of (by decide) (Nat.le_of_ble_eq_true rfl) (fun p e R s m args below meth c ls hr hk hRR F hA hw hS hl => wX10_put F hA (by subst hRR; exact ⟨Nat.le_refl _, Nat.le_refl _⟩) (retI_of F hr hk) h hw hS hl)
theorem hdX10_put : yX10_put.cls ≠ "java/lang/invoke/MethodHandle" ∧ yX10_put.cls ≠ "java/lang/invoke/VarHandle" ∧ (parseMethodDescriptor yX10_put.desc).map (fun d => d.parameters.length) = some 2 := by decide +kernel
def wpX5_add_L2 (G : GG) (Q : Int → MM → Prop) : Nat → Int → Int → Int → MM → Prop
  | 0, _, _, _, _ => False
  | n + 1, x1, x2, x3, μ => rg x3 ∧ (rg x2 ∧ (if x2 ≤ x3 then (Q 0 μ) else (rg (μ 5 1 0) ∧ (if 12 ≤ (μ 5 1 0) then (Q 0 μ) else (0 ≤ (μ 5 1 0) ∧ (μ 5 1 0 < 12 ∧ (∀ μ8 : MM, μ8 = ms μ 15 0 (μ 5 1 0) x1 → (∀ μ9 : MM, μ9 = ms μ8 5 1 0 ((μ8 5 1 0) + 1) → (wpX5_add_L2 G Q n x1 x2 (x3 + 1) μ9)))))))))
set_option maxRecDepth 100000 in
set_option maxHeartbeats 4000000 in
theorem wX5_add_L2 {G : GG} {Q : Int → MM → Prop} (F : CallFix p m c cX5_add 4 s args uw RX5) (hA : ∀ q : Nat, s.heap.size ≤ q → A q) (hR : 0 ≤ R.frames ∧ 0 ≤ R.locals) (ret : RetV p l e R s m args below meth c cX5_add Qf (dmC G) (cfC G) tyC (exC G) D cy ad A Q) : ∀ (n : Nat) (x1 x2 x3 : Int) (μ : MM) (H : Heap) (locs : List Loc) (ls : Array Slot), wpX5_add_L2 G Q n x1 x2 x3 μ → wdC G D cy ad A μ s H → va_S A s.heap H locs → lv_has ls 4 [(0, .ref (ad 5 0)), (1, .int (iI x1)), (2, .int (iI x2)), (3, .int (iI x3))] → W p l e R s m args below meth c H locs 0 0 Qf (F0 m 2 ls []) := by
  have hx := F.1
  have hb := F.2.1
  have hown := F.2.2.2.1
  have hts := F.2.2.2.2
  intro n
  induction n with
  | zero =>
    intro x1 x2 x3 μ H locs ls h hw hS hl
    exact h.elim
  | succ n ih =>
    intro x1 x2 x3 μ H locs ls h hw hS hl
    refine lv_iload_n hx hb dX5_add_2 rfl (lv_at hl 3 rfl) ?_
    refine lv_iload_n hx hb dX5_add_3 rfl (lv_at hl 2 rfl) ?_
    obtain ⟨g1, h⟩ := h
    obtain ⟨g2, h⟩ := h
    refine q_icmp_ge (tgt := 45) hx hb g1 g2 dX5_add_4 (by decide) (fun c3 => ?_) (fun c3 => ?_)
    · have h := ite_t c3 h
      exact ret _ _ _ _ _ h hw hS dX5_add_45
    · have h := ite_f c3 h
      refine lv_aload_n hx hb dX5_add_7 rfl (lv_at hl 0 rfl) ?_
      refine gC_A_count F hw tw1_37 dX5_add_8 ?_
      refine lv_aload_n hx hb dX5_add_11 rfl (lv_at hl 0 rfl) ?_
      refine gC_A_acts F hw tw1_36 dX5_add_12 ?_
      refine aC_15_ln hx hb hw dX5_add_15 ?_
      obtain ⟨g4, h⟩ := h
      refine q_icmp_ge (tgt := 45) hx hb g4 (by decide) dX5_add_16 (by decide) (fun c5 => ?_) (fun c5 => ?_)
      · have h := ite_t c5 h
        exact ret _ _ _ _ _ h hw hS dX5_add_45
      · have h := ite_f c5 h
        refine lv_aload_n hx hb dX5_add_19 rfl (lv_at hl 0 rfl) ?_
        refine gC_A_acts F hw tw1_36 dX5_add_20 ?_
        refine lv_aload_n hx hb dX5_add_23 rfl (lv_at hl 0 rfl) ?_
        refine gC_A_count F hw tw1_37 dX5_add_24 ?_
        refine lv_iload_n hx hb dX5_add_27 rfl (lv_at hl 1 rfl) ?_
        obtain ⟨g6, h⟩ := h
        obtain ⟨g7, h⟩ := h
        obtain ⟨μ8, eμ8⟩ : ∃ z : MM, z = ms μ 15 0 (μ 5 1 0) x1 := ⟨_, rfl⟩
        have h := h μ8 eμ8
        refine aC_15_st hx hb hw hS g6 g7 eμ8 dX5_add_28 (fun H locs hw hS => ?_)
        refine lv_aload_n hx hb dX5_add_29 rfl (lv_at hl 0 rfl) ?_
        refine lv_dup hx hb dX5_add_30 rfl ?_
        refine gC_A_count F hw tw1_37 dX5_add_31 ?_
        refine q_iconst hx hb dX5_add_34 ?_
        refine q_iadd hx hb dX5_add_35 ?_
        obtain ⟨μ9, eμ9⟩ : ∃ z : MM, z = ms μ8 5 1 0 ((μ8 5 1 0) + 1) := ⟨_, rfl⟩
        have h := h μ9 eμ9
        refine pC_A_count F hw hS tw1_37 eμ9 dX5_add_36 (fun H locs hw hS => ?_)
        refine q_iinc (k := 3) (lv' := [(3, .int (iI (x3 + 1))), (0, .ref (ad 5 0)), (1, .int (iI x1)), (2, .int (iI x2))]) hx hb dX5_add_39 hl rfl (by decide) rfl (fun ls hl => ?_)
        refine lv_goto (tgt := 2) hx hb dX5_add_42 (by decide) ?_
        exact ih x1 x2 (x3 + 1) _ _ _ _ h hw hS (lv_sub hl [1, 2, 3, 0] rfl)
def wpX5_add (G : GG) (x1 : Int) (x2 : Int) (μ : MM) (Q : Int → MM → Prop) : Prop := ∃ n1 : Nat, wpX5_add_L2 G Q n1 x1 x2 0 μ
set_option maxRecDepth 100000 in
set_option maxHeartbeats 4000000 in
theorem wX5_add {G : GG} {Q : Int → MM → Prop} {x1 : Int} {x2 : Int} {μ : MM} {H : Heap} {locs : List Loc} {ls : Array Slot} (F : CallFix p m c cX5_add 4 s args uw RX5) (hA : ∀ q : Nat, s.heap.size ≤ q → A q) (hR : 0 ≤ R.frames ∧ 0 ≤ R.locals) (ret : RetV p l e R s m args below meth c cX5_add Qf (dmC G) (cfC G) tyC (exC G) D cy ad A Q) (h : wpX5_add G x1 x2 μ Q) (hw : wdC G D cy ad A μ s H) (hS : va_S A s.heap H locs) (hl : lv_has ls 4 [(0, .ref (ad 5 0)), (1, .int (iI x1)), (2, .int (iI x2))]) : W p l e R s m args below meth c H locs 0 0 Qf (F0 m 0 ls []) := by
  have hx := F.1
  have hb := F.2.1
  have hown := F.2.2.2.1
  have hts := F.2.2.2.2
  refine q_iconst hx hb dX5_add_0 ?_
  refine lv_istore_n (lv' := [(3, .int (iI 0)), (0, .ref (ad 5 0)), (1, .int (iI x1)), (2, .int (iI x2))]) hx hb dX5_add_1 rfl hl (by decide) rfl (fun ls hl => ?_)
  obtain ⟨n1, h⟩ := h
  exact wX5_add_L2 F hA hR ret n1 x1 x2 0 _ _ _ _ h hw hS (lv_sub hl [1, 2, 3, 0] rfl)
set_option maxRecDepth 100000 in
set_option maxHeartbeats 4000000 in
theorem kX5_add {l : Launch} {D : va_G} {cy : Nat → ClassId} {ad : AD} {A : Nat → Prop} {G : GG} {x1 : Int} {x2 : Int} {μ : MM} {Q : Int → MM → Prop} (h : wpX5_add G x1 x2 μ Q) : Met l yX5_add (Cond.code yX5_add cX5_add 4 none :: uw) (rmm 0 0) (wPc [.ref (ad 5 0), .int (iI x1), .int (iI x2)] (dmC G) (cfC G) tyC (exC G) D cy ad A μ) (wQ vV Q (dmC G) (cfC G) D cy ad A) 0 0 A :=
  met_of (by decide) (Nat.le_of_ble_eq_true rfl) (fun p e R s m args below meth c ls hr hk hRR F hA hw hS hl => wX5_add F hA (by subst hRR; exact ⟨Nat.le_refl _, Nat.le_refl _⟩) (retV_of F hr hk) h hw hS hl)
theorem hdX5_add : yX5_add.cls ≠ "java/lang/invoke/MethodHandle" ∧ yX5_add.cls ≠ "java/lang/invoke/VarHandle" ∧ (parseMethodDescriptor yX5_add.desc).map (fun d => d.parameters.length) = some 2 := by decide +kernel
def wpX5_plan_L103 (G : GG) (Q : Int → MM → Prop) : Nat → Int → Int → Int → Int → MM → Prop
  | 0, _, _, _, _, _ => False
  | n + 1, x1, x4, x7, x8, μ => rg x8 ∧ (rg x4 ∧ (if x4 ≤ x8 then (Q x7 μ) else (wpX9_strokesRound G x1 ((μ 2 14 x1) + x8) μ (fun v4 μ5 => wpX5_plan_L103 G Q n x1 x4 (x7 + v4) (x8 + 1) μ5))))
set_option maxRecDepth 100000 in
set_option maxHeartbeats 4000000 in
theorem wX5_plan_L103 {G : GG} {Q : Int → MM → Prop} (F : CallFix p m c cX5_plan 9 s args uw RX5) (hA : ∀ q : Nat, s.heap.size ≤ q → A q) (hR : 1 ≤ R.frames ∧ 23 ≤ R.locals) (ret : RetI p l e R s m args below meth c cX5_plan Qf (dmC G) (cfC G) tyC (exC G) D cy ad A Q) : ∀ (n : Nat) (x1 x4 x7 x8 : Int) (μ : MM) (H : Heap) (locs : List Loc) (ls : Array Slot), wpX5_plan_L103 G Q n x1 x4 x7 x8 μ → 0 ≤ x1 ∧ x1 < G 0 0 → G 1 x1 = 1 ∨ G 1 x1 = 3 → wdC G D cy ad A μ s H → va_S A s.heap H locs → lv_has ls 9 [(1, .ref (ad 2 x1)), (4, .int (iI x4)), (7, .int (iI x7)), (8, .int (iI x8))] → W p l e R s m args below meth c H locs 0 0 Qf (F0 m 103 ls []) := by
  have hx := F.1
  have hb := F.2.1
  have hown := F.2.2.2.1
  have hts := F.2.2.2.2
  intro n
  induction n with
  | zero =>
    intro x1 x4 x7 x8 μ H locs ls h hi_x1 hc_x1 hw hS hl
    exact h.elim
  | succ n ih =>
    intro x1 x4 x7 x8 μ H locs ls h hi_x1 hc_x1 hw hS hl
    refine lv_iload hx hb dX5_plan_103 (lv_at hl 3 rfl) ?_
    refine lv_iload hx hb dX5_plan_105 (lv_at hl 1 rfl) ?_
    obtain ⟨g1, h⟩ := h
    obtain ⟨g2, h⟩ := h
    refine q_icmp_ge (tgt := 132) hx hb g1 g2 dX5_plan_107 (by decide) (fun c3 => ?_) (fun c3 => ?_)
    · have h := ite_t c3 h
      refine lv_iload hx hb dX5_plan_132 (lv_at hl 2 rfl) ?_
      exact ret _ _ _ _ _ _ h hw hS dX5_plan_134
    · have h := ite_f c3 h
      refine lv_iload hx hb dX5_plan_110 (lv_at hl 2 rfl) ?_
      refine lv_aload_n hx hb dX5_plan_112 rfl (lv_at hl 0 rfl) ?_
      refine lv_aload_n hx hb dX5_plan_113 rfl (lv_at hl 0 rfl) ?_
      refine gC_T_at F hw hi_x1 hc_x1 tw2_173 (fun _ h => h) dX5_plan_114 ?_
      refine lv_iload hx hb dX5_plan_117 (lv_at hl 3 rfl) ?_
      refine q_iadd hx hb dX5_plan_119 ?_
      refine dc_Plate_strokesRound F tw4_121 h hi_x1 hc_x1 ⟨Nat.le_trans (by decide) hR.1, Nat.le_trans (by decide) hR.2⟩ hA hw hS hl.1 rfl (Nat.le_of_ble_eq_true rfl) dX5_plan_120 (fun v4 μ5 H locs h hw hS => ?_)
      refine q_iadd hx hb dX5_plan_123 ?_
      refine lv_istore (lv' := [(7, .int (iI (x7 + v4))), (1, .ref (ad 2 x1)), (4, .int (iI x4)), (8, .int (iI x8))]) hx hb dX5_plan_124 hl (by decide) rfl (fun ls hl => ?_)
      refine q_iinc (k := 3) (lv' := [(8, .int (iI (x8 + 1))), (7, .int (iI (x7 + v4))), (1, .ref (ad 2 x1)), (4, .int (iI x4))]) hx hb dX5_plan_126 hl rfl (by decide) rfl (fun ls hl => ?_)
      refine lv_goto (tgt := 103) hx hb dX5_plan_129 (by decide) ?_
      exact ih x1 x4 (x7 + v4) (x8 + 1) _ _ _ _ h hi_x1 hc_x1 hw hS (lv_sub hl [2, 3, 1, 0] rfl)
def wpX5_plan_J94 (G : GG) (Q : Int → MM → Prop) (x1 : Int) (x4 : Int) (t1 : Int) (t2 : Int) (μ : MM) : Prop := wpX5_add G t1 t2 μ (fun v1 μ2 => ∃ n3 : Nat, wpX5_plan_L103 G Q n3 x1 x4 0 0 μ2)
set_option maxRecDepth 100000 in
set_option maxHeartbeats 4000000 in
theorem wX5_plan_J94 {G : GG} {Q : Int → MM → Prop} {x1 : Int} {x4 : Int} {t1 : Int} {t2 : Int} {μ : MM} {H : Heap} {locs : List Loc} {ls : Array Slot} (F : CallFix p m c cX5_plan 9 s args uw RX5) (hA : ∀ q : Nat, s.heap.size ≤ q → A q) (hR : 1 ≤ R.frames ∧ 23 ≤ R.locals) (ret : RetI p l e R s m args below meth c cX5_plan Qf (dmC G) (cfC G) tyC (exC G) D cy ad A Q) (h : wpX5_plan_J94 G Q x1 x4 t1 t2 μ) (hi_x1 : 0 ≤ x1 ∧ x1 < G 0 0) (hc_x1 : G 1 x1 = 1 ∨ G 1 x1 = 3) (hw : wdC G D cy ad A μ s H) (hS : va_S A s.heap H locs) (hl : lv_has ls 9 [(1, .ref (ad 2 x1)), (4, .int (iI x4))]) : W p l e R s m args below meth c H locs 0 0 Qf (F0 m 94 ls [.int (iI t2), .int (iI t1), .ref (ad 5 0)]) := by
  have hx := F.1
  have hb := F.2.1
  have hown := F.2.2.2.1
  have hts := F.2.2.2.2
  refine call_V hexC F (kX5_add h) 2 tw4_120 tw1_2 tw4_119 tws1_8 tw4_117 hdX5_add ⟨Nat.le_trans (by decide) hR.1, Nat.le_trans (by decide) hR.2⟩ (hw.recv (k := 5) (i := 0) rfl rfl rfl) hA hw hS rfl hl.1 rfl (Nat.le_of_ble_eq_true rfl) dX5_plan_94 (fun v1 μ2 H locs h hw hS => ?_)
  refine q_iconst hx hb dX5_plan_97 ?_
  refine lv_istore (lv' := [(7, .int (iI 0)), (1, .ref (ad 2 x1)), (4, .int (iI x4))]) hx hb dX5_plan_98 hl (by decide) rfl (fun ls hl => ?_)
  refine q_iconst hx hb dX5_plan_100 ?_
  refine lv_istore (lv' := [(8, .int (iI 0)), (7, .int (iI 0)), (1, .ref (ad 2 x1)), (4, .int (iI x4))]) hx hb dX5_plan_101 hl (by decide) rfl (fun ls hl => ?_)
  obtain ⟨n3, h⟩ := h
  exact wX5_plan_L103 F hA hR ret n3 x1 x4 0 0 _ _ _ _ h hi_x1 hc_x1 hw hS (lv_sub hl [2, 3, 1, 0] rfl)
def wpX5_plan_J75 (G : GG) (Q : Int → MM → Prop) (x1 : Int) (x4 : Int) (x5 : Int) (x6 : Int) (t1 : Int) (t2 : Int) (μ : MM) : Prop := wpX5_add G t1 t2 μ (fun v1 μ2 => rg x6 ∧ (if x6 = 0 then (wpX5_plan_J94 G Q x1 x4 2 (12 - x5) μ2) else (wpX5_plan_J94 G Q x1 x4 2 0 μ2)))
set_option maxRecDepth 100000 in
set_option maxHeartbeats 4000000 in
theorem wX5_plan_J75 {G : GG} {Q : Int → MM → Prop} {x1 : Int} {x4 : Int} {x5 : Int} {x6 : Int} {t1 : Int} {t2 : Int} {μ : MM} {H : Heap} {locs : List Loc} {ls : Array Slot} (F : CallFix p m c cX5_plan 9 s args uw RX5) (hA : ∀ q : Nat, s.heap.size ≤ q → A q) (hR : 1 ≤ R.frames ∧ 23 ≤ R.locals) (ret : RetI p l e R s m args below meth c cX5_plan Qf (dmC G) (cfC G) tyC (exC G) D cy ad A Q) (h : wpX5_plan_J75 G Q x1 x4 x5 x6 t1 t2 μ) (hi_x1 : 0 ≤ x1 ∧ x1 < G 0 0) (hc_x1 : G 1 x1 = 1 ∨ G 1 x1 = 3) (hw : wdC G D cy ad A μ s H) (hS : va_S A s.heap H locs) (hl : lv_has ls 9 [(0, .ref (ad 5 0)), (1, .ref (ad 2 x1)), (4, .int (iI x4)), (5, .int (iI x5)), (6, .int (iI x6))]) : W p l e R s m args below meth c H locs 0 0 Qf (F0 m 75 ls [.int (iI t2), .int (iI t1), .ref (ad 5 0)]) := by
  have hx := F.1
  have hb := F.2.1
  have hown := F.2.2.2.1
  have hts := F.2.2.2.2
  refine call_V hexC F (kX5_add h) 2 tw4_120 tw1_2 tw4_119 tws1_8 tw4_117 hdX5_add ⟨Nat.le_trans (by decide) hR.1, Nat.le_trans (by decide) hR.2⟩ (hw.recv (k := 5) (i := 0) rfl rfl rfl) hA hw hS rfl hl.1 rfl (Nat.le_of_ble_eq_true rfl) dX5_plan_75 (fun v1 μ2 H locs h hw hS => ?_)
  refine lv_aload_n hx hb dX5_plan_78 rfl (lv_at hl 0 rfl) ?_
  refine q_iconst hx hb dX5_plan_79 ?_
  refine lv_iload hx hb dX5_plan_80 (lv_at hl 4 rfl) ?_
  obtain ⟨g3, h⟩ := h
  refine q_if_eq (tgt := 89) hx hb g3 dX5_plan_82 (by decide) (fun c4 => ?_) (fun c4 => ?_)
  · have h := ite_t c4 h
    refine q_bipush hx hb (by decide) dX5_plan_89 ?_
    refine lv_iload hx hb dX5_plan_91 (lv_at hl 3 rfl) ?_
    refine q_isub hx hb dX5_plan_93 ?_
    exact wX5_plan_J94 F hA hR ret h hi_x1 hc_x1 hw hS (lv_sub hl [1, 2] rfl)
  · have h := ite_f c4 h
    refine q_iconst hx hb dX5_plan_85 ?_
    refine lv_goto (tgt := 94) hx hb dX5_plan_86 (by decide) ?_
    exact wX5_plan_J94 F hA hR ret h hi_x1 hc_x1 hw hS (lv_sub hl [1, 2] rfl)
def wpX5_plan_J59 (G : GG) (Q : Int → MM → Prop) (x1 : Int) (x4 : Int) (x5 : Int) (x6 : Int) (t1 : Int) (t2 : Int) (μ : MM) : Prop := wpX5_add G t1 t2 μ (fun v1 μ2 => rg x6 ∧ (if x6 = 0 then (wpX5_plan_J75 G Q x1 x4 x5 x6 1 0 μ2) else (wpX5_plan_J75 G Q x1 x4 x5 x6 1 x5 μ2)))
set_option maxRecDepth 100000 in
set_option maxHeartbeats 4000000 in
theorem wX5_plan_J59 {G : GG} {Q : Int → MM → Prop} {x1 : Int} {x4 : Int} {x5 : Int} {x6 : Int} {t1 : Int} {t2 : Int} {μ : MM} {H : Heap} {locs : List Loc} {ls : Array Slot} (F : CallFix p m c cX5_plan 9 s args uw RX5) (hA : ∀ q : Nat, s.heap.size ≤ q → A q) (hR : 1 ≤ R.frames ∧ 23 ≤ R.locals) (ret : RetI p l e R s m args below meth c cX5_plan Qf (dmC G) (cfC G) tyC (exC G) D cy ad A Q) (h : wpX5_plan_J59 G Q x1 x4 x5 x6 t1 t2 μ) (hi_x1 : 0 ≤ x1 ∧ x1 < G 0 0) (hc_x1 : G 1 x1 = 1 ∨ G 1 x1 = 3) (hw : wdC G D cy ad A μ s H) (hS : va_S A s.heap H locs) (hl : lv_has ls 9 [(0, .ref (ad 5 0)), (1, .ref (ad 2 x1)), (4, .int (iI x4)), (5, .int (iI x5)), (6, .int (iI x6))]) : W p l e R s m args below meth c H locs 0 0 Qf (F0 m 59 ls [.int (iI t2), .int (iI t1), .ref (ad 5 0)]) := by
  have hx := F.1
  have hb := F.2.1
  have hown := F.2.2.2.1
  have hts := F.2.2.2.2
  refine call_V hexC F (kX5_add h) 2 tw4_120 tw1_2 tw4_119 tws1_8 tw4_117 hdX5_add ⟨Nat.le_trans (by decide) hR.1, Nat.le_trans (by decide) hR.2⟩ (hw.recv (k := 5) (i := 0) rfl rfl rfl) hA hw hS rfl hl.1 rfl (Nat.le_of_ble_eq_true rfl) dX5_plan_59 (fun v1 μ2 H locs h hw hS => ?_)
  refine lv_aload_n hx hb dX5_plan_62 rfl (lv_at hl 0 rfl) ?_
  refine q_iconst hx hb dX5_plan_63 ?_
  refine lv_iload hx hb dX5_plan_64 (lv_at hl 4 rfl) ?_
  obtain ⟨g3, h⟩ := h
  refine q_if_eq (tgt := 74) hx hb g3 dX5_plan_66 (by decide) (fun c4 => ?_) (fun c4 => ?_)
  · have h := ite_t c4 h
    refine q_iconst hx hb dX5_plan_74 ?_
    exact wX5_plan_J75 F hA hR ret h hi_x1 hc_x1 hw hS (lv_sub hl [0, 1, 2, 3, 4] rfl)
  · have h := ite_f c4 h
    refine lv_iload hx hb dX5_plan_69 (lv_at hl 3 rfl) ?_
    refine lv_goto (tgt := 75) hx hb dX5_plan_71 (by decide) ?_
    exact wX5_plan_J75 F hA hR ret h hi_x1 hc_x1 hw hS (lv_sub hl [0, 1, 2, 3, 4] rfl)
def wpX5_plan_J35 (G : GG) (Q : Int → MM → Prop) (x1 : Int) (x4 : Int) (x5 : Int) (t0 : Int) (μ : MM) : Prop := ∀ μ1 : MM, μ1 = ms μ 5 1 0 0 → (rg t0 ∧ (if t0 = 0 then (wpX5_plan_J59 G Q x1 x4 x5 t0 0 x4 μ1) else (wpX5_plan_J59 G Q x1 x4 x5 t0 0 (x4 - x5) μ1)))
set_option maxRecDepth 100000 in
set_option maxHeartbeats 4000000 in
theorem wX5_plan_J35 {G : GG} {Q : Int → MM → Prop} {x1 : Int} {x4 : Int} {x5 : Int} {t0 : Int} {μ : MM} {H : Heap} {locs : List Loc} {ls : Array Slot} (F : CallFix p m c cX5_plan 9 s args uw RX5) (hA : ∀ q : Nat, s.heap.size ≤ q → A q) (hR : 1 ≤ R.frames ∧ 23 ≤ R.locals) (ret : RetI p l e R s m args below meth c cX5_plan Qf (dmC G) (cfC G) tyC (exC G) D cy ad A Q) (h : wpX5_plan_J35 G Q x1 x4 x5 t0 μ) (hi_x1 : 0 ≤ x1 ∧ x1 < G 0 0) (hc_x1 : G 1 x1 = 1 ∨ G 1 x1 = 3) (hw : wdC G D cy ad A μ s H) (hS : va_S A s.heap H locs) (hl : lv_has ls 9 [(0, .ref (ad 5 0)), (1, .ref (ad 2 x1)), (4, .int (iI x4)), (5, .int (iI x5))]) : W p l e R s m args below meth c H locs 0 0 Qf (F0 m 35 ls [.int (iI t0)]) := by
  have hx := F.1
  have hb := F.2.1
  have hown := F.2.2.2.1
  have hts := F.2.2.2.2
  refine lv_istore (lv' := [(6, .int (iI t0)), (0, .ref (ad 5 0)), (1, .ref (ad 2 x1)), (4, .int (iI x4)), (5, .int (iI x5))]) hx hb dX5_plan_35 hl (by decide) rfl (fun ls hl => ?_)
  refine lv_aload_n hx hb dX5_plan_37 rfl (lv_at hl 1 rfl) ?_
  refine q_iconst hx hb dX5_plan_38 ?_
  obtain ⟨μ1, eμ1⟩ : ∃ z : MM, z = ms μ 5 1 0 0 := ⟨_, rfl⟩
  have h := h μ1 eμ1
  refine pC_A_count F hw hS tw1_37 eμ1 dX5_plan_39 (fun H locs hw hS => ?_)
  refine lv_aload_n hx hb dX5_plan_42 rfl (lv_at hl 1 rfl) ?_
  refine q_iconst hx hb dX5_plan_43 ?_
  refine lv_iload hx hb dX5_plan_44 (lv_at hl 0 rfl) ?_
  obtain ⟨g2, h⟩ := h
  refine q_if_eq (tgt := 57) hx hb g2 dX5_plan_46 (by decide) (fun c3 => ?_) (fun c3 => ?_)
  · have h := ite_t c3 h
    refine lv_iload hx hb dX5_plan_57 (lv_at hl 3 rfl) ?_
    exact wX5_plan_J59 F hA hR ret h hi_x1 hc_x1 hw hS (lv_sub hl [1, 2, 3, 4, 0] rfl)
  · have h := ite_f c3 h
    refine lv_iload hx hb dX5_plan_49 (lv_at hl 3 rfl) ?_
    refine lv_iload hx hb dX5_plan_51 (lv_at hl 4 rfl) ?_
    refine q_isub hx hb dX5_plan_53 ?_
    refine lv_goto (tgt := 59) hx hb dX5_plan_54 (by decide) ?_
    exact wX5_plan_J59 F hA hR ret h hi_x1 hc_x1 hw hS (lv_sub hl [1, 2, 3, 4, 0] rfl)
def wpX5_plan (G : GG) (x1 : Int) (x2 : Int) (x3 : Int) (μ : MM) (Q : Int → MM → Prop) : Prop := wpJ9_floorMod_7cf53 G (x3 - (μ 2 14 x1)) 12 μ (fun v1 μ2 => wpJ9_floorMod_7cf53 G (x3 - x2) 12 μ2 (fun v3 μ4 => rg v1 ∧ (rg v3 ∧ (if v1 < v3 then (wpX5_plan_J35 G Q x1 v1 v3 0 μ4) else (wpX5_plan_J35 G Q x1 v1 v3 1 μ4)))))
set_option maxRecDepth 100000 in
set_option maxHeartbeats 4000000 in
theorem wX5_plan {G : GG} {Q : Int → MM → Prop} {x1 : Int} {x2 : Int} {x3 : Int} {μ : MM} {H : Heap} {locs : List Loc} {ls : Array Slot} (F : CallFix p m c cX5_plan 9 s args uw RX5) (hA : ∀ q : Nat, s.heap.size ≤ q → A q) (hR : 1 ≤ R.frames ∧ 23 ≤ R.locals) (ret : RetI p l e R s m args below meth c cX5_plan Qf (dmC G) (cfC G) tyC (exC G) D cy ad A Q) (h : wpX5_plan G x1 x2 x3 μ Q) (hi_x1 : 0 ≤ x1 ∧ x1 < G 0 0) (hc_x1 : G 1 x1 = 1 ∨ G 1 x1 = 3) (hw : wdC G D cy ad A μ s H) (hS : va_S A s.heap H locs) (hl : lv_has ls 9 [(0, .ref (ad 5 0)), (1, .ref (ad 2 x1)), (2, .int (iI x2)), (3, .int (iI x3))]) : W p l e R s m args below meth c H locs 0 0 Qf (F0 m 0 ls []) := by
  have hx := F.1
  have hb := F.2.1
  have hown := F.2.2.2.1
  have hts := F.2.2.2.2
  refine lv_iload_n hx hb dX5_plan_0 rfl (lv_at hl 3 rfl) ?_
  refine lv_aload_n hx hb dX5_plan_1 rfl (lv_at hl 1 rfl) ?_
  refine gC_T_at F hw hi_x1 hc_x1 tw2_173 (fun _ h => h) dX5_plan_2 ?_
  refine q_isub hx hb dX5_plan_5 ?_
  refine q_bipush hx hb (by decide) dX5_plan_6 ?_
  refine call_S hexC F (kJ9_floorMod_7cf53 h) 2 tw3_165 tw1_13 tw3_164 tw4_116 hdJ9_floorMod_7cf53 ⟨Nat.le_trans (by decide) hR.1, Nat.le_trans (by decide) hR.2⟩ hA hw hS rfl hl.1 rfl (Nat.le_of_ble_eq_true rfl) dX5_plan_8 (fun v1 μ2 H locs h hw hS => ?_)
  refine lv_istore (lv' := [(4, .int (iI v1)), (0, .ref (ad 5 0)), (1, .ref (ad 2 x1)), (2, .int (iI x2)), (3, .int (iI x3))]) hx hb dX5_plan_11 hl (by decide) rfl (fun ls hl => ?_)
  refine lv_iload_n hx hb dX5_plan_13 rfl (lv_at hl 4 rfl) ?_
  refine lv_iload_n hx hb dX5_plan_14 rfl (lv_at hl 3 rfl) ?_
  refine q_isub hx hb dX5_plan_15 ?_
  refine q_bipush hx hb (by decide) dX5_plan_16 ?_
  refine call_S hexC F (kJ9_floorMod_7cf53 h) 2 tw3_165 tw1_13 tw3_164 tw4_116 hdJ9_floorMod_7cf53 ⟨Nat.le_trans (by decide) hR.1, Nat.le_trans (by decide) hR.2⟩ hA hw hS rfl hl.1 rfl (Nat.le_of_ble_eq_true rfl) dX5_plan_18 (fun v3 μ4 H locs h hw hS => ?_)
  refine lv_istore (lv' := [(5, .int (iI v3)), (4, .int (iI v1)), (0, .ref (ad 5 0)), (1, .ref (ad 2 x1)), (2, .int (iI x2)), (3, .int (iI x3))]) hx hb dX5_plan_21 hl (by decide) rfl (fun ls hl => ?_)
  refine lv_iload hx hb dX5_plan_23 (lv_at hl 1 rfl) ?_
  refine lv_iload hx hb dX5_plan_25 (lv_at hl 0 rfl) ?_
  obtain ⟨g5, h⟩ := h
  obtain ⟨g6, h⟩ := h
  refine q_icmp_lt (tgt := 34) hx hb g5 g6 dX5_plan_27 (by decide) (fun c7 => ?_) (fun c7 => ?_)
  · have h := ite_t c7 h
    refine q_iconst hx hb dX5_plan_34 ?_
    exact wX5_plan_J35 F hA hR ret h hi_x1 hc_x1 hw hS (lv_sub hl [2, 3, 1, 0] rfl)
  · have h := ite_f c7 h
    refine q_iconst hx hb dX5_plan_30 ?_
    refine lv_goto (tgt := 35) hx hb dX5_plan_31 (by decide) ?_
    exact wX5_plan_J35 F hA hR ret h hi_x1 hc_x1 hw hS (lv_sub hl [2, 3, 1, 0] rfl)
set_option maxRecDepth 100000 in
set_option maxHeartbeats 4000000 in
theorem kX5_plan {l : Launch} {D : va_G} {cy : Nat → ClassId} {ad : AD} {A : Nat → Prop} {G : GG} {x1 : Int} {x2 : Int} {x3 : Int} {μ : MM} {Q : Int → MM → Prop} (h : wpX5_plan G x1 x2 x3 μ Q) (hi_x1 : 0 ≤ x1 ∧ x1 < G 0 0) (hc_x1 : G 1 x1 = 1 ∨ G 1 x1 = 3) : Met l yX5_plan (Cond.code yX5_plan cX5_plan 9 (some .int) :: uw) (rmm 1 23) (wPc [.ref (ad 5 0), .ref (ad 2 x1), .int (iI x2), .int (iI x3)] (dmC G) (cfC G) tyC (exC G) D cy ad A μ) (wQ vI Q (dmC G) (cfC G) D cy ad A) 0 0 A :=
  met_of (by decide) (Nat.le_of_ble_eq_true rfl) (fun p e R s m args below meth c ls hr hk hRR F hA hw hS hl => wX5_plan F hA (by subst hRR; exact ⟨Nat.le_refl _, Nat.le_refl _⟩) (retI_of F hr hk) h hi_x1 hc_x1 hw hS hl)
theorem hdX5_plan : yX5_plan.cls ≠ "java/lang/invoke/MethodHandle" ∧ yX5_plan.cls ≠ "java/lang/invoke/VarHandle" ∧ (parseMethodDescriptor yX5_plan.desc).map (fun d => d.parameters.length) = some 3 := by decide +kernel
def wpX10_putRight_J70 (G : GG) (Q : Int → MM → Prop) (μ : MM) : Prop := wpX10_found G 3 μ (fun v1 μ2 => Q v1 μ2)
set_option maxRecDepth 100000 in
set_option maxHeartbeats 4000000 in
theorem wX10_putRight_J70 {G : GG} {Q : Int → MM → Prop} {μ : MM} {H : Heap} {locs : List Loc} {ls : Array Slot} (F : CallFix p m c cX10_putRight 7 s args uw RX10) (hA : ∀ q : Nat, s.heap.size ≤ q → A q) (hR : 2 ≤ R.frames ∧ 51 ≤ R.locals) (ret : RetI p l e R s m args below meth c cX10_putRight Qf (dmC G) (cfC G) tyC (exC G) D cy ad A Q) (h : wpX10_putRight_J70 G Q μ) (hw : wdC G D cy ad A μ s H) (hS : va_S A s.heap H locs) (hl : lv_has ls 7 [(0, .ref (ad 0 0))]) : W p l e R s m args below meth c H locs 0 0 Qf (F0 m 70 ls []) := by
  have hx := F.1
  have hb := F.2.1
  have hown := F.2.2.2.1
  have hts := F.2.2.2.2
  refine lv_aload_n hx hb dX10_putRight_70 rfl (lv_at hl 0 rfl) ?_
  refine q_iconst hx hb dX10_putRight_71 ?_
  refine call_V hexC F (kX10_found h) 1 tw2_20 tw1_1 tw2_19 tws1_1 tw2_17 hdX10_found ⟨Nat.le_trans (by decide) hR.1, Nat.le_trans (by decide) hR.2⟩ (hw.recv (k := 0) (i := 0) rfl rfl rfl) hA hw hS rfl hl.1 rfl (Nat.le_of_ble_eq_true rfl) dX10_putRight_72 (fun v1 μ2 H locs h hw hS => ?_)
  exact ret _ _ _ _ _ _ h hw hS dX10_putRight_75
def wpX10_putRight_J38 (G : GG) (Q : Int → MM → Prop) (μ : MM) : Prop := wpX10_found G 1 μ (fun v1 μ2 => Q v1 μ2)
set_option maxRecDepth 100000 in
set_option maxHeartbeats 4000000 in
theorem wX10_putRight_J38 {G : GG} {Q : Int → MM → Prop} {μ : MM} {H : Heap} {locs : List Loc} {ls : Array Slot} (F : CallFix p m c cX10_putRight 7 s args uw RX10) (hA : ∀ q : Nat, s.heap.size ≤ q → A q) (hR : 2 ≤ R.frames ∧ 51 ≤ R.locals) (ret : RetI p l e R s m args below meth c cX10_putRight Qf (dmC G) (cfC G) tyC (exC G) D cy ad A Q) (h : wpX10_putRight_J38 G Q μ) (hw : wdC G D cy ad A μ s H) (hS : va_S A s.heap H locs) (hl : lv_has ls 7 [(0, .ref (ad 0 0))]) : W p l e R s m args below meth c H locs 0 0 Qf (F0 m 38 ls []) := by
  have hx := F.1
  have hb := F.2.1
  have hown := F.2.2.2.1
  have hts := F.2.2.2.2
  refine lv_aload_n hx hb dX10_putRight_38 rfl (lv_at hl 0 rfl) ?_
  refine q_iconst hx hb dX10_putRight_39 ?_
  refine call_V hexC F (kX10_found h) 1 tw2_20 tw1_1 tw2_19 tws1_1 tw2_17 hdX10_found ⟨Nat.le_trans (by decide) hR.1, Nat.le_trans (by decide) hR.2⟩ (hw.recv (k := 0) (i := 0) rfl rfl rfl) hA hw hS rfl hl.1 rfl (Nat.le_of_ble_eq_true rfl) dX10_putRight_40 (fun v1 μ2 H locs h hw hS => ?_)
  exact ret _ _ _ _ _ _ h hw hS dX10_putRight_43
def wpX10_putRight (G : GG) (x1 : Int) (x2 : Int) (μ : MM) (Q : Int → MM → Prop) : Prop := wpX10_towerOf G x1 μ (fun v1 μ2 => if v1 < 0 then (Q (-1) μ2) else (v1 < 4 ∧ (wpX10_isHour G x2 μ2 (fun v6 μ7 => if v6 = 0 then (Q (-1) μ7) else (wpX8_trainIn G v1 0 μ7 (fun v10 μ11 => rg (μ11 3 0 v1) ∧ (if (μ11 3 0 v1) = 0 then (wpX10_putRight_J38 G Q  μ11) else (if v10 < 0 then (wpX10_putRight_J38 G Q  μ11) else (v10 < G 0 0 ∧ (if G 1 v10 = 1 ∨ G 1 v10 = 3 then (rg (G 2 v10) ∧ (if (G 2 v10) = 12 then (wpX8_nextPlace G v1 0 μ11 (fun v20 μ21 => wpX5_plan G v10 v20 (x2 - 1) μ21 (fun v22 μ23 => ∀ μ24 : MM, μ24 = ms μ23 0 11 0 (μ23 5 1 0) → (Q v22 μ24)))) else (wpX10_putRight_J70 G Q  μ11))) else (wpX10_putRight_J70 G Q  μ11)))))))))))
set_option maxRecDepth 100000 in
set_option maxHeartbeats 4000000 in
theorem wX10_putRight {G : GG} {Q : Int → MM → Prop} {x1 : Int} {x2 : Int} {μ : MM} {H : Heap} {locs : List Loc} {ls : Array Slot} (F : CallFix p m c cX10_putRight 7 s args uw RX10) (hA : ∀ q : Nat, s.heap.size ≤ q → A q) (hR : 2 ≤ R.frames ∧ 51 ≤ R.locals) (ret : RetI p l e R s m args below meth c cX10_putRight Qf (dmC G) (cfC G) tyC (exC G) D cy ad A Q) (h : wpX10_putRight G x1 x2 μ Q) (hw : wdC G D cy ad A μ s H) (hS : va_S A s.heap H locs) (hl : lv_has ls 7 [(0, .ref (ad 0 0)), (1, .int (iI x1)), (2, .int (iI x2))]) : W p l e R s m args below meth c H locs 0 0 Qf (F0 m 0 ls []) := by
  have hx := F.1
  have hb := F.2.1
  have hown := F.2.2.2.1
  have hts := F.2.2.2.2
  refine lv_aload_n hx hb dX10_putRight_0 rfl (lv_at hl 0 rfl) ?_
  refine lv_iload_n hx hb dX10_putRight_1 rfl (lv_at hl 1 rfl) ?_
  refine call_V hexC F (kX10_towerOf h) 1 tw3_99 tw1_1 tw3_98 tws1_5 tw3_96 hdX10_towerOf ⟨Nat.le_trans (by decide) hR.1, Nat.le_trans (by decide) hR.2⟩ (hw.recv (k := 0) (i := 0) rfl rfl rfl) hA hw hS rfl hl.1 rfl (Nat.le_of_ble_eq_true rfl) dX10_putRight_2 (fun v1 μ2 H locs h hw hS => ?_)
  refine q_astore_n (lv' := [(3, rf ad 3 v1), (0, .ref (ad 0 0)), (1, .int (iI x1)), (2, .int (iI x2))]) hx hb dX10_putRight_5 rfl hl (by decide) rfl (fun ls hl => ?_)
  refine q_aload_n hx hb dX10_putRight_6 rfl (lv_at hl 0 rfl) ?_
  refine q_ifnull (tgt := 17) hx hb dX10_putRight_7 (by decide) (fun c3 => ?_) (fun c3 => ?_)
  · have h := ite_t c3 h
    refine q_iconst hx hb dX10_putRight_17 ?_
    exact ret _ _ _ _ _ _ h hw hS dX10_putRight_18
  · have h := ite_f c3 h
    obtain ⟨g4, h⟩ := h
    have hi5 : 0 ≤ v1 ∧ v1 < 4 := ⟨by omega, g4⟩
    have hl : lv_has ls 7 [(3, .ref (ad 3 v1)), (0, .ref (ad 0 0)), (1, .int (iI x1)), (2, .int (iI x2))] := by rw [← rf_pos (ad := ad) (k := 3) hi5.1]; exact hl
    refine lv_iload_n hx hb dX10_putRight_10 rfl (lv_at hl 3 rfl) ?_
    refine call_S hexC F (kX10_isHour h) 1 tw4_111 tw1_1 tw4_110 tw4_109 hdX10_isHour ⟨Nat.le_trans (by decide) hR.1, Nat.le_trans (by decide) hR.2⟩ hA hw hS rfl hl.1 rfl (Nat.le_of_ble_eq_true rfl) dX10_putRight_11 (fun v6 μ7 H locs h hw hS => ?_)
    obtain ⟨z8, h⟩ := h
    refine q_if_ne (tgt := 19) hx hb (rgB z8) dX10_putRight_14 (by decide) (fun c9 => ?_) (fun c9 => ?_)
    · have h := ite_f c9 h
      refine lv_aload_n hx hb dX10_putRight_19 rfl (lv_at hl 0 rfl) ?_
      refine q_iconst hx hb dX10_putRight_20 ?_
      refine call_V hexC F (kX8_trainIn h hi5) 1 tw3_111 tw1_6 tw3_109 tw3_110 tw3_142 hdX8_trainIn ⟨Nat.le_trans (by decide) hR.1, Nat.le_trans (by decide) hR.2⟩ (hw.recv (k := 3) (i := v1) hi5 rfl rfl) hA hw hS rfl hl.1 rfl (Nat.le_of_ble_eq_true rfl) dX10_putRight_21 (fun v10 μ11 H locs h hw hS => ?_)
      refine q_astore (lv' := [(4, rf ad 2 v10), (3, .ref (ad 3 v1)), (0, .ref (ad 0 0)), (1, .int (iI x1)), (2, .int (iI x2))]) hx hb dX10_putRight_24 hl (by decide) rfl (fun ls hl => ?_)
      refine lv_aload_n hx hb dX10_putRight_26 rfl (lv_at hl 1 rfl) ?_
      refine gC_W_there F hw hi5 tw1_163 dX10_putRight_27 ?_
      obtain ⟨g12, h⟩ := h
      refine q_if_eq (tgt := 38) hx hb g12 dX10_putRight_30 (by decide) (fun c13 => ?_) (fun c13 => ?_)
      · have h := ite_t c13 h
        exact wX10_putRight_J38 F hA hR ret h hw hS (lv_sub hl [2] rfl)
      · have h := ite_f c13 h
        refine q_aload hx hb dX10_putRight_33 (lv_at hl 0 rfl) ?_
        refine q_ifnonnull (tgt := 44) hx hb dX10_putRight_35 (by decide) (fun c14 => ?_) (fun c14 => ?_)
        · have h := ite_t c14 h
          exact wX10_putRight_J38 F hA hR ret h hw hS (lv_sub hl [2] rfl)
        · have h := ite_f c14 h
          obtain ⟨g15, h⟩ := h
          have hi16 : 0 ≤ v10 ∧ v10 < G 0 0 := ⟨by omega, g15⟩
          have hl : lv_has ls 7 [(4, .ref (ad 2 v10)), (3, .ref (ad 3 v1)), (0, .ref (ad 0 0)), (1, .int (iI x1)), (2, .int (iI x2))] := by rw [← rf_pos (ad := ad) (k := 2) hi16.1]; exact hl
          refine lv_aload hx hb dX10_putRight_44 (lv_at hl 0 rfl) ?_
          refine inst_Plate F hw hi16 tw2_159 dX10_putRight_46 (fun c17 => ?_) (fun c17 => ?_)
          · refine q_if_eq (tgt := 70) hx hb (by decide) dX10_putRight_49 (by decide) (fun q => absurd q (by decide)) (fun q => ?_)
            have h := ite_t c17 h
            refine lv_aload hx hb dX10_putRight_52 (lv_at hl 0 rfl) ?_
            refine cast_Plate F hw hi16 c17 tw2_159 dX10_putRight_54 ?_
            refine lv_astore (lv' := [(5, .ref (ad 2 v10)), (4, .ref (ad 2 v10)), (3, .ref (ad 3 v1)), (0, .ref (ad 0 0)), (1, .int (iI x1)), (2, .int (iI x2))]) hx hb dX10_putRight_57 hl (by decide) rfl (fun ls hl => ?_)
            refine lv_aload hx hb dX10_putRight_59 (lv_at hl 0 rfl) ?_
            refine gC_T_strokes F hw hi16 tw2_78 (u_same (hts _ tw2_76)) dX10_putRight_61 ?_
            refine aC_9_ln hx hb hw hi16 dX10_putRight_64 ?_
            refine q_bipush hx hb (by decide) dX10_putRight_65 ?_
            obtain ⟨g18, h⟩ := h
            refine q_icmp_eq (tgt := 76) hx hb g18 (by decide) dX10_putRight_67 (by decide) (fun c19 => ?_) (fun c19 => ?_)
            · have h := ite_t c19 h
              refine lv_aload_n hx hb dX10_putRight_76 rfl (lv_at hl 3 rfl) ?_
              refine gC_H_righting F hw tw1_211 dX10_putRight_77 ?_
              refine lv_aload hx hb dX10_putRight_80 (lv_at hl 0 rfl) ?_
              refine lv_aload_n hx hb dX10_putRight_82 rfl (lv_at hl 2 rfl) ?_
              refine q_iconst hx hb dX10_putRight_83 ?_
              refine call_V hexC F (kX8_nextPlace h hi5) 1 tw3_173 tw1_6 tw3_171 tw3_172 tw4_96 hdX8_nextPlace ⟨Nat.le_trans (by decide) hR.1, Nat.le_trans (by decide) hR.2⟩ (hw.recv (k := 3) (i := v1) hi5 rfl rfl) hA hw hS rfl hl.1 rfl (Nat.le_of_ble_eq_true rfl) dX10_putRight_84 (fun v20 μ21 H locs h hw hS => ?_)
              refine lv_iload_n hx hb dX10_putRight_87 rfl (lv_at hl 5 rfl) ?_
              refine q_iconst hx hb dX10_putRight_88 ?_
              refine q_isub hx hb dX10_putRight_89 ?_
              refine call_V hexC F (kX5_plan h hi16 c17) 3 tw4_115 tw1_2 tw4_113 tw4_114 tw4_112 hdX5_plan ⟨Nat.le_trans (by decide) hR.1, Nat.le_trans (by decide) hR.2⟩ (hw.recv (k := 5) (i := 0) rfl rfl rfl) hA hw hS rfl hl.1 rfl (Nat.le_of_ble_eq_true rfl) dX10_putRight_90 (fun v22 μ23 H locs h hw hS => ?_)
              refine lv_istore (lv' := [(6, .int (iI v22)), (5, .ref (ad 2 v10)), (4, .ref (ad 2 v10)), (3, .ref (ad 3 v1)), (0, .ref (ad 0 0)), (1, .int (iI x1)), (2, .int (iI x2))]) hx hb dX10_putRight_93 hl (by decide) rfl (fun ls hl => ?_)
              refine lv_aload_n hx hb dX10_putRight_95 rfl (lv_at hl 4 rfl) ?_
              refine lv_aload_n hx hb dX10_putRight_96 rfl (lv_at hl 4 rfl) ?_
              refine gC_H_righting F hw tw1_211 dX10_putRight_97 ?_
              refine gC_A_count F hw tw1_38 dX10_putRight_100 ?_
              obtain ⟨μ24, eμ24⟩ : ∃ z : MM, z = ms μ23 0 11 0 (μ23 5 1 0) := ⟨_, rfl⟩
              have h := h μ24 eμ24
              refine pC_H_asked F hw hS tw1_217 eμ24 dX10_putRight_103 (fun H locs hw hS => ?_)
              refine lv_iload hx hb dX10_putRight_106 (lv_at hl 0 rfl) ?_
              exact ret _ _ _ _ _ _ h hw hS dX10_putRight_108
            · have h := ite_f c19 h
              exact wX10_putRight_J70 F hA hR ret h hw hS (lv_sub hl [3] rfl)
          · refine q_if_eq (tgt := 70) hx hb (by decide) dX10_putRight_49 (by decide) (fun q => ?_) (fun q => absurd rfl q)
            have h := ite_f c17 h
            exact wX10_putRight_J70 F hA hR ret h hw hS (lv_sub hl [2] rfl)
    · have h := ite_t c9 h
      refine q_iconst hx hb dX10_putRight_17 ?_
      exact ret _ _ _ _ _ _ h hw hS dX10_putRight_18
set_option maxRecDepth 100000 in
set_option maxHeartbeats 4000000 in
theorem kX10_putRight {l : Launch} {D : va_G} {cy : Nat → ClassId} {ad : AD} {A : Nat → Prop} {G : GG} {x1 : Int} {x2 : Int} {μ : MM} {Q : Int → MM → Prop} (h : wpX10_putRight G x1 x2 μ Q) : Met l yX10_putRight (Cond.code yX10_putRight cX10_putRight 7 (some .int) :: uw) (rmm 2 51) (wPc [.ref (ad 0 0), .int (iI x1), .int (iI x2)] (dmC G) (cfC G) tyC (exC G) D cy ad A μ) (wQ vI Q (dmC G) (cfC G) D cy ad A) 0 0 A :=
  met_of (by decide) (Nat.le_of_ble_eq_true rfl) (fun p e R s m args below meth c ls hr hk hRR F hA hw hS hl => wX10_putRight F hA (by subst hRR; exact ⟨Nat.le_refl _, Nat.le_refl _⟩) (retI_of F hr hk) h hw hS hl)
theorem hdX10_putRight : yX10_putRight.cls ≠ "java/lang/invoke/MethodHandle" ∧ yX10_putRight.cls ≠ "java/lang/invoke/VarHandle" ∧ (parseMethodDescriptor yX10_putRight.desc).map (fun d => d.parameters.length) = some 2 := by decide +kernel
end
