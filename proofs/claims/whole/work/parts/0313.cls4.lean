section
variable {p : Program} {l : Launch} {e : Env} {R : Room} {s : State} {m : MethodId} {args : Array Value} {below : List Frame} {meth : Method} {c : Code} {Qf : State → Prop} {D : va_G} {cy : Nat → ClassId} {ad : AD} {A : Nat → Prop}
def wpX3_entry (G : GG) (i : Int) (x1 : Int) (x2 : Int) (μ : MM) (Q : Int → MM → Prop) : Prop := rg x1 ∧ (if x1 < 0 then (Q (-9) μ) else (rg (μ 4 5 i) ∧ (if (μ 4 5 i) ≤ x1 then (Q (-9) μ) else (if (μ 4 5 i) ≤ 60 then (wpJ9_floorMod_7cf53 G (((μ 4 4 i) - 1) - x1) 60 μ (fun v6 μ7 => rg x2 ∧ (if x2 = 0 then (0 ≤ v6 ∧ (v6 < 60 ∧ (Q (μ7 11 0 (60 * i + v6)) μ7))) else (if x2 = 1 then (0 ≤ v6 ∧ (v6 < 60 ∧ (Q (μ7 12 0 (60 * i + v6)) μ7))) else (if x2 = 2 then (0 ≤ v6 ∧ (v6 < 60 ∧ (Q (μ7 13 0 (60 * i + v6)) μ7))) else (0 ≤ v6 ∧ (v6 < 60 ∧ (Q (μ7 14 0 (60 * i + v6)) μ7)))))))) else (Q (-9) μ)))))
set_option maxRecDepth 100000 in
set_option maxHeartbeats 4000000 in
theorem wX3_entry {G : GG} {Q : Int → MM → Prop} {i : Int} {x1 : Int} {x2 : Int} {μ : MM} {H : Heap} {locs : List Loc} {ls : Array Slot} (F : CallFix p m c cX3_entry 4 s args uw RX3) (hA : ∀ q : Nat, s.heap.size ≤ q → A q) (hR : 1 ≤ R.frames ∧ 22 ≤ R.locals) (ret : RetI p l e R s m args below meth c cX3_entry Qf (dmC G) (cfC G) tyC (exC G) D cy ad A Q) (h : wpX3_entry G i x1 x2 μ Q) (hi_i : 0 ≤ i ∧ i < 4) (hw : wdC G D cy ad A μ s H) (hS : va_S A s.heap H locs) (hl : lv_has ls 4 [(0, .ref (ad 4 i)), (1, .int (iI x1)), (2, .int (iI x2))]) : W p l e R s m args below meth c H locs 0 0 Qf (F0 m 0 ls []) := by
  have hx := F.1
  have hb := F.2.1
  have hown := F.2.2.2.1
  have hts := F.2.2.2.2
  refine lv_iload_n hx hb dX3_entry_0 rfl (lv_at hl 1 rfl) ?_
  obtain ⟨g1, h⟩ := h
  refine q_if_lt (tgt := 21) hx hb g1 dX3_entry_1 (by decide) (fun c2 => ?_) (fun c2 => ?_)
  · have h := ite_t c2 h
    refine q_bipush hx hb (by decide) dX3_entry_21 ?_
    exact ret _ _ _ _ _ _ h hw hS dX3_entry_23
  · have h := ite_f c2 h
    refine lv_iload_n hx hb dX3_entry_4 rfl (lv_at hl 1 rfl) ?_
    refine lv_aload_n hx hb dX3_entry_5 rfl (lv_at hl 0 rfl) ?_
    refine gC_L_size F hw hi_i tw1_147 dX3_entry_6 ?_
    obtain ⟨g3, h⟩ := h
    refine q_icmp_ge (tgt := 21) hx hb g1 g3 dX3_entry_9 (by decide) (fun c4 => ?_) (fun c4 => ?_)
    · have h := ite_t c4 h
      refine q_bipush hx hb (by decide) dX3_entry_21 ?_
      exact ret _ _ _ _ _ _ h hw hS dX3_entry_23
    · have h := ite_f c4 h
      refine lv_aload_n hx hb dX3_entry_12 rfl (lv_at hl 0 rfl) ?_
      refine gC_L_size F hw hi_i tw1_147 dX3_entry_13 ?_
      refine q_bipush hx hb (by decide) dX3_entry_16 ?_
      refine q_icmp_le (tgt := 24) hx hb g3 (by decide) dX3_entry_18 (by decide) (fun c5 => ?_) (fun c5 => ?_)
      · have h := ite_t c5 h
        refine lv_aload_n hx hb dX3_entry_24 rfl (lv_at hl 0 rfl) ?_
        refine gC_L_next F hw hi_i tw1_146 dX3_entry_25 ?_
        refine q_iconst hx hb dX3_entry_28 ?_
        refine q_isub hx hb dX3_entry_29 ?_
        refine lv_iload_n hx hb dX3_entry_30 rfl (lv_at hl 1 rfl) ?_
        refine q_isub hx hb dX3_entry_31 ?_
        refine q_bipush hx hb (by decide) dX3_entry_32 ?_
        refine call_S hexC F (kJ9_floorMod_7cf53 h) 2 tw3_165 tw1_13 tw3_164 tw4_56 hdJ9_floorMod_7cf53 ⟨Nat.le_trans (by decide) hR.1, Nat.le_trans (by decide) hR.2⟩ hA hw hS rfl hl.1 rfl (Nat.le_of_ble_eq_true rfl) dX3_entry_34 (fun v6 μ7 H locs h hw hS => ?_)
        refine lv_istore_n (lv' := [(3, .int (iI v6)), (0, .ref (ad 4 i)), (1, .int (iI x1)), (2, .int (iI x2))]) hx hb dX3_entry_37 rfl hl (by decide) rfl (fun ls hl => ?_)
        refine lv_iload_n hx hb dX3_entry_38 rfl (lv_at hl 3 rfl) ?_
        obtain ⟨g8, h⟩ := h
        by_cases c9 : x2 = 0
        · have h := ite_t c9 h
          refine q_tswIn (tgt := 64) hx hb g8 dX3_entry_39 0 (by rw [c9]; decide) (by decide) rfl (by decide) ?_
          refine lv_aload_n hx hb dX3_entry_64 rfl (lv_at hl 1 rfl) ?_
          refine gC_L_when F hw hi_i tw1_142 dX3_entry_65 ?_
          refine lv_iload_n hx hb dX3_entry_68 rfl (lv_at hl 0 rfl) ?_
          obtain ⟨g10, h⟩ := h
          obtain ⟨g11, h⟩ := h
          refine aC_11_ld hx hb hw hi_i g10 g11 dX3_entry_69 ?_
          exact ret _ _ _ _ _ _ h hw hS dX3_entry_70
        · have h := ite_f c9 h
          by_cases c12 : x2 = 1
          · have h := ite_t c12 h
            refine q_tswIn (tgt := 71) hx hb g8 dX3_entry_39 1 (by rw [c12]; decide) (by decide) rfl (by decide) ?_
            refine lv_aload_n hx hb dX3_entry_71 rfl (lv_at hl 1 rfl) ?_
            refine gC_L_which F hw hi_i tw1_143 dX3_entry_72 ?_
            refine lv_iload_n hx hb dX3_entry_75 rfl (lv_at hl 0 rfl) ?_
            obtain ⟨g13, h⟩ := h
            obtain ⟨g14, h⟩ := h
            refine aC_12_ld hx hb hw hi_i g13 g14 dX3_entry_76 ?_
            exact ret _ _ _ _ _ _ h hw hS dX3_entry_77
          · have h := ite_f c12 h
            by_cases c15 : x2 = 2
            · have h := ite_t c15 h
              refine q_tswIn (tgt := 78) hx hb g8 dX3_entry_39 2 (by rw [c15]; decide) (by decide) rfl (by decide) ?_
              refine lv_aload_n hx hb dX3_entry_78 rfl (lv_at hl 1 rfl) ?_
              refine gC_L_strokes F hw hi_i tw1_144 dX3_entry_79 ?_
              refine lv_iload_n hx hb dX3_entry_82 rfl (lv_at hl 0 rfl) ?_
              obtain ⟨g16, h⟩ := h
              obtain ⟨g17, h⟩ := h
              refine aC_13_ld hx hb hw hi_i g16 g17 dX3_entry_83 ?_
              exact ret _ _ _ _ _ _ h hw hS dX3_entry_84
            · have h := ite_f c15 h
              refine q_tswOut (tgt := 85) hx hb g8 dX3_entry_39 (by omega) (by decide) ?_
              refine lv_aload_n hx hb dX3_entry_85 rfl (lv_at hl 1 rfl) ?_
              refine gC_L_hammers F hw hi_i tw1_145 dX3_entry_86 ?_
              refine lv_iload_n hx hb dX3_entry_89 rfl (lv_at hl 0 rfl) ?_
              obtain ⟨g18, h⟩ := h
              obtain ⟨g19, h⟩ := h
              refine aC_14_ld hx hb hw hi_i g18 g19 dX3_entry_90 ?_
              exact ret _ _ _ _ _ _ h hw hS dX3_entry_91
      · have h := ite_f c5 h
        refine q_bipush hx hb (by decide) dX3_entry_21 ?_
        exact ret _ _ _ _ _ _ h hw hS dX3_entry_23
set_option maxRecDepth 100000 in
set_option maxHeartbeats 4000000 in
theorem kX3_entry {l : Launch} {D : va_G} {cy : Nat → ClassId} {ad : AD} {A : Nat → Prop} {G : GG} {i : Int} {x1 : Int} {x2 : Int} {μ : MM} {Q : Int → MM → Prop} (h : wpX3_entry G i x1 x2 μ Q) (hi_i : 0 ≤ i ∧ i < 4) : Met l yX3_entry (Cond.code yX3_entry cX3_entry 4 (some .int) :: uw) (rmm 1 22) (wPc [.ref (ad 4 i), .int (iI x1), .int (iI x2)] (dmC G) (cfC G) tyC (exC G) D cy ad A μ) (wQ vI Q (dmC G) (cfC G) D cy ad A) 0 0 A :=
  met_of (by decide) (Nat.le_of_ble_eq_true rfl) (fun p e R s m args below meth c ls hr hk hRR F hA hw hS hl => wX3_entry F hA (by subst hRR; exact ⟨Nat.le_refl _, Nat.le_refl _⟩) (retI_of F hr hk) h hi_i hw hS hl)
theorem hdX3_entry : yX3_entry.cls ≠ "java/lang/invoke/MethodHandle" ∧ yX3_entry.cls ≠ "java/lang/invoke/VarHandle" ∧ (parseMethodDescriptor yX3_entry.desc).map (fun d => d.parameters.length) = some 2 := by decide +kernel
def wpX10_mixTower_J20 (G : GG) (Q : Int → MM → Prop) (x1 : Int) (μ : MM) : Prop := wpX10_mix G x1 (-1) μ (fun v1 μ2 => Q v1 μ2)
set_option maxRecDepth 100000 in
set_option maxHeartbeats 4000000 in
theorem wX10_mixTower_J20 {G : GG} {Q : Int → MM → Prop} {x1 : Int} {μ : MM} {H : Heap} {locs : List Loc} {ls : Array Slot} (F : CallFix p m c cX10_mixTower 6 s args uw RX10) (hA : ∀ q : Nat, s.heap.size ≤ q → A q) (hR : 3 ≤ R.frames ∧ 67 ≤ R.locals) (ret : RetL p l e R s m args below meth c cX10_mixTower Qf (dmC G) (cfC G) tyC (exC G) D cy ad A Q) (h : wpX10_mixTower_J20 G Q x1 μ) (hw : wdC G D cy ad A μ s H) (hS : va_S A s.heap H locs) (hl : lv_has ls 6 [(1, .long (lJ x1))]) : W p l e R s m args below meth c H locs 0 0 Qf (F0 m 20 ls []) := by
  have hx := F.1
  have hb := F.2.1
  have hown := F.2.2.2.1
  have hts := F.2.2.2.2
  refine lv_lload_n hx hb dX10_mixTower_20 rfl (lv_at hl 0 rfl) ?_
  refine q_ldc2 (n := -1) hx hb hown (hts _ tw5_127) (by decide) dX10_mixTower_21 ?_
  refine call_S hexC F (kX10_mix h) 2 tw5_113 tw1_1 tw5_112 tw5_111 hdX10_mix ⟨Nat.le_trans (by decide) hR.1, Nat.le_trans (by decide) hR.2⟩ hA hw hS rfl hl.1 rfl (Nat.le_of_ble_eq_true rfl) dX10_mixTower_24 (fun v1 μ2 H locs h hw hS => ?_)
  exact ret _ _ _ _ _ _ h hw hS dX10_mixTower_27
def wpX10_mixTower_J108 (G : GG) (k74 : Int → Int → Int → MM → Prop) (Q : Int → MM → Prop) (x4 : Int) (x5 : Int) (t0 : Int) (t1 : Int) (μ : MM) : Prop := wpX10_mix G t0 t1 μ (fun v1 μ2 => k74 v1 x4 (x5 + 1) μ2)
set_option maxRecDepth 100000 in
set_option maxHeartbeats 4000000 in
theorem wX10_mixTower_J108 {G : GG} {k74 : Int → Int → Int → MM → Prop} {Q : Int → MM → Prop} {x4 : Int} {x5 : Int} {t0 : Int} {t1 : Int} {μ : MM} {H : Heap} {locs : List Loc} {ls : Array Slot} (F : CallFix p m c cX10_mixTower 6 s args uw RX10) (hA : ∀ q : Nat, s.heap.size ≤ q → A q) (hR : 3 ≤ R.frames ∧ 67 ≤ R.locals) (ret : RetL p l e R s m args below meth c cX10_mixTower Qf (dmC G) (cfC G) tyC (exC G) D cy ad A Q) (hk74 : ∀ (x1' x4' x5' : Int) (μ' : MM) (H : Heap) (locs : List Loc) (ls : Array Slot), k74 x1' x4' x5' μ' → 0 ≤ x4' ∧ x4' < 4 → wdC G D cy ad A μ' s H → va_S A s.heap H locs → lv_has ls 6 [(1, .long (lJ (x1'))), (4, .ref (ad 3 (x4'))), (5, .int (iI (x5')))] → W p l e R s m args below meth c H locs 0 0 Qf (F0 m 74 ls [])) (h : wpX10_mixTower_J108 G k74 Q x4 x5 t0 t1 μ) (hi_x4 : 0 ≤ x4 ∧ x4 < 4) (hw : wdC G D cy ad A μ s H) (hS : va_S A s.heap H locs) (hl : lv_has ls 6 [(4, .ref (ad 3 x4)), (5, .int (iI x5))]) : W p l e R s m args below meth c H locs 0 0 Qf (F0 m 108 ls [.long (lJ t1), .long (lJ t0)]) := by
  have hx := F.1
  have hb := F.2.1
  have hown := F.2.2.2.1
  have hts := F.2.2.2.2
  refine call_S hexC F (kX10_mix h) 2 tw5_113 tw1_1 tw5_112 tw5_111 hdX10_mix ⟨Nat.le_trans (by decide) hR.1, Nat.le_trans (by decide) hR.2⟩ hA hw hS rfl hl.1 rfl (Nat.le_of_ble_eq_true rfl) dX10_mixTower_108 (fun v1 μ2 H locs h hw hS => ?_)
  refine lv_lstore_n (lv' := [(1, .long (lJ v1)), (4, .ref (ad 3 x4)), (5, .int (iI x5))]) hx hb dX10_mixTower_111 rfl hl (by decide) rfl (fun ls hl => ?_)
  refine q_iinc (k := 2) (lv' := [(5, .int (iI (x5 + 1))), (1, .long (lJ v1)), (4, .ref (ad 3 x4))]) hx hb dX10_mixTower_112 hl rfl (by decide) rfl (fun ls hl => ?_)
  refine lv_goto (tgt := 74) hx hb dX10_mixTower_115 (by decide) ?_
  exact hk74 v1 x4 (x5 + 1) _ _ _ _ h hi_x4 hw hS (lv_sub hl [1, 2, 0] rfl)
def wpX10_mixTower_L74 (G : GG) (Q : Int → MM → Prop) : Nat → Int → Int → Int → MM → Prop
  | 0, _, _, _, _ => False
  | n + 1, x1, x4, x5, μ => rg x5 ∧ (if 3 < x5 then (Q x1 μ) else (rg (μ 4 5 x4) ∧ (if (μ 4 5 x4) = 0 then (wpX10_mixTower_J108 G (fun x1' x4' x5' μ' => wpX10_mixTower_L74 G Q n x1' x4' x5' μ') Q x4 x5 x1 0 μ) else (wpX3_entry G x4 0 x5 μ (fun v5 μ6 => rg v5 ∧ (wpX10_mixTower_J108 G (fun x1' x4' x5' μ' => wpX10_mixTower_L74 G Q n x1' x4' x5' μ') Q x4 x5 x1 v5 μ6))))))
set_option maxRecDepth 100000 in
set_option maxHeartbeats 4000000 in
theorem wX10_mixTower_L74 {G : GG} {Q : Int → MM → Prop} (F : CallFix p m c cX10_mixTower 6 s args uw RX10) (hA : ∀ q : Nat, s.heap.size ≤ q → A q) (hR : 3 ≤ R.frames ∧ 67 ≤ R.locals) (ret : RetL p l e R s m args below meth c cX10_mixTower Qf (dmC G) (cfC G) tyC (exC G) D cy ad A Q) : ∀ (n : Nat) (x1 x4 x5 : Int) (μ : MM) (H : Heap) (locs : List Loc) (ls : Array Slot), wpX10_mixTower_L74 G Q n x1 x4 x5 μ → 0 ≤ x4 ∧ x4 < 4 → wdC G D cy ad A μ s H → va_S A s.heap H locs → lv_has ls 6 [(1, .long (lJ x1)), (4, .ref (ad 3 x4)), (5, .int (iI x5))] → W p l e R s m args below meth c H locs 0 0 Qf (F0 m 74 ls []) := by
  have hx := F.1
  have hb := F.2.1
  have hown := F.2.2.2.1
  have hts := F.2.2.2.2
  intro n
  induction n with
  | zero =>
    intro x1 x4 x5 μ H locs ls h hi_x4 hw hS hl
    exact h.elim
  | succ n ih =>
    intro x1 x4 x5 μ H locs ls h hi_x4 hw hS hl
    refine lv_iload hx hb dX10_mixTower_74 (lv_at hl 2 rfl) ?_
    refine q_iconst hx hb dX10_mixTower_76 ?_
    obtain ⟨g1, h⟩ := h
    refine q_icmp_gt (tgt := 118) hx hb g1 (by decide) dX10_mixTower_77 (by decide) (fun c2 => ?_) (fun c2 => ?_)
    · have h := ite_t c2 h
      refine lv_lload_n hx hb dX10_mixTower_118 rfl (lv_at hl 0 rfl) ?_
      exact ret _ _ _ _ _ _ h hw hS dX10_mixTower_119
    · have h := ite_f c2 h
      refine lv_lload_n hx hb dX10_mixTower_80 rfl (lv_at hl 0 rfl) ?_
      refine lv_aload hx hb dX10_mixTower_81 (lv_at hl 1 rfl) ?_
      refine gC_W_log F hw hi_x4 tw1_180 dX10_mixTower_83 ?_
      refine gC_L_size F hw hi_x4 tw1_148 dX10_mixTower_86 ?_
      obtain ⟨g3, h⟩ := h
      refine q_if_ne (tgt := 96) hx hb g3 dX10_mixTower_89 (by decide) (fun c4 => ?_) (fun c4 => ?_)
      · have h := ite_f c4 h
        refine lv_aload hx hb dX10_mixTower_96 (lv_at hl 1 rfl) ?_
        refine gC_W_log F hw hi_x4 tw1_180 dX10_mixTower_98 ?_
        refine q_iconst hx hb dX10_mixTower_101 ?_
        refine lv_iload hx hb dX10_mixTower_102 (lv_at hl 2 rfl) ?_
        refine call_V hexC F (kX3_entry h hi_x4) 2 tw4_55 tw1_7 tw4_53 tw4_54 tw4_52 hdX3_entry ⟨Nat.le_trans (by decide) hR.1, Nat.le_trans (by decide) hR.2⟩ (hw.recv (k := 4) (i := x4) hi_x4 rfl rfl) hA hw hS rfl hl.1 rfl (Nat.le_of_ble_eq_true rfl) dX10_mixTower_104 (fun v5 μ6 H locs h hw hS => ?_)
        obtain ⟨g7, h⟩ := h
        refine q_i2l hx hb g7 dX10_mixTower_107 ?_
        exact wX10_mixTower_J108 F hA hR ret (fun x1 x4 x5 => ih x1 x4 x5) h hi_x4 hw hS (lv_sub hl [1, 2] rfl)
      · have h := ite_t c4 h
        refine q_lconst (v := 0) hx hb (by decide) dX10_mixTower_92 ?_
        refine lv_goto (tgt := 108) hx hb dX10_mixTower_93 (by decide) ?_
        exact wX10_mixTower_J108 F hA hR ret (fun x1 x4 x5 => ih x1 x4 x5) h hi_x4 hw hS (lv_sub hl [1, 2] rfl)
def wpX10_mixTower_L31 (G : GG) (Q : Int → MM → Prop) : Nat → Int → Int → Int → Int → MM → Prop
  | 0, _, _, _, _, _ => False
  | n + 1, x1, x3, x4, x5, μ => rg x5 ∧ (if 8 < x5 then (rg (μ 4 5 x4) ∧ (wpX10_mix G x1 (μ 4 5 x4) μ (fun v4 μ5 => ∃ n6 : Nat, wpX10_mixTower_L74 G Q n6 v4 x4 0 μ5))) else (wpX10_tells G x3 x5 μ (fun v7 μ8 => rg v7 ∧ (wpX10_mix G x1 v7 μ8 (fun v10 μ11 => wpX10_mixTower_L31 G Q n v10 x3 x4 (x5 + 1) μ11)))))
set_option maxRecDepth 100000 in
set_option maxHeartbeats 4000000 in
theorem wX10_mixTower_L31 {G : GG} {Q : Int → MM → Prop} (F : CallFix p m c cX10_mixTower 6 s args uw RX10) (hA : ∀ q : Nat, s.heap.size ≤ q → A q) (hR : 3 ≤ R.frames ∧ 67 ≤ R.locals) (ret : RetL p l e R s m args below meth c cX10_mixTower Qf (dmC G) (cfC G) tyC (exC G) D cy ad A Q) : ∀ (n : Nat) (x1 x3 x4 x5 : Int) (μ : MM) (H : Heap) (locs : List Loc) (ls : Array Slot), wpX10_mixTower_L31 G Q n x1 x3 x4 x5 μ → 0 ≤ x4 ∧ x4 < 4 → wdC G D cy ad A μ s H → va_S A s.heap H locs → lv_has ls 6 [(0, .ref (ad 0 0)), (1, .long (lJ x1)), (3, .int (iI x3)), (4, .ref (ad 3 x4)), (5, .int (iI x5))] → W p l e R s m args below meth c H locs 0 0 Qf (F0 m 31 ls []) := by
  have hx := F.1
  have hb := F.2.1
  have hown := F.2.2.2.1
  have hts := F.2.2.2.2
  intro n
  induction n with
  | zero =>
    intro x1 x3 x4 x5 μ H locs ls h hi_x4 hw hS hl
    exact h.elim
  | succ n ih =>
    intro x1 x3 x4 x5 μ H locs ls h hi_x4 hw hS hl
    refine lv_iload hx hb dX10_mixTower_31 (lv_at hl 4 rfl) ?_
    refine q_bipush hx hb (by decide) dX10_mixTower_33 ?_
    obtain ⟨g1, h⟩ := h
    refine q_icmp_gt (tgt := 57) hx hb g1 (by decide) dX10_mixTower_35 (by decide) (fun c2 => ?_) (fun c2 => ?_)
    · have h := ite_t c2 h
      refine lv_lload_n hx hb dX10_mixTower_57 rfl (lv_at hl 1 rfl) ?_
      refine lv_aload hx hb dX10_mixTower_58 (lv_at hl 3 rfl) ?_
      refine gC_W_log F hw hi_x4 tw1_180 dX10_mixTower_60 ?_
      refine gC_L_size F hw hi_x4 tw1_148 dX10_mixTower_63 ?_
      obtain ⟨g3, h⟩ := h
      refine q_i2l hx hb g3 dX10_mixTower_66 ?_
      refine call_S hexC F (kX10_mix h) 2 tw5_113 tw1_1 tw5_112 tw5_111 hdX10_mix ⟨Nat.le_trans (by decide) hR.1, Nat.le_trans (by decide) hR.2⟩ hA hw hS rfl hl.1 rfl (Nat.le_of_ble_eq_true rfl) dX10_mixTower_67 (fun v4 μ5 H locs h hw hS => ?_)
      refine lv_lstore_n (lv' := [(1, .long (lJ v4)), (0, .ref (ad 0 0)), (3, .int (iI x3)), (4, .ref (ad 3 x4)), (5, .int (iI x5))]) hx hb dX10_mixTower_70 rfl hl (by decide) rfl (fun ls hl => ?_)
      refine q_iconst hx hb dX10_mixTower_71 ?_
      refine lv_istore (lv' := [(5, .int (iI 0)), (1, .long (lJ v4)), (0, .ref (ad 0 0)), (3, .int (iI x3)), (4, .ref (ad 3 x4))]) hx hb dX10_mixTower_72 hl (by decide) rfl (fun ls hl => ?_)
      obtain ⟨n6, h⟩ := h
      exact wX10_mixTower_L74 F hA hR ret n6 v4 x4 0 _ _ _ _ h hi_x4 hw hS (lv_sub hl [1, 4, 0] rfl)
    · have h := ite_f c2 h
      refine lv_lload_n hx hb dX10_mixTower_38 rfl (lv_at hl 1 rfl) ?_
      refine lv_aload_n hx hb dX10_mixTower_39 rfl (lv_at hl 0 rfl) ?_
      refine lv_iload_n hx hb dX10_mixTower_40 rfl (lv_at hl 2 rfl) ?_
      refine lv_iload hx hb dX10_mixTower_41 (lv_at hl 4 rfl) ?_
      refine call_V hexC F (kX10_tells h) 2 tw4_38 tw1_1 tw4_36 tw4_37 tw5_128 hdX10_tells ⟨Nat.le_trans (by decide) hR.1, Nat.le_trans (by decide) hR.2⟩ (hw.recv (k := 0) (i := 0) rfl rfl rfl) hA hw hS rfl hl.1 rfl (Nat.le_of_ble_eq_true rfl) dX10_mixTower_43 (fun v7 μ8 H locs h hw hS => ?_)
      obtain ⟨g9, h⟩ := h
      refine q_i2l hx hb g9 dX10_mixTower_46 ?_
      refine call_S hexC F (kX10_mix h) 2 tw5_113 tw1_1 tw5_112 tw5_111 hdX10_mix ⟨Nat.le_trans (by decide) hR.1, Nat.le_trans (by decide) hR.2⟩ hA hw hS rfl hl.1 rfl (Nat.le_of_ble_eq_true rfl) dX10_mixTower_47 (fun v10 μ11 H locs h hw hS => ?_)
      refine lv_lstore_n (lv' := [(1, .long (lJ v10)), (0, .ref (ad 0 0)), (3, .int (iI x3)), (4, .ref (ad 3 x4)), (5, .int (iI x5))]) hx hb dX10_mixTower_50 rfl hl (by decide) rfl (fun ls hl => ?_)
      refine q_iinc (k := 4) (lv' := [(5, .int (iI (x5 + 1))), (1, .long (lJ v10)), (0, .ref (ad 0 0)), (3, .int (iI x3)), (4, .ref (ad 3 x4))]) hx hb dX10_mixTower_51 hl rfl (by decide) rfl (fun ls hl => ?_)
      refine lv_goto (tgt := 31) hx hb dX10_mixTower_54 (by decide) ?_
      exact ih v10 x3 x4 (x5 + 1) _ _ _ _ h hi_x4 hw hS (lv_sub hl [2, 1, 3, 4, 0] rfl)
def wpX10_mixTower (G : GG) (x1 : Int) (x3 : Int) (μ : MM) (Q : Int → MM → Prop) : Prop := wpX10_towerOf G x3 μ (fun v1 μ2 => if v1 < 0 then (wpX10_mixTower_J20 G Q x1 μ2) else (v1 < 4 ∧ (rg (μ2 3 0 v1) ∧ (if (μ2 3 0 v1) = 0 then (wpX10_mixTower_J20 G Q x1 μ2) else (∃ n8 : Nat, wpX10_mixTower_L31 G Q n8 x1 x3 v1 0 μ2)))))
set_option maxRecDepth 100000 in
set_option maxHeartbeats 4000000 in
theorem wX10_mixTower {G : GG} {Q : Int → MM → Prop} {x1 : Int} {x3 : Int} {μ : MM} {H : Heap} {locs : List Loc} {ls : Array Slot} (F : CallFix p m c cX10_mixTower 6 s args uw RX10) (hA : ∀ q : Nat, s.heap.size ≤ q → A q) (hR : 3 ≤ R.frames ∧ 67 ≤ R.locals) (ret : RetL p l e R s m args below meth c cX10_mixTower Qf (dmC G) (cfC G) tyC (exC G) D cy ad A Q) (h : wpX10_mixTower G x1 x3 μ Q) (hw : wdC G D cy ad A μ s H) (hS : va_S A s.heap H locs) (hl : lv_has ls 6 [(0, .ref (ad 0 0)), (1, .long (lJ x1)), (3, .int (iI x3))]) : W p l e R s m args below meth c H locs 0 0 Qf (F0 m 0 ls []) := by
  have hx := F.1
  have hb := F.2.1
  have hown := F.2.2.2.1
  have hts := F.2.2.2.2
  refine lv_aload_n hx hb dX10_mixTower_0 rfl (lv_at hl 0 rfl) ?_
  refine lv_iload_n hx hb dX10_mixTower_1 rfl (lv_at hl 2 rfl) ?_
  refine call_V hexC F (kX10_towerOf h) 1 tw3_99 tw1_1 tw3_98 tws1_5 tw3_96 hdX10_towerOf ⟨Nat.le_trans (by decide) hR.1, Nat.le_trans (by decide) hR.2⟩ (hw.recv (k := 0) (i := 0) rfl rfl rfl) hA hw hS rfl hl.1 rfl (Nat.le_of_ble_eq_true rfl) dX10_mixTower_2 (fun v1 μ2 H locs h hw hS => ?_)
  refine q_astore (lv' := [(4, rf ad 3 v1), (0, .ref (ad 0 0)), (1, .long (lJ x1)), (3, .int (iI x3))]) hx hb dX10_mixTower_5 hl (by decide) rfl (fun ls hl => ?_)
  refine q_aload hx hb dX10_mixTower_7 (lv_at hl 0 rfl) ?_
  refine q_ifnull (tgt := 20) hx hb dX10_mixTower_9 (by decide) (fun c3 => ?_) (fun c3 => ?_)
  · have h := ite_t c3 h
    exact wX10_mixTower_J20 F hA hR ret h hw hS (lv_sub hl [2] rfl)
  · have h := ite_f c3 h
    obtain ⟨g4, h⟩ := h
    have hi5 : 0 ≤ v1 ∧ v1 < 4 := ⟨by omega, g4⟩
    have hl : lv_has ls 6 [(4, .ref (ad 3 v1)), (0, .ref (ad 0 0)), (1, .long (lJ x1)), (3, .int (iI x3))] := by rw [← rf_pos (ad := ad) (k := 3) hi5.1]; exact hl
    refine lv_aload hx hb dX10_mixTower_12 (lv_at hl 0 rfl) ?_
    refine gC_W_there F hw hi5 tw1_163 dX10_mixTower_14 ?_
    obtain ⟨g6, h⟩ := h
    refine q_if_ne (tgt := 28) hx hb g6 dX10_mixTower_17 (by decide) (fun c7 => ?_) (fun c7 => ?_)
    · have h := ite_f c7 h
      refine q_iconst hx hb dX10_mixTower_28 ?_
      refine lv_istore (lv' := [(5, .int (iI 0)), (4, .ref (ad 3 v1)), (0, .ref (ad 0 0)), (1, .long (lJ x1)), (3, .int (iI x3))]) hx hb dX10_mixTower_29 hl (by decide) rfl (fun ls hl => ?_)
      obtain ⟨n8, h⟩ := h
      exact wX10_mixTower_L31 F hA hR ret n8 x1 x3 v1 0 _ _ _ _ h hi5 hw hS (lv_sub hl [2, 3, 4, 1, 0] rfl)
    · have h := ite_t c7 h
      exact wX10_mixTower_J20 F hA hR ret h hw hS (lv_sub hl [2] rfl)
set_option maxRecDepth 100000 in
set_option maxHeartbeats 4000000 in
theorem kX10_mixTower {l : Launch} {D : va_G} {cy : Nat → ClassId} {ad : AD} {A : Nat → Prop} {G : GG} {x1 : Int} {x3 : Int} {μ : MM} {Q : Int → MM → Prop} (h : wpX10_mixTower G x1 x3 μ Q) : Met l yX10_mixTower (Cond.code yX10_mixTower cX10_mixTower 6 (some .long) :: uw) (rmm 3 67) (wPc [.ref (ad 0 0), .long (lJ x1), .int (iI x3)] (dmC G) (cfC G) tyC (exC G) D cy ad A μ) (wQ vL Q (dmC G) (cfC G) D cy ad A) 0 0 A :=
  met_of (by decide) (Nat.le_of_ble_eq_true rfl) (fun p e R s m args below meth c ls hr hk hRR F hA hw hS hl => wX10_mixTower F hA (by subst hRR; exact ⟨Nat.le_refl _, Nat.le_refl _⟩) (retL_of F hr hk) h hw hS hl)
theorem hdX10_mixTower : yX10_mixTower.cls ≠ "java/lang/invoke/MethodHandle" ∧ yX10_mixTower.cls ≠ "java/lang/invoke/VarHandle" ∧ (parseMethodDescriptor yX10_mixTower.desc).map (fun d => d.parameters.length) = some 2 := by decide +kernel
def wpX10_mixAll_9_L2 (G : GG) (Q : Int → MM → Prop) : Nat → Int → Int → Int → MM → Prop
  | 0, _, _, _, _ => False
  | n + 1, x0, x2, x3, μ => rg x3 ∧ (rg (G 2 x2) ∧ (if (G 2 x2) ≤ x3 then (Q x0 μ) else (0 ≤ x3 ∧ (x3 < G 2 x2 ∧ (rg (μ 9 0 (24 * x2 + x3)) ∧ (wpX10_mix G x0 (μ 9 0 (24 * x2 + x3)) μ (fun v7 μ8 => wpX10_mixAll_9_L2 G Q n v7 x2 (x3 + 1) μ8)))))))
set_option maxRecDepth 100000 in
set_option maxHeartbeats 4000000 in
theorem wX10_mixAll_9_L2 {G : GG} {Q : Int → MM → Prop} (F : CallFix p m c cX10_mixAll 4 s args uw RX10) (hA : ∀ q : Nat, s.heap.size ≤ q → A q) (hR : 1 ≤ R.frames ∧ 23 ≤ R.locals) (ret : RetL p l e R s m args below meth c cX10_mixAll Qf (dmC G) (cfC G) tyC (exC G) D cy ad A Q) : ∀ (n : Nat) (x0 x2 x3 : Int) (μ : MM) (H : Heap) (locs : List Loc) (ls : Array Slot), wpX10_mixAll_9_L2 G Q n x0 x2 x3 μ → 0 ≤ x2 ∧ x2 < G 0 0 → wdC G D cy ad A μ s H → va_S A s.heap H locs → lv_has ls 4 [(0, .long (lJ x0)), (2, .ref (ad 9 x2)), (3, .int (iI x3))] → W p l e R s m args below meth c H locs 0 0 Qf (F0 m 2 ls []) := by
  have hx := F.1
  have hb := F.2.1
  have hown := F.2.2.2.1
  have hts := F.2.2.2.2
  intro n
  induction n with
  | zero =>
    intro x0 x2 x3 μ H locs ls h hi_x2 hw hS hl
    exact h.elim
  | succ n ih =>
    intro x0 x2 x3 μ H locs ls h hi_x2 hw hS hl
    refine lv_iload_n hx hb dX10_mixAll_2 rfl (lv_at hl 2 rfl) ?_
    refine lv_aload_n hx hb dX10_mixAll_3 rfl (lv_at hl 1 rfl) ?_
    refine aC_9_ln hx hb hw hi_x2 dX10_mixAll_4 ?_
    obtain ⟨g1, h⟩ := h
    obtain ⟨g2, h⟩ := h
    refine q_icmp_ge (tgt := 23) hx hb g1 g2 dX10_mixAll_5 (by decide) (fun c3 => ?_) (fun c3 => ?_)
    · have h := ite_t c3 h
      refine lv_lload_n hx hb dX10_mixAll_23 rfl (lv_at hl 0 rfl) ?_
      exact ret _ _ _ _ _ _ h hw hS dX10_mixAll_24
    · have h := ite_f c3 h
      refine lv_lload_n hx hb dX10_mixAll_8 rfl (lv_at hl 0 rfl) ?_
      refine lv_aload_n hx hb dX10_mixAll_9 rfl (lv_at hl 1 rfl) ?_
      refine lv_iload_n hx hb dX10_mixAll_10 rfl (lv_at hl 2 rfl) ?_
      obtain ⟨g4, h⟩ := h
      obtain ⟨g5, h⟩ := h
      refine aC_9_ld hx hb hw hi_x2 g4 g5 dX10_mixAll_11 ?_
      obtain ⟨g6, h⟩ := h
      refine q_i2l hx hb g6 dX10_mixAll_12 ?_
      refine call_S hexC F (kX10_mix h) 2 tw5_113 tw1_1 tw5_112 tw5_111 hdX10_mix ⟨Nat.le_trans (by decide) hR.1, Nat.le_trans (by decide) hR.2⟩ hA hw hS rfl hl.1 rfl (Nat.le_of_ble_eq_true rfl) dX10_mixAll_13 (fun v7 μ8 H locs h hw hS => ?_)
      refine lv_lstore_n (lv' := [(0, .long (lJ v7)), (2, .ref (ad 9 x2)), (3, .int (iI x3))]) hx hb dX10_mixAll_16 rfl hl (by decide) rfl (fun ls hl => ?_)
      refine q_iinc (k := 2) (lv' := [(3, .int (iI (x3 + 1))), (0, .long (lJ v7)), (2, .ref (ad 9 x2))]) hx hb dX10_mixAll_17 hl rfl (by decide) rfl (fun ls hl => ?_)
      refine lv_goto (tgt := 2) hx hb dX10_mixAll_20 (by decide) ?_
      exact ih v7 x2 (x3 + 1) _ _ _ _ h hi_x2 hw hS (lv_sub hl [1, 2, 0] rfl)
def wpX10_mixAll_9 (G : GG) (x0 : Int) (x2 : Int) (μ : MM) (Q : Int → MM → Prop) : Prop := ∃ n1 : Nat, wpX10_mixAll_9_L2 G Q n1 x0 x2 0 μ
set_option maxRecDepth 100000 in
set_option maxHeartbeats 4000000 in
theorem wX10_mixAll_9 {G : GG} {Q : Int → MM → Prop} {x0 : Int} {x2 : Int} {μ : MM} {H : Heap} {locs : List Loc} {ls : Array Slot} (F : CallFix p m c cX10_mixAll 4 s args uw RX10) (hA : ∀ q : Nat, s.heap.size ≤ q → A q) (hR : 1 ≤ R.frames ∧ 23 ≤ R.locals) (ret : RetL p l e R s m args below meth c cX10_mixAll Qf (dmC G) (cfC G) tyC (exC G) D cy ad A Q) (h : wpX10_mixAll_9 G x0 x2 μ Q) (hi_x2 : 0 ≤ x2 ∧ x2 < G 0 0) (hw : wdC G D cy ad A μ s H) (hS : va_S A s.heap H locs) (hl : lv_has ls 4 [(0, .long (lJ x0)), (2, .ref (ad 9 x2))]) : W p l e R s m args below meth c H locs 0 0 Qf (F0 m 0 ls []) := by
  have hx := F.1
  have hb := F.2.1
  have hown := F.2.2.2.1
  have hts := F.2.2.2.2
  refine q_iconst hx hb dX10_mixAll_0 ?_
  refine lv_istore_n (lv' := [(3, .int (iI 0)), (0, .long (lJ x0)), (2, .ref (ad 9 x2))]) hx hb dX10_mixAll_1 rfl hl (by decide) rfl (fun ls hl => ?_)
  obtain ⟨n1, h⟩ := h
  exact wX10_mixAll_9_L2 F hA hR ret n1 x0 x2 0 _ _ _ _ h hi_x2 hw hS (lv_sub hl [1, 2, 0] rfl)
set_option maxRecDepth 100000 in
set_option maxHeartbeats 4000000 in
theorem kX10_mixAll_9 {l : Launch} {D : va_G} {cy : Nat → ClassId} {ad : AD} {A : Nat → Prop} {G : GG} {x0 : Int} {x2 : Int} {μ : MM} {Q : Int → MM → Prop} (h : wpX10_mixAll_9 G x0 x2 μ Q) (hi_x2 : 0 ≤ x2 ∧ x2 < G 0 0) : Met l yX10_mixAll (Cond.code yX10_mixAll cX10_mixAll 4 (some .long) :: uw) (rmm 1 23) (wPc [.long (lJ x0), .ref (ad 9 x2)] (dmC G) (cfC G) tyC (exC G) D cy ad A μ) (wQ vL Q (dmC G) (cfC G) D cy ad A) 0 0 A :=
  met_of (by decide) (Nat.le_of_ble_eq_true rfl) (fun p e R s m args below meth c ls hr hk hRR F hA hw hS hl => wX10_mixAll_9 F hA (by subst hRR; exact ⟨Nat.le_refl _, Nat.le_refl _⟩) (retL_of F hr hk) h hi_x2 hw hS hl)
def wpX10_mixAll_10_L2 (G : GG) (Q : Int → MM → Prop) : Nat → Int → Int → Int → MM → Prop
  | 0, _, _, _, _ => False
  | n + 1, x0, x2, x3, μ => rg x3 ∧ (rg (G 3 x2) ∧ (if (G 3 x2) ≤ x3 then (Q x0 μ) else (0 ≤ x3 ∧ (x3 < G 3 x2 ∧ (rg (μ 10 0 (48 * x2 + x3)) ∧ (wpX10_mix G x0 (μ 10 0 (48 * x2 + x3)) μ (fun v7 μ8 => wpX10_mixAll_10_L2 G Q n v7 x2 (x3 + 1) μ8)))))))
set_option maxRecDepth 100000 in
set_option maxHeartbeats 4000000 in
theorem wX10_mixAll_10_L2 {G : GG} {Q : Int → MM → Prop} (F : CallFix p m c cX10_mixAll 4 s args uw RX10) (hA : ∀ q : Nat, s.heap.size ≤ q → A q) (hR : 1 ≤ R.frames ∧ 23 ≤ R.locals) (ret : RetL p l e R s m args below meth c cX10_mixAll Qf (dmC G) (cfC G) tyC (exC G) D cy ad A Q) : ∀ (n : Nat) (x0 x2 x3 : Int) (μ : MM) (H : Heap) (locs : List Loc) (ls : Array Slot), wpX10_mixAll_10_L2 G Q n x0 x2 x3 μ → (0 ≤ x2 ∧ x2 < G 0 0) ∧ G 1 x2 = 3 → wdC G D cy ad A μ s H → va_S A s.heap H locs → lv_has ls 4 [(0, .long (lJ x0)), (2, .ref (ad 10 x2)), (3, .int (iI x3))] → W p l e R s m args below meth c H locs 0 0 Qf (F0 m 2 ls []) := by
  have hx := F.1
  have hb := F.2.1
  have hown := F.2.2.2.1
  have hts := F.2.2.2.2
  intro n
  induction n with
  | zero =>
    intro x0 x2 x3 μ H locs ls h hi_x2 hw hS hl
    exact h.elim
  | succ n ih =>
    intro x0 x2 x3 μ H locs ls h hi_x2 hw hS hl
    refine lv_iload_n hx hb dX10_mixAll_2 rfl (lv_at hl 2 rfl) ?_
    refine lv_aload_n hx hb dX10_mixAll_3 rfl (lv_at hl 1 rfl) ?_
    refine aC_10_ln hx hb hw (hi_x2).1 (hi_x2).2 dX10_mixAll_4 ?_
    obtain ⟨g1, h⟩ := h
    obtain ⟨g2, h⟩ := h
    refine q_icmp_ge (tgt := 23) hx hb g1 g2 dX10_mixAll_5 (by decide) (fun c3 => ?_) (fun c3 => ?_)
    · have h := ite_t c3 h
      refine lv_lload_n hx hb dX10_mixAll_23 rfl (lv_at hl 0 rfl) ?_
      exact ret _ _ _ _ _ _ h hw hS dX10_mixAll_24
    · have h := ite_f c3 h
      refine lv_lload_n hx hb dX10_mixAll_8 rfl (lv_at hl 0 rfl) ?_
      refine lv_aload_n hx hb dX10_mixAll_9 rfl (lv_at hl 1 rfl) ?_
      refine lv_iload_n hx hb dX10_mixAll_10 rfl (lv_at hl 2 rfl) ?_
      obtain ⟨g4, h⟩ := h
      obtain ⟨g5, h⟩ := h
      refine aC_10_ld hx hb hw (hi_x2).1 (hi_x2).2 g4 g5 dX10_mixAll_11 ?_
      obtain ⟨g6, h⟩ := h
      refine q_i2l hx hb g6 dX10_mixAll_12 ?_
      refine call_S hexC F (kX10_mix h) 2 tw5_113 tw1_1 tw5_112 tw5_111 hdX10_mix ⟨Nat.le_trans (by decide) hR.1, Nat.le_trans (by decide) hR.2⟩ hA hw hS rfl hl.1 rfl (Nat.le_of_ble_eq_true rfl) dX10_mixAll_13 (fun v7 μ8 H locs h hw hS => ?_)
      refine lv_lstore_n (lv' := [(0, .long (lJ v7)), (2, .ref (ad 10 x2)), (3, .int (iI x3))]) hx hb dX10_mixAll_16 rfl hl (by decide) rfl (fun ls hl => ?_)
      refine q_iinc (k := 2) (lv' := [(3, .int (iI (x3 + 1))), (0, .long (lJ v7)), (2, .ref (ad 10 x2))]) hx hb dX10_mixAll_17 hl rfl (by decide) rfl (fun ls hl => ?_)
      refine lv_goto (tgt := 2) hx hb dX10_mixAll_20 (by decide) ?_
      exact ih v7 x2 (x3 + 1) _ _ _ _ h hi_x2 hw hS (lv_sub hl [1, 2, 0] rfl)
def wpX10_mixAll_10 (G : GG) (x0 : Int) (x2 : Int) (μ : MM) (Q : Int → MM → Prop) : Prop := ∃ n1 : Nat, wpX10_mixAll_10_L2 G Q n1 x0 x2 0 μ
set_option maxRecDepth 100000 in
set_option maxHeartbeats 4000000 in
theorem wX10_mixAll_10 {G : GG} {Q : Int → MM → Prop} {x0 : Int} {x2 : Int} {μ : MM} {H : Heap} {locs : List Loc} {ls : Array Slot} (F : CallFix p m c cX10_mixAll 4 s args uw RX10) (hA : ∀ q : Nat, s.heap.size ≤ q → A q) (hR : 1 ≤ R.frames ∧ 23 ≤ R.locals) (ret : RetL p l e R s m args below meth c cX10_mixAll Qf (dmC G) (cfC G) tyC (exC G) D cy ad A Q) (h : wpX10_mixAll_10 G x0 x2 μ Q) (hi_x2 : (0 ≤ x2 ∧ x2 < G 0 0) ∧ G 1 x2 = 3) (hw : wdC G D cy ad A μ s H) (hS : va_S A s.heap H locs) (hl : lv_has ls 4 [(0, .long (lJ x0)), (2, .ref (ad 10 x2))]) : W p l e R s m args below meth c H locs 0 0 Qf (F0 m 0 ls []) := by
  have hx := F.1
  have hb := F.2.1
  have hown := F.2.2.2.1
  have hts := F.2.2.2.2
  refine q_iconst hx hb dX10_mixAll_0 ?_
  refine lv_istore_n (lv' := [(3, .int (iI 0)), (0, .long (lJ x0)), (2, .ref (ad 10 x2))]) hx hb dX10_mixAll_1 rfl hl (by decide) rfl (fun ls hl => ?_)
  obtain ⟨n1, h⟩ := h
  exact wX10_mixAll_10_L2 F hA hR ret n1 x0 x2 0 _ _ _ _ h hi_x2 hw hS (lv_sub hl [1, 2, 0] rfl)
set_option maxRecDepth 100000 in
set_option maxHeartbeats 4000000 in
theorem kX10_mixAll_10 {l : Launch} {D : va_G} {cy : Nat → ClassId} {ad : AD} {A : Nat → Prop} {G : GG} {x0 : Int} {x2 : Int} {μ : MM} {Q : Int → MM → Prop} (h : wpX10_mixAll_10 G x0 x2 μ Q) (hi_x2 : (0 ≤ x2 ∧ x2 < G 0 0) ∧ G 1 x2 = 3) : Met l yX10_mixAll (Cond.code yX10_mixAll cX10_mixAll 4 (some .long) :: uw) (rmm 1 23) (wPc [.long (lJ x0), .ref (ad 10 x2)] (dmC G) (cfC G) tyC (exC G) D cy ad A μ) (wQ vL Q (dmC G) (cfC G) D cy ad A) 0 0 A :=
  met_of (by decide) (Nat.le_of_ble_eq_true rfl) (fun p e R s m args below meth c ls hr hk hRR F hA hw hS hl => wX10_mixAll_10 F hA (by subst hRR; exact ⟨Nat.le_refl _, Nat.le_refl _⟩) (retL_of F hr hk) h hi_x2 hw hS hl)
theorem hdX10_mixAll : yX10_mixAll.cls ≠ "java/lang/invoke/MethodHandle" ∧ yX10_mixAll.cls ≠ "java/lang/invoke/VarHandle" ∧ (parseMethodDescriptor yX10_mixAll.desc).map (fun d => d.parameters.length) = some 2 := by decide +kernel
def wpX4_stand (G : GG) (i : Int) (μ : MM) (Q : Int → MM → Prop) : Prop := Q (μ 2 14 i) μ
set_option maxRecDepth 100000 in
set_option maxHeartbeats 4000000 in
theorem wX4_stand {G : GG} {Q : Int → MM → Prop} {i : Int} {μ : MM} {H : Heap} {locs : List Loc} {ls : Array Slot} (F : CallFix p m c cX4_stand 1 s args uw RX4) (hA : ∀ q : Nat, s.heap.size ≤ q → A q) (hR : 0 ≤ R.frames ∧ 0 ≤ R.locals) (ret : RetI p l e R s m args below meth c cX4_stand Qf (dmC G) (cfC G) tyC (exC G) D cy ad A Q) (h : wpX4_stand G i μ Q) (hi_i : 0 ≤ i ∧ i < G 0 0) (hc_i : G 1 i = 1 ∨ G 1 i = 3) (hw : wdC G D cy ad A μ s H) (hS : va_S A s.heap H locs) (hl : lv_has ls 1 [(0, .ref (ad 2 i))]) : W p l e R s m args below meth c H locs 0 0 Qf (F0 m 0 ls []) := by
  have hx := F.1
  have hb := F.2.1
  have hown := F.2.2.2.1
  have hts := F.2.2.2.2
  refine lv_aload_n hx hb dX4_stand_0 rfl (lv_at hl 0 rfl) ?_
  refine gC_T_at F hw hi_i hc_i tw2_172 (fun _ h => h) dX4_stand_1 ?_
  exact ret _ _ _ _ _ _ h hw hS dX4_stand_4
set_option maxRecDepth 100000 in
set_option maxHeartbeats 4000000 in
theorem kX4_stand {l : Launch} {D : va_G} {cy : Nat → ClassId} {ad : AD} {A : Nat → Prop} {G : GG} {i : Int} {μ : MM} {Q : Int → MM → Prop} (h : wpX4_stand G i μ Q) (hi_i : 0 ≤ i ∧ i < G 0 0) (hc_i : G 1 i = 1 ∨ G 1 i = 3) : Met l yX4_stand (Cond.code yX4_stand cX4_stand 1 (some .int) :: uw) (rmm 0 0) (wPc [.ref (ad 2 i)] (dmC G) (cfC G) tyC (exC G) D cy ad A μ) (wQ vI Q (dmC G) (cfC G) D cy ad A) 0 0 A :=
  met_of (by decide) (Nat.le_of_ble_eq_true rfl) (fun p e R s m args below meth c ls hr hk hRR F hA hw hS hl => wX4_stand F hA (by subst hRR; exact ⟨Nat.le_refl _, Nat.le_refl _⟩) (retI_of F hr hk) h hi_i hc_i hw hS hl)
theorem hdX4_stand : yX4_stand.cls ≠ "java/lang/invoke/MethodHandle" ∧ yX4_stand.cls ≠ "java/lang/invoke/VarHandle" ∧ (parseMethodDescriptor yX4_stand.desc).map (fun d => d.parameters.length) = some 0 := by decide +kernel
def wpX9_stand (G : GG) (i : Int) (μ : MM) (Q : Int → MM → Prop) : Prop := Q (-9) μ
set_option maxRecDepth 100000 in
set_option maxHeartbeats 4000000 in
theorem wX9_stand {G : GG} {Q : Int → MM → Prop} {i : Int} {μ : MM} {H : Heap} {locs : List Loc} {ls : Array Slot} (F : CallFix p m c cX9_stand 1 s args uw RX9) (hA : ∀ q : Nat, s.heap.size ≤ q → A q) (hR : 0 ≤ R.frames ∧ 0 ≤ R.locals) (ret : RetI p l e R s m args below meth c cX9_stand Qf (dmC G) (cfC G) tyC (exC G) D cy ad A Q) (h : wpX9_stand G i μ Q) (hi_i : 0 ≤ i ∧ i < G 0 0) (hw : wdC G D cy ad A μ s H) (hS : va_S A s.heap H locs) (hl : lv_has ls 1 [(0, .ref (ad 2 i))]) : W p l e R s m args below meth c H locs 0 0 Qf (F0 m 0 ls []) := by
  have hx := F.1
  have hb := F.2.1
  have hown := F.2.2.2.1
  have hts := F.2.2.2.2
  refine q_bipush hx hb (by decide) dX9_stand_0 ?_
  exact ret _ _ _ _ _ _ h hw hS dX9_stand_2
set_option maxRecDepth 100000 in
set_option maxHeartbeats 4000000 in
theorem kX9_stand {l : Launch} {D : va_G} {cy : Nat → ClassId} {ad : AD} {A : Nat → Prop} {G : GG} {i : Int} {μ : MM} {Q : Int → MM → Prop} (h : wpX9_stand G i μ Q) (hi_i : 0 ≤ i ∧ i < G 0 0) : Met l yX9_stand (Cond.code yX9_stand cX9_stand 1 (some .int) :: uw) (rmm 0 0) (wPc [.ref (ad 2 i)] (dmC G) (cfC G) tyC (exC G) D cy ad A μ) (wQ vI Q (dmC G) (cfC G) D cy ad A) 0 0 A :=
  met_of (by decide) (Nat.le_of_ble_eq_true rfl) (fun p e R s m args below meth c ls hr hk hRR F hA hw hS hl => wX9_stand F hA (by subst hRR; exact ⟨Nat.le_refl _, Nat.le_refl _⟩) (retI_of F hr hk) h hi_i hw hS hl)
theorem hdX9_stand : yX9_stand.cls ≠ "java/lang/invoke/MethodHandle" ∧ yX9_stand.cls ≠ "java/lang/invoke/VarHandle" ∧ (parseMethodDescriptor yX9_stand.desc).map (fun d => d.parameters.length) = some 0 := by decide +kernel
def wpD_stand (G : GG) (i : Int) (μ : MM) (Q : Int → MM → Prop) : Prop := if G 1 i = 0 then wpX9_stand G i μ Q else if G 1 i = 1 then wpX4_stand G i μ Q else if G 1 i = 2 then wpX9_stand G i μ Q else wpX4_stand G i μ Q
set_option maxRecDepth 100000 in
set_option maxHeartbeats 4000000 in
theorem dc_Train_stand {G : GG} {i : Int} {μ : MM} {Q : Int → MM → Prop} {H : Heap} {locs : List Loc} {cc : ByteArray} {pc nL idx : Nat} {ls : Array Slot} {rest st0 : List Value} {own : String} (F : CallFix p m c cc nL s args uw own) (hl : Cond.methodLink own idx yX9_stand ∈ uw) (h : wpD_stand G i μ Q) (hi : 0 ≤ i ∧ i < G 0 0) (hR : 1 ≤ R.frames ∧ 20 ≤ R.locals) (hA : ∀ q : Nat, s.heap.size ≤ q → A q) (hw : wdC G D cy ad A μ s H) (hS : va_S A s.heap H locs) (hsz : ls.size = nL) (hst0 : st0 = ([] : List Value).reverse ++ .ref (ad 2 i) :: rest) (hrm : (rest.map fun v => v.category).sum ≤ 8) (hdg : decode cc pc = .ok (.invokevirtual idx, 3)) (kk : ∀ (v : Int) (u : MM) (H1 : Heap) (locs1 : List Loc), Q v u → wdC G D cy ad A u s H1 → va_S A s.heap H1 locs1 → W p l e R s m args below meth c H1 locs1 0 0 Qf (F0 m (pc + 3) ls ((vI v).toList ++ rest))) : W p l e R s m args below meth c H locs 0 0 Qf (F0 m pc ls st0) := by
  have hG := (hw.2.1.2.1 i hi.1 hi.2).1
  rcases (show G 1 i = 0 ∨ G 1 i = 1 ∨ G 1 i = 2 ∨ G 1 i = 3 by omega) with q | q | q | q
  · have h := ite_t q h
    exact call_V hexC F (kX9_stand h hi) 0 tw3_41 tw1_11 tw3_33 tw3_34 hl hdX9_stand ⟨Nat.le_trans (by decide) hR.1, Nat.le_trans (by decide) hR.2⟩ (recvT hw hi (C := RX9) (Or.inl ⟨q, rfl⟩)) hA hw hS rfl hsz hst0 hrm hdg kk
  · have h := ite_f (show ¬ G 1 i = 0 by omega) h
    have h := ite_t q h
    exact call_U (owner := "HammerTowers$Train") (x := yX9_stand) hexC F (kX4_stand h hi (by omega)) 0 tw3_38 tw1_12 tw3_37 tw3_39 hl tw3_35 tw3_33 tw3_41 (by decide +kernel) ⟨Nat.le_trans (by decide) hR.1, Nat.le_trans (by decide) hR.2⟩ (recvT hw hi (C := RX4) (Or.inr (Or.inl ⟨q, rfl⟩))) hA hw hS rfl hsz hst0 hrm hdg kk
  · have h := ite_f (show ¬ G 1 i = 0 by omega) h
    have h := ite_f (show ¬ G 1 i = 1 by omega) h
    have h := ite_t q h
    exact call_U (owner := "HammerTowers$Train") (x := yX9_stand) hexC F (kX9_stand h hi) 0 tw3_41 tw1_11 tw3_33 tw3_40 hl tw3_35 tw3_33 tw3_41 (by decide +kernel) ⟨Nat.le_trans (by decide) hR.1, Nat.le_trans (by decide) hR.2⟩ (recvT hw hi (C := RX7) (Or.inr (Or.inr (Or.inl ⟨q, rfl⟩)))) hA hw hS rfl hsz hst0 hrm hdg kk
  · have h := ite_f (show ¬ G 1 i = 0 by omega) h
    have h := ite_f (show ¬ G 1 i = 1 by omega) h
    have h := ite_f (show ¬ G 1 i = 2 by omega) h
    exact call_U (owner := "HammerTowers$Train") (x := yX9_stand) hexC F (kX4_stand h hi (by omega)) 0 tw3_38 tw1_12 tw3_37 tw3_36 hl tw3_35 tw3_33 tw3_41 (by decide +kernel) ⟨Nat.le_trans (by decide) hR.1, Nat.le_trans (by decide) hR.2⟩ (recvT hw hi (C := RX0) (Or.inr (Or.inr (Or.inr ⟨q, rfl⟩)))) hA hw hS rfl hsz hst0 hrm hdg kk
def wpX10_told (G : GG) (x1 : Int) (x2 : Int) (μ : MM) (Q : Int → MM → Prop) : Prop := wpX10_trainOf G x1 μ (fun v1 μ2 => if v1 < 0 then (Q (-1) μ2) else (v1 < G 0 0 ∧ (rg x2 ∧ (if x2 = 0 then (Q (G 1 v1) μ2) else (if x2 = 1 then (Q (G 2 v1) μ2) else (if x2 = 2 then (wpD_stand G v1 μ2 (fun v10 μ11 => Q v10 μ11)) else (if x2 = 3 then (Q (μ2 2 3 v1) μ2) else (if x2 = 4 then (Q (μ2 2 5 v1) μ2) else (if x2 = 5 then (Q (μ2 2 7 v1) μ2) else (if x2 = 6 then (Q (μ2 2 9 v1) μ2) else (if x2 = 7 then (Q (μ2 2 8 v1) μ2) else (Q (-1) μ2))))))))))))
set_option maxRecDepth 100000 in
set_option maxHeartbeats 4000000 in
theorem wX10_told {G : GG} {Q : Int → MM → Prop} {x1 : Int} {x2 : Int} {μ : MM} {H : Heap} {locs : List Loc} {ls : Array Slot} (F : CallFix p m c cX10_told 4 s args uw RX10) (hA : ∀ q : Nat, s.heap.size ≤ q → A q) (hR : 1 ≤ R.frames ∧ 21 ≤ R.locals) (ret : RetI p l e R s m args below meth c cX10_told Qf (dmC G) (cfC G) tyC (exC G) D cy ad A Q) (h : wpX10_told G x1 x2 μ Q) (hw : wdC G D cy ad A μ s H) (hS : va_S A s.heap H locs) (hl : lv_has ls 4 [(0, .ref (ad 0 0)), (1, .int (iI x1)), (2, .int (iI x2))]) : W p l e R s m args below meth c H locs 0 0 Qf (F0 m 0 ls []) := by
  have hx := F.1
  have hb := F.2.1
  have hown := F.2.2.2.1
  have hts := F.2.2.2.2
  refine lv_aload_n hx hb dX10_told_0 rfl (lv_at hl 0 rfl) ?_
  refine lv_iload_n hx hb dX10_told_1 rfl (lv_at hl 1 rfl) ?_
  refine call_V hexC F (kX10_trainOf h) 1 tw3_18 tw1_1 tw3_17 tws1_4 tw3_15 hdX10_trainOf ⟨Nat.le_trans (by decide) hR.1, Nat.le_trans (by decide) hR.2⟩ (hw.recv (k := 0) (i := 0) rfl rfl rfl) hA hw hS rfl hl.1 rfl (Nat.le_of_ble_eq_true rfl) dX10_told_2 (fun v1 μ2 H locs h hw hS => ?_)
  refine q_astore_n (lv' := [(3, rf ad 2 v1), (0, .ref (ad 0 0)), (1, .int (iI x1)), (2, .int (iI x2))]) hx hb dX10_told_5 rfl hl (by decide) rfl (fun ls hl => ?_)
  refine q_aload_n hx hb dX10_told_6 rfl (lv_at hl 0 rfl) ?_
  refine q_ifnonnull (tgt := 12) hx hb dX10_told_7 (by decide) (fun c3 => ?_) (fun c3 => ?_)
  · have h := ite_t c3 h
    refine q_iconst hx hb dX10_told_10 ?_
    exact ret _ _ _ _ _ _ h hw hS dX10_told_11
  · have h := ite_f c3 h
    obtain ⟨g4, h⟩ := h
    have hi5 : 0 ≤ v1 ∧ v1 < G 0 0 := ⟨by omega, g4⟩
    have hl : lv_has ls 4 [(3, .ref (ad 2 v1)), (0, .ref (ad 0 0)), (1, .int (iI x1)), (2, .int (iI x2))] := by rw [← rf_pos (ad := ad) (k := 2) hi5.1]; exact hl
    refine lv_iload_n hx hb dX10_told_12 rfl (lv_at hl 3 rfl) ?_
    obtain ⟨g6, h⟩ := h
    by_cases c7 : x2 = 0
    · have h := ite_t c7 h
      refine q_tswIn (tgt := 60) hx hb g6 dX10_told_13 0 (by rw [c7]; decide) (by decide) rfl (by decide) ?_
      refine lv_aload_n hx hb dX10_told_60 rfl (lv_at hl 0 rfl) ?_
      refine gC_T_kind F hw hi5 tw2_73 (fun _ h => h) dX10_told_61 ?_
      exact ret _ _ _ _ _ _ h hw hS dX10_told_64
    · have h := ite_f c7 h
      by_cases c8 : x2 = 1
      · have h := ite_t c8 h
        refine q_tswIn (tgt := 65) hx hb g6 dX10_told_13 1 (by rw [c8]; decide) (by decide) rfl (by decide) ?_
        refine lv_aload_n hx hb dX10_told_65 rfl (lv_at hl 0 rfl) ?_
        refine gC_T_strokes F hw hi5 tw2_77 (fun _ h => h) dX10_told_66 ?_
        refine aC_9_ln hx hb hw hi5 dX10_told_69 ?_
        exact ret _ _ _ _ _ _ h hw hS dX10_told_70
      · have h := ite_f c8 h
        by_cases c9 : x2 = 2
        · have h := ite_t c9 h
          refine q_tswIn (tgt := 71) hx hb g6 dX10_told_13 2 (by rw [c9]; decide) (by decide) rfl (by decide) ?_
          refine lv_aload_n hx hb dX10_told_71 rfl (lv_at hl 0 rfl) ?_
          refine dc_Train_stand F tw3_32 h hi5 ⟨Nat.le_trans (by decide) hR.1, Nat.le_trans (by decide) hR.2⟩ hA hw hS hl.1 rfl (Nat.le_of_ble_eq_true rfl) dX10_told_72 (fun v10 μ11 H locs h hw hS => ?_)
          exact ret _ _ _ _ _ _ h hw hS dX10_told_75
        · have h := ite_f c9 h
          by_cases c12 : x2 = 3
          · have h := ite_t c12 h
            refine q_tswIn (tgt := 76) hx hb g6 dX10_told_13 3 (by rw [c12]; decide) (by decide) rfl (by decide) ?_
            refine lv_aload_n hx hb dX10_told_76 rfl (lv_at hl 0 rfl) ?_
            refine gC_T_pace F hw hi5 tw2_80 (fun _ h => h) dX10_told_77 ?_
            exact ret _ _ _ _ _ _ h hw hS dX10_told_80
          · have h := ite_f c12 h
            by_cases c13 : x2 = 4
            · have h := ite_t c13 h
              refine q_tswIn (tgt := 81) hx hb g6 dX10_told_13 4 (by rw [c13]; decide) (by decide) rfl (by decide) ?_
              refine lv_aload_n hx hb dX10_told_81 rfl (lv_at hl 0 rfl) ?_
              refine gC_T_weight F hw hi5 tw2_85 (fun _ h => h) dX10_told_82 ?_
              exact ret _ _ _ _ _ _ h hw hS dX10_told_85
            · have h := ite_f c13 h
              by_cases c14 : x2 = 5
              · have h := ite_t c14 h
                refine q_tswIn (tgt := 86) hx hb g6 dX10_told_13 5 (by rw [c14]; decide) (by decide) rfl (by decide) ?_
                refine lv_aload_n hx hb dX10_told_86 rfl (lv_at hl 0 rfl) ?_
                refine gC_T_due F hw hi5 tw2_93 (fun _ h => h) dX10_told_87 ?_
                exact ret _ _ _ _ _ _ h hw hS dX10_told_90
              · have h := ite_f c14 h
                by_cases c15 : x2 = 6
                · have h := ite_t c15 h
                  refine q_tswIn (tgt := 91) hx hb g6 dX10_told_13 6 (by rw [c15]; decide) (by decide) rfl (by decide) ?_
                  refine lv_aload_n hx hb dX10_told_91 rfl (lv_at hl 0 rfl) ?_
                  refine gC_T_tower F hw hi5 tw2_99 (fun _ h => h) dX10_told_92 ?_
                  exact ret _ _ _ _ _ _ h hw hS dX10_told_95
                · have h := ite_f c15 h
                  by_cases c16 : x2 = 7
                  · have h := ite_t c16 h
                    refine q_tswIn (tgt := 96) hx hb g6 dX10_told_13 7 (by rw [c16]; decide) (by decide) rfl (by decide) ?_
                    refine lv_aload_n hx hb dX10_told_96 rfl (lv_at hl 0 rfl) ?_
                    refine gC_T_struck F hw hi5 tw2_96 (fun _ h => h) dX10_told_97 ?_
                    exact ret _ _ _ _ _ _ h hw hS dX10_told_100
                  · have h := ite_f c16 h
                    refine q_tswOut (tgt := 101) hx hb g6 dX10_told_13 (by omega) (by decide) ?_
                    refine q_iconst hx hb dX10_told_101 ?_
                    exact ret _ _ _ _ _ _ h hw hS dX10_told_102
set_option maxRecDepth 100000 in
set_option maxHeartbeats 4000000 in
theorem kX10_told {l : Launch} {D : va_G} {cy : Nat → ClassId} {ad : AD} {A : Nat → Prop} {G : GG} {x1 : Int} {x2 : Int} {μ : MM} {Q : Int → MM → Prop} (h : wpX10_told G x1 x2 μ Q) : Met l yX10_told (Cond.code yX10_told cX10_told 4 (some .int) :: uw) (rmm 1 21) (wPc [.ref (ad 0 0), .int (iI x1), .int (iI x2)] (dmC G) (cfC G) tyC (exC G) D cy ad A μ) (wQ vI Q (dmC G) (cfC G) D cy ad A) 0 0 A :=
  met_of (by decide) (Nat.le_of_ble_eq_true rfl) (fun p e R s m args below meth c ls hr hk hRR F hA hw hS hl => wX10_told F hA (by subst hRR; exact ⟨Nat.le_refl _, Nat.le_refl _⟩) (retI_of F hr hk) h hw hS hl)
theorem hdX10_told : yX10_told.cls ≠ "java/lang/invoke/MethodHandle" ∧ yX10_told.cls ≠ "java/lang/invoke/VarHandle" ∧ (parseMethodDescriptor yX10_told.desc).map (fun d => d.parameters.length) = some 2 := by decide +kernel
def wpX10_mixTrain_L17 (G : GG) (Q : Int → MM → Prop) : Nat → Int → Int → Int → Int → MM → Prop
  | 0, _, _, _, _, _ => False
  | n + 1, x1, x3, x4, x5, μ => rg x5 ∧ (if 7 < x5 then (wpX10_mixAll_9 G x1 x4 μ (fun v3 μ4 => if G 1 x4 = 3 then (wpX10_mixAll_10 G v3 x4 μ4 (fun v6 μ7 => rg (μ7 2 16 x4) ∧ (wpX10_mix G v6 (μ7 2 16 x4) μ7 (fun v9 μ10 => Q v9 μ10)))) else (Q v3 μ4))) else (wpX10_told G x3 x5 μ (fun v11 μ12 => rg v11 ∧ (wpX10_mix G x1 v11 μ12 (fun v14 μ15 => wpX10_mixTrain_L17 G Q n v14 x3 x4 (x5 + 1) μ15)))))
set_option maxRecDepth 100000 in
set_option maxHeartbeats 4000000 in
theorem wX10_mixTrain_L17 {G : GG} {Q : Int → MM → Prop} (F : CallFix p m c cX10_mixTrain 6 s args uw RX10) (hA : ∀ q : Nat, s.heap.size ≤ q → A q) (hR : 2 ≤ R.frames ∧ 46 ≤ R.locals) (ret : RetL p l e R s m args below meth c cX10_mixTrain Qf (dmC G) (cfC G) tyC (exC G) D cy ad A Q) : ∀ (n : Nat) (x1 x3 x4 x5 : Int) (μ : MM) (H : Heap) (locs : List Loc) (ls : Array Slot), wpX10_mixTrain_L17 G Q n x1 x3 x4 x5 μ → 0 ≤ x4 ∧ x4 < G 0 0 → wdC G D cy ad A μ s H → va_S A s.heap H locs → lv_has ls 6 [(0, .ref (ad 0 0)), (1, .long (lJ x1)), (3, .int (iI x3)), (4, .ref (ad 2 x4)), (5, .int (iI x5))] → W p l e R s m args below meth c H locs 0 0 Qf (F0 m 17 ls []) := by
  have hx := F.1
  have hb := F.2.1
  have hown := F.2.2.2.1
  have hts := F.2.2.2.2
  intro n
  induction n with
  | zero =>
    intro x1 x3 x4 x5 μ H locs ls h hi_x4 hw hS hl
    exact h.elim
  | succ n ih =>
    intro x1 x3 x4 x5 μ H locs ls h hi_x4 hw hS hl
    refine lv_iload hx hb dX10_mixTrain_17 (lv_at hl 4 rfl) ?_
    refine q_bipush hx hb (by decide) dX10_mixTrain_19 ?_
    obtain ⟨g1, h⟩ := h
    refine q_icmp_gt (tgt := 43) hx hb g1 (by decide) dX10_mixTrain_21 (by decide) (fun c2 => ?_) (fun c2 => ?_)
    · have h := ite_t c2 h
      refine lv_lload_n hx hb dX10_mixTrain_43 rfl (lv_at hl 1 rfl) ?_
      refine lv_aload hx hb dX10_mixTrain_44 (lv_at hl 3 rfl) ?_
      refine gC_T_strokes F hw hi_x4 tw2_77 (fun _ h => h) dX10_mixTrain_46 ?_
      refine call_S hexC F (kX10_mixAll_9 h hi_x4) 2 tw5_122 tw1_1 tw5_121 tw5_120 hdX10_mixAll ⟨Nat.le_trans (by decide) hR.1, Nat.le_trans (by decide) hR.2⟩ hA hw hS rfl hl.1 rfl (Nat.le_of_ble_eq_true rfl) dX10_mixTrain_49 (fun v3 μ4 H locs h hw hS => ?_)
      refine lv_lstore_n (lv' := [(1, .long (lJ v3)), (0, .ref (ad 0 0)), (3, .int (iI x3)), (4, .ref (ad 2 x4)), (5, .int (iI x5))]) hx hb dX10_mixTrain_52 rfl hl (by decide) rfl (fun ls hl => ?_)
      refine lv_aload hx hb dX10_mixTrain_53 (lv_at hl 3 rfl) ?_
      refine inst_Barrel F hw hi_x4 tw2_221 dX10_mixTrain_55 (fun c5 => ?_) (fun c5 => ?_)
      · refine q_if_eq (tgt := 87) hx hb (by decide) dX10_mixTrain_58 (by decide) (fun q => absurd q (by decide)) (fun q => ?_)
        have h := ite_t c5 h
        refine lv_aload hx hb dX10_mixTrain_61 (lv_at hl 3 rfl) ?_
        refine cast_Barrel F hw hi_x4 c5 tw2_221 dX10_mixTrain_63 ?_
        refine lv_astore (lv' := [(5, .ref (ad 2 x4)), (1, .long (lJ v3)), (0, .ref (ad 0 0)), (3, .int (iI x3)), (4, .ref (ad 2 x4))]) hx hb dX10_mixTrain_66 hl (by decide) rfl (fun ls hl => ?_)
        refine lv_lload_n hx hb dX10_mixTrain_68 rfl (lv_at hl 1 rfl) ?_
        refine lv_aload hx hb dX10_mixTrain_69 (lv_at hl 0 rfl) ?_
        refine gC_T_pins F hw hi_x4 c5 tw2_228 (fun _ h => h) dX10_mixTrain_71 ?_
        refine call_S hexC F (kX10_mixAll_10 h (And.intro hi_x4 c5)) 2 tw5_122 tw1_1 tw5_121 tw5_120 hdX10_mixAll ⟨Nat.le_trans (by decide) hR.1, Nat.le_trans (by decide) hR.2⟩ hA hw hS rfl hl.1 rfl (Nat.le_of_ble_eq_true rfl) dX10_mixTrain_74 (fun v6 μ7 H locs h hw hS => ?_)
        refine lv_aload hx hb dX10_mixTrain_77 (lv_at hl 0 rfl) ?_
        refine gC_T_pin F hw hi_x4 c5 tw2_230 (fun _ h => h) dX10_mixTrain_79 ?_
        obtain ⟨g8, h⟩ := h
        refine q_i2l hx hb g8 dX10_mixTrain_82 ?_
        refine call_S hexC F (kX10_mix h) 2 tw5_113 tw1_1 tw5_112 tw5_111 hdX10_mix ⟨Nat.le_trans (by decide) hR.1, Nat.le_trans (by decide) hR.2⟩ hA hw hS rfl hl.1 rfl (Nat.le_of_ble_eq_true rfl) dX10_mixTrain_83 (fun v9 μ10 H locs h hw hS => ?_)
        refine lv_lstore_n (lv' := [(1, .long (lJ v9)), (5, .ref (ad 2 x4)), (0, .ref (ad 0 0)), (3, .int (iI x3)), (4, .ref (ad 2 x4))]) hx hb dX10_mixTrain_86 rfl hl (by decide) rfl (fun ls hl => ?_)
        refine lv_lload_n hx hb dX10_mixTrain_87 rfl (lv_at hl 0 rfl) ?_
        exact ret _ _ _ _ _ _ h hw hS dX10_mixTrain_88
      · refine q_if_eq (tgt := 87) hx hb (by decide) dX10_mixTrain_58 (by decide) (fun q => ?_) (fun q => absurd rfl q)
        have h := ite_f c5 h
        refine lv_lload_n hx hb dX10_mixTrain_87 rfl (lv_at hl 0 rfl) ?_
        exact ret _ _ _ _ _ _ h hw hS dX10_mixTrain_88
    · have h := ite_f c2 h
      refine lv_lload_n hx hb dX10_mixTrain_24 rfl (lv_at hl 1 rfl) ?_
      refine lv_aload_n hx hb dX10_mixTrain_25 rfl (lv_at hl 0 rfl) ?_
      refine lv_iload_n hx hb dX10_mixTrain_26 rfl (lv_at hl 2 rfl) ?_
      refine lv_iload hx hb dX10_mixTrain_27 (lv_at hl 4 rfl) ?_
      refine call_V hexC F (kX10_told h) 2 tw3_31 tw1_1 tw3_29 tw3_30 tw5_119 hdX10_told ⟨Nat.le_trans (by decide) hR.1, Nat.le_trans (by decide) hR.2⟩ (hw.recv (k := 0) (i := 0) rfl rfl rfl) hA hw hS rfl hl.1 rfl (Nat.le_of_ble_eq_true rfl) dX10_mixTrain_29 (fun v11 μ12 H locs h hw hS => ?_)
      obtain ⟨g13, h⟩ := h
      refine q_i2l hx hb g13 dX10_mixTrain_32 ?_
      refine call_S hexC F (kX10_mix h) 2 tw5_113 tw1_1 tw5_112 tw5_111 hdX10_mix ⟨Nat.le_trans (by decide) hR.1, Nat.le_trans (by decide) hR.2⟩ hA hw hS rfl hl.1 rfl (Nat.le_of_ble_eq_true rfl) dX10_mixTrain_33 (fun v14 μ15 H locs h hw hS => ?_)
      refine lv_lstore_n (lv' := [(1, .long (lJ v14)), (0, .ref (ad 0 0)), (3, .int (iI x3)), (4, .ref (ad 2 x4)), (5, .int (iI x5))]) hx hb dX10_mixTrain_36 rfl hl (by decide) rfl (fun ls hl => ?_)
      refine q_iinc (k := 4) (lv' := [(5, .int (iI (x5 + 1))), (1, .long (lJ v14)), (0, .ref (ad 0 0)), (3, .int (iI x3)), (4, .ref (ad 2 x4))]) hx hb dX10_mixTrain_37 hl rfl (by decide) rfl (fun ls hl => ?_)
      refine lv_goto (tgt := 17) hx hb dX10_mixTrain_40 (by decide) ?_
      exact ih v14 x3 x4 (x5 + 1) _ _ _ _ h hi_x4 hw hS (lv_sub hl [2, 1, 3, 4, 0] rfl)
def wpX10_mixTrain (G : GG) (x1 : Int) (x3 : Int) (μ : MM) (Q : Int → MM → Prop) : Prop := wpX10_trainOf G x3 μ (fun v1 μ2 => if v1 < 0 then (Q x1 μ2) else (v1 < G 0 0 ∧ (∃ n6 : Nat, wpX10_mixTrain_L17 G Q n6 x1 x3 v1 0 μ2)))
set_option maxRecDepth 100000 in
set_option maxHeartbeats 4000000 in
theorem wX10_mixTrain {G : GG} {Q : Int → MM → Prop} {x1 : Int} {x3 : Int} {μ : MM} {H : Heap} {locs : List Loc} {ls : Array Slot} (F : CallFix p m c cX10_mixTrain 6 s args uw RX10) (hA : ∀ q : Nat, s.heap.size ≤ q → A q) (hR : 2 ≤ R.frames ∧ 46 ≤ R.locals) (ret : RetL p l e R s m args below meth c cX10_mixTrain Qf (dmC G) (cfC G) tyC (exC G) D cy ad A Q) (h : wpX10_mixTrain G x1 x3 μ Q) (hw : wdC G D cy ad A μ s H) (hS : va_S A s.heap H locs) (hl : lv_has ls 6 [(0, .ref (ad 0 0)), (1, .long (lJ x1)), (3, .int (iI x3))]) : W p l e R s m args below meth c H locs 0 0 Qf (F0 m 0 ls []) := by
  have hx := F.1
  have hb := F.2.1
  have hown := F.2.2.2.1
  have hts := F.2.2.2.2
  refine lv_aload_n hx hb dX10_mixTrain_0 rfl (lv_at hl 0 rfl) ?_
  refine lv_iload_n hx hb dX10_mixTrain_1 rfl (lv_at hl 2 rfl) ?_
  refine call_V hexC F (kX10_trainOf h) 1 tw3_18 tw1_1 tw3_17 tws1_4 tw3_15 hdX10_trainOf ⟨Nat.le_trans (by decide) hR.1, Nat.le_trans (by decide) hR.2⟩ (hw.recv (k := 0) (i := 0) rfl rfl rfl) hA hw hS rfl hl.1 rfl (Nat.le_of_ble_eq_true rfl) dX10_mixTrain_2 (fun v1 μ2 H locs h hw hS => ?_)
  refine q_astore (lv' := [(4, rf ad 2 v1), (0, .ref (ad 0 0)), (1, .long (lJ x1)), (3, .int (iI x3))]) hx hb dX10_mixTrain_5 hl (by decide) rfl (fun ls hl => ?_)
  refine q_aload hx hb dX10_mixTrain_7 (lv_at hl 0 rfl) ?_
  refine q_ifnonnull (tgt := 14) hx hb dX10_mixTrain_9 (by decide) (fun c3 => ?_) (fun c3 => ?_)
  · have h := ite_t c3 h
    refine lv_lload_n hx hb dX10_mixTrain_12 rfl (lv_at hl 2 rfl) ?_
    exact ret _ _ _ _ _ _ h hw hS dX10_mixTrain_13
  · have h := ite_f c3 h
    obtain ⟨g4, h⟩ := h
    have hi5 : 0 ≤ v1 ∧ v1 < G 0 0 := ⟨by omega, g4⟩
    have hl : lv_has ls 6 [(4, .ref (ad 2 v1)), (0, .ref (ad 0 0)), (1, .long (lJ x1)), (3, .int (iI x3))] := by rw [← rf_pos (ad := ad) (k := 2) hi5.1]; exact hl
    refine q_iconst hx hb dX10_mixTrain_14 ?_
    refine lv_istore (lv' := [(5, .int (iI 0)), (4, .ref (ad 2 v1)), (0, .ref (ad 0 0)), (1, .long (lJ x1)), (3, .int (iI x3))]) hx hb dX10_mixTrain_15 hl (by decide) rfl (fun ls hl => ?_)
    obtain ⟨n6, h⟩ := h
    exact wX10_mixTrain_L17 F hA hR ret n6 x1 x3 v1 0 _ _ _ _ h hi5 hw hS (lv_sub hl [2, 3, 4, 1, 0] rfl)
set_option maxRecDepth 100000 in
set_option maxHeartbeats 4000000 in
theorem kX10_mixTrain {l : Launch} {D : va_G} {cy : Nat → ClassId} {ad : AD} {A : Nat → Prop} {G : GG} {x1 : Int} {x3 : Int} {μ : MM} {Q : Int → MM → Prop} (h : wpX10_mixTrain G x1 x3 μ Q) : Met l yX10_mixTrain (Cond.code yX10_mixTrain cX10_mixTrain 6 (some .long) :: uw) (rmm 2 46) (wPc [.ref (ad 0 0), .long (lJ x1), .int (iI x3)] (dmC G) (cfC G) tyC (exC G) D cy ad A μ) (wQ vL Q (dmC G) (cfC G) D cy ad A) 0 0 A :=
  met_of (by decide) (Nat.le_of_ble_eq_true rfl) (fun p e R s m args below meth c ls hr hk hRR F hA hw hS hl => wX10_mixTrain F hA (by subst hRR; exact ⟨Nat.le_refl _, Nat.le_refl _⟩) (retL_of F hr hk) h hw hS hl)
theorem hdX10_mixTrain : yX10_mixTrain.cls ≠ "java/lang/invoke/MethodHandle" ∧ yX10_mixTrain.cls ≠ "java/lang/invoke/VarHandle" ∧ (parseMethodDescriptor yX10_mixTrain.desc).map (fun d => d.parameters.length) = some 2 := by decide +kernel
def wpX10_rowOf (G : GG) (x1 : Int) (μ : MM) (Q : Int → MM → Prop) : Prop := rg x1 ∧ (if x1 < 0 then (Q (-1) μ) else (if 8 ≤ x1 then (Q (-1) μ) else (0 ≤ x1 ∧ (x1 < 8 ∧ (Q x1 μ)))))
set_option maxRecDepth 100000 in
set_option maxHeartbeats 4000000 in
theorem wX10_rowOf {G : GG} {Q : Int → MM → Prop} {x1 : Int} {μ : MM} {H : Heap} {locs : List Loc} {ls : Array Slot} (F : CallFix p m c cX10_rowOf 2 s args uw RX10) (hA : ∀ q : Nat, s.heap.size ≤ q → A q) (hR : 0 ≤ R.frames ∧ 0 ≤ R.locals) (ret : RetR 1 p l e R s m args below meth c cX10_rowOf Qf (dmC G) (cfC G) tyC (exC G) D cy ad A Q) (h : wpX10_rowOf G x1 μ Q) (hw : wdC G D cy ad A μ s H) (hS : va_S A s.heap H locs) (hl : lv_has ls 2 [(0, .ref (ad 0 0)), (1, .int (iI x1))]) : W p l e R s m args below meth c H locs 0 0 Qf (F0 m 0 ls []) := by
  have hx := F.1
  have hb := F.2.1
  have hown := F.2.2.2.1
  have hts := F.2.2.2.2
  refine lv_iload_n hx hb dX10_rowOf_0 rfl (lv_at hl 1 rfl) ?_
  obtain ⟨g1, h⟩ := h
  refine q_if_lt (tgt := 22) hx hb g1 dX10_rowOf_1 (by decide) (fun c2 => ?_) (fun c2 => ?_)
  · have h := ite_t c2 h
    refine lv_null hx hb dX10_rowOf_22 ?_
    exact (rf_neg (ad := ad) (k := 1) (x := -1) (by decide)) ▸ ret (-1) _ _ _ _ _ h hw hS dX10_rowOf_23
  · have h := ite_f c2 h
    refine lv_iload_n hx hb dX10_rowOf_4 rfl (lv_at hl 1 rfl) ?_
    refine lv_aload_n hx hb dX10_rowOf_5 rfl (lv_at hl 0 rfl) ?_
    refine gC_H_rows F hw tw1_206 dX10_rowOf_6 ?_
    refine aC_20_ln hx hb hw dX10_rowOf_9 ?_
    refine q_icmp_ge (tgt := 22) hx hb g1 (by decide) dX10_rowOf_10 (by decide) (fun c3 => ?_) (fun c3 => ?_)
    · have h := ite_t c3 h
      refine lv_null hx hb dX10_rowOf_22 ?_
      exact (rf_neg (ad := ad) (k := 1) (x := -1) (by decide)) ▸ ret (-1) _ _ _ _ _ h hw hS dX10_rowOf_23
    · have h := ite_f c3 h
      refine lv_aload_n hx hb dX10_rowOf_13 rfl (lv_at hl 0 rfl) ?_
      refine gC_H_rows F hw tw1_206 dX10_rowOf_14 ?_
      refine lv_iload_n hx hb dX10_rowOf_17 rfl (lv_at hl 1 rfl) ?_
      obtain ⟨g4, h⟩ := h
      obtain ⟨g5, h⟩ := h
      refine aC_20_ld hx hb hw g4 g5 dX10_rowOf_18 ?_
      refine lv_goto (tgt := 23) hx hb dX10_rowOf_19 (by decide) ?_
      exact (rf_pos (ad := ad) (k := 1) ((And.intro g4 g5)).1) ▸ ret _ _ _ _ _ _ h hw hS dX10_rowOf_23
set_option maxRecDepth 100000 in
set_option maxHeartbeats 4000000 in
theorem kX10_rowOf {l : Launch} {D : va_G} {cy : Nat → ClassId} {ad : AD} {A : Nat → Prop} {G : GG} {x1 : Int} {μ : MM} {Q : Int → MM → Prop} (h : wpX10_rowOf G x1 μ Q) : Met l yX10_rowOf (Cond.code yX10_rowOf cX10_rowOf 2 (some (.object "HammerTowers$Row")) :: uw) (rmm 0 0) (wPc [.ref (ad 0 0), .int (iI x1)] (dmC G) (cfC G) tyC (exC G) D cy ad A μ) (wQ (vR ad 1) Q (dmC G) (cfC G) D cy ad A) 0 0 A :=
  met_of (by decide) (Nat.le_of_ble_eq_true rfl) (fun p e R s m args below meth c ls hr hk hRR F hA hw hS hl => wX10_rowOf F hA (by subst hRR; exact ⟨Nat.le_refl _, Nat.le_refl _⟩) (retR_of F hr hk) h hw hS hl)
theorem hdX10_rowOf : yX10_rowOf.cls ≠ "java/lang/invoke/MethodHandle" ∧ yX10_rowOf.cls ≠ "java/lang/invoke/VarHandle" ∧ (parseMethodDescriptor yX10_rowOf.desc).map (fun d => d.parameters.length) = some 1 := by decide +kernel
def wpX10_digest_L61 (G : GG) (Q : Int → MM → Prop) : Nat → Int → Int → MM → Prop
  | 0, _, _, _ => False
  | n + 1, x1, x3, μ => rg x3 ∧ (if 8 ≤ x3 then (Q x1 μ) else (wpX10_rowOf G x3 μ (fun v3 μ4 => wpX10_mixRow G x1 v3 μ4 (fun v5 μ6 => wpX10_digest_L61 G Q n v5 (x3 + 1) μ6))))
set_option maxRecDepth 100000 in
set_option maxHeartbeats 4000000 in
theorem wX10_digest_L61 {G : GG} {Q : Int → MM → Prop} (F : CallFix p m c cX10_digest 4 s args uw RX10) (hA : ∀ q : Nat, s.heap.size ≤ q → A q) (hR : 4 ≤ R.frames ∧ 92 ≤ R.locals) (ret : RetL p l e R s m args below meth c cX10_digest Qf (dmC G) (cfC G) tyC (exC G) D cy ad A Q) : ∀ (n : Nat) (x1 x3 : Int) (μ : MM) (H : Heap) (locs : List Loc) (ls : Array Slot), wpX10_digest_L61 G Q n x1 x3 μ → wdC G D cy ad A μ s H → va_S A s.heap H locs → lv_has ls 4 [(0, .ref (ad 0 0)), (1, .long (lJ x1)), (3, .int (iI x3))] → W p l e R s m args below meth c H locs 0 0 Qf (F0 m 61 ls []) := by
  have hx := F.1
  have hb := F.2.1
  have hown := F.2.2.2.1
  have hts := F.2.2.2.2
  intro n
  induction n with
  | zero =>
    intro x1 x3 μ H locs ls h hw hS hl
    exact h.elim
  | succ n ih =>
    intro x1 x3 μ H locs ls h hw hS hl
    refine lv_iload_n hx hb dX10_digest_61 rfl (lv_at hl 2 rfl) ?_
    refine lv_aload_n hx hb dX10_digest_62 rfl (lv_at hl 0 rfl) ?_
    refine gC_H_rows F hw tw1_206 dX10_digest_63 ?_
    refine aC_20_ln hx hb hw dX10_digest_66 ?_
    obtain ⟨g1, h⟩ := h
    refine q_icmp_ge (tgt := 86) hx hb g1 (by decide) dX10_digest_67 (by decide) (fun c2 => ?_) (fun c2 => ?_)
    · have h := ite_t c2 h
      refine lv_lload_n hx hb dX10_digest_86 rfl (lv_at hl 1 rfl) ?_
      exact ret _ _ _ _ _ _ h hw hS dX10_digest_87
    · have h := ite_f c2 h
      refine lv_lload_n hx hb dX10_digest_70 rfl (lv_at hl 1 rfl) ?_
      refine lv_aload_n hx hb dX10_digest_71 rfl (lv_at hl 0 rfl) ?_
      refine lv_iload_n hx hb dX10_digest_72 rfl (lv_at hl 2 rfl) ?_
      refine call_V hexC F (kX10_rowOf h) 1 tw2_16 tw1_1 tw2_15 tws1_0 tw2_13 hdX10_rowOf ⟨Nat.le_trans (by decide) hR.1, Nat.le_trans (by decide) hR.2⟩ (hw.recv (k := 0) (i := 0) rfl rfl rfl) hA hw hS rfl hl.1 rfl (Nat.le_of_ble_eq_true rfl) dX10_digest_73 (fun v3 μ4 H locs h hw hS => ?_)
      refine call_S hexC F (kX10_mixRow h) 2 tw5_131 tw1_1 tw5_130 tw5_129 hdX10_mixRow ⟨Nat.le_trans (by decide) hR.1, Nat.le_trans (by decide) hR.2⟩ hA hw hS rfl hl.1 rfl (Nat.le_of_ble_eq_true rfl) dX10_digest_76 (fun v5 μ6 H locs h hw hS => ?_)
      refine lv_lstore_n (lv' := [(1, .long (lJ v5)), (0, .ref (ad 0 0)), (3, .int (iI x3))]) hx hb dX10_digest_79 rfl hl (by decide) rfl (fun ls hl => ?_)
      refine q_iinc (k := 2) (lv' := [(3, .int (iI (x3 + 1))), (1, .long (lJ v5)), (0, .ref (ad 0 0))]) hx hb dX10_digest_80 hl rfl (by decide) rfl (fun ls hl => ?_)
      refine lv_goto (tgt := 61) hx hb dX10_digest_83 (by decide) ?_
      exact ih v5 (x3 + 1) _ _ _ _ h hw hS (lv_sub hl [2, 1, 0] rfl)
def wpX10_digest_L37 (G : GG) (Q : Int → MM → Prop) : Nat → Int → Int → MM → Prop
  | 0, _, _, _ => False
  | n + 1, x1, x3, μ => rg x3 ∧ (if 4 ≤ x3 then (∃ n3 : Nat, wpX10_digest_L61 G Q n3 x1 0 μ) else (wpX10_mixTower G x1 x3 μ (fun v4 μ5 => wpX10_digest_L37 G Q n v4 (x3 + 1) μ5)))
set_option maxRecDepth 100000 in
set_option maxHeartbeats 4000000 in
theorem wX10_digest_L37 {G : GG} {Q : Int → MM → Prop} (F : CallFix p m c cX10_digest 4 s args uw RX10) (hA : ∀ q : Nat, s.heap.size ≤ q → A q) (hR : 4 ≤ R.frames ∧ 92 ≤ R.locals) (ret : RetL p l e R s m args below meth c cX10_digest Qf (dmC G) (cfC G) tyC (exC G) D cy ad A Q) : ∀ (n : Nat) (x1 x3 : Int) (μ : MM) (H : Heap) (locs : List Loc) (ls : Array Slot), wpX10_digest_L37 G Q n x1 x3 μ → wdC G D cy ad A μ s H → va_S A s.heap H locs → lv_has ls 4 [(0, .ref (ad 0 0)), (1, .long (lJ x1)), (3, .int (iI x3))] → W p l e R s m args below meth c H locs 0 0 Qf (F0 m 37 ls []) := by
  have hx := F.1
  have hb := F.2.1
  have hown := F.2.2.2.1
  have hts := F.2.2.2.2
  intro n
  induction n with
  | zero =>
    intro x1 x3 μ H locs ls h hw hS hl
    exact h.elim
  | succ n ih =>
    intro x1 x3 μ H locs ls h hw hS hl
    refine lv_iload_n hx hb dX10_digest_37 rfl (lv_at hl 2 rfl) ?_
    refine lv_aload_n hx hb dX10_digest_38 rfl (lv_at hl 0 rfl) ?_
    refine gC_H_towers F hw tw1_209 dX10_digest_39 ?_
    refine aC_22_ln hx hb hw dX10_digest_42 ?_
    obtain ⟨g1, h⟩ := h
    refine q_icmp_ge (tgt := 59) hx hb g1 (by decide) dX10_digest_43 (by decide) (fun c2 => ?_) (fun c2 => ?_)
    · have h := ite_t c2 h
      refine q_iconst hx hb dX10_digest_59 ?_
      refine lv_istore_n (lv' := [(3, .int (iI 0)), (0, .ref (ad 0 0)), (1, .long (lJ x1))]) hx hb dX10_digest_60 rfl hl (by decide) rfl (fun ls hl => ?_)
      obtain ⟨n3, h⟩ := h
      exact wX10_digest_L61 F hA hR ret n3 x1 0 _ _ _ _ h hw hS (lv_sub hl [1, 2, 0] rfl)
    · have h := ite_f c2 h
      refine lv_aload_n hx hb dX10_digest_46 rfl (lv_at hl 0 rfl) ?_
      refine lv_lload_n hx hb dX10_digest_47 rfl (lv_at hl 1 rfl) ?_
      refine lv_iload_n hx hb dX10_digest_48 rfl (lv_at hl 2 rfl) ?_
      refine call_V hexC F (kX10_mixTower h) 2 tw5_126 tw1_1 tw5_125 tws2_9 tw5_123 hdX10_mixTower ⟨Nat.le_trans (by decide) hR.1, Nat.le_trans (by decide) hR.2⟩ (hw.recv (k := 0) (i := 0) rfl rfl rfl) hA hw hS rfl hl.1 rfl (Nat.le_of_ble_eq_true rfl) dX10_digest_49 (fun v4 μ5 H locs h hw hS => ?_)
      refine lv_lstore_n (lv' := [(1, .long (lJ v4)), (0, .ref (ad 0 0)), (3, .int (iI x3))]) hx hb dX10_digest_52 rfl hl (by decide) rfl (fun ls hl => ?_)
      refine q_iinc (k := 2) (lv' := [(3, .int (iI (x3 + 1))), (1, .long (lJ v4)), (0, .ref (ad 0 0))]) hx hb dX10_digest_53 hl rfl (by decide) rfl (fun ls hl => ?_)
      refine lv_goto (tgt := 37) hx hb dX10_digest_56 (by decide) ?_
      exact ih v4 (x3 + 1) _ _ _ _ h hw hS (lv_sub hl [2, 1, 0] rfl)
def wpX10_digest_L14 (G : GG) (Q : Int → MM → Prop) : Nat → Int → Int → MM → Prop
  | 0, _, _, _ => False
  | n + 1, x1, x3, μ => rg x3 ∧ (rg (μ 0 2 0) ∧ (if (μ 0 2 0) ≤ x3 then (∃ n4 : Nat, wpX10_digest_L37 G Q n4 x1 0 μ) else (wpX10_mixTrain G x1 x3 μ (fun v5 μ6 => wpX10_digest_L14 G Q n v5 (x3 + 1) μ6))))
set_option maxRecDepth 100000 in
set_option maxHeartbeats 4000000 in
theorem wX10_digest_L14 {G : GG} {Q : Int → MM → Prop} (F : CallFix p m c cX10_digest 4 s args uw RX10) (hA : ∀ q : Nat, s.heap.size ≤ q → A q) (hR : 4 ≤ R.frames ∧ 92 ≤ R.locals) (ret : RetL p l e R s m args below meth c cX10_digest Qf (dmC G) (cfC G) tyC (exC G) D cy ad A Q) : ∀ (n : Nat) (x1 x3 : Int) (μ : MM) (H : Heap) (locs : List Loc) (ls : Array Slot), wpX10_digest_L14 G Q n x1 x3 μ → wdC G D cy ad A μ s H → va_S A s.heap H locs → lv_has ls 4 [(0, .ref (ad 0 0)), (1, .long (lJ x1)), (3, .int (iI x3))] → W p l e R s m args below meth c H locs 0 0 Qf (F0 m 14 ls []) := by
  have hx := F.1
  have hb := F.2.1
  have hown := F.2.2.2.1
  have hts := F.2.2.2.2
  intro n
  induction n with
  | zero =>
    intro x1 x3 μ H locs ls h hw hS hl
    exact h.elim
  | succ n ih =>
    intro x1 x3 μ H locs ls h hw hS hl
    refine lv_iload_n hx hb dX10_digest_14 rfl (lv_at hl 2 rfl) ?_
    refine lv_aload_n hx hb dX10_digest_15 rfl (lv_at hl 0 rfl) ?_
    refine gC_H_trainCount F hw tw1_208 dX10_digest_16 ?_
    obtain ⟨g1, h⟩ := h
    obtain ⟨g2, h⟩ := h
    refine q_icmp_ge (tgt := 35) hx hb g1 g2 dX10_digest_19 (by decide) (fun c3 => ?_) (fun c3 => ?_)
    · have h := ite_t c3 h
      refine q_iconst hx hb dX10_digest_35 ?_
      refine lv_istore_n (lv' := [(3, .int (iI 0)), (0, .ref (ad 0 0)), (1, .long (lJ x1))]) hx hb dX10_digest_36 rfl hl (by decide) rfl (fun ls hl => ?_)
      obtain ⟨n4, h⟩ := h
      exact wX10_digest_L37 F hA hR ret n4 x1 0 _ _ _ _ h hw hS (lv_sub hl [1, 2, 0] rfl)
    · have h := ite_f c3 h
      refine lv_aload_n hx hb dX10_digest_22 rfl (lv_at hl 0 rfl) ?_
      refine lv_lload_n hx hb dX10_digest_23 rfl (lv_at hl 1 rfl) ?_
      refine lv_iload_n hx hb dX10_digest_24 rfl (lv_at hl 2 rfl) ?_
      refine call_V hexC F (kX10_mixTrain h) 2 tw5_118 tw1_1 tw5_117 tws2_8 tw5_115 hdX10_mixTrain ⟨Nat.le_trans (by decide) hR.1, Nat.le_trans (by decide) hR.2⟩ (hw.recv (k := 0) (i := 0) rfl rfl rfl) hA hw hS rfl hl.1 rfl (Nat.le_of_ble_eq_true rfl) dX10_digest_25 (fun v5 μ6 H locs h hw hS => ?_)
      refine lv_lstore_n (lv' := [(1, .long (lJ v5)), (0, .ref (ad 0 0)), (3, .int (iI x3))]) hx hb dX10_digest_28 rfl hl (by decide) rfl (fun ls hl => ?_)
      refine q_iinc (k := 2) (lv' := [(3, .int (iI (x3 + 1))), (1, .long (lJ v5)), (0, .ref (ad 0 0))]) hx hb dX10_digest_29 hl rfl (by decide) rfl (fun ls hl => ?_)
      refine lv_goto (tgt := 14) hx hb dX10_digest_32 (by decide) ?_
      exact ih v5 (x3 + 1) _ _ _ _ h hw hS (lv_sub hl [2, 1, 0] rfl)
def wpX10_digest (G : GG) (μ : MM) (Q : Int → MM → Prop) : Prop := rg (μ 0 4 0) ∧ (wpX10_mix G 17 (μ 0 4 0) μ (fun v2 μ3 => ∃ n4 : Nat, wpX10_digest_L14 G Q n4 v2 0 μ3))
set_option maxRecDepth 100000 in
set_option maxHeartbeats 4000000 in
theorem wX10_digest {G : GG} {Q : Int → MM → Prop} {μ : MM} {H : Heap} {locs : List Loc} {ls : Array Slot} (F : CallFix p m c cX10_digest 4 s args uw RX10) (hA : ∀ q : Nat, s.heap.size ≤ q → A q) (hR : 4 ≤ R.frames ∧ 92 ≤ R.locals) (ret : RetL p l e R s m args below meth c cX10_digest Qf (dmC G) (cfC G) tyC (exC G) D cy ad A Q) (h : wpX10_digest G μ Q) (hw : wdC G D cy ad A μ s H) (hS : va_S A s.heap H locs) (hl : lv_has ls 4 [(0, .ref (ad 0 0))]) : W p l e R s m args below meth c H locs 0 0 Qf (F0 m 0 ls []) := by
  have hx := F.1
  have hb := F.2.1
  have hown := F.2.2.2.1
  have hts := F.2.2.2.2
  refine q_ldc2 (n := 17) hx hb hown (hts _ tw5_110) (by decide) dX10_digest_0 ?_
  refine lv_aload_n hx hb dX10_digest_3 rfl (lv_at hl 0 rfl) ?_
  refine gC_H_now F hw tw1_210 dX10_digest_4 ?_
  obtain ⟨g1, h⟩ := h
  refine q_i2l hx hb g1 dX10_digest_7 ?_
  refine call_S hexC F (kX10_mix h) 2 tw5_113 tw1_1 tw5_112 tw5_111 hdX10_mix ⟨Nat.le_trans (by decide) hR.1, Nat.le_trans (by decide) hR.2⟩ hA hw hS rfl hl.1 rfl (Nat.le_of_ble_eq_true rfl) dX10_digest_8 (fun v2 μ3 H locs h hw hS => ?_)
  refine lv_lstore_n (lv' := [(1, .long (lJ v2)), (0, .ref (ad 0 0))]) hx hb dX10_digest_11 rfl hl (by decide) rfl (fun ls hl => ?_)
  refine q_iconst hx hb dX10_digest_12 ?_
  refine lv_istore_n (lv' := [(3, .int (iI 0)), (1, .long (lJ v2)), (0, .ref (ad 0 0))]) hx hb dX10_digest_13 rfl hl (by decide) rfl (fun ls hl => ?_)
  obtain ⟨n4, h⟩ := h
  exact wX10_digest_L14 F hA hR ret n4 v2 0 _ _ _ _ h hw hS (lv_sub hl [2, 1, 0] rfl)
set_option maxRecDepth 100000 in
set_option maxHeartbeats 4000000 in
theorem kX10_digest {l : Launch} {D : va_G} {cy : Nat → ClassId} {ad : AD} {A : Nat → Prop} {G : GG} {μ : MM} {Q : Int → MM → Prop} (h : wpX10_digest G μ Q) : Met l yX10_digest (Cond.code yX10_digest cX10_digest 4 (some .long) :: uw) (rmm 4 92) (wPc [.ref (ad 0 0)] (dmC G) (cfC G) tyC (exC G) D cy ad A μ) (wQ vL Q (dmC G) (cfC G) D cy ad A) 0 0 A :=
  met_of (by decide) (Nat.le_of_ble_eq_true rfl) (fun p e R s m args below meth c ls hr hk hRR F hA hw hS hl => wX10_digest F hA (by subst hRR; exact ⟨Nat.le_refl _, Nat.le_refl _⟩) (retL_of F hr hk) h hw hS hl)
theorem hdX10_digest : yX10_digest.cls ≠ "java/lang/invoke/MethodHandle" ∧ yX10_digest.cls ≠ "java/lang/invoke/VarHandle" ∧ (parseMethodDescriptor yX10_digest.desc).map (fun d => d.parameters.length) = some 0 := by decide +kernel
end
