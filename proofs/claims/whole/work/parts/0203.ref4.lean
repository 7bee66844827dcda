section
variable {p : Program} {l : Launch} {e : Env} {R : Room} {s : State} {m : MethodId} {args : Array Value} {below : List Frame} {meth : Method} {c : Code} {Qf : State → Prop} {D : va_G} {cy : Nat → ClassId} {ad : AD} {A : Nat → Prop}
def wpX11_trainTells (x1 : Int) (x2 : Int) (μ : MM) (Q : Int → MM → Prop) : Prop := rg x2 ∧ (if x2 = 0 then (0 ≤ x1 ∧ (x1 < 16 ∧ (Q (μ 11 0 x1) μ))) else (if x2 = 1 then (0 ≤ x1 ∧ (x1 < 16 ∧ (Q (μ 12 0 x1) μ))) else (if x2 = 2 then (wpX11_isPlate x1 μ (fun v9 μ10 => if v9 = 0 then (Q (-9) μ10) else (0 ≤ x1 ∧ (x1 < 16 ∧ (Q (μ10 14 0 x1) μ10))))) else (if x2 = 3 then (0 ≤ x1 ∧ (x1 < 16 ∧ (Q (μ 18 0 x1) μ))) else (if x2 = 4 then (0 ≤ x1 ∧ (x1 < 16 ∧ (Q (μ 20 0 x1) μ))) else (if x2 = 5 then (0 ≤ x1 ∧ (x1 < 16 ∧ (Q (μ 21 0 x1) μ))) else (if x2 = 6 then (0 ≤ x1 ∧ (x1 < 16 ∧ (rg (μ 22 0 x1) ∧ (if 0 ≤ (μ 22 0 x1) then (Q (Int.tdiv (μ 22 0 x1) 2) μ) else (Q (-9) μ))))) else (0 ≤ x1 ∧ (x1 < 16 ∧ (Q (μ 24 0 x1) μ))))))))))
set_option maxRecDepth 100000 in
set_option maxHeartbeats 4000000 in
theorem wX11_trainTells {Q : Int → MM → Prop} {x1 : Int} {x2 : Int} {μ : MM} {H : Heap} {locs : List Loc} {ls : Array Slot} (F : CallFix p m c cX11_trainTells 3 s args uw RX11) (hA : ∀ q : Nat, s.heap.size ≤ q → A q) (hR : 1 ≤ R.frames ∧ 21 ≤ R.locals) (ret : RetI p l e R s m args below meth c cX11_trainTells Qf dmR cfR tyR exR D cy ad A Q) (h : wpX11_trainTells x1 x2 μ Q) (hw : wdR D cy ad A μ s H) (hS : va_S A s.heap H locs) (hl : lv_has ls 3 [(0, .ref (ad 0 0)), (1, .int (iI x1)), (2, .int (iI x2))]) : W p l e R s m args below meth c H locs 0 0 Qf (F0 m 0 ls []) := by
  have hx := F.1
  have hb := F.2.1
  have hown := F.2.2.2.1
  have hts := F.2.2.2.2
  refine lv_iload_n hx hb dX11_trainTells_0 rfl (lv_at hl 2 rfl) ?_
  obtain ⟨g1, h⟩ := h
  by_cases c2 : x2 = 0
  · have h := ite_t c2 h
    refine q_tswIn (tgt := 44) hx hb g1 dX11_trainTells_1 0 (by rw [c2]; decide) (by decide) rfl (by decide) ?_
    refine lv_aload_n hx hb dX11_trainTells_44 rfl (lv_at hl 0 rfl) ?_
    refine gR_kinds F hw tw5_149 dX11_trainTells_45 ?_
    refine lv_iload_n hx hb dX11_trainTells_48 rfl (lv_at hl 1 rfl) ?_
    obtain ⟨g3, h⟩ := h
    obtain ⟨g4, h⟩ := h
    refine aR_ild (L := 16) hx hb hw 10 rfl rfl (by decide) g3 g4 dX11_trainTells_49 ?_
    exact ret _ _ _ _ _ _ h hw hS dX11_trainTells_50
  · have h := ite_f c2 h
    by_cases c5 : x2 = 1
    · have h := ite_t c5 h
      refine q_tswIn (tgt := 51) hx hb g1 dX11_trainTells_1 1 (by rw [c5]; decide) (by decide) rfl (by decide) ?_
      refine lv_aload_n hx hb dX11_trainTells_51 rfl (lv_at hl 0 rfl) ?_
      refine gR_many F hw tw5_150 dX11_trainTells_52 ?_
      refine lv_iload_n hx hb dX11_trainTells_55 rfl (lv_at hl 1 rfl) ?_
      obtain ⟨g6, h⟩ := h
      obtain ⟨g7, h⟩ := h
      refine aR_ild (L := 16) hx hb hw 11 rfl rfl (by decide) g6 g7 dX11_trainTells_56 ?_
      exact ret _ _ _ _ _ _ h hw hS dX11_trainTells_57
    · have h := ite_f c5 h
      by_cases c8 : x2 = 2
      · have h := ite_t c8 h
        refine q_tswIn (tgt := 58) hx hb g1 dX11_trainTells_1 2 (by rw [c8]; decide) (by decide) rfl (by decide) ?_
        refine lv_aload_n hx hb dX11_trainTells_58 rfl (lv_at hl 0 rfl) ?_
        refine lv_iload_n hx hb dX11_trainTells_59 rfl (lv_at hl 1 rfl) ?_
        refine call_V hexR F (kX11_isPlate h) 1 tw6_158 tw1_8 tw6_157 tws3_2 tw6_155 hdX11_isPlate ⟨Nat.le_trans (by decide) hR.1, Nat.le_trans (by decide) hR.2⟩ (hw.recv (k := 0) (i := 0) ⟨rfl, Or.inl rfl⟩ rfl rfl) hA hw hS rfl hl.1 rfl (Nat.le_of_ble_eq_true rfl) dX11_trainTells_60 (fun v9 μ10 H locs h hw hS => ?_)
        obtain ⟨z11, h⟩ := h
        refine q_if_eq (tgt := 75) hx hb (rgB z11) dX11_trainTells_63 (by decide) (fun c12 => ?_) (fun c12 => ?_)
        · have h := ite_t c12 h
          refine q_bipush hx hb (by decide) dX11_trainTells_75 ?_
          exact ret _ _ _ _ _ _ h hw hS dX11_trainTells_77
        · have h := ite_f c12 h
          refine lv_aload_n hx hb dX11_trainTells_66 rfl (lv_at hl 0 rfl) ?_
          refine gR_stands F hw tw5_152 dX11_trainTells_67 ?_
          refine lv_iload_n hx hb dX11_trainTells_70 rfl (lv_at hl 1 rfl) ?_
          obtain ⟨g13, h⟩ := h
          obtain ⟨g14, h⟩ := h
          refine aR_ild (L := 16) hx hb hw 13 rfl rfl (by decide) g13 g14 dX11_trainTells_71 ?_
          refine lv_goto (tgt := 77) hx hb dX11_trainTells_72 (by decide) ?_
          exact ret _ _ _ _ _ _ h hw hS dX11_trainTells_77
      · have h := ite_f c8 h
        by_cases c15 : x2 = 3
        · have h := ite_t c15 h
          refine q_tswIn (tgt := 78) hx hb g1 dX11_trainTells_1 3 (by rw [c15]; decide) (by decide) rfl (by decide) ?_
          refine lv_aload_n hx hb dX11_trainTells_78 rfl (lv_at hl 0 rfl) ?_
          refine gR_paces F hw tw5_156 dX11_trainTells_79 ?_
          refine lv_iload_n hx hb dX11_trainTells_82 rfl (lv_at hl 1 rfl) ?_
          obtain ⟨g16, h⟩ := h
          obtain ⟨g17, h⟩ := h
          refine aR_ild (L := 16) hx hb hw 17 rfl rfl (by decide) g16 g17 dX11_trainTells_83 ?_
          exact ret _ _ _ _ _ _ h hw hS dX11_trainTells_84
        · have h := ite_f c15 h
          by_cases c18 : x2 = 4
          · have h := ite_t c18 h
            refine q_tswIn (tgt := 85) hx hb g1 dX11_trainTells_1 4 (by rw [c18]; decide) (by decide) rfl (by decide) ?_
            refine lv_aload_n hx hb dX11_trainTells_85 rfl (lv_at hl 0 rfl) ?_
            refine gR_weights F hw tw5_158 dX11_trainTells_86 ?_
            refine lv_iload_n hx hb dX11_trainTells_89 rfl (lv_at hl 1 rfl) ?_
            obtain ⟨g19, h⟩ := h
            obtain ⟨g20, h⟩ := h
            refine aR_ild (L := 16) hx hb hw 19 rfl rfl (by decide) g19 g20 dX11_trainTells_90 ?_
            exact ret _ _ _ _ _ _ h hw hS dX11_trainTells_91
          · have h := ite_f c18 h
            by_cases c21 : x2 = 5
            · have h := ite_t c21 h
              refine q_tswIn (tgt := 92) hx hb g1 dX11_trainTells_1 5 (by rw [c21]; decide) (by decide) rfl (by decide) ?_
              refine lv_aload_n hx hb dX11_trainTells_92 rfl (lv_at hl 0 rfl) ?_
              refine gR_dues F hw tw5_159 dX11_trainTells_93 ?_
              refine lv_iload_n hx hb dX11_trainTells_96 rfl (lv_at hl 1 rfl) ?_
              obtain ⟨g22, h⟩ := h
              obtain ⟨g23, h⟩ := h
              refine aR_ild (L := 16) hx hb hw 20 rfl rfl (by decide) g22 g23 dX11_trainTells_97 ?_
              exact ret _ _ _ _ _ _ h hw hS dX11_trainTells_98
            · have h := ite_f c21 h
              by_cases c24 : x2 = 6
              · have h := ite_t c24 h
                refine q_tswIn (tgt := 99) hx hb g1 dX11_trainTells_1 6 (by rw [c24]; decide) (by decide) rfl (by decide) ?_
                refine lv_aload_n hx hb dX11_trainTells_99 rfl (lv_at hl 0 rfl) ?_
                refine gR_places F hw tw5_160 dX11_trainTells_100 ?_
                refine lv_iload_n hx hb dX11_trainTells_103 rfl (lv_at hl 1 rfl) ?_
                obtain ⟨g25, h⟩ := h
                obtain ⟨g26, h⟩ := h
                refine aR_ild (L := 16) hx hb hw 21 rfl rfl (by decide) g25 g26 dX11_trainTells_104 ?_
                obtain ⟨g27, h⟩ := h
                refine q_if_ge (tgt := 113) hx hb g27 dX11_trainTells_105 (by decide) (fun c28 => ?_) (fun c28 => ?_)
                · have h := ite_t c28 h
                  refine lv_aload_n hx hb dX11_trainTells_113 rfl (lv_at hl 0 rfl) ?_
                  refine gR_places F hw tw5_160 dX11_trainTells_114 ?_
                  refine lv_iload_n hx hb dX11_trainTells_117 rfl (lv_at hl 1 rfl) ?_
                  refine aR_ild (L := 16) hx hb hw 21 rfl rfl (by decide) g25 g26 dX11_trainTells_118 ?_
                  refine q_iconst hx hb dX11_trainTells_119 ?_
                  refine q_idiv hx hb g27 (by decide) (by decide) dX11_trainTells_120 ?_
                  exact ret _ _ _ _ _ _ h hw hS dX11_trainTells_121
                · have h := ite_f c28 h
                  refine q_bipush hx hb (by decide) dX11_trainTells_108 ?_
                  refine lv_goto (tgt := 121) hx hb dX11_trainTells_110 (by decide) ?_
                  exact ret _ _ _ _ _ _ h hw hS dX11_trainTells_121
              · have h := ite_f c24 h
                refine q_tswOut (tgt := 122) hx hb g1 dX11_trainTells_1 (by omega) (by decide) ?_
                refine lv_aload_n hx hb dX11_trainTells_122 rfl (lv_at hl 0 rfl) ?_
                refine gR_strucks F hw tw5_162 dX11_trainTells_123 ?_
                refine lv_iload_n hx hb dX11_trainTells_126 rfl (lv_at hl 1 rfl) ?_
                obtain ⟨g29, h⟩ := h
                obtain ⟨g30, h⟩ := h
                refine aR_ild (L := 16) hx hb hw 23 rfl rfl (by decide) g29 g30 dX11_trainTells_127 ?_
                exact ret _ _ _ _ _ _ h hw hS dX11_trainTells_128
set_option maxRecDepth 100000 in
set_option maxHeartbeats 4000000 in
theorem kX11_trainTells {l : Launch} {D : va_G} {cy : Nat → ClassId} {ad : AD} {A : Nat → Prop} {x1 : Int} {x2 : Int} {μ : MM} {Q : Int → MM → Prop} (h : wpX11_trainTells x1 x2 μ Q) : Met l yX11_trainTells (Cond.code yX11_trainTells cX11_trainTells 3 (some .int) :: uw) (rmm 1 21) (wPc [.ref (ad 0 0), .int (iI x1), .int (iI x2)] dmR cfR tyR exR D cy ad A μ) (wQ vI Q dmR cfR D cy ad A) 0 0 A :=
  met_of (by decide) (Nat.le_of_ble_eq_true rfl) (fun p e R s m args below meth c ls hr hk hRR F hA hw hS hl => wX11_trainTells F hA (by subst hRR; exact ⟨Nat.le_refl _, Nat.le_refl _⟩) (retI_of F hr hk) h hw hS hl)
theorem hdX11_trainTells : yX11_trainTells.cls ≠ "java/lang/invoke/MethodHandle" ∧ yX11_trainTells.cls ≠ "java/lang/invoke/VarHandle" ∧ (parseMethodDescriptor yX11_trainTells.desc).map (fun d => d.parameters.length) = some 2 := by decide +kernel
def wpX11_digest_J158 (k12 : Int → Int → MM → Prop) (Q : Int → MM → Prop) (x3 : Int) (t0 : Int) (μ : MM) : Prop := k12 t0 (x3 + 1) μ
set_option maxRecDepth 100000 in
set_option maxHeartbeats 4000000 in
theorem wX11_digest_J158 {k12 : Int → Int → MM → Prop} {Q : Int → MM → Prop} {x3 : Int} {t0 : Int} {μ : MM} {H : Heap} {locs : List Loc} {ls : Array Slot} (F : CallFix p m c cX11_digest 5 s args uw RX11) (hA : ∀ q : Nat, s.heap.size ≤ q → A q) (hR : 2 ≤ R.frames ∧ 45 ≤ R.locals) (ret : RetL p l e R s m args below meth c cX11_digest Qf dmR cfR tyR exR D cy ad A Q) (hk12 : ∀ (x1' x3' : Int) (μ' : MM) (H : Heap) (locs : List Loc) (ls : Array Slot), k12 x1' x3' μ' → wdR D cy ad A μ' s H → va_S A s.heap H locs → lv_has ls 5 [(0, .ref (ad 0 0)), (1, .long (lJ (x1'))), (3, .int (iI (x3')))] → W p l e R s m args below meth c H locs 0 0 Qf (F0 m 12 ls [])) (h : wpX11_digest_J158 k12 Q x3 t0 μ) (hw : wdR D cy ad A μ s H) (hS : va_S A s.heap H locs) (hl : lv_has ls 5 [(0, .ref (ad 0 0)), (3, .int (iI x3))]) : W p l e R s m args below meth c H locs 0 0 Qf (F0 m 158 ls [.long (lJ t0)]) := by
  have hx := F.1
  have hb := F.2.1
  have hown := F.2.2.2.1
  have hts := F.2.2.2.2
  refine lv_lstore_n (lv' := [(1, .long (lJ t0)), (0, .ref (ad 0 0)), (3, .int (iI x3))]) hx hb dX11_digest_158 rfl hl (by decide) rfl (fun ls hl => ?_)
  refine q_iinc (k := 2) (lv' := [(3, .int (iI (x3 + 1))), (1, .long (lJ t0)), (0, .ref (ad 0 0))]) hx hb dX11_digest_159 hl rfl (by decide) rfl (fun ls hl => ?_)
  refine lv_goto (tgt := 12) hx hb dX11_digest_162 (by decide) ?_
  exact hk12 t0 (x3 + 1) _ _ _ _ h hw hS (lv_sub hl [2, 1, 0] rfl)
def wpX11_digest_L94 (k12 : Int → Int → MM → Prop) (Q : Int → MM → Prop) : Nat → Int → Int → Int → MM → Prop
  | 0, _, _, _, _ => False
  | n + 1, x1, x3, x4, μ => 0 ≤ x3 ∧ (x3 < 16 ∧ (rg x4 ∧ (rg (μ 15 0 x3) ∧ (if (μ 15 0 x3) ≤ x4 then (rg (μ 11 0 x3) ∧ (if (μ 11 0 x3) = 3 then (rg (μ 17 0 x3) ∧ (wpX11_digest_J158 k12 Q x3 ((31 * x1) + (μ 17 0 x3)) μ)) else (wpX11_digest_J158 k12 Q x3 x1 μ))) else (0 ≤ ((48 * x3) + x4) ∧ ((48 * x3) + x4 < 768 ∧ (rg (μ 16 0 ((48 * x3) + x4)) ∧ (∀ y12 : Int, y12 = (31 * x1) + (μ 16 0 ((48 * x3) + x4)) → (wpX11_digest_L94 k12 Q n y12 x3 (x4 + 1) μ)))))))))
set_option maxRecDepth 100000 in
set_option maxHeartbeats 4000000 in
theorem wX11_digest_L94 {k12 : Int → Int → MM → Prop} {Q : Int → MM → Prop} (F : CallFix p m c cX11_digest 5 s args uw RX11) (hA : ∀ q : Nat, s.heap.size ≤ q → A q) (hR : 2 ≤ R.frames ∧ 45 ≤ R.locals) (ret : RetL p l e R s m args below meth c cX11_digest Qf dmR cfR tyR exR D cy ad A Q) (hk12 : ∀ (x1' x3' : Int) (μ' : MM) (H : Heap) (locs : List Loc) (ls : Array Slot), k12 x1' x3' μ' → wdR D cy ad A μ' s H → va_S A s.heap H locs → lv_has ls 5 [(0, .ref (ad 0 0)), (1, .long (lJ (x1'))), (3, .int (iI (x3')))] → W p l e R s m args below meth c H locs 0 0 Qf (F0 m 12 ls [])) : ∀ (n : Nat) (x1 x3 x4 : Int) (μ : MM) (H : Heap) (locs : List Loc) (ls : Array Slot), wpX11_digest_L94 k12 Q n x1 x3 x4 μ → wdR D cy ad A μ s H → va_S A s.heap H locs → lv_has ls 5 [(0, .ref (ad 0 0)), (1, .long (lJ x1)), (3, .int (iI x3)), (4, .int (iI x4))] → W p l e R s m args below meth c H locs 0 0 Qf (F0 m 94 ls []) := by
  have hx := F.1
  have hb := F.2.1
  have hown := F.2.2.2.1
  have hts := F.2.2.2.2
  intro n
  induction n with
  | zero =>
    intro x1 x3 x4 μ H locs ls h hw hS hl
    exact h.elim
  | succ n ih =>
    intro x1 x3 x4 μ H locs ls h hw hS hl
    refine lv_iload hx hb dX11_digest_94 (lv_at hl 3 rfl) ?_
    refine lv_aload_n hx hb dX11_digest_96 rfl (lv_at hl 0 rfl) ?_
    refine gR_pinMany F hw tw5_153 dX11_digest_97 ?_
    refine lv_iload_n hx hb dX11_digest_100 rfl (lv_at hl 2 rfl) ?_
    obtain ⟨g1, h⟩ := h
    obtain ⟨g2, h⟩ := h
    refine aR_ild (L := 16) hx hb hw 14 rfl rfl (by decide) g1 g2 dX11_digest_101 ?_
    obtain ⟨g3, h⟩ := h
    obtain ⟨g4, h⟩ := h
    refine q_icmp_ge (tgt := 131) hx hb g3 g4 dX11_digest_102 (by decide) (fun c5 => ?_) (fun c5 => ?_)
    · have h := ite_t c5 h
      refine lv_aload_n hx hb dX11_digest_131 rfl (lv_at hl 0 rfl) ?_
      refine gR_kinds F hw tw5_149 dX11_digest_132 ?_
      refine lv_iload_n hx hb dX11_digest_135 rfl (lv_at hl 2 rfl) ?_
      refine aR_ild (L := 16) hx hb hw 10 rfl rfl (by decide) g1 g2 dX11_digest_136 ?_
      refine q_iconst hx hb dX11_digest_137 ?_
      obtain ⟨g6, h⟩ := h
      refine q_icmp_ne (tgt := 157) hx hb g6 (by decide) dX11_digest_138 (by decide) (fun c7 => ?_) (fun c7 => ?_)
      · have h := ite_f c7 h
        refine lv_lload_n hx hb dX11_digest_157 rfl (lv_at hl 1 rfl) ?_
        exact wX11_digest_J158 F hA hR ret hk12 h hw hS (lv_sub hl [0, 2] rfl)
      · have h := ite_t c7 h
        refine q_ldc2 (n := 31) hx hb hown (hts _ tw7_237) (by decide) dX11_digest_141 ?_
        refine lv_lload_n hx hb dX11_digest_144 rfl (lv_at hl 1 rfl) ?_
        refine q_lmul hx hb dX11_digest_145 ?_
        refine lv_aload_n hx hb dX11_digest_146 rfl (lv_at hl 0 rfl) ?_
        refine gR_pinAt F hw tw5_155 dX11_digest_147 ?_
        refine lv_iload_n hx hb dX11_digest_150 rfl (lv_at hl 2 rfl) ?_
        refine aR_ild (L := 16) hx hb hw 16 rfl rfl (by decide) g1 g2 dX11_digest_151 ?_
        obtain ⟨g8, h⟩ := h
        refine q_i2l hx hb g8 dX11_digest_152 ?_
        refine q_ladd hx hb dX11_digest_153 ?_
        refine lv_goto (tgt := 158) hx hb dX11_digest_154 (by decide) ?_
        exact wX11_digest_J158 F hA hR ret hk12 h hw hS (lv_sub hl [0, 2] rfl)
    · have h := ite_f c5 h
      refine q_ldc2 (n := 31) hx hb hown (hts _ tw7_237) (by decide) dX11_digest_105 ?_
      refine lv_lload_n hx hb dX11_digest_108 rfl (lv_at hl 1 rfl) ?_
      refine q_lmul hx hb dX11_digest_109 ?_
      refine lv_aload_n hx hb dX11_digest_110 rfl (lv_at hl 0 rfl) ?_
      refine gR_pins F hw tw5_154 dX11_digest_111 ?_
      refine q_bipush hx hb (by decide) dX11_digest_114 ?_
      refine lv_iload_n hx hb dX11_digest_116 rfl (lv_at hl 2 rfl) ?_
      refine q_imul hx hb dX11_digest_117 ?_
      refine lv_iload hx hb dX11_digest_118 (lv_at hl 3 rfl) ?_
      refine q_iadd hx hb dX11_digest_120 ?_
      obtain ⟨g9, h⟩ := h
      obtain ⟨g10, h⟩ := h
      refine aR_ild (L := 768) hx hb hw 15 rfl rfl (by decide) g9 g10 dX11_digest_121 ?_
      obtain ⟨g11, h⟩ := h
      refine q_i2l hx hb g11 dX11_digest_122 ?_
      refine q_ladd hx hb dX11_digest_123 ?_
      obtain ⟨y12, ey12⟩ : ∃ z : Int, z = (31 * x1) + (μ 16 0 ((48 * x3) + x4)) := ⟨_, rfl⟩
      have h := h y12 ey12
      refine q_nmL ey12 ?_
      refine lv_lstore_n (lv' := [(1, .long (lJ y12)), (0, .ref (ad 0 0)), (3, .int (iI x3)), (4, .int (iI x4))]) hx hb dX11_digest_124 rfl hl (by decide) rfl (fun ls hl => ?_)
      refine q_iinc (k := 3) (lv' := [(4, .int (iI (x4 + 1))), (1, .long (lJ y12)), (0, .ref (ad 0 0)), (3, .int (iI x3))]) hx hb dX11_digest_125 hl rfl (by decide) rfl (fun ls hl => ?_)
      refine lv_goto (tgt := 94) hx hb dX11_digest_128 (by decide) ?_
      exact ih y12 x3 (x4 + 1) _ _ _ _ h hw hS (lv_sub hl [2, 1, 3, 0] rfl)
def wpX11_digest_L54 (k12 : Int → Int → MM → Prop) (Q : Int → MM → Prop) : Nat → Int → Int → Int → MM → Prop
  | 0, _, _, _, _ => False
  | n + 1, x1, x3, x4, μ => 0 ≤ x3 ∧ (x3 < 16 ∧ (rg x4 ∧ (rg (μ 12 0 x3) ∧ (if (μ 12 0 x3) ≤ x4 then (∃ n6 : Nat, wpX11_digest_L94 k12 Q n6 x1 x3 0 μ) else (0 ≤ ((24 * x3) + x4) ∧ ((24 * x3) + x4 < 384 ∧ (rg (μ 13 0 ((24 * x3) + x4)) ∧ (∀ y10 : Int, y10 = (31 * x1) + (μ 13 0 ((24 * x3) + x4)) → (wpX11_digest_L54 k12 Q n y10 x3 (x4 + 1) μ)))))))))
set_option maxRecDepth 100000 in
set_option maxHeartbeats 4000000 in
theorem wX11_digest_L54 {k12 : Int → Int → MM → Prop} {Q : Int → MM → Prop} (F : CallFix p m c cX11_digest 5 s args uw RX11) (hA : ∀ q : Nat, s.heap.size ≤ q → A q) (hR : 2 ≤ R.frames ∧ 45 ≤ R.locals) (ret : RetL p l e R s m args below meth c cX11_digest Qf dmR cfR tyR exR D cy ad A Q) (hk12 : ∀ (x1' x3' : Int) (μ' : MM) (H : Heap) (locs : List Loc) (ls : Array Slot), k12 x1' x3' μ' → wdR D cy ad A μ' s H → va_S A s.heap H locs → lv_has ls 5 [(0, .ref (ad 0 0)), (1, .long (lJ (x1'))), (3, .int (iI (x3')))] → W p l e R s m args below meth c H locs 0 0 Qf (F0 m 12 ls [])) : ∀ (n : Nat) (x1 x3 x4 : Int) (μ : MM) (H : Heap) (locs : List Loc) (ls : Array Slot), wpX11_digest_L54 k12 Q n x1 x3 x4 μ → wdR D cy ad A μ s H → va_S A s.heap H locs → lv_has ls 5 [(0, .ref (ad 0 0)), (1, .long (lJ x1)), (3, .int (iI x3)), (4, .int (iI x4))] → W p l e R s m args below meth c H locs 0 0 Qf (F0 m 54 ls []) := by
  have hx := F.1
  have hb := F.2.1
  have hown := F.2.2.2.1
  have hts := F.2.2.2.2
  intro n
  induction n with
  | zero =>
    intro x1 x3 x4 μ H locs ls h hw hS hl
    exact h.elim
  | succ n ih =>
    intro x1 x3 x4 μ H locs ls h hw hS hl
    refine lv_iload hx hb dX11_digest_54 (lv_at hl 3 rfl) ?_
    refine lv_aload_n hx hb dX11_digest_56 rfl (lv_at hl 0 rfl) ?_
    refine gR_many F hw tw5_150 dX11_digest_57 ?_
    refine lv_iload_n hx hb dX11_digest_60 rfl (lv_at hl 2 rfl) ?_
    obtain ⟨g1, h⟩ := h
    obtain ⟨g2, h⟩ := h
    refine aR_ild (L := 16) hx hb hw 11 rfl rfl (by decide) g1 g2 dX11_digest_61 ?_
    obtain ⟨g3, h⟩ := h
    obtain ⟨g4, h⟩ := h
    refine q_icmp_ge (tgt := 91) hx hb g3 g4 dX11_digest_62 (by decide) (fun c5 => ?_) (fun c5 => ?_)
    · have h := ite_t c5 h
      refine q_iconst hx hb dX11_digest_91 ?_
      refine lv_istore (lv' := [(4, .int (iI 0)), (0, .ref (ad 0 0)), (1, .long (lJ x1)), (3, .int (iI x3))]) hx hb dX11_digest_92 hl (by decide) rfl (fun ls hl => ?_)
      obtain ⟨n6, h⟩ := h
      exact wX11_digest_L94 F hA hR ret hk12 n6 x1 x3 0 _ _ _ _ h hw hS (lv_sub hl [1, 2, 3, 0] rfl)
    · have h := ite_f c5 h
      refine q_ldc2 (n := 31) hx hb hown (hts _ tw7_237) (by decide) dX11_digest_65 ?_
      refine lv_lload_n hx hb dX11_digest_68 rfl (lv_at hl 1 rfl) ?_
      refine q_lmul hx hb dX11_digest_69 ?_
      refine lv_aload_n hx hb dX11_digest_70 rfl (lv_at hl 0 rfl) ?_
      refine gR_notches F hw tw5_151 dX11_digest_71 ?_
      refine q_bipush hx hb (by decide) dX11_digest_74 ?_
      refine lv_iload_n hx hb dX11_digest_76 rfl (lv_at hl 2 rfl) ?_
      refine q_imul hx hb dX11_digest_77 ?_
      refine lv_iload hx hb dX11_digest_78 (lv_at hl 3 rfl) ?_
      refine q_iadd hx hb dX11_digest_80 ?_
      obtain ⟨g7, h⟩ := h
      obtain ⟨g8, h⟩ := h
      refine aR_ild (L := 384) hx hb hw 12 rfl rfl (by decide) g7 g8 dX11_digest_81 ?_
      obtain ⟨g9, h⟩ := h
      refine q_i2l hx hb g9 dX11_digest_82 ?_
      refine q_ladd hx hb dX11_digest_83 ?_
      obtain ⟨y10, ey10⟩ : ∃ z : Int, z = (31 * x1) + (μ 13 0 ((24 * x3) + x4)) := ⟨_, rfl⟩
      have h := h y10 ey10
      refine q_nmL ey10 ?_
      refine lv_lstore_n (lv' := [(1, .long (lJ y10)), (0, .ref (ad 0 0)), (3, .int (iI x3)), (4, .int (iI x4))]) hx hb dX11_digest_84 rfl hl (by decide) rfl (fun ls hl => ?_)
      refine q_iinc (k := 3) (lv' := [(4, .int (iI (x4 + 1))), (1, .long (lJ y10)), (0, .ref (ad 0 0)), (3, .int (iI x3))]) hx hb dX11_digest_85 hl rfl (by decide) rfl (fun ls hl => ?_)
      refine lv_goto (tgt := 54) hx hb dX11_digest_88 (by decide) ?_
      exact ih y10 x3 (x4 + 1) _ _ _ _ h hw hS (lv_sub hl [2, 1, 3, 0] rfl)
def wpX11_digest_L23 (k12 : Int → Int → MM → Prop) (Q : Int → MM → Prop) : Nat → Int → Int → Int → MM → Prop
  | 0, _, _, _, _ => False
  | n + 1, x1, x3, x4, μ => rg x4 ∧ (if 7 < x4 then (∃ n3 : Nat, wpX11_digest_L54 k12 Q n3 x1 x3 0 μ) else (wpX11_trainTells x3 x4 μ (fun v4 μ5 => rg v4 ∧ (∀ y7 : Int, y7 = (31 * x1) + v4 → (wpX11_digest_L23 k12 Q n y7 x3 (x4 + 1) μ5)))))
set_option maxRecDepth 100000 in
set_option maxHeartbeats 4000000 in
theorem wX11_digest_L23 {k12 : Int → Int → MM → Prop} {Q : Int → MM → Prop} (F : CallFix p m c cX11_digest 5 s args uw RX11) (hA : ∀ q : Nat, s.heap.size ≤ q → A q) (hR : 2 ≤ R.frames ∧ 45 ≤ R.locals) (ret : RetL p l e R s m args below meth c cX11_digest Qf dmR cfR tyR exR D cy ad A Q) (hk12 : ∀ (x1' x3' : Int) (μ' : MM) (H : Heap) (locs : List Loc) (ls : Array Slot), k12 x1' x3' μ' → wdR D cy ad A μ' s H → va_S A s.heap H locs → lv_has ls 5 [(0, .ref (ad 0 0)), (1, .long (lJ (x1'))), (3, .int (iI (x3')))] → W p l e R s m args below meth c H locs 0 0 Qf (F0 m 12 ls [])) : ∀ (n : Nat) (x1 x3 x4 : Int) (μ : MM) (H : Heap) (locs : List Loc) (ls : Array Slot), wpX11_digest_L23 k12 Q n x1 x3 x4 μ → wdR D cy ad A μ s H → va_S A s.heap H locs → lv_has ls 5 [(0, .ref (ad 0 0)), (1, .long (lJ x1)), (3, .int (iI x3)), (4, .int (iI x4))] → W p l e R s m args below meth c H locs 0 0 Qf (F0 m 23 ls []) := by
  have hx := F.1
  have hb := F.2.1
  have hown := F.2.2.2.1
  have hts := F.2.2.2.2
  intro n
  induction n with
  | zero =>
    intro x1 x3 x4 μ H locs ls h hw hS hl
    exact h.elim
  | succ n ih =>
    intro x1 x3 x4 μ H locs ls h hw hS hl
    refine lv_iload hx hb dX11_digest_23 (lv_at hl 3 rfl) ?_
    refine q_bipush hx hb (by decide) dX11_digest_25 ?_
    obtain ⟨g1, h⟩ := h
    refine q_icmp_gt (tgt := 51) hx hb g1 (by decide) dX11_digest_27 (by decide) (fun c2 => ?_) (fun c2 => ?_)
    · have h := ite_t c2 h
      refine q_iconst hx hb dX11_digest_51 ?_
      refine lv_istore (lv' := [(4, .int (iI 0)), (0, .ref (ad 0 0)), (1, .long (lJ x1)), (3, .int (iI x3))]) hx hb dX11_digest_52 hl (by decide) rfl (fun ls hl => ?_)
      obtain ⟨n3, h⟩ := h
      exact wX11_digest_L54 F hA hR ret hk12 n3 x1 x3 0 _ _ _ _ h hw hS (lv_sub hl [1, 2, 3, 0] rfl)
    · have h := ite_f c2 h
      refine q_ldc2 (n := 31) hx hb hown (hts _ tw7_237) (by decide) dX11_digest_30 ?_
      refine lv_lload_n hx hb dX11_digest_33 rfl (lv_at hl 1 rfl) ?_
      refine q_lmul hx hb dX11_digest_34 ?_
      refine lv_aload_n hx hb dX11_digest_35 rfl (lv_at hl 0 rfl) ?_
      refine lv_iload_n hx hb dX11_digest_36 rfl (lv_at hl 2 rfl) ?_
      refine lv_iload hx hb dX11_digest_37 (lv_at hl 3 rfl) ?_
      refine call_V hexR F (kX11_trainTells h) 2 tw6_154 tw1_8 tw6_153 tws3_1 tw6_151 hdX11_trainTells ⟨Nat.le_trans (by decide) hR.1, Nat.le_trans (by decide) hR.2⟩ (hw.recv (k := 0) (i := 0) ⟨rfl, Or.inl rfl⟩ rfl rfl) hA hw hS rfl hl.1 rfl (Nat.le_of_ble_eq_true rfl) dX11_digest_39 (fun v4 μ5 H locs h hw hS => ?_)
      obtain ⟨g6, h⟩ := h
      refine q_i2l hx hb g6 dX11_digest_42 ?_
      refine q_ladd hx hb dX11_digest_43 ?_
      obtain ⟨y7, ey7⟩ : ∃ z : Int, z = (31 * x1) + v4 := ⟨_, rfl⟩
      have h := h y7 ey7
      refine q_nmL ey7 ?_
      refine lv_lstore_n (lv' := [(1, .long (lJ y7)), (0, .ref (ad 0 0)), (3, .int (iI x3)), (4, .int (iI x4))]) hx hb dX11_digest_44 rfl hl (by decide) rfl (fun ls hl => ?_)
      refine q_iinc (k := 3) (lv' := [(4, .int (iI (x4 + 1))), (1, .long (lJ y7)), (0, .ref (ad 0 0)), (3, .int (iI x3))]) hx hb dX11_digest_45 hl rfl (by decide) rfl (fun ls hl => ?_)
      refine lv_goto (tgt := 23) hx hb dX11_digest_48 (by decide) ?_
      exact ih y7 x3 (x4 + 1) _ _ _ _ h hw hS (lv_sub hl [2, 1, 3, 0] rfl)
def wpX11_digest_L341 (k305 : Int → Int → MM → Prop) (Q : Int → MM → Prop) : Nat → Int → Int → Int → MM → Prop
  | 0, _, _, _, _ => False
  | n + 1, x1, x3, x4, μ => 0 ≤ x3 ∧ (x3 < 8 ∧ (rg x4 ∧ (rg (μ 7 0 x3) ∧ (if (μ 7 0 x3) ≤ x4 then (k305 x1 (x3 + 1) μ) else (0 ≤ ((48 * x3) + x4) ∧ ((48 * x3) + x4 < 384 ∧ (rg (μ 8 0 ((48 * x3) + x4)) ∧ (∀ y9 : Int, y9 = (31 * x1) + (μ 8 0 ((48 * x3) + x4)) → (wpX11_digest_L341 k305 Q n y9 x3 (x4 + 1) μ)))))))))
set_option maxRecDepth 100000 in
set_option maxHeartbeats 4000000 in
theorem wX11_digest_L341 {k305 : Int → Int → MM → Prop} {Q : Int → MM → Prop} (F : CallFix p m c cX11_digest 5 s args uw RX11) (hA : ∀ q : Nat, s.heap.size ≤ q → A q) (hR : 2 ≤ R.frames ∧ 45 ≤ R.locals) (ret : RetL p l e R s m args below meth c cX11_digest Qf dmR cfR tyR exR D cy ad A Q) (hk305 : ∀ (x1' x3' : Int) (μ' : MM) (H : Heap) (locs : List Loc) (ls : Array Slot), k305 x1' x3' μ' → wdR D cy ad A μ' s H → va_S A s.heap H locs → lv_has ls 5 [(0, .ref (ad 0 0)), (1, .long (lJ (x1'))), (3, .int (iI (x3')))] → W p l e R s m args below meth c H locs 0 0 Qf (F0 m 305 ls [])) : ∀ (n : Nat) (x1 x3 x4 : Int) (μ : MM) (H : Heap) (locs : List Loc) (ls : Array Slot), wpX11_digest_L341 k305 Q n x1 x3 x4 μ → wdR D cy ad A μ s H → va_S A s.heap H locs → lv_has ls 5 [(0, .ref (ad 0 0)), (1, .long (lJ x1)), (3, .int (iI x3)), (4, .int (iI x4))] → W p l e R s m args below meth c H locs 0 0 Qf (F0 m 341 ls []) := by
  have hx := F.1
  have hb := F.2.1
  have hown := F.2.2.2.1
  have hts := F.2.2.2.2
  intro n
  induction n with
  | zero =>
    intro x1 x3 x4 μ H locs ls h hw hS hl
    exact h.elim
  | succ n ih =>
    intro x1 x3 x4 μ H locs ls h hw hS hl
    refine lv_iload hx hb dX11_digest_341 (lv_at hl 3 rfl) ?_
    refine lv_aload_n hx hb dX11_digest_343 rfl (lv_at hl 0 rfl) ?_
    refine gR_sizes F hw tw5_145 dX11_digest_344 ?_
    refine lv_iload_n hx hb dX11_digest_347 rfl (lv_at hl 2 rfl) ?_
    obtain ⟨g1, h⟩ := h
    obtain ⟨g2, h⟩ := h
    refine aR_ild (L := 8) hx hb hw 6 rfl rfl (by decide) g1 g2 dX11_digest_348 ?_
    obtain ⟨g3, h⟩ := h
    obtain ⟨g4, h⟩ := h
    refine q_icmp_ge (tgt := 378) hx hb g3 g4 dX11_digest_349 (by decide) (fun c5 => ?_) (fun c5 => ?_)
    · have h := ite_t c5 h
      refine q_iinc (k := 2) (lv' := [(3, .int (iI (x3 + 1))), (0, .ref (ad 0 0)), (1, .long (lJ x1)), (4, .int (iI x4))]) hx hb dX11_digest_378 hl rfl (by decide) rfl (fun ls hl => ?_)
      refine lv_goto (tgt := 305) hx hb dX11_digest_381 (by decide) ?_
      exact hk305 x1 (x3 + 1) _ _ _ _ h hw hS (lv_sub hl [1, 2, 0] rfl)
    · have h := ite_f c5 h
      refine q_ldc2 (n := 31) hx hb hown (hts _ tw7_237) (by decide) dX11_digest_352 ?_
      refine lv_lload_n hx hb dX11_digest_355 rfl (lv_at hl 1 rfl) ?_
      refine q_lmul hx hb dX11_digest_356 ?_
      refine lv_aload_n hx hb dX11_digest_357 rfl (lv_at hl 0 rfl) ?_
      refine gR_rows F hw tw5_146 dX11_digest_358 ?_
      refine q_bipush hx hb (by decide) dX11_digest_361 ?_
      refine lv_iload_n hx hb dX11_digest_363 rfl (lv_at hl 2 rfl) ?_
      refine q_imul hx hb dX11_digest_364 ?_
      refine lv_iload hx hb dX11_digest_365 (lv_at hl 3 rfl) ?_
      refine q_iadd hx hb dX11_digest_367 ?_
      obtain ⟨g6, h⟩ := h
      obtain ⟨g7, h⟩ := h
      refine aR_ild (L := 384) hx hb hw 7 rfl rfl (by decide) g6 g7 dX11_digest_368 ?_
      obtain ⟨g8, h⟩ := h
      refine q_i2l hx hb g8 dX11_digest_369 ?_
      refine q_ladd hx hb dX11_digest_370 ?_
      obtain ⟨y9, ey9⟩ : ∃ z : Int, z = (31 * x1) + (μ 8 0 ((48 * x3) + x4)) := ⟨_, rfl⟩
      have h := h y9 ey9
      refine q_nmL ey9 ?_
      refine lv_lstore_n (lv' := [(1, .long (lJ y9)), (0, .ref (ad 0 0)), (3, .int (iI x3)), (4, .int (iI x4))]) hx hb dX11_digest_371 rfl hl (by decide) rfl (fun ls hl => ?_)
      refine q_iinc (k := 3) (lv' := [(4, .int (iI (x4 + 1))), (1, .long (lJ y9)), (0, .ref (ad 0 0)), (3, .int (iI x3))]) hx hb dX11_digest_372 hl rfl (by decide) rfl (fun ls hl => ?_)
      refine lv_goto (tgt := 341) hx hb dX11_digest_375 (by decide) ?_
      exact ih y9 x3 (x4 + 1) _ _ _ _ h hw hS (lv_sub hl [2, 1, 3, 0] rfl)
def wpX11_digest_J335 (k305 : Int → Int → MM → Prop) (Q : Int → MM → Prop) (x3 : Int) (t0 : Int) (t1 : Int) (μ : MM) : Prop := rg t1 ∧ (∃ n2 : Nat, wpX11_digest_L341 k305 Q n2 (t0 + t1) x3 0 μ)
set_option maxRecDepth 100000 in
set_option maxHeartbeats 4000000 in
theorem wX11_digest_J335 {k305 : Int → Int → MM → Prop} {Q : Int → MM → Prop} {x3 : Int} {t0 : Int} {t1 : Int} {μ : MM} {H : Heap} {locs : List Loc} {ls : Array Slot} (F : CallFix p m c cX11_digest 5 s args uw RX11) (hA : ∀ q : Nat, s.heap.size ≤ q → A q) (hR : 2 ≤ R.frames ∧ 45 ≤ R.locals) (ret : RetL p l e R s m args below meth c cX11_digest Qf dmR cfR tyR exR D cy ad A Q) (hk305 : ∀ (x1' x3' : Int) (μ' : MM) (H : Heap) (locs : List Loc) (ls : Array Slot), k305 x1' x3' μ' → wdR D cy ad A μ' s H → va_S A s.heap H locs → lv_has ls 5 [(0, .ref (ad 0 0)), (1, .long (lJ (x1'))), (3, .int (iI (x3')))] → W p l e R s m args below meth c H locs 0 0 Qf (F0 m 305 ls [])) (h : wpX11_digest_J335 k305 Q x3 t0 t1 μ) (hw : wdR D cy ad A μ s H) (hS : va_S A s.heap H locs) (hl : lv_has ls 5 [(0, .ref (ad 0 0)), (3, .int (iI x3))]) : W p l e R s m args below meth c H locs 0 0 Qf (F0 m 335 ls [.int (iI t1), .long (lJ t0)]) := by
  have hx := F.1
  have hb := F.2.1
  have hown := F.2.2.2.1
  have hts := F.2.2.2.2
  obtain ⟨g1, h⟩ := h
  refine q_i2l hx hb g1 dX11_digest_335 ?_
  refine q_ladd hx hb dX11_digest_336 ?_
  refine lv_lstore_n (lv' := [(1, .long (lJ (t0 + t1))), (0, .ref (ad 0 0)), (3, .int (iI x3))]) hx hb dX11_digest_337 rfl hl (by decide) rfl (fun ls hl => ?_)
  refine q_iconst hx hb dX11_digest_338 ?_
  refine lv_istore (lv' := [(4, .int (iI 0)), (1, .long (lJ (t0 + t1))), (0, .ref (ad 0 0)), (3, .int (iI x3))]) hx hb dX11_digest_339 hl (by decide) rfl (fun ls hl => ?_)
  obtain ⟨n2, h⟩ := h
  exact wX11_digest_L341 F hA hR ret hk305 n2 (t0 + t1) x3 0 _ _ _ _ h hw hS (lv_sub hl [2, 1, 3, 0] rfl)
def wpX11_digest_L305 (Q : Int → MM → Prop) : Nat → Int → Int → MM → Prop
  | 0, _, _, _ => False
  | n + 1, x1, x3, μ => rg x3 ∧ (if 8 ≤ x3 then (Q x1 μ) else (0 ≤ x3 ∧ (x3 < 8 ∧ (rg (μ 7 0 x3) ∧ (if 0 ≤ (μ 7 0 x3) then (wpX11_digest_J335 (fun x1' x3' μ' => wpX11_digest_L305 Q n x1' x3' μ') Q x3 (31 * x1) (μ 7 0 x3) μ) else (wpX11_digest_J335 (fun x1' x3' μ' => wpX11_digest_L305 Q n x1' x3' μ') Q x3 (31 * x1) (-1) μ))))))
set_option maxRecDepth 100000 in
set_option maxHeartbeats 4000000 in
theorem wX11_digest_L305 {Q : Int → MM → Prop} (F : CallFix p m c cX11_digest 5 s args uw RX11) (hA : ∀ q : Nat, s.heap.size ≤ q → A q) (hR : 2 ≤ R.frames ∧ 45 ≤ R.locals) (ret : RetL p l e R s m args below meth c cX11_digest Qf dmR cfR tyR exR D cy ad A Q) : ∀ (n : Nat) (x1 x3 : Int) (μ : MM) (H : Heap) (locs : List Loc) (ls : Array Slot), wpX11_digest_L305 Q n x1 x3 μ → wdR D cy ad A μ s H → va_S A s.heap H locs → lv_has ls 5 [(0, .ref (ad 0 0)), (1, .long (lJ x1)), (3, .int (iI x3))] → W p l e R s m args below meth c H locs 0 0 Qf (F0 m 305 ls []) := by
  have hx := F.1
  have hb := F.2.1
  have hown := F.2.2.2.1
  have hts := F.2.2.2.2
  intro n
  induction n with
  | zero =>
    intro x1 x3 μ H locs ls h hw hS hl
    exact h.elim
  | succ n ih =>
    intro x1 x3 μ H locs ls h hw hS hl
    refine lv_iload_n hx hb dX11_digest_305 rfl (lv_at hl 2 rfl) ?_
    refine q_bipush hx hb (by decide) dX11_digest_306 ?_
    obtain ⟨g1, h⟩ := h
    refine q_icmp_ge (tgt := 384) hx hb g1 (by decide) dX11_digest_308 (by decide) (fun c2 => ?_) (fun c2 => ?_)
    · have h := ite_t c2 h
      refine lv_lload_n hx hb dX11_digest_384 rfl (lv_at hl 1 rfl) ?_
      exact ret _ _ _ _ _ _ h hw hS dX11_digest_385
    · have h := ite_f c2 h
      refine q_ldc2 (n := 31) hx hb hown (hts _ tw7_237) (by decide) dX11_digest_311 ?_
      refine lv_lload_n hx hb dX11_digest_314 rfl (lv_at hl 1 rfl) ?_
      refine q_lmul hx hb dX11_digest_315 ?_
      refine lv_aload_n hx hb dX11_digest_316 rfl (lv_at hl 0 rfl) ?_
      refine gR_sizes F hw tw5_145 dX11_digest_317 ?_
      refine lv_iload_n hx hb dX11_digest_320 rfl (lv_at hl 2 rfl) ?_
      obtain ⟨g3, h⟩ := h
      obtain ⟨g4, h⟩ := h
      refine aR_ild (L := 8) hx hb hw 6 rfl rfl (by decide) g3 g4 dX11_digest_321 ?_
      obtain ⟨g5, h⟩ := h
      refine q_if_ge (tgt := 329) hx hb g5 dX11_digest_322 (by decide) (fun c6 => ?_) (fun c6 => ?_)
      · have h := ite_t c6 h
        refine lv_aload_n hx hb dX11_digest_329 rfl (lv_at hl 0 rfl) ?_
        refine gR_sizes F hw tw5_145 dX11_digest_330 ?_
        refine lv_iload_n hx hb dX11_digest_333 rfl (lv_at hl 2 rfl) ?_
        refine aR_ild (L := 8) hx hb hw 6 rfl rfl (by decide) g3 g4 dX11_digest_334 ?_
        exact wX11_digest_J335 F hA hR ret (fun x1 x3 => ih x1 x3) h hw hS (lv_sub hl [0, 2] rfl)
      · have h := ite_f c6 h
        refine q_iconst hx hb dX11_digest_325 ?_
        refine lv_goto (tgt := 335) hx hb dX11_digest_326 (by decide) ?_
        exact wX11_digest_J335 F hA hR ret (fun x1 x3 => ih x1 x3) h hw hS (lv_sub hl [0, 2] rfl)
def wpX11_digest_J288 (k240 : Int → Int → Int → MM → Prop) (k167 : Int → Int → MM → Prop) (Q : Int → MM → Prop) (x3 : Int) (x4 : Int) (t0 : Int) (t1 : Int) (μ : MM) : Prop := rg t1 ∧ (k240 (t0 + t1) x3 (x4 + 1) μ)
set_option maxRecDepth 100000 in
set_option maxHeartbeats 4000000 in
theorem wX11_digest_J288 {k240 : Int → Int → Int → MM → Prop} {k167 : Int → Int → MM → Prop} {Q : Int → MM → Prop} {x3 : Int} {x4 : Int} {t0 : Int} {t1 : Int} {μ : MM} {H : Heap} {locs : List Loc} {ls : Array Slot} (F : CallFix p m c cX11_digest 5 s args uw RX11) (hA : ∀ q : Nat, s.heap.size ≤ q → A q) (hR : 2 ≤ R.frames ∧ 45 ≤ R.locals) (ret : RetL p l e R s m args below meth c cX11_digest Qf dmR cfR tyR exR D cy ad A Q) (hk240 : ∀ (x1' x3' x4' : Int) (μ' : MM) (H : Heap) (locs : List Loc) (ls : Array Slot), k240 x1' x3' x4' μ' → wdR D cy ad A μ' s H → va_S A s.heap H locs → lv_has ls 5 [(0, .ref (ad 0 0)), (1, .long (lJ (x1'))), (3, .int (iI (x3'))), (4, .int (iI (x4')))] → W p l e R s m args below meth c H locs 0 0 Qf (F0 m 240 ls [])) (hk167 : ∀ (x1' x3' : Int) (μ' : MM) (H : Heap) (locs : List Loc) (ls : Array Slot), k167 x1' x3' μ' → wdR D cy ad A μ' s H → va_S A s.heap H locs → lv_has ls 5 [(0, .ref (ad 0 0)), (1, .long (lJ (x1'))), (3, .int (iI (x3')))] → W p l e R s m args below meth c H locs 0 0 Qf (F0 m 167 ls [])) (h : wpX11_digest_J288 k240 k167 Q x3 x4 t0 t1 μ) (hw : wdR D cy ad A μ s H) (hS : va_S A s.heap H locs) (hl : lv_has ls 5 [(0, .ref (ad 0 0)), (3, .int (iI x3)), (4, .int (iI x4))]) : W p l e R s m args below meth c H locs 0 0 Qf (F0 m 288 ls [.int (iI t1), .long (lJ t0)]) := by
  have hx := F.1
  have hb := F.2.1
  have hown := F.2.2.2.1
  have hts := F.2.2.2.2
  obtain ⟨g1, h⟩ := h
  refine q_i2l hx hb g1 dX11_digest_288 ?_
  refine q_ladd hx hb dX11_digest_289 ?_
  refine lv_lstore_n (lv' := [(1, .long (lJ (t0 + t1))), (0, .ref (ad 0 0)), (3, .int (iI x3)), (4, .int (iI x4))]) hx hb dX11_digest_290 rfl hl (by decide) rfl (fun ls hl => ?_)
  refine q_iinc (k := 3) (lv' := [(4, .int (iI (x4 + 1))), (1, .long (lJ (t0 + t1))), (0, .ref (ad 0 0)), (3, .int (iI x3))]) hx hb dX11_digest_291 hl rfl (by decide) rfl (fun ls hl => ?_)
  refine lv_goto (tgt := 240) hx hb dX11_digest_294 (by decide) ?_
  exact hk240 (t0 + t1) x3 (x4 + 1) _ _ _ _ h hw hS (lv_sub hl [2, 1, 3, 0] rfl)
def wpX11_digest_J297 (k167 : Int → Int → MM → Prop) (Q : Int → MM → Prop) (x1 : Int) (x3 : Int) (μ : MM) : Prop := k167 x1 (x3 + 1) μ
set_option maxRecDepth 100000 in
set_option maxHeartbeats 4000000 in
theorem wX11_digest_J297 {k167 : Int → Int → MM → Prop} {Q : Int → MM → Prop} {x1 : Int} {x3 : Int} {μ : MM} {H : Heap} {locs : List Loc} {ls : Array Slot} (F : CallFix p m c cX11_digest 5 s args uw RX11) (hA : ∀ q : Nat, s.heap.size ≤ q → A q) (hR : 2 ≤ R.frames ∧ 45 ≤ R.locals) (ret : RetL p l e R s m args below meth c cX11_digest Qf dmR cfR tyR exR D cy ad A Q) (hk167 : ∀ (x1' x3' : Int) (μ' : MM) (H : Heap) (locs : List Loc) (ls : Array Slot), k167 x1' x3' μ' → wdR D cy ad A μ' s H → va_S A s.heap H locs → lv_has ls 5 [(0, .ref (ad 0 0)), (1, .long (lJ (x1'))), (3, .int (iI (x3')))] → W p l e R s m args below meth c H locs 0 0 Qf (F0 m 167 ls [])) (h : wpX11_digest_J297 k167 Q x1 x3 μ) (hw : wdR D cy ad A μ s H) (hS : va_S A s.heap H locs) (hl : lv_has ls 5 [(0, .ref (ad 0 0)), (1, .long (lJ x1)), (3, .int (iI x3))]) : W p l e R s m args below meth c H locs 0 0 Qf (F0 m 297 ls []) := by
  have hx := F.1
  have hb := F.2.1
  have hown := F.2.2.2.1
  have hts := F.2.2.2.2
  refine q_iinc (k := 2) (lv' := [(3, .int (iI (x3 + 1))), (0, .ref (ad 0 0)), (1, .long (lJ x1))]) hx hb dX11_digest_297 hl rfl (by decide) rfl (fun ls hl => ?_)
  refine lv_goto (tgt := 167) hx hb dX11_digest_300 (by decide) ?_
  exact hk167 x1 (x3 + 1) _ _ _ _ h hw hS (lv_sub hl [1, 2, 0] rfl)
def wpX11_digest_L240 (k167 : Int → Int → MM → Prop) (Q : Int → MM → Prop) : Nat → Int → Int → Int → MM → Prop
  | 0, _, _, _, _ => False
  | n + 1, x1, x3, x4, μ => rg x4 ∧ (if 4 ≤ x4 then (wpX11_digest_J297 k167 Q x1 x3 μ) else (0 ≤ x3 ∧ (x3 < 4 ∧ (rg (μ 37 0 x3) ∧ (if (μ 37 0 x3) = 0 then (wpX11_digest_J288 (fun x1' x3' x4' μ' => wpX11_digest_L240 k167 Q n x1' x3' x4' μ') k167 Q x3 x4 (31 * x1) 0 μ) else (0 ≤ ((((240 * x3) + (4 * (μ 37 0 x3))) - 4) + x4) ∧ ((((240 * x3) + (4 * (μ 37 0 x3))) - 4) + x4 < 960 ∧ (wpX11_digest_J288 (fun x1' x3' x4' μ' => wpX11_digest_L240 k167 Q n x1' x3' x4' μ') k167 Q x3 x4 (31 * x1) (μ 38 0 ((((240 * x3) + (4 * (μ 37 0 x3))) - 4) + x4)) μ))))))))
set_option maxRecDepth 100000 in
set_option maxHeartbeats 4000000 in
theorem wX11_digest_L240 {k167 : Int → Int → MM → Prop} {Q : Int → MM → Prop} (F : CallFix p m c cX11_digest 5 s args uw RX11) (hA : ∀ q : Nat, s.heap.size ≤ q → A q) (hR : 2 ≤ R.frames ∧ 45 ≤ R.locals) (ret : RetL p l e R s m args below meth c cX11_digest Qf dmR cfR tyR exR D cy ad A Q) (hk167 : ∀ (x1' x3' : Int) (μ' : MM) (H : Heap) (locs : List Loc) (ls : Array Slot), k167 x1' x3' μ' → wdR D cy ad A μ' s H → va_S A s.heap H locs → lv_has ls 5 [(0, .ref (ad 0 0)), (1, .long (lJ (x1'))), (3, .int (iI (x3')))] → W p l e R s m args below meth c H locs 0 0 Qf (F0 m 167 ls [])) : ∀ (n : Nat) (x1 x3 x4 : Int) (μ : MM) (H : Heap) (locs : List Loc) (ls : Array Slot), wpX11_digest_L240 k167 Q n x1 x3 x4 μ → wdR D cy ad A μ s H → va_S A s.heap H locs → lv_has ls 5 [(0, .ref (ad 0 0)), (1, .long (lJ x1)), (3, .int (iI x3)), (4, .int (iI x4))] → W p l e R s m args below meth c H locs 0 0 Qf (F0 m 240 ls []) := by
  have hx := F.1
  have hb := F.2.1
  have hown := F.2.2.2.1
  have hts := F.2.2.2.2
  intro n
  induction n with
  | zero =>
    intro x1 x3 x4 μ H locs ls h hw hS hl
    exact h.elim
  | succ n ih =>
    intro x1 x3 x4 μ H locs ls h hw hS hl
    refine lv_iload hx hb dX11_digest_240 (lv_at hl 3 rfl) ?_
    refine q_iconst hx hb dX11_digest_242 ?_
    obtain ⟨g1, h⟩ := h
    refine q_icmp_ge (tgt := 297) hx hb g1 (by decide) dX11_digest_243 (by decide) (fun c2 => ?_) (fun c2 => ?_)
    · have h := ite_t c2 h
      exact wX11_digest_J297 F hA hR ret hk167 h hw hS (lv_sub hl [0, 1, 2] rfl)
    · have h := ite_f c2 h
      refine q_ldc2 (n := 31) hx hb hown (hts _ tw7_237) (by decide) dX11_digest_246 ?_
      refine lv_lload_n hx hb dX11_digest_249 rfl (lv_at hl 1 rfl) ?_
      refine q_lmul hx hb dX11_digest_250 ?_
      refine lv_aload_n hx hb dX11_digest_251 rfl (lv_at hl 0 rfl) ?_
      refine gR_entries F hw tw5_175 dX11_digest_252 ?_
      refine lv_iload_n hx hb dX11_digest_255 rfl (lv_at hl 2 rfl) ?_
      obtain ⟨g3, h⟩ := h
      obtain ⟨g4, h⟩ := h
      refine aR_ild (L := 4) hx hb hw 36 rfl rfl (by decide) g3 g4 dX11_digest_256 ?_
      obtain ⟨g5, h⟩ := h
      refine q_if_ne (tgt := 264) hx hb g5 dX11_digest_257 (by decide) (fun c6 => ?_) (fun c6 => ?_)
      · have h := ite_f c6 h
        refine lv_aload_n hx hb dX11_digest_264 rfl (lv_at hl 0 rfl) ?_
        refine gR_logs F hw tw5_176 dX11_digest_265 ?_
        refine q_sipush hx hb (by decide) dX11_digest_268 ?_
        refine lv_iload_n hx hb dX11_digest_271 rfl (lv_at hl 2 rfl) ?_
        refine q_imul hx hb dX11_digest_272 ?_
        refine q_iconst hx hb dX11_digest_273 ?_
        refine lv_aload_n hx hb dX11_digest_274 rfl (lv_at hl 0 rfl) ?_
        refine gR_entries F hw tw5_175 dX11_digest_275 ?_
        refine lv_iload_n hx hb dX11_digest_278 rfl (lv_at hl 2 rfl) ?_
        refine aR_ild (L := 4) hx hb hw 36 rfl rfl (by decide) g3 g4 dX11_digest_279 ?_
        refine q_imul hx hb dX11_digest_280 ?_
        refine q_iadd hx hb dX11_digest_281 ?_
        refine q_iconst hx hb dX11_digest_282 ?_
        refine q_isub hx hb dX11_digest_283 ?_
        refine lv_iload hx hb dX11_digest_284 (lv_at hl 3 rfl) ?_
        refine q_iadd hx hb dX11_digest_286 ?_
        obtain ⟨g7, h⟩ := h
        obtain ⟨g8, h⟩ := h
        refine aR_ild (L := 960) hx hb hw 37 rfl rfl (by decide) g7 g8 dX11_digest_287 ?_
        exact wX11_digest_J288 F hA hR ret (fun x1 x3 x4 => ih x1 x3 x4) hk167 h hw hS (lv_sub hl [0, 2, 3] rfl)
      · have h := ite_t c6 h
        refine q_iconst hx hb dX11_digest_260 ?_
        refine lv_goto (tgt := 288) hx hb dX11_digest_261 (by decide) ?_
        exact wX11_digest_J288 F hA hR ret (fun x1 x3 x4 => ih x1 x3 x4) hk167 h hw hS (lv_sub hl [0, 2, 3] rfl)
def wpX11_digest_L195 (k167 : Int → Int → MM → Prop) (Q : Int → MM → Prop) : Nat → Int → Int → Int → MM → Prop
  | 0, _, _, _, _ => False
  | n + 1, x1, x3, x4, μ => rg x4 ∧ (if 8 < x4 then (0 ≤ x3 ∧ (x3 < 4 ∧ (rg (μ 37 0 x3) ∧ (∀ y6 : Int, y6 = (31 * x1) + (μ 37 0 x3) → (∃ n7 : Nat, wpX11_digest_L240 k167 Q n7 y6 x3 0 μ))))) else (wpX11_towerTells x3 x4 μ (fun v8 μ9 => rg v8 ∧ (∀ y11 : Int, y11 = (31 * x1) + v8 → (wpX11_digest_L195 k167 Q n y11 x3 (x4 + 1) μ9)))))
set_option maxRecDepth 100000 in
set_option maxHeartbeats 4000000 in
theorem wX11_digest_L195 {k167 : Int → Int → MM → Prop} {Q : Int → MM → Prop} (F : CallFix p m c cX11_digest 5 s args uw RX11) (hA : ∀ q : Nat, s.heap.size ≤ q → A q) (hR : 2 ≤ R.frames ∧ 45 ≤ R.locals) (ret : RetL p l e R s m args below meth c cX11_digest Qf dmR cfR tyR exR D cy ad A Q) (hk167 : ∀ (x1' x3' : Int) (μ' : MM) (H : Heap) (locs : List Loc) (ls : Array Slot), k167 x1' x3' μ' → wdR D cy ad A μ' s H → va_S A s.heap H locs → lv_has ls 5 [(0, .ref (ad 0 0)), (1, .long (lJ (x1'))), (3, .int (iI (x3')))] → W p l e R s m args below meth c H locs 0 0 Qf (F0 m 167 ls [])) : ∀ (n : Nat) (x1 x3 x4 : Int) (μ : MM) (H : Heap) (locs : List Loc) (ls : Array Slot), wpX11_digest_L195 k167 Q n x1 x3 x4 μ → wdR D cy ad A μ s H → va_S A s.heap H locs → lv_has ls 5 [(0, .ref (ad 0 0)), (1, .long (lJ x1)), (3, .int (iI x3)), (4, .int (iI x4))] → W p l e R s m args below meth c H locs 0 0 Qf (F0 m 195 ls []) := by
  have hx := F.1
  have hb := F.2.1
  have hown := F.2.2.2.1
  have hts := F.2.2.2.2
  intro n
  induction n with
  | zero =>
    intro x1 x3 x4 μ H locs ls h hw hS hl
    exact h.elim
  | succ n ih =>
    intro x1 x3 x4 μ H locs ls h hw hS hl
    refine lv_iload hx hb dX11_digest_195 (lv_at hl 3 rfl) ?_
    refine q_bipush hx hb (by decide) dX11_digest_197 ?_
    obtain ⟨g1, h⟩ := h
    refine q_icmp_gt (tgt := 223) hx hb g1 (by decide) dX11_digest_199 (by decide) (fun c2 => ?_) (fun c2 => ?_)
    · have h := ite_t c2 h
      refine q_ldc2 (n := 31) hx hb hown (hts _ tw7_237) (by decide) dX11_digest_223 ?_
      refine lv_lload_n hx hb dX11_digest_226 rfl (lv_at hl 1 rfl) ?_
      refine q_lmul hx hb dX11_digest_227 ?_
      refine lv_aload_n hx hb dX11_digest_228 rfl (lv_at hl 0 rfl) ?_
      refine gR_entries F hw tw5_175 dX11_digest_229 ?_
      refine lv_iload_n hx hb dX11_digest_232 rfl (lv_at hl 2 rfl) ?_
      obtain ⟨g3, h⟩ := h
      obtain ⟨g4, h⟩ := h
      refine aR_ild (L := 4) hx hb hw 36 rfl rfl (by decide) g3 g4 dX11_digest_233 ?_
      obtain ⟨g5, h⟩ := h
      refine q_i2l hx hb g5 dX11_digest_234 ?_
      refine q_ladd hx hb dX11_digest_235 ?_
      obtain ⟨y6, ey6⟩ : ∃ z : Int, z = (31 * x1) + (μ 37 0 x3) := ⟨_, rfl⟩
      have h := h y6 ey6
      refine q_nmL ey6 ?_
      refine lv_lstore_n (lv' := [(1, .long (lJ y6)), (0, .ref (ad 0 0)), (3, .int (iI x3)), (4, .int (iI x4))]) hx hb dX11_digest_236 rfl hl (by decide) rfl (fun ls hl => ?_)
      refine q_iconst hx hb dX11_digest_237 ?_
      refine lv_istore (lv' := [(4, .int (iI 0)), (1, .long (lJ y6)), (0, .ref (ad 0 0)), (3, .int (iI x3))]) hx hb dX11_digest_238 hl (by decide) rfl (fun ls hl => ?_)
      obtain ⟨n7, h⟩ := h
      exact wX11_digest_L240 F hA hR ret hk167 n7 y6 x3 0 _ _ _ _ h hw hS (lv_sub hl [2, 1, 3, 0] rfl)
    · have h := ite_f c2 h
      refine q_ldc2 (n := 31) hx hb hown (hts _ tw7_237) (by decide) dX11_digest_202 ?_
      refine lv_lload_n hx hb dX11_digest_205 rfl (lv_at hl 1 rfl) ?_
      refine q_lmul hx hb dX11_digest_206 ?_
      refine lv_aload_n hx hb dX11_digest_207 rfl (lv_at hl 0 rfl) ?_
      refine lv_iload_n hx hb dX11_digest_208 rfl (lv_at hl 2 rfl) ?_
      refine lv_iload hx hb dX11_digest_209 (lv_at hl 3 rfl) ?_
      refine call_V hexR F (kX11_towerTells h) 2 tw7_66 tw1_8 tw7_65 tws4_1 tw7_63 hdX11_towerTells ⟨Nat.le_trans (by decide) hR.1, Nat.le_trans (by decide) hR.2⟩ (hw.recv (k := 0) (i := 0) ⟨rfl, Or.inl rfl⟩ rfl rfl) hA hw hS rfl hl.1 rfl (Nat.le_of_ble_eq_true rfl) dX11_digest_211 (fun v8 μ9 H locs h hw hS => ?_)
      obtain ⟨g10, h⟩ := h
      refine q_i2l hx hb g10 dX11_digest_214 ?_
      refine q_ladd hx hb dX11_digest_215 ?_
      obtain ⟨y11, ey11⟩ : ∃ z : Int, z = (31 * x1) + v8 := ⟨_, rfl⟩
      have h := h y11 ey11
      refine q_nmL ey11 ?_
      refine lv_lstore_n (lv' := [(1, .long (lJ y11)), (0, .ref (ad 0 0)), (3, .int (iI x3)), (4, .int (iI x4))]) hx hb dX11_digest_216 rfl hl (by decide) rfl (fun ls hl => ?_)
      refine q_iinc (k := 3) (lv' := [(4, .int (iI (x4 + 1))), (1, .long (lJ y11)), (0, .ref (ad 0 0)), (3, .int (iI x3))]) hx hb dX11_digest_217 hl rfl (by decide) rfl (fun ls hl => ?_)
      refine lv_goto (tgt := 195) hx hb dX11_digest_220 (by decide) ?_
      exact ih y11 x3 (x4 + 1) _ _ _ _ h hw hS (lv_sub hl [2, 1, 3, 0] rfl)
def wpX11_digest_L167 (Q : Int → MM → Prop) : Nat → Int → Int → MM → Prop
  | 0, _, _, _ => False
  | n + 1, x1, x3, μ => rg x3 ∧ (if 4 ≤ x3 then (∃ n3 : Nat, wpX11_digest_L305 Q n3 x1 0 μ) else (0 ≤ x3 ∧ (x3 < 4 ∧ (rg (μ 26 0 x3) ∧ (if (μ 26 0 x3) = 0 then (∀ y9 : Int, y9 = (31 * x1) - 1 → (wpX11_digest_J297 (fun x1' x3' μ' => wpX11_digest_L167 Q n x1' x3' μ') Q y9 x3 μ)) else (∃ n8 : Nat, wpX11_digest_L195 (fun x1' x3' μ' => wpX11_digest_L167 Q n x1' x3' μ') Q n8 x1 x3 0 μ))))))
set_option maxRecDepth 100000 in
set_option maxHeartbeats 4000000 in
theorem wX11_digest_L167 {Q : Int → MM → Prop} (F : CallFix p m c cX11_digest 5 s args uw RX11) (hA : ∀ q : Nat, s.heap.size ≤ q → A q) (hR : 2 ≤ R.frames ∧ 45 ≤ R.locals) (ret : RetL p l e R s m args below meth c cX11_digest Qf dmR cfR tyR exR D cy ad A Q) : ∀ (n : Nat) (x1 x3 : Int) (μ : MM) (H : Heap) (locs : List Loc) (ls : Array Slot), wpX11_digest_L167 Q n x1 x3 μ → wdR D cy ad A μ s H → va_S A s.heap H locs → lv_has ls 5 [(0, .ref (ad 0 0)), (1, .long (lJ x1)), (3, .int (iI x3))] → W p l e R s m args below meth c H locs 0 0 Qf (F0 m 167 ls []) := by
  have hx := F.1
  have hb := F.2.1
  have hown := F.2.2.2.1
  have hts := F.2.2.2.2
  intro n
  induction n with
  | zero =>
    intro x1 x3 μ H locs ls h hw hS hl
    exact h.elim
  | succ n ih =>
    intro x1 x3 μ H locs ls h hw hS hl
    refine lv_iload_n hx hb dX11_digest_167 rfl (lv_at hl 2 rfl) ?_
    refine q_iconst hx hb dX11_digest_168 ?_
    obtain ⟨g1, h⟩ := h
    refine q_icmp_ge (tgt := 303) hx hb g1 (by decide) dX11_digest_169 (by decide) (fun c2 => ?_) (fun c2 => ?_)
    · have h := ite_t c2 h
      refine q_iconst hx hb dX11_digest_303 ?_
      refine lv_istore_n (lv' := [(3, .int (iI 0)), (0, .ref (ad 0 0)), (1, .long (lJ x1))]) hx hb dX11_digest_304 rfl hl (by decide) rfl (fun ls hl => ?_)
      obtain ⟨n3, h⟩ := h
      exact wX11_digest_L305 F hA hR ret n3 x1 0 _ _ _ _ h hw hS (lv_sub hl [1, 2, 0] rfl)
    · have h := ite_f c2 h
      refine lv_aload_n hx hb dX11_digest_172 rfl (lv_at hl 0 rfl) ?_
      refine gR_isTower F hw tw5_164 dX11_digest_173 ?_
      refine lv_iload_n hx hb dX11_digest_176 rfl (lv_at hl 2 rfl) ?_
      obtain ⟨g4, h⟩ := h
      obtain ⟨g5, h⟩ := h
      refine aR_zld (L := 4) hx hb hw 25 rfl rfl (by decide) g4 g5 dX11_digest_177 ?_
      obtain ⟨g6, h⟩ := h
      refine q_if_ne (tgt := 192) hx hb g6 dX11_digest_178 (by decide) (fun c7 => ?_) (fun c7 => ?_)
      · have h := ite_f c7 h
        refine q_iconst hx hb dX11_digest_192 ?_
        refine lv_istore (lv' := [(4, .int (iI 0)), (0, .ref (ad 0 0)), (1, .long (lJ x1)), (3, .int (iI x3))]) hx hb dX11_digest_193 hl (by decide) rfl (fun ls hl => ?_)
        obtain ⟨n8, h⟩ := h
        exact wX11_digest_L195 F hA hR ret (fun x1 x3 => ih x1 x3) n8 x1 x3 0 _ _ _ _ h hw hS (lv_sub hl [1, 2, 3, 0] rfl)
      · have h := ite_t c7 h
        refine q_ldc2 (n := 31) hx hb hown (hts _ tw7_237) (by decide) dX11_digest_181 ?_
        refine lv_lload_n hx hb dX11_digest_184 rfl (lv_at hl 1 rfl) ?_
        refine q_lmul hx hb dX11_digest_185 ?_
        refine q_lconst (v := 1) hx hb (by decide) dX11_digest_186 ?_
        refine q_lsub hx hb dX11_digest_187 ?_
        obtain ⟨y9, ey9⟩ : ∃ z : Int, z = (31 * x1) - 1 := ⟨_, rfl⟩
        have h := h y9 ey9
        refine q_nmL ey9 ?_
        refine lv_lstore_n (lv' := [(1, .long (lJ y9)), (0, .ref (ad 0 0)), (3, .int (iI x3))]) hx hb dX11_digest_188 rfl hl (by decide) rfl (fun ls hl => ?_)
        refine lv_goto (tgt := 297) hx hb dX11_digest_189 (by decide) ?_
        exact wX11_digest_J297 F hA hR ret (fun x1 x3 => ih x1 x3) h hw hS (lv_sub hl [1, 0, 2] rfl)
def wpX11_digest_L12 (Q : Int → MM → Prop) : Nat → Int → Int → MM → Prop
  | 0, _, _, _ => False
  | n + 1, x1, x3, μ => rg x3 ∧ (rg (μ 0 10 0) ∧ (if (μ 0 10 0) ≤ x3 then (∃ n4 : Nat, wpX11_digest_L167 Q n4 x1 0 μ) else (∃ n5 : Nat, wpX11_digest_L23 (fun x1' x3' μ' => wpX11_digest_L12 Q n x1' x3' μ') Q n5 x1 x3 0 μ)))
set_option maxRecDepth 100000 in
set_option maxHeartbeats 4000000 in
theorem wX11_digest_L12 {Q : Int → MM → Prop} (F : CallFix p m c cX11_digest 5 s args uw RX11) (hA : ∀ q : Nat, s.heap.size ≤ q → A q) (hR : 2 ≤ R.frames ∧ 45 ≤ R.locals) (ret : RetL p l e R s m args below meth c cX11_digest Qf dmR cfR tyR exR D cy ad A Q) : ∀ (n : Nat) (x1 x3 : Int) (μ : MM) (H : Heap) (locs : List Loc) (ls : Array Slot), wpX11_digest_L12 Q n x1 x3 μ → wdR D cy ad A μ s H → va_S A s.heap H locs → lv_has ls 5 [(0, .ref (ad 0 0)), (1, .long (lJ x1)), (3, .int (iI x3))] → W p l e R s m args below meth c H locs 0 0 Qf (F0 m 12 ls []) := by
  have hx := F.1
  have hb := F.2.1
  have hown := F.2.2.2.1
  have hts := F.2.2.2.2
  intro n
  induction n with
  | zero =>
    intro x1 x3 μ H locs ls h hw hS hl
    exact h.elim
  | succ n ih =>
    intro x1 x3 μ H locs ls h hw hS hl
    refine lv_iload_n hx hb dX11_digest_12 rfl (lv_at hl 2 rfl) ?_
    refine lv_aload_n hx hb dX11_digest_13 rfl (lv_at hl 0 rfl) ?_
    refine gR_trains F hw tw5_148 dX11_digest_14 ?_
    obtain ⟨g1, h⟩ := h
    obtain ⟨g2, h⟩ := h
    refine q_icmp_ge (tgt := 165) hx hb g1 g2 dX11_digest_17 (by decide) (fun c3 => ?_) (fun c3 => ?_)
    · have h := ite_t c3 h
      refine q_iconst hx hb dX11_digest_165 ?_
      refine lv_istore_n (lv' := [(3, .int (iI 0)), (0, .ref (ad 0 0)), (1, .long (lJ x1))]) hx hb dX11_digest_166 rfl hl (by decide) rfl (fun ls hl => ?_)
      obtain ⟨n4, h⟩ := h
      exact wX11_digest_L167 F hA hR ret n4 x1 0 _ _ _ _ h hw hS (lv_sub hl [1, 2, 0] rfl)
    · have h := ite_f c3 h
      refine q_iconst hx hb dX11_digest_20 ?_
      refine lv_istore (lv' := [(4, .int (iI 0)), (0, .ref (ad 0 0)), (1, .long (lJ x1)), (3, .int (iI x3))]) hx hb dX11_digest_21 hl (by decide) rfl (fun ls hl => ?_)
      obtain ⟨n5, h⟩ := h
      exact wX11_digest_L23 F hA hR ret (fun x1 x3 => ih x1 x3) n5 x1 x3 0 _ _ _ _ h hw hS (lv_sub hl [1, 2, 3, 0] rfl)
def wpX11_digest (μ : MM) (Q : Int → MM → Prop) : Prop := rg (μ 0 5 0) ∧ (∀ y2 : Int, y2 = 527 + (μ 0 5 0) → (∃ n3 : Nat, wpX11_digest_L12 Q n3 y2 0 μ))
set_option maxRecDepth 100000 in
set_option maxHeartbeats 4000000 in
theorem wX11_digest {Q : Int → MM → Prop} {μ : MM} {H : Heap} {locs : List Loc} {ls : Array Slot} (F : CallFix p m c cX11_digest 5 s args uw RX11) (hA : ∀ q : Nat, s.heap.size ≤ q → A q) (hR : 2 ≤ R.frames ∧ 45 ≤ R.locals) (ret : RetL p l e R s m args below meth c cX11_digest Qf dmR cfR tyR exR D cy ad A Q) (h : wpX11_digest μ Q) (hw : wdR D cy ad A μ s H) (hS : va_S A s.heap H locs) (hl : lv_has ls 5 [(0, .ref (ad 0 0))]) : W p l e R s m args below meth c H locs 0 0 Qf (F0 m 0 ls []) := by
  have hx := F.1
  have hb := F.2.1
  have hown := F.2.2.2.1
  have hts := F.2.2.2.2
  refine q_ldc2 (n := 527) hx hb hown (hts _ tw7_236) (by decide) dX11_digest_0 ?_
  refine lv_aload_n hx hb dX11_digest_3 rfl (lv_at hl 0 rfl) ?_
  refine gR_now F hw tw5_143 dX11_digest_4 ?_
  obtain ⟨g1, h⟩ := h
  refine q_i2l hx hb g1 dX11_digest_7 ?_
  refine q_ladd hx hb dX11_digest_8 ?_
  obtain ⟨y2, ey2⟩ : ∃ z : Int, z = 527 + (μ 0 5 0) := ⟨_, rfl⟩
  have h := h y2 ey2
  refine q_nmL ey2 ?_
  refine lv_lstore_n (lv' := [(1, .long (lJ y2)), (0, .ref (ad 0 0))]) hx hb dX11_digest_9 rfl hl (by decide) rfl (fun ls hl => ?_)
  refine q_iconst hx hb dX11_digest_10 ?_
  refine lv_istore_n (lv' := [(3, .int (iI 0)), (1, .long (lJ y2)), (0, .ref (ad 0 0))]) hx hb dX11_digest_11 rfl hl (by decide) rfl (fun ls hl => ?_)
  obtain ⟨n3, h⟩ := h
  exact wX11_digest_L12 F hA hR ret n3 y2 0 _ _ _ _ h hw hS (lv_sub hl [2, 1, 0] rfl)
set_option maxRecDepth 100000 in
set_option maxHeartbeats 4000000 in
theorem kX11_digest {l : Launch} {D : va_G} {cy : Nat → ClassId} {ad : AD} {A : Nat → Prop} {μ : MM} {Q : Int → MM → Prop} (h : wpX11_digest μ Q) : Met l yX11_digest (Cond.code yX11_digest cX11_digest 5 (some .long) :: uw) (rmm 2 45) (wPc [.ref (ad 0 0)] dmR cfR tyR exR D cy ad A μ) (wQ vL Q dmR cfR D cy ad A) 0 0 A :=
  met_of (by decide) (Nat.le_of_ble_eq_true rfl) (fun p e R s m args below meth c ls hr hk hRR F hA hw hS hl => wX11_digest F hA (by subst hRR; exact ⟨Nat.le_refl _, Nat.le_refl _⟩) (retL_of F hr hk) h hw hS hl)
theorem hdX11_digest : yX11_digest.cls ≠ "java/lang/invoke/MethodHandle" ∧ yX11_digest.cls ≠ "java/lang/invoke/VarHandle" ∧ (parseMethodDescriptor yX11_digest.desc).map (fun d => d.parameters.length) = some 0 := by decide +kernel
def wpX11_dueAt (x0 : Int) (x1 : Int) (x2 : Int) (x3 : Int) (x4 : Int) (μ : MM) (Q : Int → MM → Prop) : Prop := rg ((x0 - 1) + x1) ∧ (∀ y2 : Int, y2 = (Int.tmod ((x0 - 1) + x1) 12) + 1 → (rg x2 ∧ (if x2 = 1 then (rg x1 ∧ (rg x4 ∧ (if x4 ≤ x1 then (rg ((y2 - 1) + x3) ∧ (Q ((Int.tmod ((y2 - 1) + x3) 12) + 1) μ)) else (Q y2 μ)))) else (if x2 = 2 then (rg y2 ∧ (rg x3 ∧ (if y2 = x3 then (Q x4 μ) else (Q y2 μ)))) else (if x2 = 3 then (rg y2 ∧ (rg x3 ∧ (if y2 ≤ x3 then (Q 0 μ) else (Q (y2 - x3) μ)))) else (if x2 = 4 then (wpX11_in x1 x3 x4 μ (fun v18 μ19 => if v18 = 0 then (Q y2 μ19) else (Q 0 μ19))) else (Q y2 μ)))))))
set_option maxRecDepth 100000 in
set_option maxHeartbeats 4000000 in
theorem wX11_dueAt {Q : Int → MM → Prop} {x0 : Int} {x1 : Int} {x2 : Int} {x3 : Int} {x4 : Int} {μ : MM} {H : Heap} {locs : List Loc} {ls : Array Slot} (F : CallFix p m c cX11_dueAt 6 s args uw RX11) (hA : ∀ q : Nat, s.heap.size ≤ q → A q) (hR : 1 ≤ R.frames ∧ 22 ≤ R.locals) (ret : RetI p l e R s m args below meth c cX11_dueAt Qf dmR cfR tyR exR D cy ad A Q) (h : wpX11_dueAt x0 x1 x2 x3 x4 μ Q) (hw : wdR D cy ad A μ s H) (hS : va_S A s.heap H locs) (hl : lv_has ls 6 [(0, .int (iI x0)), (1, .int (iI x1)), (2, .int (iI x2)), (3, .int (iI x3)), (4, .int (iI x4))]) : W p l e R s m args below meth c H locs 0 0 Qf (F0 m 0 ls []) := by
  have hx := F.1
  have hb := F.2.1
  have hown := F.2.2.2.1
  have hts := F.2.2.2.2
  refine lv_iload_n hx hb dX11_dueAt_0 rfl (lv_at hl 0 rfl) ?_
  refine q_iconst hx hb dX11_dueAt_1 ?_
  refine q_isub hx hb dX11_dueAt_2 ?_
  refine lv_iload_n hx hb dX11_dueAt_3 rfl (lv_at hl 1 rfl) ?_
  refine q_iadd hx hb dX11_dueAt_4 ?_
  refine q_bipush hx hb (by decide) dX11_dueAt_5 ?_
  obtain ⟨g1, h⟩ := h
  refine q_irem hx hb g1 (by decide) (by decide) dX11_dueAt_7 ?_
  refine q_iconst hx hb dX11_dueAt_8 ?_
  refine q_iadd hx hb dX11_dueAt_9 ?_
  obtain ⟨y2, ey2⟩ : ∃ z : Int, z = (Int.tmod ((x0 - 1) + x1) 12) + 1 := ⟨_, rfl⟩
  have h := h y2 ey2
  refine q_nmI ey2 ?_
  refine lv_istore (lv' := [(5, .int (iI y2)), (0, .int (iI x0)), (1, .int (iI x1)), (2, .int (iI x2)), (3, .int (iI x3)), (4, .int (iI x4))]) hx hb dX11_dueAt_10 hl (by decide) rfl (fun ls hl => ?_)
  refine lv_iload_n hx hb dX11_dueAt_12 rfl (lv_at hl 3 rfl) ?_
  obtain ⟨g3, h⟩ := h
  by_cases c4 : x2 = 1
  · have h := ite_t c4 h
    refine q_tswIn (tgt := 44) hx hb g3 dX11_dueAt_13 0 (by rw [c4]; decide) (by decide) rfl (by decide) ?_
    refine lv_iload_n hx hb dX11_dueAt_44 rfl (lv_at hl 2 rfl) ?_
    refine lv_iload hx hb dX11_dueAt_45 (lv_at hl 5 rfl) ?_
    obtain ⟨g5, h⟩ := h
    obtain ⟨g6, h⟩ := h
    refine q_icmp_ge (tgt := 55) hx hb g5 g6 dX11_dueAt_47 (by decide) (fun c7 => ?_) (fun c7 => ?_)
    · have h := ite_t c7 h
      refine lv_iload hx hb dX11_dueAt_55 (lv_at hl 0 rfl) ?_
      refine q_iconst hx hb dX11_dueAt_57 ?_
      refine q_isub hx hb dX11_dueAt_58 ?_
      refine lv_iload_n hx hb dX11_dueAt_59 rfl (lv_at hl 4 rfl) ?_
      refine q_iadd hx hb dX11_dueAt_60 ?_
      refine q_bipush hx hb (by decide) dX11_dueAt_61 ?_
      obtain ⟨g8, h⟩ := h
      refine q_irem hx hb g8 (by decide) (by decide) dX11_dueAt_63 ?_
      refine q_iconst hx hb dX11_dueAt_64 ?_
      refine q_iadd hx hb dX11_dueAt_65 ?_
      exact ret _ _ _ _ _ _ h hw hS dX11_dueAt_66
    · have h := ite_f c7 h
      refine lv_iload hx hb dX11_dueAt_50 (lv_at hl 0 rfl) ?_
      refine lv_goto (tgt := 66) hx hb dX11_dueAt_52 (by decide) ?_
      exact ret _ _ _ _ _ _ h hw hS dX11_dueAt_66
  · have h := ite_f c4 h
    by_cases c9 : x2 = 2
    · have h := ite_t c9 h
      refine q_tswIn (tgt := 67) hx hb g3 dX11_dueAt_13 1 (by rw [c9]; decide) (by decide) rfl (by decide) ?_
      refine lv_iload hx hb dX11_dueAt_67 (lv_at hl 0 rfl) ?_
      refine lv_iload_n hx hb dX11_dueAt_69 rfl (lv_at hl 4 rfl) ?_
      obtain ⟨g10, h⟩ := h
      obtain ⟨g11, h⟩ := h
      refine q_icmp_ne (tgt := 78) hx hb g10 g11 dX11_dueAt_70 (by decide) (fun c12 => ?_) (fun c12 => ?_)
      · have h := ite_f c12 h
        refine lv_iload hx hb dX11_dueAt_78 (lv_at hl 0 rfl) ?_
        exact ret _ _ _ _ _ _ h hw hS dX11_dueAt_80
      · have h := ite_t c12 h
        refine lv_iload hx hb dX11_dueAt_73 (lv_at hl 5 rfl) ?_
        refine lv_goto (tgt := 80) hx hb dX11_dueAt_75 (by decide) ?_
        exact ret _ _ _ _ _ _ h hw hS dX11_dueAt_80
    · have h := ite_f c9 h
      by_cases c13 : x2 = 3
      · have h := ite_t c13 h
        refine q_tswIn (tgt := 81) hx hb g3 dX11_dueAt_13 2 (by rw [c13]; decide) (by decide) rfl (by decide) ?_
        refine lv_iload hx hb dX11_dueAt_81 (lv_at hl 0 rfl) ?_
        refine lv_iload_n hx hb dX11_dueAt_83 rfl (lv_at hl 4 rfl) ?_
        obtain ⟨g14, h⟩ := h
        obtain ⟨g15, h⟩ := h
        refine q_icmp_le (tgt := 94) hx hb g14 g15 dX11_dueAt_84 (by decide) (fun c16 => ?_) (fun c16 => ?_)
        · have h := ite_t c16 h
          refine q_iconst hx hb dX11_dueAt_94 ?_
          exact ret _ _ _ _ _ _ h hw hS dX11_dueAt_95
        · have h := ite_f c16 h
          refine lv_iload hx hb dX11_dueAt_87 (lv_at hl 0 rfl) ?_
          refine lv_iload_n hx hb dX11_dueAt_89 rfl (lv_at hl 4 rfl) ?_
          refine q_isub hx hb dX11_dueAt_90 ?_
          refine lv_goto (tgt := 95) hx hb dX11_dueAt_91 (by decide) ?_
          exact ret _ _ _ _ _ _ h hw hS dX11_dueAt_95
      · have h := ite_f c13 h
        by_cases c17 : x2 = 4
        · have h := ite_t c17 h
          refine q_tswIn (tgt := 96) hx hb g3 dX11_dueAt_13 3 (by rw [c17]; decide) (by decide) rfl (by decide) ?_
          refine lv_iload_n hx hb dX11_dueAt_96 rfl (lv_at hl 2 rfl) ?_
          refine lv_iload_n hx hb dX11_dueAt_97 rfl (lv_at hl 4 rfl) ?_
          refine lv_iload hx hb dX11_dueAt_98 (lv_at hl 5 rfl) ?_
          refine call_S hexR F (kX11_in h) 3 tw6_77 tw1_8 tw6_76 tw6_75 hdX11_in ⟨Nat.le_trans (by decide) hR.1, Nat.le_trans (by decide) hR.2⟩ hA hw hS rfl hl.1 rfl (Nat.le_of_ble_eq_true rfl) dX11_dueAt_100 (fun v18 μ19 H locs h hw hS => ?_)
          obtain ⟨z20, h⟩ := h
          refine q_if_eq (tgt := 110) hx hb (rgB z20) dX11_dueAt_103 (by decide) (fun c21 => ?_) (fun c21 => ?_)
          · have h := ite_t c21 h
            refine lv_iload hx hb dX11_dueAt_110 (lv_at hl 0 rfl) ?_
            exact ret _ _ _ _ _ _ h hw hS dX11_dueAt_112
          · have h := ite_f c21 h
            refine q_iconst hx hb dX11_dueAt_106 ?_
            refine lv_goto (tgt := 112) hx hb dX11_dueAt_107 (by decide) ?_
            exact ret _ _ _ _ _ _ h hw hS dX11_dueAt_112
        · have h := ite_f c17 h
          refine q_tswOut (tgt := 113) hx hb g3 dX11_dueAt_13 (by omega) (by decide) ?_
          refine lv_iload hx hb dX11_dueAt_113 (lv_at hl 0 rfl) ?_
          exact ret _ _ _ _ _ _ h hw hS dX11_dueAt_115
set_option maxRecDepth 100000 in
set_option maxHeartbeats 4000000 in
theorem kX11_dueAt {l : Launch} {D : va_G} {cy : Nat → ClassId} {ad : AD} {A : Nat → Prop} {x0 : Int} {x1 : Int} {x2 : Int} {x3 : Int} {x4 : Int} {μ : MM} {Q : Int → MM → Prop} (h : wpX11_dueAt x0 x1 x2 x3 x4 μ Q) : Met l yX11_dueAt (Cond.code yX11_dueAt cX11_dueAt 6 (some .int) :: uw) (rmm 1 22) (wPc [.int (iI x0), .int (iI x1), .int (iI x2), .int (iI x3), .int (iI x4)] dmR cfR tyR exR D cy ad A μ) (wQ vI Q dmR cfR D cy ad A) 0 0 A :=
  met_of (by decide) (Nat.le_of_ble_eq_true rfl) (fun p e R s m args below meth c ls hr hk hRR F hA hw hS hl => wX11_dueAt F hA (by subst hRR; exact ⟨Nat.le_refl _, Nat.le_refl _⟩) (retI_of F hr hk) h hw hS hl)
theorem hdX11_dueAt : yX11_dueAt.cls ≠ "java/lang/invoke/MethodHandle" ∧ yX11_dueAt.cls ≠ "java/lang/invoke/VarHandle" ∧ (parseMethodDescriptor yX11_dueAt.desc).map (fun d => d.parameters.length) = some 5 := by decide +kernel
end
