section
variable {p : Program} {l : Launch} {e : Env} {R : Room} {s : State} {m : MethodId} {args : Array Value} {below : List Frame} {meth : Method} {c : Code} {Qf : State → Prop} {D : va_G} {cy : Nat → ClassId} {ad : AD} {A : Nat → Prop}
def wpX11_tryGears_L128 (Q : Int → MM → Prop) : Nat → Int → MM → Prop
  | 0, _, _ => False
  | n + 1, x8, μ => rg x8 ∧ (if 4 ≤ x8 then (Q 0 μ) else (0 ≤ x8 ∧ (x8 < 4 ∧ (∀ μ5 : MM, μ5 = ms μ 51 0 x8 (μ 52 0 x8) → (wpX11_tryGears_L128 Q n (x8 + 1) μ5)))))
set_option maxRecDepth 100000 in
set_option maxHeartbeats 4000000 in
theorem wX11_tryGears_L128 {Q : Int → MM → Prop} (F : CallFix p m c cX11_tryGears 9 s args uw RX11) (hA : ∀ q : Nat, s.heap.size ≤ q → A q) (hR : 1 ≤ R.frames ∧ 29 ≤ R.locals) (ret : RetV p l e R s m args below meth c cX11_tryGears Qf dmR cfR tyR exR D cy ad A Q) : ∀ (n : Nat) (x8 : Int) (μ : MM) (H : Heap) (locs : List Loc) (ls : Array Slot), wpX11_tryGears_L128 Q n x8 μ → wdR D cy ad A μ s H → va_S A s.heap H locs → lv_has ls 9 [(0, .ref (ad 0 0)), (8, .int (iI x8))] → W p l e R s m args below meth c H locs 0 0 Qf (F0 m 128 ls []) := by
  have hx := F.1
  have hb := F.2.1
  have hown := F.2.2.2.1
  have hts := F.2.2.2.2
  intro n
  induction n with
  | zero =>
    intro x8 μ H locs ls h hw hS hl
    exact h.elim
  | succ n ih =>
    intro x8 μ H locs ls h hw hS hl
    refine lv_iload hx hb dX11_tryGears_128 (lv_at hl 1 rfl) ?_
    refine q_iconst hx hb dX11_tryGears_130 ?_
    obtain ⟨g1, h⟩ := h
    refine q_icmp_ge (tgt := 154) hx hb g1 (by decide) dX11_tryGears_131 (by decide) (fun c2 => ?_) (fun c2 => ?_)
    · have h := ite_t c2 h
      exact ret _ _ _ _ _ h hw hS dX11_tryGears_154
    · have h := ite_f c2 h
      refine lv_aload_n hx hb dX11_tryGears_134 rfl (lv_at hl 0 rfl) ?_
      refine gR_chosen F hw tw5_189 dX11_tryGears_135 ?_
      refine lv_iload hx hb dX11_tryGears_138 (lv_at hl 1 rfl) ?_
      refine lv_aload_n hx hb dX11_tryGears_140 rfl (lv_at hl 0 rfl) ?_
      refine gR_four F hw tw5_190 dX11_tryGears_141 ?_
      refine lv_iload hx hb dX11_tryGears_144 (lv_at hl 1 rfl) ?_
      obtain ⟨g3, h⟩ := h
      obtain ⟨g4, h⟩ := h
      refine aR_ild (L := 4) hx hb hw 51 rfl rfl (by decide) g3 g4 dX11_tryGears_146 ?_
      obtain ⟨μ5, eμ5⟩ : ∃ z : MM, z = ms μ 51 0 x8 (μ 52 0 x8) := ⟨_, rfl⟩
      have h := h μ5 eμ5
      refine aR_ist (L := 4) hx hb hw hS 50 rfl rfl (by decide) g3 g4 eμ5 dX11_tryGears_147 (fun H locs hw hS => ?_)
      refine q_iinc (k := 1) (lv' := [(8, .int (iI (x8 + 1))), (0, .ref (ad 0 0))]) hx hb dX11_tryGears_148 hl rfl (by decide) rfl (fun ls hl => ?_)
      refine lv_goto (tgt := 128) hx hb dX11_tryGears_151 (by decide) ?_
      exact ih (x8 + 1) _ _ _ _ h hw hS (lv_sub hl [1, 0] rfl)
def wpX11_tryGears_J108 (Q : Int → MM → Prop) (x4 : Int) (x6 : Int) (μ : MM) : Prop := ∀ μ1 : MM, μ1 = ms μ 0 55 0 1 → (∀ μ2 : MM, μ2 = ms μ1 0 53 0 x4 → (∀ μ3 : MM, μ3 = ms μ2 0 54 0 x6 → (∃ n4 : Nat, wpX11_tryGears_L128 Q n4 0 μ3)))
set_option maxRecDepth 100000 in
set_option maxHeartbeats 4000000 in
theorem wX11_tryGears_J108 {Q : Int → MM → Prop} {x4 : Int} {x6 : Int} {μ : MM} {H : Heap} {locs : List Loc} {ls : Array Slot} (F : CallFix p m c cX11_tryGears 9 s args uw RX11) (hA : ∀ q : Nat, s.heap.size ≤ q → A q) (hR : 1 ≤ R.frames ∧ 29 ≤ R.locals) (ret : RetV p l e R s m args below meth c cX11_tryGears Qf dmR cfR tyR exR D cy ad A Q) (h : wpX11_tryGears_J108 Q x4 x6 μ) (hw : wdR D cy ad A μ s H) (hS : va_S A s.heap H locs) (hl : lv_has ls 9 [(0, .ref (ad 0 0)), (4, .long (lJ x4)), (6, .long (lJ x6))]) : W p l e R s m args below meth c H locs 0 0 Qf (F0 m 108 ls []) := by
  have hx := F.1
  have hb := F.2.1
  have hown := F.2.2.2.1
  have hts := F.2.2.2.2
  refine lv_aload_n hx hb dX11_tryGears_108 rfl (lv_at hl 0 rfl) ?_
  refine q_iconst hx hb dX11_tryGears_109 ?_
  obtain ⟨μ1, eμ1⟩ : ∃ z : MM, z = ms μ 0 55 0 1 := ⟨_, rfl⟩
  have h := h μ1 eμ1
  refine pR_isAny F hw hS tw5_193 (Or.inr rfl) eμ1 dX11_tryGears_110 (fun H locs hw hS => ?_)
  refine lv_aload_n hx hb dX11_tryGears_113 rfl (lv_at hl 0 rfl) ?_
  refine lv_lload hx hb dX11_tryGears_114 (lv_at hl 1 rfl) ?_
  obtain ⟨μ2, eμ2⟩ : ∃ z : MM, z = ms μ1 0 53 0 x4 := ⟨_, rfl⟩
  have h := h μ2 eμ2
  refine pR_bestUp F hw hS tw5_191 eμ2 dX11_tryGears_116 (fun H locs hw hS => ?_)
  refine lv_aload_n hx hb dX11_tryGears_119 rfl (lv_at hl 0 rfl) ?_
  refine lv_lload hx hb dX11_tryGears_120 (lv_at hl 2 rfl) ?_
  obtain ⟨μ3, eμ3⟩ : ∃ z : MM, z = ms μ2 0 54 0 x6 := ⟨_, rfl⟩
  have h := h μ3 eμ3
  refine pR_bestLow F hw hS tw5_192 eμ3 dX11_tryGears_122 (fun H locs hw hS => ?_)
  refine q_iconst hx hb dX11_tryGears_125 ?_
  refine lv_istore (lv' := [(8, .int (iI 0)), (0, .ref (ad 0 0)), (4, .long (lJ x4)), (6, .long (lJ x6))]) hx hb dX11_tryGears_126 hl (by decide) rfl (fun ls hl => ?_)
  obtain ⟨n4, h⟩ := h
  exact wX11_tryGears_L128 F hA hR ret n4 0 _ _ _ _ h hw hS (lv_sub hl [1, 0] rfl)
def wpX11_tryGears_L9 (Q : Int → MM → Prop) : Nat → Int → Int → Int → Int → Int → Int → MM → Prop
  | 0, _, _, _, _, _, _, _ => False
  | n + 1, x1, x2, x3, x4, x6, x8, μ => rg x8 ∧ (rg x3 ∧ (if x3 ≤ x8 then (rg (μ 0 55 0) ∧ (if (μ 0 55 0) = 0 then (wpX11_tryGears_J108 Q x4 x6 μ) else (rg x1 ∧ (rg x2 ∧ (wpX11_differs x4 x6 x1 x2 μ (fun v8 μ9 => wpX11_differs (μ9 0 53 0) (μ9 0 54 0) x1 x2 μ9 (fun v10 μ11 => rl (v8 * (μ9 0 54 0)) ∧ (rl (v10 * x6) ∧ (if (v10 * x6) ≤ (v8 * (μ9 0 54 0)) then (Q 0 μ11) else (wpX11_tryGears_J108 Q x4 x6 μ11)))))))))) else (0 ≤ (2 * x8) ∧ (2 * x8 < 4 ∧ (0 ≤ (μ 52 0 (2 * x8)) ∧ (μ 52 0 (2 * x8) < 12 ∧ (rg (μ 49 0 (μ 52 0 (2 * x8))) ∧ (∀ y20 : Int, y20 = x4 * (μ 49 0 (μ 52 0 (2 * x8))) → (0 ≤ ((2 * x8) + 1) ∧ ((2 * x8) + 1 < 4 ∧ (0 ≤ (μ 52 0 ((2 * x8) + 1)) ∧ (μ 52 0 ((2 * x8) + 1) < 12 ∧ (rg (μ 49 0 (μ 52 0 ((2 * x8) + 1))) ∧ (∀ y26 : Int, y26 = x6 * (μ 49 0 (μ 52 0 ((2 * x8) + 1))) → (wpX11_tryGears_L9 Q n x1 x2 x3 y20 y26 (x8 + 1) μ)))))))))))))))
set_option maxRecDepth 100000 in
set_option maxHeartbeats 4000000 in
theorem wX11_tryGears_L9 {Q : Int → MM → Prop} (F : CallFix p m c cX11_tryGears 9 s args uw RX11) (hA : ∀ q : Nat, s.heap.size ≤ q → A q) (hR : 1 ≤ R.frames ∧ 29 ≤ R.locals) (ret : RetV p l e R s m args below meth c cX11_tryGears Qf dmR cfR tyR exR D cy ad A Q) : ∀ (n : Nat) (x1 x2 x3 x4 x6 x8 : Int) (μ : MM) (H : Heap) (locs : List Loc) (ls : Array Slot), wpX11_tryGears_L9 Q n x1 x2 x3 x4 x6 x8 μ → wdR D cy ad A μ s H → va_S A s.heap H locs → lv_has ls 9 [(0, .ref (ad 0 0)), (1, .int (iI x1)), (2, .int (iI x2)), (3, .int (iI x3)), (4, .long (lJ x4)), (6, .long (lJ x6)), (8, .int (iI x8))] → W p l e R s m args below meth c H locs 0 0 Qf (F0 m 9 ls []) := by
  have hx := F.1
  have hb := F.2.1
  have hown := F.2.2.2.1
  have hts := F.2.2.2.2
  intro n
  induction n with
  | zero =>
    intro x1 x2 x3 x4 x6 x8 μ H locs ls h hw hS hl
    exact h.elim
  | succ n ih =>
    intro x1 x2 x3 x4 x6 x8 μ H locs ls h hw hS hl
    refine lv_iload hx hb dX11_tryGears_9 (lv_at hl 6 rfl) ?_
    refine lv_iload_n hx hb dX11_tryGears_11 rfl (lv_at hl 3 rfl) ?_
    obtain ⟨g1, h⟩ := h
    obtain ⟨g2, h⟩ := h
    refine q_icmp_ge (tgt := 63) hx hb g1 g2 dX11_tryGears_12 (by decide) (fun c3 => ?_) (fun c3 => ?_)
    · have h := ite_t c3 h
      refine lv_aload_n hx hb dX11_tryGears_63 rfl (lv_at hl 0 rfl) ?_
      refine gR_isAny F hw tw5_193 dX11_tryGears_64 ?_
      obtain ⟨g4, h⟩ := h
      refine q_if_eq (tgt := 108) hx hb g4 dX11_tryGears_67 (by decide) (fun c5 => ?_) (fun c5 => ?_)
      · have h := ite_t c5 h
        exact wX11_tryGears_J108 F hA hR ret h hw hS (lv_sub hl [0, 4, 5] rfl)
      · have h := ite_f c5 h
        refine lv_lload hx hb dX11_tryGears_70 (lv_at hl 4 rfl) ?_
        refine lv_lload hx hb dX11_tryGears_72 (lv_at hl 5 rfl) ?_
        refine lv_iload_n hx hb dX11_tryGears_74 rfl (lv_at hl 1 rfl) ?_
        obtain ⟨g6, h⟩ := h
        refine q_i2l hx hb g6 dX11_tryGears_75 ?_
        refine lv_iload_n hx hb dX11_tryGears_76 rfl (lv_at hl 2 rfl) ?_
        obtain ⟨g7, h⟩ := h
        refine q_i2l hx hb g7 dX11_tryGears_77 ?_
        refine call_S hexR F (kX11_differs h) 4 tw7_181 tw1_8 tw7_180 tw7_179 hdX11_differs ⟨Nat.le_trans (by decide) hR.1, Nat.le_trans (by decide) hR.2⟩ hA hw hS rfl hl.1 rfl (Nat.le_of_ble_eq_true rfl) dX11_tryGears_78 (fun v8 μ9 H locs h hw hS => ?_)
        refine lv_aload_n hx hb dX11_tryGears_81 rfl (lv_at hl 0 rfl) ?_
        refine gR_bestLow F hw tw5_192 dX11_tryGears_82 ?_
        refine q_lmul hx hb dX11_tryGears_85 ?_
        refine lv_aload_n hx hb dX11_tryGears_86 rfl (lv_at hl 0 rfl) ?_
        refine gR_bestUp F hw tw5_191 dX11_tryGears_87 ?_
        refine lv_aload_n hx hb dX11_tryGears_90 rfl (lv_at hl 0 rfl) ?_
        refine gR_bestLow F hw tw5_192 dX11_tryGears_91 ?_
        refine lv_iload_n hx hb dX11_tryGears_94 rfl (lv_at hl 1 rfl) ?_
        refine q_i2l hx hb g6 dX11_tryGears_95 ?_
        refine lv_iload_n hx hb dX11_tryGears_96 rfl (lv_at hl 2 rfl) ?_
        refine q_i2l hx hb g7 dX11_tryGears_97 ?_
        refine call_S hexR F (kX11_differs h) 4 tw7_181 tw1_8 tw7_180 tw7_179 hdX11_differs ⟨Nat.le_trans (by decide) hR.1, Nat.le_trans (by decide) hR.2⟩ hA hw hS rfl hl.1 rfl (Nat.le_of_ble_eq_true rfl) dX11_tryGears_98 (fun v10 μ11 H locs h hw hS => ?_)
        refine lv_lload hx hb dX11_tryGears_101 (lv_at hl 5 rfl) ?_
        refine q_lmul hx hb dX11_tryGears_103 ?_
        obtain ⟨g12, h⟩ := h
        obtain ⟨g13, h⟩ := h
        refine q_lcmp_ge (tgt := 154) hx hb g12 g13 dX11_tryGears_104 dX11_tryGears_105 (by decide) (fun c14 => ?_) (fun c14 => ?_)
        · have h := ite_t c14 h
          exact ret _ _ _ _ _ h hw hS dX11_tryGears_154
        · have h := ite_f c14 h
          exact wX11_tryGears_J108 F hA hR ret h hw hS (lv_sub hl [0, 4, 5] rfl)
    · have h := ite_f c3 h
      refine lv_lload hx hb dX11_tryGears_15 (lv_at hl 4 rfl) ?_
      refine lv_aload_n hx hb dX11_tryGears_17 rfl (lv_at hl 0 rfl) ?_
      refine gR_teeth F hw tw5_187 dX11_tryGears_18 ?_
      refine lv_aload_n hx hb dX11_tryGears_21 rfl (lv_at hl 0 rfl) ?_
      refine gR_four F hw tw5_190 dX11_tryGears_22 ?_
      refine q_iconst hx hb dX11_tryGears_25 ?_
      refine lv_iload hx hb dX11_tryGears_26 (lv_at hl 6 rfl) ?_
      refine q_imul hx hb dX11_tryGears_28 ?_
      obtain ⟨g15, h⟩ := h
      obtain ⟨g16, h⟩ := h
      refine aR_ild (L := 4) hx hb hw 51 rfl rfl (by decide) g15 g16 dX11_tryGears_29 ?_
      obtain ⟨g17, h⟩ := h
      obtain ⟨g18, h⟩ := h
      refine aR_ild (L := 12) hx hb hw 48 rfl rfl (by decide) g17 g18 dX11_tryGears_30 ?_
      obtain ⟨g19, h⟩ := h
      refine q_i2l hx hb g19 dX11_tryGears_31 ?_
      refine q_lmul hx hb dX11_tryGears_32 ?_
      obtain ⟨y20, ey20⟩ : ∃ z : Int, z = x4 * (μ 49 0 (μ 52 0 (2 * x8))) := ⟨_, rfl⟩
      have h := h y20 ey20
      refine q_nmL ey20 ?_
      refine lv_lstore (lv' := [(4, .long (lJ y20)), (0, .ref (ad 0 0)), (1, .int (iI x1)), (2, .int (iI x2)), (3, .int (iI x3)), (6, .long (lJ x6)), (8, .int (iI x8))]) hx hb dX11_tryGears_33 hl (by decide) rfl (fun ls hl => ?_)
      refine lv_lload hx hb dX11_tryGears_35 (lv_at hl 5 rfl) ?_
      refine lv_aload_n hx hb dX11_tryGears_37 rfl (lv_at hl 1 rfl) ?_
      refine gR_teeth F hw tw5_187 dX11_tryGears_38 ?_
      refine lv_aload_n hx hb dX11_tryGears_41 rfl (lv_at hl 1 rfl) ?_
      refine gR_four F hw tw5_190 dX11_tryGears_42 ?_
      refine q_iconst hx hb dX11_tryGears_45 ?_
      refine lv_iload hx hb dX11_tryGears_46 (lv_at hl 6 rfl) ?_
      refine q_imul hx hb dX11_tryGears_48 ?_
      refine q_iconst hx hb dX11_tryGears_49 ?_
      refine q_iadd hx hb dX11_tryGears_50 ?_
      obtain ⟨g21, h⟩ := h
      obtain ⟨g22, h⟩ := h
      refine aR_ild (L := 4) hx hb hw 51 rfl rfl (by decide) g21 g22 dX11_tryGears_51 ?_
      obtain ⟨g23, h⟩ := h
      obtain ⟨g24, h⟩ := h
      refine aR_ild (L := 12) hx hb hw 48 rfl rfl (by decide) g23 g24 dX11_tryGears_52 ?_
      obtain ⟨g25, h⟩ := h
      refine q_i2l hx hb g25 dX11_tryGears_53 ?_
      refine q_lmul hx hb dX11_tryGears_54 ?_
      obtain ⟨y26, ey26⟩ : ∃ z : Int, z = x6 * (μ 49 0 (μ 52 0 ((2 * x8) + 1))) := ⟨_, rfl⟩
      have h := h y26 ey26
      refine q_nmL ey26 ?_
      refine lv_lstore (lv' := [(6, .long (lJ y26)), (4, .long (lJ y20)), (0, .ref (ad 0 0)), (1, .int (iI x1)), (2, .int (iI x2)), (3, .int (iI x3)), (8, .int (iI x8))]) hx hb dX11_tryGears_55 hl (by decide) rfl (fun ls hl => ?_)
      refine q_iinc (k := 6) (lv' := [(8, .int (iI (x8 + 1))), (6, .long (lJ y26)), (4, .long (lJ y20)), (0, .ref (ad 0 0)), (1, .int (iI x1)), (2, .int (iI x2)), (3, .int (iI x3))]) hx hb dX11_tryGears_57 hl rfl (by decide) rfl (fun ls hl => ?_)
      refine lv_goto (tgt := 9) hx hb dX11_tryGears_60 (by decide) ?_
      exact ih x1 x2 x3 y20 y26 (x8 + 1) _ _ _ _ h hw hS (lv_sub hl [3, 4, 5, 6, 2, 1, 0] rfl)
def wpX11_tryGears (x1 : Int) (x2 : Int) (x3 : Int) (μ : MM) (Q : Int → MM → Prop) : Prop := ∃ n1 : Nat, wpX11_tryGears_L9 Q n1 x1 x2 x3 1 1 0 μ
set_option maxRecDepth 100000 in
set_option maxHeartbeats 4000000 in
theorem wX11_tryGears {Q : Int → MM → Prop} {x1 : Int} {x2 : Int} {x3 : Int} {μ : MM} {H : Heap} {locs : List Loc} {ls : Array Slot} (F : CallFix p m c cX11_tryGears 9 s args uw RX11) (hA : ∀ q : Nat, s.heap.size ≤ q → A q) (hR : 1 ≤ R.frames ∧ 29 ≤ R.locals) (ret : RetV p l e R s m args below meth c cX11_tryGears Qf dmR cfR tyR exR D cy ad A Q) (h : wpX11_tryGears x1 x2 x3 μ Q) (hw : wdR D cy ad A μ s H) (hS : va_S A s.heap H locs) (hl : lv_has ls 9 [(0, .ref (ad 0 0)), (1, .int (iI x1)), (2, .int (iI x2)), (3, .int (iI x3))]) : W p l e R s m args below meth c H locs 0 0 Qf (F0 m 0 ls []) := by
  have hx := F.1
  have hb := F.2.1
  have hown := F.2.2.2.1
  have hts := F.2.2.2.2
  refine q_lconst (v := 1) hx hb (by decide) dX11_tryGears_0 ?_
  refine lv_lstore (lv' := [(4, .long (lJ 1)), (0, .ref (ad 0 0)), (1, .int (iI x1)), (2, .int (iI x2)), (3, .int (iI x3))]) hx hb dX11_tryGears_1 hl (by decide) rfl (fun ls hl => ?_)
  refine q_lconst (v := 1) hx hb (by decide) dX11_tryGears_3 ?_
  refine lv_lstore (lv' := [(6, .long (lJ 1)), (4, .long (lJ 1)), (0, .ref (ad 0 0)), (1, .int (iI x1)), (2, .int (iI x2)), (3, .int (iI x3))]) hx hb dX11_tryGears_4 hl (by decide) rfl (fun ls hl => ?_)
  refine q_iconst hx hb dX11_tryGears_6 ?_
  refine lv_istore (lv' := [(8, .int (iI 0)), (6, .long (lJ 1)), (4, .long (lJ 1)), (0, .ref (ad 0 0)), (1, .int (iI x1)), (2, .int (iI x2)), (3, .int (iI x3))]) hx hb dX11_tryGears_7 hl (by decide) rfl (fun ls hl => ?_)
  obtain ⟨n1, h⟩ := h
  exact wX11_tryGears_L9 F hA hR ret n1 x1 x2 x3 1 1 0 _ _ _ _ h hw hS (lv_sub hl [3, 4, 5, 6, 2, 1, 0] rfl)
set_option maxRecDepth 100000 in
set_option maxHeartbeats 4000000 in
theorem kX11_tryGears {l : Launch} {D : va_G} {cy : Nat → ClassId} {ad : AD} {A : Nat → Prop} {x1 : Int} {x2 : Int} {x3 : Int} {μ : MM} {Q : Int → MM → Prop} (h : wpX11_tryGears x1 x2 x3 μ Q) : Met l yX11_tryGears (Cond.code yX11_tryGears cX11_tryGears 9 none :: uw) (rmm 1 29) (wPc [.ref (ad 0 0), .int (iI x1), .int (iI x2), .int (iI x3)] dmR cfR tyR exR D cy ad A μ) (wQ vV Q dmR cfR D cy ad A) 0 0 A :=
  met_of (by decide) (Nat.le_of_ble_eq_true rfl) (fun p e R s m args below meth c ls hr hk hRR F hA hw hS hl => wX11_tryGears F hA (by subst hRR; exact ⟨Nat.le_refl _, Nat.le_refl _⟩) (retV_of F hr hk) h hw hS hl)
theorem hdX11_tryGears : yX11_tryGears.cls ≠ "java/lang/invoke/MethodHandle" ∧ yX11_tryGears.cls ≠ "java/lang/invoke/VarHandle" ∧ (parseMethodDescriptor yX11_tryGears.desc).map (fun d => d.parameters.length) = some 3 := by decide +kernel
def wpX11_nearest_J172 (k119 : Int → Int → Int → Int → Int → Int → Int → Int → Int → MM → Prop) (k95 : Int → Int → Int → Int → Int → MM → Prop) (Q : Int → MM → Prop) (x1 : Int) (x2 : Int) (x3 : Int) (x4 : Int) (x5 : Int) (x6 : Int) (x8 : Int) (x9 : Int) (t0 : Int) (μ : MM) : Prop := 0 ≤ x9 ∧ (x9 < 4 ∧ (∀ y3 : Int, y3 = ior x8 (ishl 1 (μ 52 0 x9)) → (k119 x1 x2 x3 x4 x5 x6 t0 y3 (x9 + (-1)) μ)))
set_option maxRecDepth 100000 in
set_option maxHeartbeats 4000000 in
theorem wX11_nearest_J172 {k119 : Int → Int → Int → Int → Int → Int → Int → Int → Int → MM → Prop} {k95 : Int → Int → Int → Int → Int → MM → Prop} {Q : Int → MM → Prop} {x1 : Int} {x2 : Int} {x3 : Int} {x4 : Int} {x5 : Int} {x6 : Int} {x8 : Int} {x9 : Int} {t0 : Int} {μ : MM} {H : Heap} {locs : List Loc} {ls : Array Slot} (F : CallFix p m c cX11_nearest 10 s args uw RX11) (hA : ∀ q : Nat, s.heap.size ≤ q → A q) (hR : 2 ≤ R.frames ∧ 57 ≤ R.locals) (ret : RetI p l e R s m args below meth c cX11_nearest Qf dmR cfR tyR exR D cy ad A Q) (hk119 : ∀ (x1' x2' x3' x4' x5' x6' x7' x8' x9' : Int) (μ' : MM) (H : Heap) (locs : List Loc) (ls : Array Slot), k119 x1' x2' x3' x4' x5' x6' x7' x8' x9' μ' → wdR D cy ad A μ' s H → va_S A s.heap H locs → lv_has ls 10 [(0, .ref (ad 0 0)), (1, .int (iI (x1'))), (2, .int (iI (x2'))), (3, .int (iI (x3'))), (4, .int (iI (x4'))), (5, .int (iI (x5'))), (6, .int (iI (x6'))), (7, .int (iI (x7'))), (8, .int (iI (x8'))), (9, .int (iI (x9')))] → W p l e R s m args below meth c H locs 0 0 Qf (F0 m 119 ls [])) (hk95 : ∀ (x1' x2' x3' x4' x5' : Int) (μ' : MM) (H : Heap) (locs : List Loc) (ls : Array Slot), k95 x1' x2' x3' x4' x5' μ' → wdR D cy ad A μ' s H → va_S A s.heap H locs → lv_has ls 10 [(0, .ref (ad 0 0)), (1, .int (iI (x1'))), (2, .int (iI (x2'))), (3, .int (iI (x3'))), (4, .int (iI (x4'))), (5, .int (iI (x5')))] → W p l e R s m args below meth c H locs 0 0 Qf (F0 m 95 ls [])) (h : wpX11_nearest_J172 k119 k95 Q x1 x2 x3 x4 x5 x6 x8 x9 t0 μ) (hw : wdR D cy ad A μ s H) (hS : va_S A s.heap H locs) (hl : lv_has ls 10 [(0, .ref (ad 0 0)), (1, .int (iI x1)), (2, .int (iI x2)), (3, .int (iI x3)), (4, .int (iI x4)), (5, .int (iI x5)), (6, .int (iI x6)), (8, .int (iI x8)), (9, .int (iI x9))]) : W p l e R s m args below meth c H locs 0 0 Qf (F0 m 172 ls [.int (iI t0)]) := by
  have hx := F.1
  have hb := F.2.1
  have hown := F.2.2.2.1
  have hts := F.2.2.2.2
  refine lv_istore (lv' := [(7, .int (iI t0)), (0, .ref (ad 0 0)), (1, .int (iI x1)), (2, .int (iI x2)), (3, .int (iI x3)), (4, .int (iI x4)), (5, .int (iI x5)), (6, .int (iI x6)), (8, .int (iI x8)), (9, .int (iI x9))]) hx hb dX11_nearest_172 hl (by decide) rfl (fun ls hl => ?_)
  refine lv_iload hx hb dX11_nearest_174 (lv_at hl 8 rfl) ?_
  refine q_iconst hx hb dX11_nearest_176 ?_
  refine lv_aload_n hx hb dX11_nearest_177 rfl (lv_at hl 1 rfl) ?_
  refine gR_four F hw tw5_190 dX11_nearest_178 ?_
  refine lv_iload hx hb dX11_nearest_181 (lv_at hl 9 rfl) ?_
  obtain ⟨g1, h⟩ := h
  obtain ⟨g2, h⟩ := h
  refine aR_ild (L := 4) hx hb hw 51 rfl rfl (by decide) g1 g2 dX11_nearest_183 ?_
  refine q_ishl hx hb dX11_nearest_184 ?_
  refine q_ior hx hb dX11_nearest_185 ?_
  obtain ⟨y3, ey3⟩ : ∃ z : Int, z = ior x8 (ishl 1 (μ 52 0 x9)) := ⟨_, rfl⟩
  have h := h y3 ey3
  refine q_nmI ey3 ?_
  refine lv_istore (lv' := [(8, .int (iI y3)), (7, .int (iI t0)), (0, .ref (ad 0 0)), (1, .int (iI x1)), (2, .int (iI x2)), (3, .int (iI x3)), (4, .int (iI x4)), (5, .int (iI x5)), (6, .int (iI x6)), (9, .int (iI x9))]) hx hb dX11_nearest_186 hl (by decide) rfl (fun ls hl => ?_)
  refine q_iinc (k := 9) (lv' := [(9, .int (iI (x9 + (-1)))), (8, .int (iI y3)), (7, .int (iI t0)), (0, .ref (ad 0 0)), (1, .int (iI x1)), (2, .int (iI x2)), (3, .int (iI x3)), (4, .int (iI x4)), (5, .int (iI x5)), (6, .int (iI x6))]) hx hb dX11_nearest_188 hl rfl (by decide) rfl (fun ls hl => ?_)
  refine lv_goto (tgt := 119) hx hb dX11_nearest_191 (by decide) ?_
  exact hk119 x1 x2 x3 x4 x5 x6 t0 y3 (x9 + (-1)) _ _ _ _ h hw hS (lv_sub hl [3, 4, 5, 6, 7, 8, 9, 2, 1, 0] rfl)
def wpX11_nearest_J171 (k119 : Int → Int → Int → Int → Int → Int → Int → Int → Int → MM → Prop) (k95 : Int → Int → Int → Int → Int → MM → Prop) (Q : Int → MM → Prop) (x1 : Int) (x2 : Int) (x3 : Int) (x4 : Int) (x5 : Int) (x6 : Int) (x8 : Int) (x9 : Int) (μ : MM) : Prop := wpX11_nearest_J172 k119 k95 Q x1 x2 x3 x4 x5 x6 x8 x9 0 μ
set_option maxRecDepth 100000 in
set_option maxHeartbeats 4000000 in
theorem wX11_nearest_J171 {k119 : Int → Int → Int → Int → Int → Int → Int → Int → Int → MM → Prop} {k95 : Int → Int → Int → Int → Int → MM → Prop} {Q : Int → MM → Prop} {x1 : Int} {x2 : Int} {x3 : Int} {x4 : Int} {x5 : Int} {x6 : Int} {x8 : Int} {x9 : Int} {μ : MM} {H : Heap} {locs : List Loc} {ls : Array Slot} (F : CallFix p m c cX11_nearest 10 s args uw RX11) (hA : ∀ q : Nat, s.heap.size ≤ q → A q) (hR : 2 ≤ R.frames ∧ 57 ≤ R.locals) (ret : RetI p l e R s m args below meth c cX11_nearest Qf dmR cfR tyR exR D cy ad A Q) (hk119 : ∀ (x1' x2' x3' x4' x5' x6' x7' x8' x9' : Int) (μ' : MM) (H : Heap) (locs : List Loc) (ls : Array Slot), k119 x1' x2' x3' x4' x5' x6' x7' x8' x9' μ' → wdR D cy ad A μ' s H → va_S A s.heap H locs → lv_has ls 10 [(0, .ref (ad 0 0)), (1, .int (iI (x1'))), (2, .int (iI (x2'))), (3, .int (iI (x3'))), (4, .int (iI (x4'))), (5, .int (iI (x5'))), (6, .int (iI (x6'))), (7, .int (iI (x7'))), (8, .int (iI (x8'))), (9, .int (iI (x9')))] → W p l e R s m args below meth c H locs 0 0 Qf (F0 m 119 ls [])) (hk95 : ∀ (x1' x2' x3' x4' x5' : Int) (μ' : MM) (H : Heap) (locs : List Loc) (ls : Array Slot), k95 x1' x2' x3' x4' x5' μ' → wdR D cy ad A μ' s H → va_S A s.heap H locs → lv_has ls 10 [(0, .ref (ad 0 0)), (1, .int (iI (x1'))), (2, .int (iI (x2'))), (3, .int (iI (x3'))), (4, .int (iI (x4'))), (5, .int (iI (x5')))] → W p l e R s m args below meth c H locs 0 0 Qf (F0 m 95 ls [])) (h : wpX11_nearest_J171 k119 k95 Q x1 x2 x3 x4 x5 x6 x8 x9 μ) (hw : wdR D cy ad A μ s H) (hS : va_S A s.heap H locs) (hl : lv_has ls 10 [(0, .ref (ad 0 0)), (1, .int (iI x1)), (2, .int (iI x2)), (3, .int (iI x3)), (4, .int (iI x4)), (5, .int (iI x5)), (6, .int (iI x6)), (8, .int (iI x8)), (9, .int (iI x9))]) : W p l e R s m args below meth c H locs 0 0 Qf (F0 m 171 ls []) := by
  have hx := F.1
  have hb := F.2.1
  have hown := F.2.2.2.1
  have hts := F.2.2.2.2
  refine q_iconst hx hb dX11_nearest_171 ?_
  exact wX11_nearest_J172 F hA hR ret hk119 hk95 h hw hS (lv_sub hl [0, 1, 2, 3, 4, 5, 6, 7, 8] rfl)
def wpX11_nearest_J206 (k95 : Int → Int → Int → Int → Int → MM → Prop) (Q : Int → MM → Prop) (x1 : Int) (x2 : Int) (x3 : Int) (x4 : Int) (x5 : Int) (μ : MM) : Prop := k95 x1 x2 x3 x4 (x5 + 1) μ
set_option maxRecDepth 100000 in
set_option maxHeartbeats 4000000 in
theorem wX11_nearest_J206 {k95 : Int → Int → Int → Int → Int → MM → Prop} {Q : Int → MM → Prop} {x1 : Int} {x2 : Int} {x3 : Int} {x4 : Int} {x5 : Int} {μ : MM} {H : Heap} {locs : List Loc} {ls : Array Slot} (F : CallFix p m c cX11_nearest 10 s args uw RX11) (hA : ∀ q : Nat, s.heap.size ≤ q → A q) (hR : 2 ≤ R.frames ∧ 57 ≤ R.locals) (ret : RetI p l e R s m args below meth c cX11_nearest Qf dmR cfR tyR exR D cy ad A Q) (hk95 : ∀ (x1' x2' x3' x4' x5' : Int) (μ' : MM) (H : Heap) (locs : List Loc) (ls : Array Slot), k95 x1' x2' x3' x4' x5' μ' → wdR D cy ad A μ' s H → va_S A s.heap H locs → lv_has ls 10 [(0, .ref (ad 0 0)), (1, .int (iI (x1'))), (2, .int (iI (x2'))), (3, .int (iI (x3'))), (4, .int (iI (x4'))), (5, .int (iI (x5')))] → W p l e R s m args below meth c H locs 0 0 Qf (F0 m 95 ls [])) (h : wpX11_nearest_J206 k95 Q x1 x2 x3 x4 x5 μ) (hw : wdR D cy ad A μ s H) (hS : va_S A s.heap H locs) (hl : lv_has ls 10 [(0, .ref (ad 0 0)), (1, .int (iI x1)), (2, .int (iI x2)), (3, .int (iI x3)), (4, .int (iI x4)), (5, .int (iI x5))]) : W p l e R s m args below meth c H locs 0 0 Qf (F0 m 206 ls []) := by
  have hx := F.1
  have hb := F.2.1
  have hown := F.2.2.2.1
  have hts := F.2.2.2.2
  refine q_iinc (k := 5) (lv' := [(5, .int (iI (x5 + 1))), (0, .ref (ad 0 0)), (1, .int (iI x1)), (2, .int (iI x2)), (3, .int (iI x3)), (4, .int (iI x4))]) hx hb dX11_nearest_206 hl rfl (by decide) rfl (fun ls hl => ?_)
  refine lv_goto (tgt := 95) hx hb dX11_nearest_209 (by decide) ?_
  exact hk95 x1 x2 x3 x4 (x5 + 1) _ _ _ _ h hw hS (lv_sub hl [1, 2, 3, 4, 5, 0] rfl)
def wpX11_nearest_L119 (k95 : Int → Int → Int → Int → Int → MM → Prop) (Q : Int → MM → Prop) : Nat → Int → Int → Int → Int → Int → Int → Int → Int → Int → MM → Prop
  | 0, _, _, _, _, _, _, _, _, _, _ => False
  | n + 1, x1, x2, x3, x4, x5, x6, x7, x8, x9, μ => rg x9 ∧ (if x9 < 0 then (rg x7 ∧ (if x7 = 0 then (wpX11_nearest_J206 k95 Q x1 x2 x3 x4 x5 μ) else (wpX11_tryGears x1 x2 x3 μ (fun v5 μ6 => wpX11_nearest_J206 k95 Q x1 x2 x3 x4 x5 μ6)))) else (rg x6 ∧ (rg (μ 0 48 0) ∧ ((μ 0 48 0) ≠ 0 ∧ (0 ≤ x9 ∧ (x9 < 4 ∧ (∀ μ12 : MM, μ12 = ms μ 52 0 x9 (Int.tmod x6 (μ 0 48 0)) → (rg (μ12 0 48 0) ∧ ((μ12 0 48 0) ≠ 0 ∧ (∀ y15 : Int, y15 = Int.tdiv x6 (μ12 0 48 0) → (rg x7 ∧ (if x7 = 0 then (wpX11_nearest_J171 (fun x1' x2' x3' x4' x5' x6' x7' x8' x9' μ' => wpX11_nearest_L119 k95 Q n x1' x2' x3' x4' x5' x6' x7' x8' x9' μ') k95 Q x1 x2 x3 x4 x5 y15 x8 x9 μ12) else (rg (iand (ishr x8 (μ12 52 0 x9)) 1) ∧ (if (iand (ishr x8 (μ12 52 0 x9)) 1) = 0 then (wpX11_nearest_J172 (fun x1' x2' x3' x4' x5' x6' x7' x8' x9' μ' => wpX11_nearest_L119 k95 Q n x1' x2' x3' x4' x5' x6' x7' x8' x9' μ') k95 Q x1 x2 x3 x4 x5 y15 x8 x9 1 μ12) else (wpX11_nearest_J171 (fun x1' x2' x3' x4' x5' x6' x7' x8' x9' μ' => wpX11_nearest_L119 k95 Q n x1' x2' x3' x4' x5' x6' x7' x8' x9' μ') k95 Q x1 x2 x3 x4 x5 y15 x8 x9 μ12)))))))))))))))
set_option maxRecDepth 100000 in
set_option maxHeartbeats 4000000 in
theorem wX11_nearest_L119 {k95 : Int → Int → Int → Int → Int → MM → Prop} {Q : Int → MM → Prop} (F : CallFix p m c cX11_nearest 10 s args uw RX11) (hA : ∀ q : Nat, s.heap.size ≤ q → A q) (hR : 2 ≤ R.frames ∧ 57 ≤ R.locals) (ret : RetI p l e R s m args below meth c cX11_nearest Qf dmR cfR tyR exR D cy ad A Q) (hk95 : ∀ (x1' x2' x3' x4' x5' : Int) (μ' : MM) (H : Heap) (locs : List Loc) (ls : Array Slot), k95 x1' x2' x3' x4' x5' μ' → wdR D cy ad A μ' s H → va_S A s.heap H locs → lv_has ls 10 [(0, .ref (ad 0 0)), (1, .int (iI (x1'))), (2, .int (iI (x2'))), (3, .int (iI (x3'))), (4, .int (iI (x4'))), (5, .int (iI (x5')))] → W p l e R s m args below meth c H locs 0 0 Qf (F0 m 95 ls [])) : ∀ (n : Nat) (x1 x2 x3 x4 x5 x6 x7 x8 x9 : Int) (μ : MM) (H : Heap) (locs : List Loc) (ls : Array Slot), wpX11_nearest_L119 k95 Q n x1 x2 x3 x4 x5 x6 x7 x8 x9 μ → wdR D cy ad A μ s H → va_S A s.heap H locs → lv_has ls 10 [(0, .ref (ad 0 0)), (1, .int (iI x1)), (2, .int (iI x2)), (3, .int (iI x3)), (4, .int (iI x4)), (5, .int (iI x5)), (6, .int (iI x6)), (7, .int (iI x7)), (8, .int (iI x8)), (9, .int (iI x9))] → W p l e R s m args below meth c H locs 0 0 Qf (F0 m 119 ls []) := by
  have hx := F.1
  have hb := F.2.1
  have hown := F.2.2.2.1
  have hts := F.2.2.2.2
  intro n
  induction n with
  | zero =>
    intro x1 x2 x3 x4 x5 x6 x7 x8 x9 μ H locs ls h hw hS hl
    exact h.elim
  | succ n ih =>
    intro x1 x2 x3 x4 x5 x6 x7 x8 x9 μ H locs ls h hw hS hl
    refine lv_iload hx hb dX11_nearest_119 (lv_at hl 9 rfl) ?_
    obtain ⟨g1, h⟩ := h
    refine q_if_lt (tgt := 194) hx hb g1 dX11_nearest_121 (by decide) (fun c2 => ?_) (fun c2 => ?_)
    · have h := ite_t c2 h
      refine lv_iload hx hb dX11_nearest_194 (lv_at hl 7 rfl) ?_
      obtain ⟨g3, h⟩ := h
      refine q_if_eq (tgt := 206) hx hb g3 dX11_nearest_196 (by decide) (fun c4 => ?_) (fun c4 => ?_)
      · have h := ite_t c4 h
        exact wX11_nearest_J206 F hA hR ret hk95 h hw hS (lv_sub hl [0, 1, 2, 3, 4, 5] rfl)
      · have h := ite_f c4 h
        refine lv_aload_n hx hb dX11_nearest_199 rfl (lv_at hl 0 rfl) ?_
        refine lv_iload_n hx hb dX11_nearest_200 rfl (lv_at hl 1 rfl) ?_
        refine lv_iload_n hx hb dX11_nearest_201 rfl (lv_at hl 2 rfl) ?_
        refine lv_iload_n hx hb dX11_nearest_202 rfl (lv_at hl 3 rfl) ?_
        refine call_V hexR F (kX11_tryGears h) 3 tw7_178 tw1_8 tw7_177 tws4_10 tw7_175 hdX11_tryGears ⟨Nat.le_trans (by decide) hR.1, Nat.le_trans (by decide) hR.2⟩ (hw.recv (k := 0) (i := 0) ⟨rfl, Or.inl rfl⟩ rfl rfl) hA hw hS rfl hl.1 rfl (Nat.le_of_ble_eq_true rfl) dX11_nearest_203 (fun v5 μ6 H locs h hw hS => ?_)
        exact wX11_nearest_J206 F hA hR ret hk95 h hw hS (lv_sub hl [0, 1, 2, 3, 4, 5] rfl)
    · have h := ite_f c2 h
      refine lv_aload_n hx hb dX11_nearest_124 rfl (lv_at hl 0 rfl) ?_
      refine gR_four F hw tw5_190 dX11_nearest_125 ?_
      refine lv_iload hx hb dX11_nearest_128 (lv_at hl 9 rfl) ?_
      refine lv_iload hx hb dX11_nearest_130 (lv_at hl 6 rfl) ?_
      refine lv_aload_n hx hb dX11_nearest_132 rfl (lv_at hl 0 rfl) ?_
      refine gR_wheels F hw tw5_186 dX11_nearest_133 ?_
      obtain ⟨g7, h⟩ := h
      obtain ⟨g8, h⟩ := h
      obtain ⟨g9, h⟩ := h
      refine q_irem hx hb g7 g8 g9 dX11_nearest_136 ?_
      obtain ⟨g10, h⟩ := h
      obtain ⟨g11, h⟩ := h
      obtain ⟨μ12, eμ12⟩ : ∃ z : MM, z = ms μ 52 0 x9 (Int.tmod x6 (μ 0 48 0)) := ⟨_, rfl⟩
      have h := h μ12 eμ12
      refine aR_ist (L := 4) hx hb hw hS 51 rfl rfl (by decide) g10 g11 eμ12 dX11_nearest_137 (fun H locs hw hS => ?_)
      refine lv_iload hx hb dX11_nearest_138 (lv_at hl 6 rfl) ?_
      refine lv_aload_n hx hb dX11_nearest_140 rfl (lv_at hl 0 rfl) ?_
      refine gR_wheels F hw tw5_186 dX11_nearest_141 ?_
      obtain ⟨g13, h⟩ := h
      obtain ⟨g14, h⟩ := h
      refine q_idiv hx hb g7 g13 g14 dX11_nearest_144 ?_
      obtain ⟨y15, ey15⟩ : ∃ z : Int, z = Int.tdiv x6 (μ12 0 48 0) := ⟨_, rfl⟩
      have h := h y15 ey15
      refine q_nmI ey15 ?_
      refine lv_istore (lv' := [(6, .int (iI y15)), (0, .ref (ad 0 0)), (1, .int (iI x1)), (2, .int (iI x2)), (3, .int (iI x3)), (4, .int (iI x4)), (5, .int (iI x5)), (7, .int (iI x7)), (8, .int (iI x8)), (9, .int (iI x9))]) hx hb dX11_nearest_145 hl (by decide) rfl (fun ls hl => ?_)
      refine lv_iload hx hb dX11_nearest_147 (lv_at hl 7 rfl) ?_
      obtain ⟨g16, h⟩ := h
      refine q_if_eq (tgt := 171) hx hb g16 dX11_nearest_149 (by decide) (fun c17 => ?_) (fun c17 => ?_)
      · have h := ite_t c17 h
        exact wX11_nearest_J171 F hA hR ret (fun x1 x2 x3 x4 x5 x6 x7 x8 x9 => ih x1 x2 x3 x4 x5 x6 x7 x8 x9) hk95 h hw hS (lv_sub hl [1, 2, 3, 4, 5, 6, 0, 8, 9] rfl)
      · have h := ite_f c17 h
        refine lv_iload hx hb dX11_nearest_152 (lv_at hl 8 rfl) ?_
        refine lv_aload_n hx hb dX11_nearest_154 rfl (lv_at hl 1 rfl) ?_
        refine gR_four F hw tw5_190 dX11_nearest_155 ?_
        refine lv_iload hx hb dX11_nearest_158 (lv_at hl 9 rfl) ?_
        refine aR_ild (L := 4) hx hb hw 51 rfl rfl (by decide) g10 g11 dX11_nearest_160 ?_
        refine q_ishr hx hb dX11_nearest_161 ?_
        refine q_iconst hx hb dX11_nearest_162 ?_
        refine q_iand hx hb dX11_nearest_163 ?_
        obtain ⟨g18, h⟩ := h
        refine q_if_ne (tgt := 171) hx hb g18 dX11_nearest_164 (by decide) (fun c19 => ?_) (fun c19 => ?_)
        · have h := ite_f c19 h
          exact wX11_nearest_J171 F hA hR ret (fun x1 x2 x3 x4 x5 x6 x7 x8 x9 => ih x1 x2 x3 x4 x5 x6 x7 x8 x9) hk95 h hw hS (lv_sub hl [1, 2, 3, 4, 5, 6, 0, 8, 9] rfl)
        · have h := ite_t c19 h
          refine q_iconst hx hb dX11_nearest_167 ?_
          refine lv_goto (tgt := 172) hx hb dX11_nearest_168 (by decide) ?_
          exact wX11_nearest_J172 F hA hR ret (fun x1 x2 x3 x4 x5 x6 x7 x8 x9 => ih x1 x2 x3 x4 x5 x6 x7 x8 x9) hk95 h hw hS (lv_sub hl [1, 2, 3, 4, 5, 6, 0, 8, 9] rfl)
def wpX11_nearest_L95 (Q : Int → MM → Prop) : Nat → Int → Int → Int → Int → Int → MM → Prop
  | 0, _, _, _, _, _, _ => False
  | n + 1, x1, x2, x3, x4, x5, μ => rg x5 ∧ (rg x4 ∧ (if x4 ≤ x5 then (∀ μ4 : MM, μ4 = ms μ 0 50 0 (2 * x3) → (wpX11_tell (μ4 0 53 0) (μ4 0 54 0) μ4 (fun v5 μ6 => Q v5 μ6))) else (∀ y7 : Int, y7 = (2 * x3) - 1 → (∃ n8 : Nat, wpX11_nearest_L119 (fun x1' x2' x3' x4' x5' μ' => wpX11_nearest_L95 Q n x1' x2' x3' x4' x5' μ') Q n8 x1 x2 x3 x4 x5 x5 1 0 y7 μ))))
set_option maxRecDepth 100000 in
set_option maxHeartbeats 4000000 in
theorem wX11_nearest_L95 {Q : Int → MM → Prop} (F : CallFix p m c cX11_nearest 10 s args uw RX11) (hA : ∀ q : Nat, s.heap.size ≤ q → A q) (hR : 2 ≤ R.frames ∧ 57 ≤ R.locals) (ret : RetI p l e R s m args below meth c cX11_nearest Qf dmR cfR tyR exR D cy ad A Q) : ∀ (n : Nat) (x1 x2 x3 x4 x5 : Int) (μ : MM) (H : Heap) (locs : List Loc) (ls : Array Slot), wpX11_nearest_L95 Q n x1 x2 x3 x4 x5 μ → wdR D cy ad A μ s H → va_S A s.heap H locs → lv_has ls 10 [(0, .ref (ad 0 0)), (1, .int (iI x1)), (2, .int (iI x2)), (3, .int (iI x3)), (4, .int (iI x4)), (5, .int (iI x5))] → W p l e R s m args below meth c H locs 0 0 Qf (F0 m 95 ls []) := by
  have hx := F.1
  have hb := F.2.1
  have hown := F.2.2.2.1
  have hts := F.2.2.2.2
  intro n
  induction n with
  | zero =>
    intro x1 x2 x3 x4 x5 μ H locs ls h hw hS hl
    exact h.elim
  | succ n ih =>
    intro x1 x2 x3 x4 x5 μ H locs ls h hw hS hl
    refine lv_iload hx hb dX11_nearest_95 (lv_at hl 5 rfl) ?_
    refine lv_iload hx hb dX11_nearest_97 (lv_at hl 4 rfl) ?_
    obtain ⟨g1, h⟩ := h
    obtain ⟨g2, h⟩ := h
    refine q_icmp_ge (tgt := 212) hx hb g1 g2 dX11_nearest_99 (by decide) (fun c3 => ?_) (fun c3 => ?_)
    · have h := ite_t c3 h
      refine lv_aload_n hx hb dX11_nearest_212 rfl (lv_at hl 0 rfl) ?_
      refine q_iconst hx hb dX11_nearest_213 ?_
      refine lv_iload_n hx hb dX11_nearest_214 rfl (lv_at hl 3 rfl) ?_
      refine q_imul hx hb dX11_nearest_215 ?_
      obtain ⟨μ4, eμ4⟩ : ∃ z : MM, z = ms μ 0 50 0 (2 * x3) := ⟨_, rfl⟩
      have h := h μ4 eμ4
      refine pR_chosenMany F hw hS tw5_188 eμ4 dX11_nearest_216 (fun H locs hw hS => ?_)
      refine lv_aload_n hx hb dX11_nearest_219 rfl (lv_at hl 0 rfl) ?_
      refine lv_aload_n hx hb dX11_nearest_220 rfl (lv_at hl 0 rfl) ?_
      refine gR_bestUp F hw tw5_191 dX11_nearest_221 ?_
      refine lv_aload_n hx hb dX11_nearest_224 rfl (lv_at hl 0 rfl) ?_
      refine gR_bestLow F hw tw5_192 dX11_nearest_225 ?_
      refine call_V hexR F (kX11_tell h) 2 tw7_185 tw1_8 tw7_184 tws4_11 tw7_182 hdX11_tell ⟨Nat.le_trans (by decide) hR.1, Nat.le_trans (by decide) hR.2⟩ (hw.recv (k := 0) (i := 0) ⟨rfl, Or.inl rfl⟩ rfl rfl) hA hw hS rfl hl.1 rfl (Nat.le_of_ble_eq_true rfl) dX11_nearest_228 (fun v5 μ6 H locs h hw hS => ?_)
      exact ret _ _ _ _ _ _ h hw hS dX11_nearest_231
    · have h := ite_f c3 h
      refine lv_iload hx hb dX11_nearest_102 (lv_at hl 5 rfl) ?_
      refine lv_istore (lv' := [(6, .int (iI x5)), (0, .ref (ad 0 0)), (1, .int (iI x1)), (2, .int (iI x2)), (3, .int (iI x3)), (4, .int (iI x4)), (5, .int (iI x5))]) hx hb dX11_nearest_104 hl (by decide) rfl (fun ls hl => ?_)
      refine q_iconst hx hb dX11_nearest_106 ?_
      refine lv_istore (lv' := [(7, .int (iI 1)), (6, .int (iI x5)), (0, .ref (ad 0 0)), (1, .int (iI x1)), (2, .int (iI x2)), (3, .int (iI x3)), (4, .int (iI x4)), (5, .int (iI x5))]) hx hb dX11_nearest_107 hl (by decide) rfl (fun ls hl => ?_)
      refine q_iconst hx hb dX11_nearest_109 ?_
      refine lv_istore (lv' := [(8, .int (iI 0)), (7, .int (iI 1)), (6, .int (iI x5)), (0, .ref (ad 0 0)), (1, .int (iI x1)), (2, .int (iI x2)), (3, .int (iI x3)), (4, .int (iI x4)), (5, .int (iI x5))]) hx hb dX11_nearest_110 hl (by decide) rfl (fun ls hl => ?_)
      refine q_iconst hx hb dX11_nearest_112 ?_
      refine lv_iload_n hx hb dX11_nearest_113 rfl (lv_at hl 6 rfl) ?_
      refine q_imul hx hb dX11_nearest_114 ?_
      refine q_iconst hx hb dX11_nearest_115 ?_
      refine q_isub hx hb dX11_nearest_116 ?_
      obtain ⟨y7, ey7⟩ : ∃ z : Int, z = (2 * x3) - 1 := ⟨_, rfl⟩
      have h := h y7 ey7
      refine q_nmI ey7 ?_
      refine lv_istore (lv' := [(9, .int (iI y7)), (8, .int (iI 0)), (7, .int (iI 1)), (6, .int (iI x5)), (0, .ref (ad 0 0)), (1, .int (iI x1)), (2, .int (iI x2)), (3, .int (iI x3)), (4, .int (iI x4)), (5, .int (iI x5))]) hx hb dX11_nearest_117 hl (by decide) rfl (fun ls hl => ?_)
      obtain ⟨n8, h⟩ := h
      exact wX11_nearest_L119 F hA hR ret (fun x1 x2 x3 x4 x5 => ih x1 x2 x3 x4 x5) n8 x1 x2 x3 x4 x5 x5 1 0 y7 _ _ _ _ h hw hS (lv_sub hl [4, 5, 6, 7, 8, 9, 3, 2, 1, 0] rfl)
def wpX11_nearest_J90 (Q : Int → MM → Prop) (x1 : Int) (x2 : Int) (x3 : Int) (t0 : Int) (μ : MM) : Prop := ∃ n1 : Nat, wpX11_nearest_L95 Q n1 x1 x2 x3 t0 0 μ
set_option maxRecDepth 100000 in
set_option maxHeartbeats 4000000 in
theorem wX11_nearest_J90 {Q : Int → MM → Prop} {x1 : Int} {x2 : Int} {x3 : Int} {t0 : Int} {μ : MM} {H : Heap} {locs : List Loc} {ls : Array Slot} (F : CallFix p m c cX11_nearest 10 s args uw RX11) (hA : ∀ q : Nat, s.heap.size ≤ q → A q) (hR : 2 ≤ R.frames ∧ 57 ≤ R.locals) (ret : RetI p l e R s m args below meth c cX11_nearest Qf dmR cfR tyR exR D cy ad A Q) (h : wpX11_nearest_J90 Q x1 x2 x3 t0 μ) (hw : wdR D cy ad A μ s H) (hS : va_S A s.heap H locs) (hl : lv_has ls 10 [(0, .ref (ad 0 0)), (1, .int (iI x1)), (2, .int (iI x2)), (3, .int (iI x3))]) : W p l e R s m args below meth c H locs 0 0 Qf (F0 m 90 ls [.int (iI t0)]) := by
  have hx := F.1
  have hb := F.2.1
  have hown := F.2.2.2.1
  have hts := F.2.2.2.2
  refine lv_istore (lv' := [(4, .int (iI t0)), (0, .ref (ad 0 0)), (1, .int (iI x1)), (2, .int (iI x2)), (3, .int (iI x3))]) hx hb dX11_nearest_90 hl (by decide) rfl (fun ls hl => ?_)
  refine q_iconst hx hb dX11_nearest_92 ?_
  refine lv_istore (lv' := [(5, .int (iI 0)), (4, .int (iI t0)), (0, .ref (ad 0 0)), (1, .int (iI x1)), (2, .int (iI x2)), (3, .int (iI x3))]) hx hb dX11_nearest_93 hl (by decide) rfl (fun ls hl => ?_)
  obtain ⟨n1, h⟩ := h
  exact wX11_nearest_L95 F hA hR ret n1 x1 x2 x3 t0 0 _ _ _ _ h hw hS (lv_sub hl [2, 3, 4, 5, 1, 0] rfl)
def wpX11_nearest (x1 : Int) (x2 : Int) (x3 : Int) (μ : MM) (Q : Int → MM → Prop) : Prop := wpX11_in x1 1 10000 μ (fun v1 μ2 => if v1 = 0 then (Q (-1) μ2) else (wpX11_in x2 1 10000 μ2 (fun v5 μ6 => if v5 = 0 then (Q (-1) μ6) else (wpX11_in x3 1 2 μ6 (fun v9 μ10 => if v9 = 0 then (Q (-1) μ10) else (rg (μ10 0 48 0) ∧ (rg (2 * x3) ∧ (if (2 * x3) ≤ (μ10 0 48 0) then (∀ μ16 : MM, μ16 = ms μ10 0 55 0 0 → (rg x3 ∧ (if x3 = 1 then (wpX11_nearest_J90 Q x1 x2 x3 ((μ16 0 48 0) * (μ16 0 48 0)) μ16) else (wpX11_nearest_J90 Q x1 x2 x3 ((((μ16 0 48 0) * (μ16 0 48 0)) * (μ16 0 48 0)) * (μ16 0 48 0)) μ16)))) else (wpX11_meets 4 μ10 (fun v19 μ20 => Q v19 μ20))))))))))
set_option maxRecDepth 100000 in
set_option maxHeartbeats 4000000 in
theorem wX11_nearest {Q : Int → MM → Prop} {x1 : Int} {x2 : Int} {x3 : Int} {μ : MM} {H : Heap} {locs : List Loc} {ls : Array Slot} (F : CallFix p m c cX11_nearest 10 s args uw RX11) (hA : ∀ q : Nat, s.heap.size ≤ q → A q) (hR : 2 ≤ R.frames ∧ 57 ≤ R.locals) (ret : RetI p l e R s m args below meth c cX11_nearest Qf dmR cfR tyR exR D cy ad A Q) (h : wpX11_nearest x1 x2 x3 μ Q) (hw : wdR D cy ad A μ s H) (hS : va_S A s.heap H locs) (hl : lv_has ls 10 [(0, .ref (ad 0 0)), (1, .int (iI x1)), (2, .int (iI x2)), (3, .int (iI x3))]) : W p l e R s m args below meth c H locs 0 0 Qf (F0 m 0 ls []) := by
  have hx := F.1
  have hb := F.2.1
  have hown := F.2.2.2.1
  have hts := F.2.2.2.2
  refine lv_iload_n hx hb dX11_nearest_0 rfl (lv_at hl 1 rfl) ?_
  refine q_iconst hx hb dX11_nearest_1 ?_
  refine q_sipush hx hb (by decide) dX11_nearest_2 ?_
  refine call_S hexR F (kX11_in h) 3 tw6_77 tw1_8 tw6_76 tw6_75 hdX11_in ⟨Nat.le_trans (by decide) hR.1, Nat.le_trans (by decide) hR.2⟩ hA hw hS rfl hl.1 rfl (Nat.le_of_ble_eq_true rfl) dX11_nearest_5 (fun v1 μ2 H locs h hw hS => ?_)
  obtain ⟨z3, h⟩ := h
  refine q_if_eq (tgt := 31) hx hb (rgB z3) dX11_nearest_8 (by decide) (fun c4 => ?_) (fun c4 => ?_)
  · have h := ite_t c4 h
    refine q_iconst hx hb dX11_nearest_31 ?_
    exact ret _ _ _ _ _ _ h hw hS dX11_nearest_32
  · have h := ite_f c4 h
    refine lv_iload_n hx hb dX11_nearest_11 rfl (lv_at hl 2 rfl) ?_
    refine q_iconst hx hb dX11_nearest_12 ?_
    refine q_sipush hx hb (by decide) dX11_nearest_13 ?_
    refine call_S hexR F (kX11_in h) 3 tw6_77 tw1_8 tw6_76 tw6_75 hdX11_in ⟨Nat.le_trans (by decide) hR.1, Nat.le_trans (by decide) hR.2⟩ hA hw hS rfl hl.1 rfl (Nat.le_of_ble_eq_true rfl) dX11_nearest_16 (fun v5 μ6 H locs h hw hS => ?_)
    obtain ⟨z7, h⟩ := h
    refine q_if_eq (tgt := 31) hx hb (rgB z7) dX11_nearest_19 (by decide) (fun c8 => ?_) (fun c8 => ?_)
    · have h := ite_t c8 h
      refine q_iconst hx hb dX11_nearest_31 ?_
      exact ret _ _ _ _ _ _ h hw hS dX11_nearest_32
    · have h := ite_f c8 h
      refine lv_iload_n hx hb dX11_nearest_22 rfl (lv_at hl 3 rfl) ?_
      refine q_iconst hx hb dX11_nearest_23 ?_
      refine q_iconst hx hb dX11_nearest_24 ?_
      refine call_S hexR F (kX11_in h) 3 tw6_77 tw1_8 tw6_76 tw6_75 hdX11_in ⟨Nat.le_trans (by decide) hR.1, Nat.le_trans (by decide) hR.2⟩ hA hw hS rfl hl.1 rfl (Nat.le_of_ble_eq_true rfl) dX11_nearest_25 (fun v9 μ10 H locs h hw hS => ?_)
      obtain ⟨z11, h⟩ := h
      refine q_if_ne (tgt := 33) hx hb (rgB z11) dX11_nearest_28 (by decide) (fun c12 => ?_) (fun c12 => ?_)
      · have h := ite_f c12 h
        refine lv_aload_n hx hb dX11_nearest_33 rfl (lv_at hl 0 rfl) ?_
        refine gR_wheels F hw tw5_186 dX11_nearest_34 ?_
        refine q_iconst hx hb dX11_nearest_37 ?_
        refine lv_iload_n hx hb dX11_nearest_38 rfl (lv_at hl 3 rfl) ?_
        refine q_imul hx hb dX11_nearest_39 ?_
        obtain ⟨g13, h⟩ := h
        obtain ⟨g14, h⟩ := h
        refine q_icmp_ge (tgt := 49) hx hb g13 g14 dX11_nearest_40 (by decide) (fun c15 => ?_) (fun c15 => ?_)
        · have h := ite_t c15 h
          refine lv_aload_n hx hb dX11_nearest_49 rfl (lv_at hl 0 rfl) ?_
          refine q_iconst hx hb dX11_nearest_50 ?_
          obtain ⟨μ16, eμ16⟩ : ∃ z : MM, z = ms μ10 0 55 0 0 := ⟨_, rfl⟩
          have h := h μ16 eμ16
          refine pR_isAny F hw hS tw5_193 (Or.inl rfl) eμ16 dX11_nearest_51 (fun H locs hw hS => ?_)
          refine lv_iload_n hx hb dX11_nearest_54 rfl (lv_at hl 3 rfl) ?_
          refine q_iconst hx hb dX11_nearest_55 ?_
          obtain ⟨g17, h⟩ := h
          refine q_icmp_ne (tgt := 71) hx hb g17 (by decide) dX11_nearest_56 (by decide) (fun c18 => ?_) (fun c18 => ?_)
          · have h := ite_f c18 h
            refine lv_aload_n hx hb dX11_nearest_71 rfl (lv_at hl 0 rfl) ?_
            refine gR_wheels F hw tw5_186 dX11_nearest_72 ?_
            refine lv_aload_n hx hb dX11_nearest_75 rfl (lv_at hl 0 rfl) ?_
            refine gR_wheels F hw tw5_186 dX11_nearest_76 ?_
            refine q_imul hx hb dX11_nearest_79 ?_
            refine lv_aload_n hx hb dX11_nearest_80 rfl (lv_at hl 0 rfl) ?_
            refine gR_wheels F hw tw5_186 dX11_nearest_81 ?_
            refine q_imul hx hb dX11_nearest_84 ?_
            refine lv_aload_n hx hb dX11_nearest_85 rfl (lv_at hl 0 rfl) ?_
            refine gR_wheels F hw tw5_186 dX11_nearest_86 ?_
            refine q_imul hx hb dX11_nearest_89 ?_
            exact wX11_nearest_J90 F hA hR ret h hw hS (lv_sub hl [0, 1, 2, 3] rfl)
          · have h := ite_t c18 h
            refine lv_aload_n hx hb dX11_nearest_59 rfl (lv_at hl 0 rfl) ?_
            refine gR_wheels F hw tw5_186 dX11_nearest_60 ?_
            refine lv_aload_n hx hb dX11_nearest_63 rfl (lv_at hl 0 rfl) ?_
            refine gR_wheels F hw tw5_186 dX11_nearest_64 ?_
            refine q_imul hx hb dX11_nearest_67 ?_
            refine lv_goto (tgt := 90) hx hb dX11_nearest_68 (by decide) ?_
            exact wX11_nearest_J90 F hA hR ret h hw hS (lv_sub hl [0, 1, 2, 3] rfl)
        · have h := ite_f c15 h
          refine lv_aload_n hx hb dX11_nearest_43 rfl (lv_at hl 0 rfl) ?_
          refine q_iconst hx hb dX11_nearest_44 ?_
          refine call_V hexR F (kX11_meets h) 1 tw6_81 tw1_8 tw6_80 tws2_10 tw6_78 hdX11_meets ⟨Nat.le_trans (by decide) hR.1, Nat.le_trans (by decide) hR.2⟩ (hw.recv (k := 0) (i := 0) ⟨rfl, Or.inl rfl⟩ rfl rfl) hA hw hS rfl hl.1 rfl (Nat.le_of_ble_eq_true rfl) dX11_nearest_45 (fun v19 μ20 H locs h hw hS => ?_)
          exact ret _ _ _ _ _ _ h hw hS dX11_nearest_48
      · have h := ite_t c12 h
        refine q_iconst hx hb dX11_nearest_31 ?_
        exact ret _ _ _ _ _ _ h hw hS dX11_nearest_32
set_option maxRecDepth 100000 in
set_option maxHeartbeats 4000000 in
theorem kX11_nearest {l : Launch} {D : va_G} {cy : Nat → ClassId} {ad : AD} {A : Nat → Prop} {x1 : Int} {x2 : Int} {x3 : Int} {μ : MM} {Q : Int → MM → Prop} (h : wpX11_nearest x1 x2 x3 μ Q) : Met l yX11_nearest (Cond.code yX11_nearest cX11_nearest 10 (some .int) :: uw) (rmm 2 57) (wPc [.ref (ad 0 0), .int (iI x1), .int (iI x2), .int (iI x3)] dmR cfR tyR exR D cy ad A μ) (wQ vI Q dmR cfR D cy ad A) 0 0 A :=
  met_of (by decide) (Nat.le_of_ble_eq_true rfl) (fun p e R s m args below meth c ls hr hk hRR F hA hw hS hl => wX11_nearest F hA (by subst hRR; exact ⟨Nat.le_refl _, Nat.le_refl _⟩) (retI_of F hr hk) h hw hS hl)
theorem hdX11_nearest : yX11_nearest.cls ≠ "java/lang/invoke/MethodHandle" ∧ yX11_nearest.cls ≠ "java/lang/invoke/VarHandle" ∧ (parseMethodDescriptor yX11_nearest.desc).map (fun d => d.parameters.length) = some 3 := by decide +kernel
def wpX11_nextHour (x1 : Int) (μ : MM) (Q : Int → MM → Prop) : Prop := 0 ≤ x1 ∧ (x1 < 4 ∧ (rg ((μ 27 0 x1) + 60) ∧ (wpX11_hourOf (Int.tmod ((μ 27 0 x1) + 60) 1440) μ (fun v4 μ5 => Q v4 μ5))))
set_option maxRecDepth 100000 in
set_option maxHeartbeats 4000000 in
theorem wX11_nextHour {Q : Int → MM → Prop} {x1 : Int} {μ : MM} {H : Heap} {locs : List Loc} {ls : Array Slot} (F : CallFix p m c cX11_nextHour 2 s args uw RX11) (hA : ∀ q : Nat, s.heap.size ≤ q → A q) (hR : 1 ≤ R.frames ∧ 20 ≤ R.locals) (ret : RetI p l e R s m args below meth c cX11_nextHour Qf dmR cfR tyR exR D cy ad A Q) (h : wpX11_nextHour x1 μ Q) (hw : wdR D cy ad A μ s H) (hS : va_S A s.heap H locs) (hl : lv_has ls 2 [(0, .ref (ad 0 0)), (1, .int (iI x1))]) : W p l e R s m args below meth c H locs 0 0 Qf (F0 m 0 ls []) := by
  have hx := F.1
  have hb := F.2.1
  have hown := F.2.2.2.1
  have hts := F.2.2.2.2
  refine lv_aload_n hx hb dX11_nextHour_0 rfl (lv_at hl 0 rfl) ?_
  refine gR_handsAt F hw tw5_165 dX11_nextHour_1 ?_
  refine lv_iload_n hx hb dX11_nextHour_4 rfl (lv_at hl 1 rfl) ?_
  obtain ⟨g1, h⟩ := h
  obtain ⟨g2, h⟩ := h
  refine aR_ild (L := 4) hx hb hw 26 rfl rfl (by decide) g1 g2 dX11_nextHour_5 ?_
  refine q_bipush hx hb (by decide) dX11_nextHour_6 ?_
  refine q_iadd hx hb dX11_nextHour_8 ?_
  refine q_sipush hx hb (by decide) dX11_nextHour_9 ?_
  obtain ⟨g3, h⟩ := h
  refine q_irem hx hb g3 (by decide) (by decide) dX11_nextHour_12 ?_
  refine call_S hexR F (kX11_hourOf h) 1 tw7_11 tw1_8 tw7_10 tw7_9 hdX11_hourOf ⟨Nat.le_trans (by decide) hR.1, Nat.le_trans (by decide) hR.2⟩ hA hw hS rfl hl.1 rfl (Nat.le_of_ble_eq_true rfl) dX11_nextHour_13 (fun v4 μ5 H locs h hw hS => ?_)
  exact ret _ _ _ _ _ _ h hw hS dX11_nextHour_16
set_option maxRecDepth 100000 in
set_option maxHeartbeats 4000000 in
theorem kX11_nextHour {l : Launch} {D : va_G} {cy : Nat → ClassId} {ad : AD} {A : Nat → Prop} {x1 : Int} {μ : MM} {Q : Int → MM → Prop} (h : wpX11_nextHour x1 μ Q) : Met l yX11_nextHour (Cond.code yX11_nextHour cX11_nextHour 2 (some .int) :: uw) (rmm 1 20) (wPc [.ref (ad 0 0), .int (iI x1)] dmR cfR tyR exR D cy ad A μ) (wQ vI Q dmR cfR D cy ad A) 0 0 A :=
  met_of (by decide) (Nat.le_of_ble_eq_true rfl) (fun p e R s m args below meth c ls hr hk hRR F hA hw hS hl => wX11_nextHour F hA (by subst hRR; exact ⟨Nat.le_refl _, Nat.le_refl _⟩) (retI_of F hr hk) h hw hS hl)
theorem hdX11_nextHour : yX11_nextHour.cls ≠ "java/lang/invoke/MethodHandle" ∧ yX11_nextHour.cls ≠ "java/lang/invoke/VarHandle" ∧ (parseMethodDescriptor yX11_nextHour.desc).map (fun d => d.parameters.length) = some 1 := by decide +kernel
def wpX11_notch (x1 : Int) (x2 : Int) (μ : MM) (Q : Int → MM → Prop) : Prop := wpX11_askedNotch x1 x2 μ (fun v1 μ2 => rg v1 ∧ (if 0 ≤ v1 then (0 ≤ ((24 * x1) + x2) ∧ ((24 * x1) + x2 < 384 ∧ (Q (μ2 13 0 ((24 * x1) + x2)) μ2))) else (Q v1 μ2)))
set_option maxRecDepth 100000 in
set_option maxHeartbeats 4000000 in
theorem wX11_notch {Q : Int → MM → Prop} {x1 : Int} {x2 : Int} {μ : MM} {H : Heap} {locs : List Loc} {ls : Array Slot} (F : CallFix p m c cX11_notch 4 s args uw RX11) (hA : ∀ q : Nat, s.heap.size ≤ q → A q) (hR : 3 ≤ R.frames ∧ 65 ≤ R.locals) (ret : RetI p l e R s m args below meth c cX11_notch Qf dmR cfR tyR exR D cy ad A Q) (h : wpX11_notch x1 x2 μ Q) (hw : wdR D cy ad A μ s H) (hS : va_S A s.heap H locs) (hl : lv_has ls 4 [(0, .ref (ad 0 0)), (1, .int (iI x1)), (2, .int (iI x2))]) : W p l e R s m args below meth c H locs 0 0 Qf (F0 m 0 ls []) := by
  have hx := F.1
  have hb := F.2.1
  have hown := F.2.2.2.1
  have hts := F.2.2.2.2
  refine lv_aload_n hx hb dX11_notch_0 rfl (lv_at hl 0 rfl) ?_
  refine lv_iload_n hx hb dX11_notch_1 rfl (lv_at hl 1 rfl) ?_
  refine lv_iload_n hx hb dX11_notch_2 rfl (lv_at hl 2 rfl) ?_
  refine call_V hexR F (kX11_askedNotch h) 2 tw6_174 tw1_8 tw6_173 tws3_4 tw6_171 hdX11_askedNotch ⟨Nat.le_trans (by decide) hR.1, Nat.le_trans (by decide) hR.2⟩ (hw.recv (k := 0) (i := 0) ⟨rfl, Or.inl rfl⟩ rfl rfl) hA hw hS rfl hl.1 rfl (Nat.le_of_ble_eq_true rfl) dX11_notch_3 (fun v1 μ2 H locs h hw hS => ?_)
  refine lv_istore_n (lv' := [(3, .int (iI v1)), (0, .ref (ad 0 0)), (1, .int (iI x1)), (2, .int (iI x2))]) hx hb dX11_notch_6 rfl hl (by decide) rfl (fun ls hl => ?_)
  refine lv_iload_n hx hb dX11_notch_7 rfl (lv_at hl 0 rfl) ?_
  obtain ⟨g3, h⟩ := h
  refine q_if_ge (tgt := 15) hx hb g3 dX11_notch_8 (by decide) (fun c4 => ?_) (fun c4 => ?_)
  · have h := ite_t c4 h
    refine lv_aload_n hx hb dX11_notch_15 rfl (lv_at hl 1 rfl) ?_
    refine gR_notches F hw tw5_151 dX11_notch_16 ?_
    refine q_bipush hx hb (by decide) dX11_notch_19 ?_
    refine lv_iload_n hx hb dX11_notch_21 rfl (lv_at hl 2 rfl) ?_
    refine q_imul hx hb dX11_notch_22 ?_
    refine lv_iload_n hx hb dX11_notch_23 rfl (lv_at hl 3 rfl) ?_
    refine q_iadd hx hb dX11_notch_24 ?_
    obtain ⟨g5, h⟩ := h
    obtain ⟨g6, h⟩ := h
    refine aR_ild (L := 384) hx hb hw 12 rfl rfl (by decide) g5 g6 dX11_notch_25 ?_
    exact ret _ _ _ _ _ _ h hw hS dX11_notch_26
  · have h := ite_f c4 h
    refine lv_iload_n hx hb dX11_notch_11 rfl (lv_at hl 0 rfl) ?_
    refine lv_goto (tgt := 26) hx hb dX11_notch_12 (by decide) ?_
    exact ret _ _ _ _ _ _ h hw hS dX11_notch_26
set_option maxRecDepth 100000 in
set_option maxHeartbeats 4000000 in
theorem kX11_notch {l : Launch} {D : va_G} {cy : Nat → ClassId} {ad : AD} {A : Nat → Prop} {x1 : Int} {x2 : Int} {μ : MM} {Q : Int → MM → Prop} (h : wpX11_notch x1 x2 μ Q) : Met l yX11_notch (Cond.code yX11_notch cX11_notch 4 (some .int) :: uw) (rmm 3 65) (wPc [.ref (ad 0 0), .int (iI x1), .int (iI x2)] dmR cfR tyR exR D cy ad A μ) (wQ vI Q dmR cfR D cy ad A) 0 0 A :=
  met_of (by decide) (Nat.le_of_ble_eq_true rfl) (fun p e R s m args below meth c ls hr hk hRR F hA hw hS hl => wX11_notch F hA (by subst hRR; exact ⟨Nat.le_refl _, Nat.le_refl _⟩) (retI_of F hr hk) h hw hS hl)
theorem hdX11_notch : yX11_notch.cls ≠ "java/lang/invoke/MethodHandle" ∧ yX11_notch.cls ≠ "java/lang/invoke/VarHandle" ∧ (parseMethodDescriptor yX11_notch.desc).map (fun d => d.parameters.length) = some 2 := by decide +kernel
def wpX11_rightNotch (x1 : Int) (x2 : Int) (μ : MM) (Q : Int → MM → Prop) : Prop := wpX11_placeOf x1 x2 μ (fun v1 μ2 => 0 ≤ v1 ∧ (v1 < 8 ∧ (rg x2 ∧ (if x2 = 0 then (wpX11_nextHour x1 μ2 (fun v7 μ8 => 0 ≤ (μ2 35 0 v1) ∧ (μ2 35 0 v1 < 16 ∧ (rg (v7 - 1) ∧ (rg (μ8 12 0 (μ2 35 0 v1)) ∧ ((μ8 12 0 (μ2 35 0 v1)) ≠ 0 ∧ (Q (Int.tmod (v7 - 1) (μ8 12 0 (μ2 35 0 v1))) μ8))))))) else (0 ≤ x1 ∧ (x1 < 4 ∧ (rg (μ2 27 0 x1) ∧ (rg (Int.tmod (μ2 27 0 x1) 60) ∧ (0 ≤ (μ2 35 0 v1) ∧ (μ2 35 0 v1 < 16 ∧ (rg (Int.tdiv (Int.tmod (μ2 27 0 x1) 60) 15) ∧ (rg (μ2 12 0 (μ2 35 0 v1)) ∧ ((μ2 12 0 (μ2 35 0 v1)) ≠ 0 ∧ (Q (Int.tmod (Int.tdiv (Int.tmod (μ2 27 0 x1) 60) 15) (μ2 12 0 (μ2 35 0 v1))) μ2))))))))))))))
set_option maxRecDepth 100000 in
set_option maxHeartbeats 4000000 in
theorem wX11_rightNotch {Q : Int → MM → Prop} {x1 : Int} {x2 : Int} {μ : MM} {H : Heap} {locs : List Loc} {ls : Array Slot} (F : CallFix p m c cX11_rightNotch 4 s args uw RX11) (hA : ∀ q : Nat, s.heap.size ≤ q → A q) (hR : 2 ≤ R.frames ∧ 41 ≤ R.locals) (ret : RetI p l e R s m args below meth c cX11_rightNotch Qf dmR cfR tyR exR D cy ad A Q) (h : wpX11_rightNotch x1 x2 μ Q) (hw : wdR D cy ad A μ s H) (hS : va_S A s.heap H locs) (hl : lv_has ls 4 [(0, .ref (ad 0 0)), (1, .int (iI x1)), (2, .int (iI x2))]) : W p l e R s m args below meth c H locs 0 0 Qf (F0 m 0 ls []) := by
  have hx := F.1
  have hb := F.2.1
  have hown := F.2.2.2.1
  have hts := F.2.2.2.2
  refine lv_aload_n hx hb dX11_rightNotch_0 rfl (lv_at hl 0 rfl) ?_
  refine gR_hung F hw tw5_173 dX11_rightNotch_1 ?_
  refine lv_iload_n hx hb dX11_rightNotch_4 rfl (lv_at hl 1 rfl) ?_
  refine lv_iload_n hx hb dX11_rightNotch_5 rfl (lv_at hl 2 rfl) ?_
  refine call_S hexR F (kX11_placeOf h) 2 tw6_204 tw1_8 tw6_203 tw6_202 hdX11_placeOf ⟨Nat.le_trans (by decide) hR.1, Nat.le_trans (by decide) hR.2⟩ hA hw hS rfl hl.1 rfl (Nat.le_of_ble_eq_true rfl) dX11_rightNotch_6 (fun v1 μ2 H locs h hw hS => ?_)
  obtain ⟨g3, h⟩ := h
  obtain ⟨g4, h⟩ := h
  refine aR_ild (L := 8) hx hb hw 34 rfl rfl (by decide) g3 g4 dX11_rightNotch_9 ?_
  refine lv_istore_n (lv' := [(3, .int (iI (μ2 35 0 v1))), (0, .ref (ad 0 0)), (1, .int (iI x1)), (2, .int (iI x2))]) hx hb dX11_rightNotch_10 rfl hl (by decide) rfl (fun ls hl => ?_)
  refine lv_iload_n hx hb dX11_rightNotch_11 rfl (lv_at hl 3 rfl) ?_
  obtain ⟨g5, h⟩ := h
  refine q_if_eq (tgt := 37) hx hb g5 dX11_rightNotch_12 (by decide) (fun c6 => ?_) (fun c6 => ?_)
  · have h := ite_t c6 h
    refine lv_aload_n hx hb dX11_rightNotch_37 rfl (lv_at hl 1 rfl) ?_
    refine lv_iload_n hx hb dX11_rightNotch_38 rfl (lv_at hl 2 rfl) ?_
    refine call_V hexR F (kX11_nextHour h) 1 tw7_104 tw1_8 tw7_103 tws4_5 tw7_101 hdX11_nextHour ⟨Nat.le_trans (by decide) hR.1, Nat.le_trans (by decide) hR.2⟩ (hw.recv (k := 0) (i := 0) ⟨rfl, Or.inl rfl⟩ rfl rfl) hA hw hS rfl hl.1 rfl (Nat.le_of_ble_eq_true rfl) dX11_rightNotch_39 (fun v7 μ8 H locs h hw hS => ?_)
    refine q_iconst hx hb dX11_rightNotch_42 ?_
    refine q_isub hx hb dX11_rightNotch_43 ?_
    refine lv_aload_n hx hb dX11_rightNotch_44 rfl (lv_at hl 1 rfl) ?_
    refine gR_many F hw tw5_150 dX11_rightNotch_45 ?_
    refine lv_iload_n hx hb dX11_rightNotch_48 rfl (lv_at hl 0 rfl) ?_
    obtain ⟨g9, h⟩ := h
    obtain ⟨g10, h⟩ := h
    refine aR_ild (L := 16) hx hb hw 11 rfl rfl (by decide) g9 g10 dX11_rightNotch_49 ?_
    obtain ⟨g11, h⟩ := h
    obtain ⟨g12, h⟩ := h
    obtain ⟨g13, h⟩ := h
    refine q_irem hx hb g11 g12 g13 dX11_rightNotch_50 ?_
    exact ret _ _ _ _ _ _ h hw hS dX11_rightNotch_51
  · have h := ite_f c6 h
    refine lv_aload_n hx hb dX11_rightNotch_15 rfl (lv_at hl 1 rfl) ?_
    refine gR_handsAt F hw tw5_165 dX11_rightNotch_16 ?_
    refine lv_iload_n hx hb dX11_rightNotch_19 rfl (lv_at hl 2 rfl) ?_
    obtain ⟨g14, h⟩ := h
    obtain ⟨g15, h⟩ := h
    refine aR_ild (L := 4) hx hb hw 26 rfl rfl (by decide) g14 g15 dX11_rightNotch_20 ?_
    refine q_bipush hx hb (by decide) dX11_rightNotch_21 ?_
    obtain ⟨g16, h⟩ := h
    refine q_irem hx hb g16 (by decide) (by decide) dX11_rightNotch_23 ?_
    refine q_bipush hx hb (by decide) dX11_rightNotch_24 ?_
    obtain ⟨g17, h⟩ := h
    refine q_idiv hx hb g17 (by decide) (by decide) dX11_rightNotch_26 ?_
    refine lv_aload_n hx hb dX11_rightNotch_27 rfl (lv_at hl 1 rfl) ?_
    refine gR_many F hw tw5_150 dX11_rightNotch_28 ?_
    refine lv_iload_n hx hb dX11_rightNotch_31 rfl (lv_at hl 0 rfl) ?_
    obtain ⟨g18, h⟩ := h
    obtain ⟨g19, h⟩ := h
    refine aR_ild (L := 16) hx hb hw 11 rfl rfl (by decide) g18 g19 dX11_rightNotch_32 ?_
    obtain ⟨g20, h⟩ := h
    obtain ⟨g21, h⟩ := h
    obtain ⟨g22, h⟩ := h
    refine q_irem hx hb g20 g21 g22 dX11_rightNotch_33 ?_
    refine lv_goto (tgt := 51) hx hb dX11_rightNotch_34 (by decide) ?_
    exact ret _ _ _ _ _ _ h hw hS dX11_rightNotch_51
set_option maxRecDepth 100000 in
set_option maxHeartbeats 4000000 in
theorem kX11_rightNotch {l : Launch} {D : va_G} {cy : Nat → ClassId} {ad : AD} {A : Nat → Prop} {x1 : Int} {x2 : Int} {μ : MM} {Q : Int → MM → Prop} (h : wpX11_rightNotch x1 x2 μ Q) : Met l yX11_rightNotch (Cond.code yX11_rightNotch cX11_rightNotch 4 (some .int) :: uw) (rmm 2 41) (wPc [.ref (ad 0 0), .int (iI x1), .int (iI x2)] dmR cfR tyR exR D cy ad A μ) (wQ vI Q dmR cfR D cy ad A) 0 0 A :=
  met_of (by decide) (Nat.le_of_ble_eq_true rfl) (fun p e R s m args below meth c ls hr hk hRR F hA hw hS hl => wX11_rightNotch F hA (by subst hRR; exact ⟨Nat.le_refl _, Nat.le_refl _⟩) (retI_of F hr hk) h hw hS hl)
theorem hdX11_rightNotch : yX11_rightNotch.cls ≠ "java/lang/invoke/MethodHandle" ∧ yX11_rightNotch.cls ≠ "java/lang/invoke/VarHandle" ∧ (parseMethodDescriptor yX11_rightNotch.desc).map (fun d => d.parameters.length) = some 2 := by decide +kernel
def wpX11_off (x1 : Int) (x2 : Int) (μ : MM) (Q : Int → MM → Prop) : Prop := wpX11_askedPlate x1 x2 μ (fun v1 μ2 => rg v1 ∧ (if 0 ≤ v1 then (wpX11_placeOf x1 x2 μ2 (fun v5 μ6 => 0 ≤ v5 ∧ (v5 < 8 ∧ (0 ≤ (μ6 35 0 v5) ∧ (μ6 35 0 v5 < 16 ∧ (wpX11_rightNotch x1 x2 μ6 (fun v11 μ12 => rg (((μ6 14 0 (μ6 35 0 v5)) + (μ6 12 0 (μ6 35 0 v5))) - v11) ∧ (rg (μ12 12 0 (μ6 35 0 v5)) ∧ ((μ12 12 0 (μ6 35 0 v5)) ≠ 0 ∧ (Q (Int.tmod (((μ6 14 0 (μ6 35 0 v5)) + (μ6 12 0 (μ6 35 0 v5))) - v11) (μ12 12 0 (μ6 35 0 v5))) μ12)))))))))) else (Q v1 μ2)))
set_option maxRecDepth 100000 in
set_option maxHeartbeats 4000000 in
theorem wX11_off {Q : Int → MM → Prop} {x1 : Int} {x2 : Int} {μ : MM} {H : Heap} {locs : List Loc} {ls : Array Slot} (F : CallFix p m c cX11_off 5 s args uw RX11) (hA : ∀ q : Nat, s.heap.size ≤ q → A q) (hR : 5 ≤ R.frames ∧ 109 ≤ R.locals) (ret : RetI p l e R s m args below meth c cX11_off Qf dmR cfR tyR exR D cy ad A Q) (h : wpX11_off x1 x2 μ Q) (hw : wdR D cy ad A μ s H) (hS : va_S A s.heap H locs) (hl : lv_has ls 5 [(0, .ref (ad 0 0)), (1, .int (iI x1)), (2, .int (iI x2))]) : W p l e R s m args below meth c H locs 0 0 Qf (F0 m 0 ls []) := by
  have hx := F.1
  have hb := F.2.1
  have hown := F.2.2.2.1
  have hts := F.2.2.2.2
  refine lv_aload_n hx hb dX11_off_0 rfl (lv_at hl 0 rfl) ?_
  refine lv_iload_n hx hb dX11_off_1 rfl (lv_at hl 1 rfl) ?_
  refine lv_iload_n hx hb dX11_off_2 rfl (lv_at hl 2 rfl) ?_
  refine call_V hexR F (kX11_askedPlate h) 2 tw7_96 tw1_8 tw7_95 tws4_3 tw7_93 hdX11_askedPlate ⟨Nat.le_trans (by decide) hR.1, Nat.le_trans (by decide) hR.2⟩ (hw.recv (k := 0) (i := 0) ⟨rfl, Or.inl rfl⟩ rfl rfl) hA hw hS rfl hl.1 rfl (Nat.le_of_ble_eq_true rfl) dX11_off_3 (fun v1 μ2 H locs h hw hS => ?_)
  refine lv_istore_n (lv' := [(3, .int (iI v1)), (0, .ref (ad 0 0)), (1, .int (iI x1)), (2, .int (iI x2))]) hx hb dX11_off_6 rfl hl (by decide) rfl (fun ls hl => ?_)
  refine lv_iload_n hx hb dX11_off_7 rfl (lv_at hl 0 rfl) ?_
  obtain ⟨g3, h⟩ := h
  refine q_if_ge (tgt := 13) hx hb g3 dX11_off_8 (by decide) (fun c4 => ?_) (fun c4 => ?_)
  · have h := ite_t c4 h
    refine lv_aload_n hx hb dX11_off_13 rfl (lv_at hl 1 rfl) ?_
    refine gR_hung F hw tw5_173 dX11_off_14 ?_
    refine lv_iload_n hx hb dX11_off_17 rfl (lv_at hl 2 rfl) ?_
    refine lv_iload_n hx hb dX11_off_18 rfl (lv_at hl 3 rfl) ?_
    refine call_S hexR F (kX11_placeOf h) 2 tw6_204 tw1_8 tw6_203 tw6_202 hdX11_placeOf ⟨Nat.le_trans (by decide) hR.1, Nat.le_trans (by decide) hR.2⟩ hA hw hS rfl hl.1 rfl (Nat.le_of_ble_eq_true rfl) dX11_off_19 (fun v5 μ6 H locs h hw hS => ?_)
    obtain ⟨g7, h⟩ := h
    obtain ⟨g8, h⟩ := h
    refine aR_ild (L := 8) hx hb hw 34 rfl rfl (by decide) g7 g8 dX11_off_22 ?_
    refine lv_istore (lv' := [(4, .int (iI (μ6 35 0 v5))), (3, .int (iI v1)), (0, .ref (ad 0 0)), (1, .int (iI x1)), (2, .int (iI x2))]) hx hb dX11_off_23 hl (by decide) rfl (fun ls hl => ?_)
    refine lv_aload_n hx hb dX11_off_25 rfl (lv_at hl 2 rfl) ?_
    refine gR_stands F hw tw5_152 dX11_off_26 ?_
    refine lv_iload hx hb dX11_off_29 (lv_at hl 0 rfl) ?_
    obtain ⟨g9, h⟩ := h
    obtain ⟨g10, h⟩ := h
    refine aR_ild (L := 16) hx hb hw 13 rfl rfl (by decide) g9 g10 dX11_off_31 ?_
    refine lv_aload_n hx hb dX11_off_32 rfl (lv_at hl 2 rfl) ?_
    refine gR_many F hw tw5_150 dX11_off_33 ?_
    refine lv_iload hx hb dX11_off_36 (lv_at hl 0 rfl) ?_
    refine aR_ild (L := 16) hx hb hw 11 rfl rfl (by decide) g9 g10 dX11_off_38 ?_
    refine q_iadd hx hb dX11_off_39 ?_
    refine lv_aload_n hx hb dX11_off_40 rfl (lv_at hl 2 rfl) ?_
    refine lv_iload_n hx hb dX11_off_41 rfl (lv_at hl 3 rfl) ?_
    refine lv_iload_n hx hb dX11_off_42 rfl (lv_at hl 4 rfl) ?_
    refine call_V hexR F (kX11_rightNotch h) 2 tw7_100 tw1_8 tw7_99 tws4_4 tw7_97 hdX11_rightNotch ⟨Nat.le_trans (by decide) hR.1, Nat.le_trans (by decide) hR.2⟩ (hw.recv (k := 0) (i := 0) ⟨rfl, Or.inl rfl⟩ rfl rfl) hA hw hS rfl hl.1 rfl (Nat.le_of_ble_eq_true rfl) dX11_off_43 (fun v11 μ12 H locs h hw hS => ?_)
    refine q_isub hx hb dX11_off_46 ?_
    refine lv_aload_n hx hb dX11_off_47 rfl (lv_at hl 2 rfl) ?_
    refine gR_many F hw tw5_150 dX11_off_48 ?_
    refine lv_iload hx hb dX11_off_51 (lv_at hl 0 rfl) ?_
    refine aR_ild (L := 16) hx hb hw 11 rfl rfl (by decide) g9 g10 dX11_off_53 ?_
    obtain ⟨g13, h⟩ := h
    obtain ⟨g14, h⟩ := h
    obtain ⟨g15, h⟩ := h
    refine q_irem hx hb g13 g14 g15 dX11_off_54 ?_
    exact ret _ _ _ _ _ _ h hw hS dX11_off_55
  · have h := ite_f c4 h
    refine lv_iload_n hx hb dX11_off_11 rfl (lv_at hl 0 rfl) ?_
    exact ret _ _ _ _ _ _ h hw hS dX11_off_12
set_option maxRecDepth 100000 in
set_option maxHeartbeats 4000000 in
theorem kX11_off {l : Launch} {D : va_G} {cy : Nat → ClassId} {ad : AD} {A : Nat → Prop} {x1 : Int} {x2 : Int} {μ : MM} {Q : Int → MM → Prop} (h : wpX11_off x1 x2 μ Q) : Met l yX11_off (Cond.code yX11_off cX11_off 5 (some .int) :: uw) (rmm 5 109) (wPc [.ref (ad 0 0), .int (iI x1), .int (iI x2)] dmR cfR tyR exR D cy ad A μ) (wQ vI Q dmR cfR D cy ad A) 0 0 A :=
  met_of (by decide) (Nat.le_of_ble_eq_true rfl) (fun p e R s m args below meth c ls hr hk hRR F hA hw hS hl => wX11_off F hA (by subst hRR; exact ⟨Nat.le_refl _, Nat.le_refl _⟩) (retI_of F hr hk) h hw hS hl)
theorem hdX11_off : yX11_off.cls ≠ "java/lang/invoke/MethodHandle" ∧ yX11_off.cls ≠ "java/lang/invoke/VarHandle" ∧ (parseMethodDescriptor yX11_off.desc).map (fun d => d.parameters.length) = some 2 := by decide +kernel
end
