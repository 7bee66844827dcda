section
variable {p : Program} {l : Launch} {e : Env} {R : Room} {s : State} {m : MethodId} {args : Array Value} {below : List Frame} {meth : Method} {c : Code} {Qf : State → Prop} {D : va_G} {cy : Nat → ClassId} {ad : AD} {A : Nat → Prop}
def wpX11_wind (x1 : Int) (μ : MM) (Q : Int → MM → Prop) : Prop := wpX11_isTrain x1 μ (fun v1 μ2 => if v1 = 0 then (Q (-1) μ2) else (0 ≤ x1 ∧ (x1 < 16 ∧ (∀ y7 : Int, y7 = (μ2 19 0 x1) - (μ2 20 0 x1) → (∀ μ8 : MM, μ8 = ms μ2 20 0 x1 (μ2 19 0 x1) → (Q y7 μ8))))))
set_option maxRecDepth 100000 in
set_option maxHeartbeats 4000000 in
theorem wX11_wind {Q : Int → MM → Prop} {x1 : Int} {μ : MM} {H : Heap} {locs : List Loc} {ls : Array Slot} (F : CallFix p m c cX11_wind 3 s args uw RX11) (hA : ∀ q : Nat, s.heap.size ≤ q → A q) (hR : 2 ≤ R.frames ∧ 43 ≤ R.locals) (ret : RetI p l e R s m args below meth c cX11_wind Qf dmR cfR tyR exR D cy ad A Q) (h : wpX11_wind x1 μ Q) (hw : wdR D cy ad A μ s H) (hS : va_S A s.heap H locs) (hl : lv_has ls 3 [(0, .ref (ad 0 0)), (1, .int (iI x1))]) : W p l e R s m args below meth c H locs 0 0 Qf (F0 m 0 ls []) := by
  have hx := F.1
  have hb := F.2.1
  have hown := F.2.2.2.1
  have hts := F.2.2.2.2
  refine lv_aload_n hx hb dX11_wind_0 rfl (lv_at hl 0 rfl) ?_
  refine lv_iload_n hx hb dX11_wind_1 rfl (lv_at hl 1 rfl) ?_
  refine call_V hexR F (kX11_isTrain h) 1 tw6_137 tw1_8 tw6_136 tws3_0 tw6_134 hdX11_isTrain ⟨Nat.le_trans (by decide) hR.1, Nat.le_trans (by decide) hR.2⟩ (hw.recv (k := 0) (i := 0) ⟨rfl, Or.inl rfl⟩ rfl rfl) hA hw hS rfl hl.1 rfl (Nat.le_of_ble_eq_true rfl) dX11_wind_2 (fun v1 μ2 H locs h hw hS => ?_)
  obtain ⟨z3, h⟩ := h
  refine q_if_ne (tgt := 10) hx hb (rgB z3) dX11_wind_5 (by decide) (fun c4 => ?_) (fun c4 => ?_)
  · have h := ite_f c4 h
    refine lv_aload_n hx hb dX11_wind_10 rfl (lv_at hl 0 rfl) ?_
    refine gR_falls F hw tw5_157 dX11_wind_11 ?_
    refine lv_iload_n hx hb dX11_wind_14 rfl (lv_at hl 1 rfl) ?_
    obtain ⟨g5, h⟩ := h
    obtain ⟨g6, h⟩ := h
    refine aR_ild (L := 16) hx hb hw 18 rfl rfl (by decide) g5 g6 dX11_wind_15 ?_
    refine lv_aload_n hx hb dX11_wind_16 rfl (lv_at hl 0 rfl) ?_
    refine gR_weights F hw tw5_158 dX11_wind_17 ?_
    refine lv_iload_n hx hb dX11_wind_20 rfl (lv_at hl 1 rfl) ?_
    refine aR_ild (L := 16) hx hb hw 19 rfl rfl (by decide) g5 g6 dX11_wind_21 ?_
    refine q_isub hx hb dX11_wind_22 ?_
    obtain ⟨y7, ey7⟩ : ∃ z : Int, z = (μ2 19 0 x1) - (μ2 20 0 x1) := ⟨_, rfl⟩
    have h := h y7 ey7
    refine q_nmI ey7 ?_
    refine lv_istore_n (lv' := [(2, .int (iI y7)), (0, .ref (ad 0 0)), (1, .int (iI x1))]) hx hb dX11_wind_23 rfl hl (by decide) rfl (fun ls hl => ?_)
    refine lv_aload_n hx hb dX11_wind_24 rfl (lv_at hl 1 rfl) ?_
    refine gR_weights F hw tw5_158 dX11_wind_25 ?_
    refine lv_iload_n hx hb dX11_wind_28 rfl (lv_at hl 2 rfl) ?_
    refine lv_aload_n hx hb dX11_wind_29 rfl (lv_at hl 1 rfl) ?_
    refine gR_falls F hw tw5_157 dX11_wind_30 ?_
    refine lv_iload_n hx hb dX11_wind_33 rfl (lv_at hl 2 rfl) ?_
    refine aR_ild (L := 16) hx hb hw 18 rfl rfl (by decide) g5 g6 dX11_wind_34 ?_
    obtain ⟨μ8, eμ8⟩ : ∃ z : MM, z = ms μ2 20 0 x1 (μ2 19 0 x1) := ⟨_, rfl⟩
    have h := h μ8 eμ8
    refine aR_ist (L := 16) hx hb hw hS 19 rfl rfl (by decide) g5 g6 eμ8 dX11_wind_35 (fun H locs hw hS => ?_)
    refine lv_iload_n hx hb dX11_wind_36 rfl (lv_at hl 0 rfl) ?_
    exact ret _ _ _ _ _ _ h hw hS dX11_wind_37
  · have h := ite_t c4 h
    refine q_iconst hx hb dX11_wind_8 ?_
    exact ret _ _ _ _ _ _ h hw hS dX11_wind_9
set_option maxRecDepth 100000 in
set_option maxHeartbeats 4000000 in
theorem kX11_wind {l : Launch} {D : va_G} {cy : Nat → ClassId} {ad : AD} {A : Nat → Prop} {x1 : Int} {μ : MM} {Q : Int → MM → Prop} (h : wpX11_wind x1 μ Q) : Met l yX11_wind (Cond.code yX11_wind cX11_wind 3 (some .int) :: uw) (rmm 2 43) (wPc [.ref (ad 0 0), .int (iI x1)] dmR cfR tyR exR D cy ad A μ) (wQ vI Q dmR cfR D cy ad A) 0 0 A :=
  met_of (by decide) (Nat.le_of_ble_eq_true rfl) (fun p e R s m args below meth c ls hr hk hRR F hA hw hS hl => wX11_wind F hA (by subst hRR; exact ⟨Nat.le_refl _, Nat.le_refl _⟩) (retI_of F hr hk) h hw hS hl)
theorem hdX11_wind : yX11_wind.cls ≠ "java/lang/invoke/MethodHandle" ∧ yX11_wind.cls ≠ "java/lang/invoke/VarHandle" ∧ (parseMethodDescriptor yX11_wind.desc).map (fun d => d.parameters.length) = some 1 := by decide +kernel
def wpX11_windGoing (x1 : Int) (x2 : Int) (μ : MM) (Q : Int → MM → Prop) : Prop := wpX11_in x2 0 100000 μ (fun v1 μ2 => if v1 = 0 then (Q (-1) μ2) else (wpX11_askedFor x1 μ2 (fun v5 μ6 => rg v5 ∧ (if 0 ≤ v5 then (0 ≤ x1 ∧ (x1 < 4 ∧ (∀ μ11 : MM, μ11 = ms μ6 29 0 x1 x2 → (Q (μ6 29 0 x1) μ11)))) else (Q v5 μ6)))))
set_option maxRecDepth 100000 in
set_option maxHeartbeats 4000000 in
theorem wX11_windGoing {Q : Int → MM → Prop} {x1 : Int} {x2 : Int} {μ : MM} {H : Heap} {locs : List Loc} {ls : Array Slot} (F : CallFix p m c cX11_windGoing 5 s args uw RX11) (hA : ∀ q : Nat, s.heap.size ≤ q → A q) (hR : 3 ≤ R.frames ∧ 63 ≤ R.locals) (ret : RetI p l e R s m args below meth c cX11_windGoing Qf dmR cfR tyR exR D cy ad A Q) (h : wpX11_windGoing x1 x2 μ Q) (hw : wdR D cy ad A μ s H) (hS : va_S A s.heap H locs) (hl : lv_has ls 5 [(0, .ref (ad 0 0)), (1, .int (iI x1)), (2, .int (iI x2))]) : W p l e R s m args below meth c H locs 0 0 Qf (F0 m 0 ls []) := by
  have hx := F.1
  have hb := F.2.1
  have hown := F.2.2.2.1
  have hts := F.2.2.2.2
  refine lv_iload_n hx hb dX11_windGoing_0 rfl (lv_at hl 2 rfl) ?_
  refine q_iconst hx hb dX11_windGoing_1 ?_
  refine q_ldc (n := 100000) hx hb hown (hts _ tw6_138) (by decide) dX11_windGoing_2 ?_
  refine call_S hexR F (kX11_in h) 3 tw6_77 tw1_8 tw6_76 tw6_75 hdX11_in ⟨Nat.le_trans (by decide) hR.1, Nat.le_trans (by decide) hR.2⟩ hA hw hS rfl hl.1 rfl (Nat.le_of_ble_eq_true rfl) dX11_windGoing_4 (fun v1 μ2 H locs h hw hS => ?_)
  obtain ⟨z3, h⟩ := h
  refine q_if_ne (tgt := 12) hx hb (rgB z3) dX11_windGoing_7 (by decide) (fun c4 => ?_) (fun c4 => ?_)
  · have h := ite_f c4 h
    refine lv_aload_n hx hb dX11_windGoing_12 rfl (lv_at hl 0 rfl) ?_
    refine lv_iload_n hx hb dX11_windGoing_13 rfl (lv_at hl 1 rfl) ?_
    refine call_V hexR F (kX11_askedFor h) 1 tw6_216 tw1_8 tw6_215 tws3_7 tw6_213 hdX11_askedFor ⟨Nat.le_trans (by decide) hR.1, Nat.le_trans (by decide) hR.2⟩ (hw.recv (k := 0) (i := 0) ⟨rfl, Or.inl rfl⟩ rfl rfl) hA hw hS rfl hl.1 rfl (Nat.le_of_ble_eq_true rfl) dX11_windGoing_14 (fun v5 μ6 H locs h hw hS => ?_)
    refine lv_istore_n (lv' := [(3, .int (iI v5)), (0, .ref (ad 0 0)), (1, .int (iI x1)), (2, .int (iI x2))]) hx hb dX11_windGoing_17 rfl hl (by decide) rfl (fun ls hl => ?_)
    refine lv_iload_n hx hb dX11_windGoing_18 rfl (lv_at hl 0 rfl) ?_
    obtain ⟨g7, h⟩ := h
    refine q_if_ge (tgt := 24) hx hb g7 dX11_windGoing_19 (by decide) (fun c8 => ?_) (fun c8 => ?_)
    · have h := ite_t c8 h
      refine lv_aload_n hx hb dX11_windGoing_24 rfl (lv_at hl 1 rfl) ?_
      refine gR_goings F hw tw5_167 dX11_windGoing_25 ?_
      refine lv_iload_n hx hb dX11_windGoing_28 rfl (lv_at hl 2 rfl) ?_
      obtain ⟨g9, h⟩ := h
      obtain ⟨g10, h⟩ := h
      refine aR_ild (L := 4) hx hb hw 28 rfl rfl (by decide) g9 g10 dX11_windGoing_29 ?_
      refine lv_istore (lv' := [(4, .int (iI (μ6 29 0 x1))), (3, .int (iI v5)), (0, .ref (ad 0 0)), (1, .int (iI x1)), (2, .int (iI x2))]) hx hb dX11_windGoing_30 hl (by decide) rfl (fun ls hl => ?_)
      refine lv_aload_n hx hb dX11_windGoing_32 rfl (lv_at hl 2 rfl) ?_
      refine gR_goings F hw tw5_167 dX11_windGoing_33 ?_
      refine lv_iload_n hx hb dX11_windGoing_36 rfl (lv_at hl 3 rfl) ?_
      refine lv_iload_n hx hb dX11_windGoing_37 rfl (lv_at hl 4 rfl) ?_
      obtain ⟨μ11, eμ11⟩ : ∃ z : MM, z = ms μ6 29 0 x1 x2 := ⟨_, rfl⟩
      have h := h μ11 eμ11
      refine aR_ist (L := 4) hx hb hw hS 28 rfl rfl (by decide) g9 g10 eμ11 dX11_windGoing_38 (fun H locs hw hS => ?_)
      refine lv_iload hx hb dX11_windGoing_39 (lv_at hl 0 rfl) ?_
      exact ret _ _ _ _ _ _ h hw hS dX11_windGoing_41
    · have h := ite_f c8 h
      refine lv_iload_n hx hb dX11_windGoing_22 rfl (lv_at hl 0 rfl) ?_
      exact ret _ _ _ _ _ _ h hw hS dX11_windGoing_23
  · have h := ite_t c4 h
    refine q_iconst hx hb dX11_windGoing_10 ?_
    exact ret _ _ _ _ _ _ h hw hS dX11_windGoing_11
set_option maxRecDepth 100000 in
set_option maxHeartbeats 4000000 in
theorem kX11_windGoing {l : Launch} {D : va_G} {cy : Nat → ClassId} {ad : AD} {A : Nat → Prop} {x1 : Int} {x2 : Int} {μ : MM} {Q : Int → MM → Prop} (h : wpX11_windGoing x1 x2 μ Q) : Met l yX11_windGoing (Cond.code yX11_windGoing cX11_windGoing 5 (some .int) :: uw) (rmm 3 63) (wPc [.ref (ad 0 0), .int (iI x1), .int (iI x2)] dmR cfR tyR exR D cy ad A μ) (wQ vI Q dmR cfR D cy ad A) 0 0 A :=
  met_of (by decide) (Nat.le_of_ble_eq_true rfl) (fun p e R s m args below meth c ls hr hk hRR F hA hw hS hl => wX11_windGoing F hA (by subst hRR; exact ⟨Nat.le_refl _, Nat.le_refl _⟩) (retI_of F hr hk) h hw hS hl)
theorem hdX11_windGoing : yX11_windGoing.cls ≠ "java/lang/invoke/MethodHandle" ∧ yX11_windGoing.cls ≠ "java/lang/invoke/VarHandle" ∧ (parseMethodDescriptor yX11_windGoing.desc).map (fun d => d.parameters.length) = some 2 := by decide +kernel
def wpX11_windy_L41 (Q : Int → MM → Prop) : Nat → Int → Int → Int → Int → Int → Int → MM → Prop
  | 0, _, _, _, _, _, _, _ => False
  | n + 1, x1, x2, x3, x4, x5, x7, μ => 0 ≤ x1 ∧ (x1 < 8 ∧ (rg x7 ∧ (rg (μ 7 0 x1) ∧ (if (μ 7 0 x1) ≤ x7 then (Q 1 μ) else (0 ≤ ((48 * x1) + x7) ∧ ((48 * x1) + x7 < 384 ∧ (wpX11_dueAt x2 x7 x3 x4 x5 μ (fun v8 μ9 => rg (μ 8 0 ((48 * x1) + x7)) ∧ (rg v8 ∧ (if (μ 8 0 ((48 * x1) + x7)) ≤ v8 then (wpX11_windy_L41 Q n x1 x2 x3 x4 x5 (x7 + 1) μ9) else (∀ μ13 : MM, μ13 = ms μ9 0 2 0 x7 → (Q 0 μ13))))))))))))
set_option maxRecDepth 100000 in
set_option maxHeartbeats 4000000 in
theorem wX11_windy_L41 {Q : Int → MM → Prop} (F : CallFix p m c cX11_windy 8 s args uw RX11) (hA : ∀ q : Nat, s.heap.size ≤ q → A q) (hR : 3 ≤ R.frames ∧ 63 ≤ R.locals) (ret : RetI p l e R s m args below meth c cX11_windy Qf dmR cfR tyR exR D cy ad A Q) : ∀ (n : Nat) (x1 x2 x3 x4 x5 x7 : Int) (μ : MM) (H : Heap) (locs : List Loc) (ls : Array Slot), wpX11_windy_L41 Q n x1 x2 x3 x4 x5 x7 μ → wdR D cy ad A μ s H → va_S A s.heap H locs → lv_has ls 8 [(0, .ref (ad 0 0)), (1, .int (iI x1)), (2, .int (iI x2)), (3, .int (iI x3)), (4, .int (iI x4)), (5, .int (iI x5)), (7, .int (iI x7))] → W p l e R s m args below meth c H locs 0 0 Qf (F0 m 41 ls []) := by
  have hx := F.1
  have hb := F.2.1
  have hown := F.2.2.2.1
  have hts := F.2.2.2.2
  intro n
  induction n with
  | zero =>
    intro x1 x2 x3 x4 x5 x7 μ H locs ls h hw hS hl
    exact h.elim
  | succ n ih =>
    intro x1 x2 x3 x4 x5 x7 μ H locs ls h hw hS hl
    refine lv_iload hx hb dX11_windy_41 (lv_at hl 6 rfl) ?_
    refine lv_aload_n hx hb dX11_windy_43 rfl (lv_at hl 0 rfl) ?_
    refine gR_sizes F hw tw5_145 dX11_windy_44 ?_
    refine lv_iload_n hx hb dX11_windy_47 rfl (lv_at hl 1 rfl) ?_
    obtain ⟨g1, h⟩ := h
    obtain ⟨g2, h⟩ := h
    refine aR_ild (L := 8) hx hb hw 6 rfl rfl (by decide) g1 g2 dX11_windy_48 ?_
    obtain ⟨g3, h⟩ := h
    obtain ⟨g4, h⟩ := h
    refine q_icmp_ge (tgt := 92) hx hb g3 g4 dX11_windy_49 (by decide) (fun c5 => ?_) (fun c5 => ?_)
    · have h := ite_t c5 h
      refine q_iconst hx hb dX11_windy_92 ?_
      exact ret _ _ _ _ _ _ h hw hS dX11_windy_93
    · have h := ite_f c5 h
      refine lv_aload_n hx hb dX11_windy_52 rfl (lv_at hl 0 rfl) ?_
      refine gR_rows F hw tw5_146 dX11_windy_53 ?_
      refine q_bipush hx hb (by decide) dX11_windy_56 ?_
      refine lv_iload_n hx hb dX11_windy_58 rfl (lv_at hl 1 rfl) ?_
      refine q_imul hx hb dX11_windy_59 ?_
      refine lv_iload hx hb dX11_windy_60 (lv_at hl 6 rfl) ?_
      refine q_iadd hx hb dX11_windy_62 ?_
      obtain ⟨g6, h⟩ := h
      obtain ⟨g7, h⟩ := h
      refine aR_ild (L := 384) hx hb hw 7 rfl rfl (by decide) g6 g7 dX11_windy_63 ?_
      refine lv_iload_n hx hb dX11_windy_64 rfl (lv_at hl 2 rfl) ?_
      refine lv_iload hx hb dX11_windy_65 (lv_at hl 6 rfl) ?_
      refine lv_iload_n hx hb dX11_windy_67 rfl (lv_at hl 3 rfl) ?_
      refine lv_iload hx hb dX11_windy_68 (lv_at hl 4 rfl) ?_
      refine lv_iload hx hb dX11_windy_70 (lv_at hl 5 rfl) ?_
      refine call_S hexR F (kX11_dueAt h) 5 tw7_134 tw1_8 tw7_133 tw7_132 hdX11_dueAt ⟨Nat.le_trans (by decide) hR.1, Nat.le_trans (by decide) hR.2⟩ hA hw hS rfl hl.1 rfl (Nat.le_of_ble_eq_true rfl) dX11_windy_72 (fun v8 μ9 H locs h hw hS => ?_)
      obtain ⟨g10, h⟩ := h
      obtain ⟨g11, h⟩ := h
      refine q_icmp_le (tgt := 86) hx hb g10 g11 dX11_windy_75 (by decide) (fun c12 => ?_) (fun c12 => ?_)
      · have h := ite_t c12 h
        refine q_iinc (k := 6) (lv' := [(7, .int (iI (x7 + 1))), (0, .ref (ad 0 0)), (1, .int (iI x1)), (2, .int (iI x2)), (3, .int (iI x3)), (4, .int (iI x4)), (5, .int (iI x5))]) hx hb dX11_windy_86 hl rfl (by decide) rfl (fun ls hl => ?_)
        refine lv_goto (tgt := 41) hx hb dX11_windy_89 (by decide) ?_
        exact ih x1 x2 x3 x4 x5 (x7 + 1) _ _ _ _ h hw hS (lv_sub hl [1, 2, 3, 4, 5, 6, 0] rfl)
      · have h := ite_f c12 h
        refine lv_aload_n hx hb dX11_windy_78 rfl (lv_at hl 0 rfl) ?_
        refine lv_iload hx hb dX11_windy_79 (lv_at hl 6 rfl) ?_
        obtain ⟨μ13, eμ13⟩ : ∃ z : MM, z = ms μ9 0 2 0 x7 := ⟨_, rfl⟩
        have h := h μ13 eμ13
        refine pR_asked F hw hS tw5_140 eμ13 dX11_windy_81 (fun H locs hw hS => ?_)
        refine q_iconst hx hb dX11_windy_84 ?_
        exact ret _ _ _ _ _ _ h hw hS dX11_windy_85
def wpX11_windy (x1 : Int) (x2 : Int) (x3 : Int) (x4 : Int) (x5 : Int) (μ : MM) (Q : Int → MM → Prop) : Prop := wpX11_in x2 1 12 μ (fun v1 μ2 => if v1 = 0 then (Q (-1) μ2) else (wpX11_isFault x3 x4 x5 μ2 (fun v5 μ6 => if v5 = 0 then (Q (-1) μ6) else (wpX11_looked x1 μ6 (fun v9 μ10 => rg v9 ∧ (if 0 ≤ v9 then (∃ n13 : Nat, wpX11_windy_L41 Q n13 x1 x2 x3 x4 x5 0 μ10) else (Q v9 μ10)))))))
set_option maxRecDepth 100000 in
set_option maxHeartbeats 4000000 in
theorem wX11_windy {Q : Int → MM → Prop} {x1 : Int} {x2 : Int} {x3 : Int} {x4 : Int} {x5 : Int} {μ : MM} {H : Heap} {locs : List Loc} {ls : Array Slot} (F : CallFix p m c cX11_windy 8 s args uw RX11) (hA : ∀ q : Nat, s.heap.size ≤ q → A q) (hR : 3 ≤ R.frames ∧ 63 ≤ R.locals) (ret : RetI p l e R s m args below meth c cX11_windy Qf dmR cfR tyR exR D cy ad A Q) (h : wpX11_windy x1 x2 x3 x4 x5 μ Q) (hw : wdR D cy ad A μ s H) (hS : va_S A s.heap H locs) (hl : lv_has ls 8 [(0, .ref (ad 0 0)), (1, .int (iI x1)), (2, .int (iI x2)), (3, .int (iI x3)), (4, .int (iI x4)), (5, .int (iI x5))]) : W p l e R s m args below meth c H locs 0 0 Qf (F0 m 0 ls []) := by
  have hx := F.1
  have hb := F.2.1
  have hown := F.2.2.2.1
  have hts := F.2.2.2.2
  refine lv_iload_n hx hb dX11_windy_0 rfl (lv_at hl 2 rfl) ?_
  refine q_iconst hx hb dX11_windy_1 ?_
  refine q_bipush hx hb (by decide) dX11_windy_2 ?_
  refine call_S hexR F (kX11_in h) 3 tw6_77 tw1_8 tw6_76 tw6_75 hdX11_in ⟨Nat.le_trans (by decide) hR.1, Nat.le_trans (by decide) hR.2⟩ hA hw hS rfl hl.1 rfl (Nat.le_of_ble_eq_true rfl) dX11_windy_4 (fun v1 μ2 H locs h hw hS => ?_)
  obtain ⟨z3, h⟩ := h
  refine q_if_eq (tgt := 21) hx hb (rgB z3) dX11_windy_7 (by decide) (fun c4 => ?_) (fun c4 => ?_)
  · have h := ite_t c4 h
    refine q_iconst hx hb dX11_windy_21 ?_
    exact ret _ _ _ _ _ _ h hw hS dX11_windy_22
  · have h := ite_f c4 h
    refine lv_iload_n hx hb dX11_windy_10 rfl (lv_at hl 3 rfl) ?_
    refine lv_iload hx hb dX11_windy_11 (lv_at hl 4 rfl) ?_
    refine lv_iload hx hb dX11_windy_13 (lv_at hl 5 rfl) ?_
    refine call_S hexR F (kX11_isFault h) 3 tw7_131 tw1_8 tw7_130 tw7_129 hdX11_isFault ⟨Nat.le_trans (by decide) hR.1, Nat.le_trans (by decide) hR.2⟩ hA hw hS rfl hl.1 rfl (Nat.le_of_ble_eq_true rfl) dX11_windy_15 (fun v5 μ6 H locs h hw hS => ?_)
    obtain ⟨z7, h⟩ := h
    refine q_if_ne (tgt := 23) hx hb (rgB z7) dX11_windy_18 (by decide) (fun c8 => ?_) (fun c8 => ?_)
    · have h := ite_f c8 h
      refine lv_aload_n hx hb dX11_windy_23 rfl (lv_at hl 0 rfl) ?_
      refine lv_iload_n hx hb dX11_windy_24 rfl (lv_at hl 1 rfl) ?_
      refine call_V hexR F (kX11_looked h) 1 tw6_89 tw1_8 tw6_88 tws2_11 tw6_86 hdX11_looked ⟨Nat.le_trans (by decide) hR.1, Nat.le_trans (by decide) hR.2⟩ (hw.recv (k := 0) (i := 0) ⟨rfl, Or.inl rfl⟩ rfl rfl) hA hw hS rfl hl.1 rfl (Nat.le_of_ble_eq_true rfl) dX11_windy_25 (fun v9 μ10 H locs h hw hS => ?_)
      refine lv_istore (lv' := [(6, .int (iI v9)), (0, .ref (ad 0 0)), (1, .int (iI x1)), (2, .int (iI x2)), (3, .int (iI x3)), (4, .int (iI x4)), (5, .int (iI x5))]) hx hb dX11_windy_28 hl (by decide) rfl (fun ls hl => ?_)
      refine lv_iload hx hb dX11_windy_30 (lv_at hl 0 rfl) ?_
      obtain ⟨g11, h⟩ := h
      refine q_if_ge (tgt := 38) hx hb g11 dX11_windy_32 (by decide) (fun c12 => ?_) (fun c12 => ?_)
      · have h := ite_t c12 h
        refine q_iconst hx hb dX11_windy_38 ?_
        refine lv_istore (lv' := [(7, .int (iI 0)), (6, .int (iI v9)), (0, .ref (ad 0 0)), (1, .int (iI x1)), (2, .int (iI x2)), (3, .int (iI x3)), (4, .int (iI x4)), (5, .int (iI x5))]) hx hb dX11_windy_39 hl (by decide) rfl (fun ls hl => ?_)
        obtain ⟨n13, h⟩ := h
        exact wX11_windy_L41 F hA hR ret n13 x1 x2 x3 x4 x5 0 _ _ _ _ h hw hS (lv_sub hl [2, 3, 4, 5, 6, 7, 0] rfl)
      · have h := ite_f c12 h
        refine lv_iload hx hb dX11_windy_35 (lv_at hl 0 rfl) ?_
        exact ret _ _ _ _ _ _ h hw hS dX11_windy_37
    · have h := ite_t c8 h
      refine q_iconst hx hb dX11_windy_21 ?_
      exact ret _ _ _ _ _ _ h hw hS dX11_windy_22
set_option maxRecDepth 100000 in
set_option maxHeartbeats 4000000 in
theorem kX11_windy {l : Launch} {D : va_G} {cy : Nat → ClassId} {ad : AD} {A : Nat → Prop} {x1 : Int} {x2 : Int} {x3 : Int} {x4 : Int} {x5 : Int} {μ : MM} {Q : Int → MM → Prop} (h : wpX11_windy x1 x2 x3 x4 x5 μ Q) : Met l yX11_windy (Cond.code yX11_windy cX11_windy 8 (some .int) :: uw) (rmm 3 63) (wPc [.ref (ad 0 0), .int (iI x1), .int (iI x2), .int (iI x3), .int (iI x4), .int (iI x5)] dmR cfR tyR exR D cy ad A μ) (wQ vI Q dmR cfR D cy ad A) 0 0 A :=
  met_of (by decide) (Nat.le_of_ble_eq_true rfl) (fun p e R s m args below meth c ls hr hk hRR F hA hw hS hl => wX11_windy F hA (by subst hRR; exact ⟨Nat.le_refl _, Nat.le_refl _⟩) (retI_of F hr hk) h hw hS hl)
theorem hdX11_windy : yX11_windy.cls ≠ "java/lang/invoke/MethodHandle" ∧ yX11_windy.cls ≠ "java/lang/invoke/VarHandle" ∧ (parseMethodDescriptor yX11_windy.desc).map (fun d => d.parameters.length) = some 5 := by decide +kernel
end
