section
variable {p : Program} {l : Launch} {e : Env} {R : Room} {s : State} {m : MethodId} {args : Array Value} {below : List Frame} {meth : Method} {c : Code} {Qf : State → Prop} {D : va_G} {cy : Nat → ClassId} {ad : AD} {A : Nat → Prop}
def wpX11_rate (x1 : Int) (x2 : Int) (μ : MM) (Q : Int → MM → Prop) : Prop := wpX11_in x2 (-3600) 3600 μ (fun v1 μ2 => if v1 = 0 then (Q (-1) μ2) else (wpX11_askedFor x1 μ2 (fun v5 μ6 => rg v5 ∧ (if 0 ≤ v5 then (0 ≤ x1 ∧ (x1 < 4 ∧ (∀ μ11 : MM, μ11 = ms μ6 28 0 x1 x2 → (Q (μ6 28 0 x1) μ11)))) else (Q v5 μ6)))))
set_option maxRecDepth 100000 in
set_option maxHeartbeats 4000000 in
theorem wX11_rate {Q : Int → MM → Prop} {x1 : Int} {x2 : Int} {μ : MM} {H : Heap} {locs : List Loc} {ls : Array Slot} (F : CallFix p m c cX11_rate 5 s args uw RX11) (hA : ∀ q : Nat, s.heap.size ≤ q → A q) (hR : 3 ≤ R.frames ∧ 63 ≤ R.locals) (ret : RetI p l e R s m args below meth c cX11_rate Qf dmR cfR tyR exR D cy ad A Q) (h : wpX11_rate x1 x2 μ Q) (hw : wdR D cy ad A μ s H) (hS : va_S A s.heap H locs) (hl : lv_has ls 5 [(0, .ref (ad 0 0)), (1, .int (iI x1)), (2, .int (iI x2))]) : W p l e R s m args below meth c H locs 0 0 Qf (F0 m 0 ls []) := by
  have hx := F.1
  have hb := F.2.1
  have hown := F.2.2.2.1
  have hts := F.2.2.2.2
  refine lv_iload_n hx hb dX11_rate_0 rfl (lv_at hl 2 rfl) ?_
  refine q_sipush hx hb (by decide) dX11_rate_1 ?_
  refine q_sipush hx hb (by decide) dX11_rate_4 ?_
  refine call_S hexR F (kX11_in h) 3 tw6_77 tw1_8 tw6_76 tw6_75 hdX11_in ⟨Nat.le_trans (by decide) hR.1, Nat.le_trans (by decide) hR.2⟩ hA hw hS rfl hl.1 rfl (Nat.le_of_ble_eq_true rfl) dX11_rate_7 (fun v1 μ2 H locs h hw hS => ?_)
  obtain ⟨z3, h⟩ := h
  refine q_if_ne (tgt := 15) hx hb (rgB z3) dX11_rate_10 (by decide) (fun c4 => ?_) (fun c4 => ?_)
  · have h := ite_f c4 h
    refine lv_aload_n hx hb dX11_rate_15 rfl (lv_at hl 0 rfl) ?_
    refine lv_iload_n hx hb dX11_rate_16 rfl (lv_at hl 1 rfl) ?_
    refine call_V hexR F (kX11_askedFor h) 1 tw6_216 tw1_8 tw6_215 tws3_7 tw6_213 hdX11_askedFor ⟨Nat.le_trans (by decide) hR.1, Nat.le_trans (by decide) hR.2⟩ (hw.recv (k := 0) (i := 0) ⟨rfl, Or.inl rfl⟩ rfl rfl) hA hw hS rfl hl.1 rfl (Nat.le_of_ble_eq_true rfl) dX11_rate_17 (fun v5 μ6 H locs h hw hS => ?_)
    refine lv_istore_n (lv' := [(3, .int (iI v5)), (0, .ref (ad 0 0)), (1, .int (iI x1)), (2, .int (iI x2))]) hx hb dX11_rate_20 rfl hl (by decide) rfl (fun ls hl => ?_)
    refine lv_iload_n hx hb dX11_rate_21 rfl (lv_at hl 0 rfl) ?_
    obtain ⟨g7, h⟩ := h
    refine q_if_ge (tgt := 27) hx hb g7 dX11_rate_22 (by decide) (fun c8 => ?_) (fun c8 => ?_)
    · have h := ite_t c8 h
      refine lv_aload_n hx hb dX11_rate_27 rfl (lv_at hl 1 rfl) ?_
      refine gR_rates F hw tw5_166 dX11_rate_28 ?_
      refine lv_iload_n hx hb dX11_rate_31 rfl (lv_at hl 2 rfl) ?_
      obtain ⟨g9, h⟩ := h
      obtain ⟨g10, h⟩ := h
      refine aR_ild (L := 4) hx hb hw 27 rfl rfl (by decide) g9 g10 dX11_rate_32 ?_
      refine lv_istore (lv' := [(4, .int (iI (μ6 28 0 x1))), (3, .int (iI v5)), (0, .ref (ad 0 0)), (1, .int (iI x1)), (2, .int (iI x2))]) hx hb dX11_rate_33 hl (by decide) rfl (fun ls hl => ?_)
      refine lv_aload_n hx hb dX11_rate_35 rfl (lv_at hl 2 rfl) ?_
      refine gR_rates F hw tw5_166 dX11_rate_36 ?_
      refine lv_iload_n hx hb dX11_rate_39 rfl (lv_at hl 3 rfl) ?_
      refine lv_iload_n hx hb dX11_rate_40 rfl (lv_at hl 4 rfl) ?_
      obtain ⟨μ11, eμ11⟩ : ∃ z : MM, z = ms μ6 28 0 x1 x2 := ⟨_, rfl⟩
      have h := h μ11 eμ11
      refine aR_ist (L := 4) hx hb hw hS 27 rfl rfl (by decide) g9 g10 eμ11 dX11_rate_41 (fun H locs hw hS => ?_)
      refine lv_iload hx hb dX11_rate_42 (lv_at hl 0 rfl) ?_
      exact ret _ _ _ _ _ _ h hw hS dX11_rate_44
    · have h := ite_f c8 h
      refine lv_iload_n hx hb dX11_rate_25 rfl (lv_at hl 0 rfl) ?_
      exact ret _ _ _ _ _ _ h hw hS dX11_rate_26
  · have h := ite_t c4 h
    refine q_iconst hx hb dX11_rate_13 ?_
    exact ret _ _ _ _ _ _ h hw hS dX11_rate_14
set_option maxRecDepth 100000 in
set_option maxHeartbeats 4000000 in
theorem kX11_rate {l : Launch} {D : va_G} {cy : Nat → ClassId} {ad : AD} {A : Nat → Prop} {x1 : Int} {x2 : Int} {μ : MM} {Q : Int → MM → Prop} (h : wpX11_rate x1 x2 μ Q) : Met l yX11_rate (Cond.code yX11_rate cX11_rate 5 (some .int) :: uw) (rmm 3 63) (wPc [.ref (ad 0 0), .int (iI x1), .int (iI x2)] dmR cfR tyR exR D cy ad A μ) (wQ vI Q dmR cfR D cy ad A) 0 0 A :=
  met_of (by decide) (Nat.le_of_ble_eq_true rfl) (fun p e R s m args below meth c ls hr hk hRR F hA hw hS hl => wX11_rate F hA (by subst hRR; exact ⟨Nat.le_refl _, Nat.le_refl _⟩) (retI_of F hr hk) h hw hS hl)
theorem hdX11_rate : yX11_rate.cls ≠ "java/lang/invoke/MethodHandle" ∧ yX11_rate.cls ≠ "java/lang/invoke/VarHandle" ∧ (parseMethodDescriptor yX11_rate.desc).map (fun d => d.parameters.length) = some 2 := by decide +kernel
def wpX11_right (x1 : Int) (x2 : Int) (μ : MM) (Q : Int → MM → Prop) : Prop := wpX11_askedPlate x1 x2 μ (fun v1 μ2 => rg v1 ∧ (if 0 ≤ v1 then (wpX11_placeOf x1 x2 μ2 (fun v5 μ6 => 0 ≤ v5 ∧ (v5 < 8 ∧ (0 ≤ (μ6 35 0 v5) ∧ (μ6 35 0 v5 < 16 ∧ (wpX11_rightNotch x1 x2 μ6 (fun v11 μ12 => rg (μ6 14 0 (μ6 35 0 v5)) ∧ (rg v11 ∧ (if (μ6 14 0 (μ6 35 0 v5)) = v11 then (Q 1 μ12) else (Q 0 μ12)))))))))) else (Q v1 μ2)))
set_option maxRecDepth 100000 in
set_option maxHeartbeats 4000000 in
theorem wX11_right {Q : Int → MM → Prop} {x1 : Int} {x2 : Int} {μ : MM} {H : Heap} {locs : List Loc} {ls : Array Slot} (F : CallFix p m c cX11_right 4 s args uw RX11) (hA : ∀ q : Nat, s.heap.size ≤ q → A q) (hR : 5 ≤ R.frames ∧ 109 ≤ R.locals) (ret : RetI p l e R s m args below meth c cX11_right Qf dmR cfR tyR exR D cy ad A Q) (h : wpX11_right x1 x2 μ Q) (hw : wdR D cy ad A μ s H) (hS : va_S A s.heap H locs) (hl : lv_has ls 4 [(0, .ref (ad 0 0)), (1, .int (iI x1)), (2, .int (iI x2))]) : W p l e R s m args below meth c H locs 0 0 Qf (F0 m 0 ls []) := by
  have hx := F.1
  have hb := F.2.1
  have hown := F.2.2.2.1
  have hts := F.2.2.2.2
  refine lv_aload_n hx hb dX11_right_0 rfl (lv_at hl 0 rfl) ?_
  refine lv_iload_n hx hb dX11_right_1 rfl (lv_at hl 1 rfl) ?_
  refine lv_iload_n hx hb dX11_right_2 rfl (lv_at hl 2 rfl) ?_
  refine call_V hexR F (kX11_askedPlate h) 2 tw7_96 tw1_8 tw7_95 tws4_3 tw7_93 hdX11_askedPlate ⟨Nat.le_trans (by decide) hR.1, Nat.le_trans (by decide) hR.2⟩ (hw.recv (k := 0) (i := 0) ⟨rfl, Or.inl rfl⟩ rfl rfl) hA hw hS rfl hl.1 rfl (Nat.le_of_ble_eq_true rfl) dX11_right_3 (fun v1 μ2 H locs h hw hS => ?_)
  refine lv_istore_n (lv' := [(3, .int (iI v1)), (0, .ref (ad 0 0)), (1, .int (iI x1)), (2, .int (iI x2))]) hx hb dX11_right_6 rfl hl (by decide) rfl (fun ls hl => ?_)
  refine lv_iload_n hx hb dX11_right_7 rfl (lv_at hl 0 rfl) ?_
  obtain ⟨g3, h⟩ := h
  refine q_if_ge (tgt := 15) hx hb g3 dX11_right_8 (by decide) (fun c4 => ?_) (fun c4 => ?_)
  · have h := ite_t c4 h
    refine lv_aload_n hx hb dX11_right_15 rfl (lv_at hl 1 rfl) ?_
    refine gR_stands F hw tw5_152 dX11_right_16 ?_
    refine lv_aload_n hx hb dX11_right_19 rfl (lv_at hl 1 rfl) ?_
    refine gR_hung F hw tw5_173 dX11_right_20 ?_
    refine lv_iload_n hx hb dX11_right_23 rfl (lv_at hl 2 rfl) ?_
    refine lv_iload_n hx hb dX11_right_24 rfl (lv_at hl 3 rfl) ?_
    refine call_S hexR F (kX11_placeOf h) 2 tw6_204 tw1_8 tw6_203 tw6_202 hdX11_placeOf ⟨Nat.le_trans (by decide) hR.1, Nat.le_trans (by decide) hR.2⟩ hA hw hS rfl hl.1 rfl (Nat.le_of_ble_eq_true rfl) dX11_right_25 (fun v5 μ6 H locs h hw hS => ?_)
    obtain ⟨g7, h⟩ := h
    obtain ⟨g8, h⟩ := h
    refine aR_ild (L := 8) hx hb hw 34 rfl rfl (by decide) g7 g8 dX11_right_28 ?_
    obtain ⟨g9, h⟩ := h
    obtain ⟨g10, h⟩ := h
    refine aR_ild (L := 16) hx hb hw 13 rfl rfl (by decide) g9 g10 dX11_right_29 ?_
    refine lv_aload_n hx hb dX11_right_30 rfl (lv_at hl 1 rfl) ?_
    refine lv_iload_n hx hb dX11_right_31 rfl (lv_at hl 2 rfl) ?_
    refine lv_iload_n hx hb dX11_right_32 rfl (lv_at hl 3 rfl) ?_
    refine call_V hexR F (kX11_rightNotch h) 2 tw7_100 tw1_8 tw7_99 tws4_4 tw7_97 hdX11_rightNotch ⟨Nat.le_trans (by decide) hR.1, Nat.le_trans (by decide) hR.2⟩ (hw.recv (k := 0) (i := 0) ⟨rfl, Or.inl rfl⟩ rfl rfl) hA hw hS rfl hl.1 rfl (Nat.le_of_ble_eq_true rfl) dX11_right_33 (fun v11 μ12 H locs h hw hS => ?_)
    obtain ⟨g13, h⟩ := h
    obtain ⟨g14, h⟩ := h
    refine q_icmp_ne (tgt := 43) hx hb g13 g14 dX11_right_36 (by decide) (fun c15 => ?_) (fun c15 => ?_)
    · have h := ite_f c15 h
      refine q_iconst hx hb dX11_right_43 ?_
      exact ret _ _ _ _ _ _ h hw hS dX11_right_44
    · have h := ite_t c15 h
      refine q_iconst hx hb dX11_right_39 ?_
      refine lv_goto (tgt := 44) hx hb dX11_right_40 (by decide) ?_
      exact ret _ _ _ _ _ _ h hw hS dX11_right_44
  · have h := ite_f c4 h
    refine lv_iload_n hx hb dX11_right_11 rfl (lv_at hl 0 rfl) ?_
    refine lv_goto (tgt := 44) hx hb dX11_right_12 (by decide) ?_
    exact ret _ _ _ _ _ _ h hw hS dX11_right_44
set_option maxRecDepth 100000 in
set_option maxHeartbeats 4000000 in
theorem kX11_right {l : Launch} {D : va_G} {cy : Nat → ClassId} {ad : AD} {A : Nat → Prop} {x1 : Int} {x2 : Int} {μ : MM} {Q : Int → MM → Prop} (h : wpX11_right x1 x2 μ Q) : Met l yX11_right (Cond.code yX11_right cX11_right 4 (some .int) :: uw) (rmm 5 109) (wPc [.ref (ad 0 0), .int (iI x1), .int (iI x2)] dmR cfR tyR exR D cy ad A μ) (wQ vI Q dmR cfR D cy ad A) 0 0 A :=
  met_of (by decide) (Nat.le_of_ble_eq_true rfl) (fun p e R s m args below meth c ls hr hk hRR F hA hw hS hl => wX11_right F hA (by subst hRR; exact ⟨Nat.le_refl _, Nat.le_refl _⟩) (retI_of F hr hk) h hw hS hl)
theorem hdX11_right : yX11_right.cls ≠ "java/lang/invoke/MethodHandle" ∧ yX11_right.cls ≠ "java/lang/invoke/VarHandle" ∧ (parseMethodDescriptor yX11_right.desc).map (fun d => d.parameters.length) = some 2 := by decide +kernel
def wpX11_row_L34 (Q : Int → MM → Prop) : Nat → Int → Int → Int → MM → Prop
  | 0, _, _, _, _ => False
  | n + 1, x1, x2, x3, μ => rg x3 ∧ (if 48 ≤ x3 then (Q x2 μ) else (0 ≤ ((48 * x1) + x3) ∧ ((48 * x1) + x3 < 384 ∧ (∀ μ5 : MM, μ5 = ms μ 8 0 ((48 * x1) + x3) 0 → (wpX11_row_L34 Q n x1 x2 (x3 + 1) μ5)))))
set_option maxRecDepth 100000 in
set_option maxHeartbeats 4000000 in
theorem wX11_row_L34 {Q : Int → MM → Prop} (F : CallFix p m c cX11_row 4 s args uw RX11) (hA : ∀ q : Nat, s.heap.size ≤ q → A q) (hR : 2 ≤ R.frames ∧ 42 ≤ R.locals) (ret : RetI p l e R s m args below meth c cX11_row Qf dmR cfR tyR exR D cy ad A Q) : ∀ (n : Nat) (x1 x2 x3 : Int) (μ : MM) (H : Heap) (locs : List Loc) (ls : Array Slot), wpX11_row_L34 Q n x1 x2 x3 μ → wdR D cy ad A μ s H → va_S A s.heap H locs → lv_has ls 4 [(0, .ref (ad 0 0)), (1, .int (iI x1)), (2, .int (iI x2)), (3, .int (iI x3))] → W p l e R s m args below meth c H locs 0 0 Qf (F0 m 34 ls []) := by
  have hx := F.1
  have hb := F.2.1
  have hown := F.2.2.2.1
  have hts := F.2.2.2.2
  intro n
  induction n with
  | zero =>
    intro x1 x2 x3 μ H locs ls h hw hS hl
    exact h.elim
  | succ n ih =>
    intro x1 x2 x3 μ H locs ls h hw hS hl
    refine lv_iload_n hx hb dX11_row_34 rfl (lv_at hl 3 rfl) ?_
    refine q_bipush hx hb (by decide) dX11_row_35 ?_
    obtain ⟨g1, h⟩ := h
    refine q_icmp_ge (tgt := 58) hx hb g1 (by decide) dX11_row_37 (by decide) (fun c2 => ?_) (fun c2 => ?_)
    · have h := ite_t c2 h
      refine lv_iload_n hx hb dX11_row_58 rfl (lv_at hl 2 rfl) ?_
      exact ret _ _ _ _ _ _ h hw hS dX11_row_59
    · have h := ite_f c2 h
      refine lv_aload_n hx hb dX11_row_40 rfl (lv_at hl 0 rfl) ?_
      refine gR_rows F hw tw5_146 dX11_row_41 ?_
      refine q_bipush hx hb (by decide) dX11_row_44 ?_
      refine lv_iload_n hx hb dX11_row_46 rfl (lv_at hl 1 rfl) ?_
      refine q_imul hx hb dX11_row_47 ?_
      refine lv_iload_n hx hb dX11_row_48 rfl (lv_at hl 3 rfl) ?_
      refine q_iadd hx hb dX11_row_49 ?_
      refine q_iconst hx hb dX11_row_50 ?_
      obtain ⟨g3, h⟩ := h
      obtain ⟨g4, h⟩ := h
      obtain ⟨μ5, eμ5⟩ : ∃ z : MM, z = ms μ 8 0 ((48 * x1) + x3) 0 := ⟨_, rfl⟩
      have h := h μ5 eμ5
      refine aR_ist (L := 384) hx hb hw hS 7 rfl rfl (by decide) g3 g4 eμ5 dX11_row_51 (fun H locs hw hS => ?_)
      refine q_iinc (k := 3) (lv' := [(3, .int (iI (x3 + 1))), (0, .ref (ad 0 0)), (1, .int (iI x1)), (2, .int (iI x2))]) hx hb dX11_row_52 hl rfl (by decide) rfl (fun ls hl => ?_)
      refine lv_goto (tgt := 34) hx hb dX11_row_55 (by decide) ?_
      exact ih x1 x2 (x3 + 1) _ _ _ _ h hw hS (lv_sub hl [1, 2, 3, 0] rfl)
def wpX11_row (x1 : Int) (x2 : Int) (μ : MM) (Q : Int → MM → Prop) : Prop := wpX11_isRow x1 μ (fun v1 μ2 => if v1 = 0 then (Q (-1) μ2) else (rg x2 ∧ (if x2 ≤ 48 then (if 0 ≤ x2 then (0 ≤ x1 ∧ (x1 < 8 ∧ (∀ μ10 : MM, μ10 = ms μ2 7 0 x1 x2 → (∃ n11 : Nat, wpX11_row_L34 Q n11 x1 x2 0 μ10)))) else (wpX11_meets 5 μ2 (fun v12 μ13 => Q v12 μ13))) else (Q (-1) μ2))))
set_option maxRecDepth 100000 in
set_option maxHeartbeats 4000000 in
theorem wX11_row {Q : Int → MM → Prop} {x1 : Int} {x2 : Int} {μ : MM} {H : Heap} {locs : List Loc} {ls : Array Slot} (F : CallFix p m c cX11_row 4 s args uw RX11) (hA : ∀ q : Nat, s.heap.size ≤ q → A q) (hR : 2 ≤ R.frames ∧ 42 ≤ R.locals) (ret : RetI p l e R s m args below meth c cX11_row Qf dmR cfR tyR exR D cy ad A Q) (h : wpX11_row x1 x2 μ Q) (hw : wdR D cy ad A μ s H) (hS : va_S A s.heap H locs) (hl : lv_has ls 4 [(0, .ref (ad 0 0)), (1, .int (iI x1)), (2, .int (iI x2))]) : W p l e R s m args below meth c H locs 0 0 Qf (F0 m 0 ls []) := by
  have hx := F.1
  have hb := F.2.1
  have hown := F.2.2.2.1
  have hts := F.2.2.2.2
  refine lv_iload_n hx hb dX11_row_0 rfl (lv_at hl 1 rfl) ?_
  refine call_S hexR F (kX11_isRow h) 1 tw6_74 tw1_8 tw6_73 tw6_72 hdX11_isRow ⟨Nat.le_trans (by decide) hR.1, Nat.le_trans (by decide) hR.2⟩ hA hw hS rfl hl.1 rfl (Nat.le_of_ble_eq_true rfl) dX11_row_1 (fun v1 μ2 H locs h hw hS => ?_)
  obtain ⟨z3, h⟩ := h
  refine q_if_eq (tgt := 13) hx hb (rgB z3) dX11_row_4 (by decide) (fun c4 => ?_) (fun c4 => ?_)
  · have h := ite_t c4 h
    refine q_iconst hx hb dX11_row_13 ?_
    exact ret _ _ _ _ _ _ h hw hS dX11_row_14
  · have h := ite_f c4 h
    refine lv_iload_n hx hb dX11_row_7 rfl (lv_at hl 2 rfl) ?_
    refine q_bipush hx hb (by decide) dX11_row_8 ?_
    obtain ⟨g5, h⟩ := h
    refine q_icmp_le (tgt := 15) hx hb g5 (by decide) dX11_row_10 (by decide) (fun c6 => ?_) (fun c6 => ?_)
    · have h := ite_t c6 h
      refine lv_iload_n hx hb dX11_row_15 rfl (lv_at hl 2 rfl) ?_
      refine q_if_ge (tgt := 25) hx hb g5 dX11_row_16 (by decide) (fun c7 => ?_) (fun c7 => ?_)
      · have h := ite_t c7 h
        refine lv_aload_n hx hb dX11_row_25 rfl (lv_at hl 0 rfl) ?_
        refine gR_sizes F hw tw5_145 dX11_row_26 ?_
        refine lv_iload_n hx hb dX11_row_29 rfl (lv_at hl 1 rfl) ?_
        refine lv_iload_n hx hb dX11_row_30 rfl (lv_at hl 2 rfl) ?_
        obtain ⟨g8, h⟩ := h
        obtain ⟨g9, h⟩ := h
        obtain ⟨μ10, eμ10⟩ : ∃ z : MM, z = ms μ2 7 0 x1 x2 := ⟨_, rfl⟩
        have h := h μ10 eμ10
        refine aR_ist (L := 8) hx hb hw hS 6 rfl rfl (by decide) g8 g9 eμ10 dX11_row_31 (fun H locs hw hS => ?_)
        refine q_iconst hx hb dX11_row_32 ?_
        refine lv_istore_n (lv' := [(3, .int (iI 0)), (0, .ref (ad 0 0)), (1, .int (iI x1)), (2, .int (iI x2))]) hx hb dX11_row_33 rfl hl (by decide) rfl (fun ls hl => ?_)
        obtain ⟨n11, h⟩ := h
        exact wX11_row_L34 F hA hR ret n11 x1 x2 0 _ _ _ _ h hw hS (lv_sub hl [1, 2, 3, 0] rfl)
      · have h := ite_f c7 h
        refine lv_aload_n hx hb dX11_row_19 rfl (lv_at hl 0 rfl) ?_
        refine q_iconst hx hb dX11_row_20 ?_
        refine call_V hexR F (kX11_meets h) 1 tw6_81 tw1_8 tw6_80 tws2_10 tw6_78 hdX11_meets ⟨Nat.le_trans (by decide) hR.1, Nat.le_trans (by decide) hR.2⟩ (hw.recv (k := 0) (i := 0) ⟨rfl, Or.inl rfl⟩ rfl rfl) hA hw hS rfl hl.1 rfl (Nat.le_of_ble_eq_true rfl) dX11_row_21 (fun v12 μ13 H locs h hw hS => ?_)
        exact ret _ _ _ _ _ _ h hw hS dX11_row_24
    · have h := ite_f c6 h
      refine q_iconst hx hb dX11_row_13 ?_
      exact ret _ _ _ _ _ _ h hw hS dX11_row_14
set_option maxRecDepth 100000 in
set_option maxHeartbeats 4000000 in
theorem kX11_row {l : Launch} {D : va_G} {cy : Nat → ClassId} {ad : AD} {A : Nat → Prop} {x1 : Int} {x2 : Int} {μ : MM} {Q : Int → MM → Prop} (h : wpX11_row x1 x2 μ Q) : Met l yX11_row (Cond.code yX11_row cX11_row 4 (some .int) :: uw) (rmm 2 42) (wPc [.ref (ad 0 0), .int (iI x1), .int (iI x2)] dmR cfR tyR exR D cy ad A μ) (wQ vI Q dmR cfR D cy ad A) 0 0 A :=
  met_of (by decide) (Nat.le_of_ble_eq_true rfl) (fun p e R s m args below meth c ls hr hk hRR F hA hw hS hl => wX11_row F hA (by subst hRR; exact ⟨Nat.le_refl _, Nat.le_refl _⟩) (retI_of F hr hk) h hw hS hl)
theorem hdX11_row : yX11_row.cls ≠ "java/lang/invoke/MethodHandle" ∧ yX11_row.cls ≠ "java/lang/invoke/VarHandle" ∧ (parseMethodDescriptor yX11_row.desc).map (fun d => d.parameters.length) = some 2 := by decide +kernel
def wpX11_runOut (x1 : Int) (x2 : Int) (μ : MM) (Q : Int → MM → Prop) : Prop := wpX11_askedPlace x1 x2 μ (fun v1 μ2 => rg v1 ∧ (if 0 ≤ v1 then (wpX11_runs x1 x2 2147483647 μ2 (fun v5 μ6 => Q v5 μ6)) else (Q v1 μ2)))
set_option maxRecDepth 100000 in
set_option maxHeartbeats 4000000 in
theorem wX11_runOut {Q : Int → MM → Prop} {x1 : Int} {x2 : Int} {μ : MM} {H : Heap} {locs : List Loc} {ls : Array Slot} (F : CallFix p m c cX11_runOut 4 s args uw RX11) (hA : ∀ q : Nat, s.heap.size ≤ q → A q) (hR : 4 ≤ R.frames ∧ 95 ≤ R.locals) (ret : RetI p l e R s m args below meth c cX11_runOut Qf dmR cfR tyR exR D cy ad A Q) (h : wpX11_runOut x1 x2 μ Q) (hw : wdR D cy ad A μ s H) (hS : va_S A s.heap H locs) (hl : lv_has ls 4 [(0, .ref (ad 0 0)), (1, .int (iI x1)), (2, .int (iI x2))]) : W p l e R s m args below meth c H locs 0 0 Qf (F0 m 0 ls []) := by
  have hx := F.1
  have hb := F.2.1
  have hown := F.2.2.2.1
  have hts := F.2.2.2.2
  refine lv_aload_n hx hb dX11_runOut_0 rfl (lv_at hl 0 rfl) ?_
  refine lv_iload_n hx hb dX11_runOut_1 rfl (lv_at hl 1 rfl) ?_
  refine lv_iload_n hx hb dX11_runOut_2 rfl (lv_at hl 2 rfl) ?_
  refine call_V hexR F (kX11_askedPlace h) 2 tw6_212 tw1_8 tw6_211 tws3_6 tw6_209 hdX11_askedPlace ⟨Nat.le_trans (by decide) hR.1, Nat.le_trans (by decide) hR.2⟩ (hw.recv (k := 0) (i := 0) ⟨rfl, Or.inl rfl⟩ rfl rfl) hA hw hS rfl hl.1 rfl (Nat.le_of_ble_eq_true rfl) dX11_runOut_3 (fun v1 μ2 H locs h hw hS => ?_)
  refine lv_istore_n (lv' := [(3, .int (iI v1)), (0, .ref (ad 0 0)), (1, .int (iI x1)), (2, .int (iI x2))]) hx hb dX11_runOut_6 rfl hl (by decide) rfl (fun ls hl => ?_)
  refine lv_iload_n hx hb dX11_runOut_7 rfl (lv_at hl 0 rfl) ?_
  obtain ⟨g3, h⟩ := h
  refine q_if_ge (tgt := 15) hx hb g3 dX11_runOut_8 (by decide) (fun c4 => ?_) (fun c4 => ?_)
  · have h := ite_t c4 h
    refine lv_aload_n hx hb dX11_runOut_15 rfl (lv_at hl 1 rfl) ?_
    refine lv_iload_n hx hb dX11_runOut_16 rfl (lv_at hl 2 rfl) ?_
    refine lv_iload_n hx hb dX11_runOut_17 rfl (lv_at hl 3 rfl) ?_
    refine q_ldc (n := 2147483647) hx hb hown (hts _ tw7_40) (by decide) dX11_runOut_18 ?_
    refine call_V hexR F (kX11_runs h) 3 tw7_44 tw1_8 tw7_43 tws3_14 tw7_41 hdX11_runs ⟨Nat.le_trans (by decide) hR.1, Nat.le_trans (by decide) hR.2⟩ (hw.recv (k := 0) (i := 0) ⟨rfl, Or.inl rfl⟩ rfl rfl) hA hw hS rfl hl.1 rfl (Nat.le_of_ble_eq_true rfl) dX11_runOut_20 (fun v5 μ6 H locs h hw hS => ?_)
    exact ret _ _ _ _ _ _ h hw hS dX11_runOut_23
  · have h := ite_f c4 h
    refine lv_iload_n hx hb dX11_runOut_11 rfl (lv_at hl 0 rfl) ?_
    refine lv_goto (tgt := 23) hx hb dX11_runOut_12 (by decide) ?_
    exact ret _ _ _ _ _ _ h hw hS dX11_runOut_23
set_option maxRecDepth 100000 in
set_option maxHeartbeats 4000000 in
theorem kX11_runOut {l : Launch} {D : va_G} {cy : Nat → ClassId} {ad : AD} {A : Nat → Prop} {x1 : Int} {x2 : Int} {μ : MM} {Q : Int → MM → Prop} (h : wpX11_runOut x1 x2 μ Q) : Met l yX11_runOut (Cond.code yX11_runOut cX11_runOut 4 (some .int) :: uw) (rmm 4 95) (wPc [.ref (ad 0 0), .int (iI x1), .int (iI x2)] dmR cfR tyR exR D cy ad A μ) (wQ vI Q dmR cfR D cy ad A) 0 0 A :=
  met_of (by decide) (Nat.le_of_ble_eq_true rfl) (fun p e R s m args below meth c ls hr hk hRR F hA hw hS hl => wX11_runOut F hA (by subst hRR; exact ⟨Nat.le_refl _, Nat.le_refl _⟩) (retI_of F hr hk) h hw hS hl)
theorem hdX11_runOut : yX11_runOut.cls ≠ "java/lang/invoke/MethodHandle" ∧ yX11_runOut.cls ≠ "java/lang/invoke/VarHandle" ∧ (parseMethodDescriptor yX11_runOut.desc).map (fun d => d.parameters.length) = some 2 := by decide +kernel
def wpX11_silence (x1 : Int) (x2 : Int) (x3 : Int) (x4 : Int) (μ : MM) (Q : Int → MM → Prop) : Prop := wpX11_in x2 0 23 μ (fun v1 μ2 => if v1 = 0 then (Q (-1) μ2) else (wpX11_in x3 0 23 μ2 (fun v5 μ6 => if v5 = 0 then (Q (-1) μ6) else (wpX11_in x4 0 1 μ6 (fun v9 μ10 => if v9 = 0 then (Q (-1) μ10) else (wpX11_askedFor x1 μ10 (fun v13 μ14 => rg v13 ∧ (if 0 ≤ v13 then (0 ≤ x1 ∧ (x1 < 4 ∧ (∀ μ19 : MM, μ19 = ms μ14 32 0 x1 x2 → (∀ μ20 : MM, μ20 = ms μ19 33 0 x1 x3 → (∀ μ21 : MM, μ21 = ms μ20 34 0 x1 x4 → (Q 1 μ21)))))) else (Q v13 μ14)))))))))
set_option maxRecDepth 100000 in
set_option maxHeartbeats 4000000 in
theorem wX11_silence {Q : Int → MM → Prop} {x1 : Int} {x2 : Int} {x3 : Int} {x4 : Int} {μ : MM} {H : Heap} {locs : List Loc} {ls : Array Slot} (F : CallFix p m c cX11_silence 6 s args uw RX11) (hA : ∀ q : Nat, s.heap.size ≤ q → A q) (hR : 3 ≤ R.frames ∧ 63 ≤ R.locals) (ret : RetI p l e R s m args below meth c cX11_silence Qf dmR cfR tyR exR D cy ad A Q) (h : wpX11_silence x1 x2 x3 x4 μ Q) (hw : wdR D cy ad A μ s H) (hS : va_S A s.heap H locs) (hl : lv_has ls 6 [(0, .ref (ad 0 0)), (1, .int (iI x1)), (2, .int (iI x2)), (3, .int (iI x3)), (4, .int (iI x4))]) : W p l e R s m args below meth c H locs 0 0 Qf (F0 m 0 ls []) := by
  have hx := F.1
  have hb := F.2.1
  have hown := F.2.2.2.1
  have hts := F.2.2.2.2
  refine lv_iload_n hx hb dX11_silence_0 rfl (lv_at hl 2 rfl) ?_
  refine q_iconst hx hb dX11_silence_1 ?_
  refine q_bipush hx hb (by decide) dX11_silence_2 ?_
  refine call_S hexR F (kX11_in h) 3 tw6_77 tw1_8 tw6_76 tw6_75 hdX11_in ⟨Nat.le_trans (by decide) hR.1, Nat.le_trans (by decide) hR.2⟩ hA hw hS rfl hl.1 rfl (Nat.le_of_ble_eq_true rfl) dX11_silence_4 (fun v1 μ2 H locs h hw hS => ?_)
  obtain ⟨z3, h⟩ := h
  refine q_if_eq (tgt := 30) hx hb (rgB z3) dX11_silence_7 (by decide) (fun c4 => ?_) (fun c4 => ?_)
  · have h := ite_t c4 h
    refine q_iconst hx hb dX11_silence_30 ?_
    exact ret _ _ _ _ _ _ h hw hS dX11_silence_31
  · have h := ite_f c4 h
    refine lv_iload_n hx hb dX11_silence_10 rfl (lv_at hl 3 rfl) ?_
    refine q_iconst hx hb dX11_silence_11 ?_
    refine q_bipush hx hb (by decide) dX11_silence_12 ?_
    refine call_S hexR F (kX11_in h) 3 tw6_77 tw1_8 tw6_76 tw6_75 hdX11_in ⟨Nat.le_trans (by decide) hR.1, Nat.le_trans (by decide) hR.2⟩ hA hw hS rfl hl.1 rfl (Nat.le_of_ble_eq_true rfl) dX11_silence_14 (fun v5 μ6 H locs h hw hS => ?_)
    obtain ⟨z7, h⟩ := h
    refine q_if_eq (tgt := 30) hx hb (rgB z7) dX11_silence_17 (by decide) (fun c8 => ?_) (fun c8 => ?_)
    · have h := ite_t c8 h
      refine q_iconst hx hb dX11_silence_30 ?_
      exact ret _ _ _ _ _ _ h hw hS dX11_silence_31
    · have h := ite_f c8 h
      refine lv_iload hx hb dX11_silence_20 (lv_at hl 4 rfl) ?_
      refine q_iconst hx hb dX11_silence_22 ?_
      refine q_iconst hx hb dX11_silence_23 ?_
      refine call_S hexR F (kX11_in h) 3 tw6_77 tw1_8 tw6_76 tw6_75 hdX11_in ⟨Nat.le_trans (by decide) hR.1, Nat.le_trans (by decide) hR.2⟩ hA hw hS rfl hl.1 rfl (Nat.le_of_ble_eq_true rfl) dX11_silence_24 (fun v9 μ10 H locs h hw hS => ?_)
      obtain ⟨z11, h⟩ := h
      refine q_if_ne (tgt := 32) hx hb (rgB z11) dX11_silence_27 (by decide) (fun c12 => ?_) (fun c12 => ?_)
      · have h := ite_f c12 h
        refine lv_aload_n hx hb dX11_silence_32 rfl (lv_at hl 0 rfl) ?_
        refine lv_iload_n hx hb dX11_silence_33 rfl (lv_at hl 1 rfl) ?_
        refine call_V hexR F (kX11_askedFor h) 1 tw6_216 tw1_8 tw6_215 tws3_7 tw6_213 hdX11_askedFor ⟨Nat.le_trans (by decide) hR.1, Nat.le_trans (by decide) hR.2⟩ (hw.recv (k := 0) (i := 0) ⟨rfl, Or.inl rfl⟩ rfl rfl) hA hw hS rfl hl.1 rfl (Nat.le_of_ble_eq_true rfl) dX11_silence_34 (fun v13 μ14 H locs h hw hS => ?_)
        refine lv_istore (lv' := [(5, .int (iI v13)), (0, .ref (ad 0 0)), (1, .int (iI x1)), (2, .int (iI x2)), (3, .int (iI x3)), (4, .int (iI x4))]) hx hb dX11_silence_37 hl (by decide) rfl (fun ls hl => ?_)
        refine lv_iload hx hb dX11_silence_39 (lv_at hl 0 rfl) ?_
        obtain ⟨g15, h⟩ := h
        refine q_if_ge (tgt := 47) hx hb g15 dX11_silence_41 (by decide) (fun c16 => ?_) (fun c16 => ?_)
        · have h := ite_t c16 h
          refine lv_aload_n hx hb dX11_silence_47 rfl (lv_at hl 1 rfl) ?_
          refine gR_silentFrom F hw tw5_170 dX11_silence_48 ?_
          refine lv_iload_n hx hb dX11_silence_51 rfl (lv_at hl 2 rfl) ?_
          refine lv_iload_n hx hb dX11_silence_52 rfl (lv_at hl 3 rfl) ?_
          obtain ⟨g17, h⟩ := h
          obtain ⟨g18, h⟩ := h
          obtain ⟨μ19, eμ19⟩ : ∃ z : MM, z = ms μ14 32 0 x1 x2 := ⟨_, rfl⟩
          have h := h μ19 eμ19
          refine aR_ist (L := 4) hx hb hw hS 31 rfl rfl (by decide) g17 g18 eμ19 dX11_silence_53 (fun H locs hw hS => ?_)
          refine lv_aload_n hx hb dX11_silence_54 rfl (lv_at hl 1 rfl) ?_
          refine gR_silentTo F hw tw5_171 dX11_silence_55 ?_
          refine lv_iload_n hx hb dX11_silence_58 rfl (lv_at hl 2 rfl) ?_
          refine lv_iload_n hx hb dX11_silence_59 rfl (lv_at hl 4 rfl) ?_
          obtain ⟨μ20, eμ20⟩ : ∃ z : MM, z = ms μ19 33 0 x1 x3 := ⟨_, rfl⟩
          have h := h μ20 eμ20
          refine aR_ist (L := 4) hx hb hw hS 32 rfl rfl (by decide) g17 g18 eμ20 dX11_silence_60 (fun H locs hw hS => ?_)
          refine lv_aload_n hx hb dX11_silence_61 rfl (lv_at hl 1 rfl) ?_
          refine gR_silentSort F hw tw5_172 dX11_silence_62 ?_
          refine lv_iload_n hx hb dX11_silence_65 rfl (lv_at hl 2 rfl) ?_
          refine lv_iload hx hb dX11_silence_66 (lv_at hl 5 rfl) ?_
          obtain ⟨μ21, eμ21⟩ : ∃ z : MM, z = ms μ20 34 0 x1 x4 := ⟨_, rfl⟩
          have h := h μ21 eμ21
          refine aR_ist (L := 4) hx hb hw hS 33 rfl rfl (by decide) g17 g18 eμ21 dX11_silence_68 (fun H locs hw hS => ?_)
          refine q_iconst hx hb dX11_silence_69 ?_
          exact ret _ _ _ _ _ _ h hw hS dX11_silence_70
        · have h := ite_f c16 h
          refine lv_iload hx hb dX11_silence_44 (lv_at hl 0 rfl) ?_
          exact ret _ _ _ _ _ _ h hw hS dX11_silence_46
      · have h := ite_t c12 h
        refine q_iconst hx hb dX11_silence_30 ?_
        exact ret _ _ _ _ _ _ h hw hS dX11_silence_31
set_option maxRecDepth 100000 in
set_option maxHeartbeats 4000000 in
theorem kX11_silence {l : Launch} {D : va_G} {cy : Nat → ClassId} {ad : AD} {A : Nat → Prop} {x1 : Int} {x2 : Int} {x3 : Int} {x4 : Int} {μ : MM} {Q : Int → MM → Prop} (h : wpX11_silence x1 x2 x3 x4 μ Q) : Met l yX11_silence (Cond.code yX11_silence cX11_silence 6 (some .int) :: uw) (rmm 3 63) (wPc [.ref (ad 0 0), .int (iI x1), .int (iI x2), .int (iI x3), .int (iI x4)] dmR cfR tyR exR D cy ad A μ) (wQ vI Q dmR cfR D cy ad A) 0 0 A :=
  met_of (by decide) (Nat.le_of_ble_eq_true rfl) (fun p e R s m args below meth c ls hr hk hRR F hA hw hS hl => wX11_silence F hA (by subst hRR; exact ⟨Nat.le_refl _, Nat.le_refl _⟩) (retI_of F hr hk) h hw hS hl)
theorem hdX11_silence : yX11_silence.cls ≠ "java/lang/invoke/MethodHandle" ∧ yX11_silence.cls ≠ "java/lang/invoke/VarHandle" ∧ (parseMethodDescriptor yX11_silence.desc).map (fun d => d.parameters.length) = some 4 := by decide +kernel
def wpX11_snail (x1 : Int) (μ : MM) (Q : Int → MM → Prop) : Prop := wpX11_plateOf x1 2 μ (fun v1 μ2 => Q v1 μ2)
set_option maxRecDepth 100000 in
set_option maxHeartbeats 4000000 in
theorem wX11_snail {Q : Int → MM → Prop} {x1 : Int} {μ : MM} {H : Heap} {locs : List Loc} {ls : Array Slot} (F : CallFix p m c cX11_snail 2 s args uw RX11) (hA : ∀ q : Nat, s.heap.size ≤ q → A q) (hR : 3 ≤ R.frames ∧ 67 ≤ R.locals) (ret : RetI p l e R s m args below meth c cX11_snail Qf dmR cfR tyR exR D cy ad A Q) (h : wpX11_snail x1 μ Q) (hw : wdR D cy ad A μ s H) (hS : va_S A s.heap H locs) (hl : lv_has ls 2 [(0, .ref (ad 0 0)), (1, .int (iI x1))]) : W p l e R s m args below meth c H locs 0 0 Qf (F0 m 0 ls []) := by
  have hx := F.1
  have hb := F.2.1
  have hown := F.2.2.2.1
  have hts := F.2.2.2.2
  refine lv_aload_n hx hb dX11_snail_0 rfl (lv_at hl 0 rfl) ?_
  refine lv_iload_n hx hb dX11_snail_1 rfl (lv_at hl 1 rfl) ?_
  refine q_iconst hx hb dX11_snail_2 ?_
  refine call_V hexR F (kX11_plateOf h) 2 tw6_113 tw1_8 tw6_112 tws2_13 tw6_110 hdX11_plateOf ⟨Nat.le_trans (by decide) hR.1, Nat.le_trans (by decide) hR.2⟩ (hw.recv (k := 0) (i := 0) ⟨rfl, Or.inl rfl⟩ rfl rfl) hA hw hS rfl hl.1 rfl (Nat.le_of_ble_eq_true rfl) dX11_snail_3 (fun v1 μ2 H locs h hw hS => ?_)
  exact ret _ _ _ _ _ _ h hw hS dX11_snail_6
set_option maxRecDepth 100000 in
set_option maxHeartbeats 4000000 in
theorem kX11_snail {l : Launch} {D : va_G} {cy : Nat → ClassId} {ad : AD} {A : Nat → Prop} {x1 : Int} {μ : MM} {Q : Int → MM → Prop} (h : wpX11_snail x1 μ Q) : Met l yX11_snail (Cond.code yX11_snail cX11_snail 2 (some .int) :: uw) (rmm 3 67) (wPc [.ref (ad 0 0), .int (iI x1)] dmR cfR tyR exR D cy ad A μ) (wQ vI Q dmR cfR D cy ad A) 0 0 A :=
  met_of (by decide) (Nat.le_of_ble_eq_true rfl) (fun p e R s m args below meth c ls hr hk hRR F hA hw hS hl => wX11_snail F hA (by subst hRR; exact ⟨Nat.le_refl _, Nat.le_refl _⟩) (retI_of F hr hk) h hw hS hl)
theorem hdX11_snail : yX11_snail.cls ≠ "java/lang/invoke/MethodHandle" ∧ yX11_snail.cls ≠ "java/lang/invoke/VarHandle" ∧ (parseMethodDescriptor yX11_snail.desc).map (fun d => d.parameters.length) = some 1 := by decide +kernel
def wpX11_tear (x1 : Int) (μ : MM) (Q : Int → MM → Prop) : Prop := wpX11_looked x1 μ (fun v1 μ2 => rg v1 ∧ (if 0 ≤ v1 then (0 ≤ x1 ∧ (x1 < 8 ∧ (∀ μ7 : MM, μ7 = ms μ2 7 0 x1 (-9) → (Q 1 μ7)))) else (Q v1 μ2)))
set_option maxRecDepth 100000 in
set_option maxHeartbeats 4000000 in
theorem wX11_tear {Q : Int → MM → Prop} {x1 : Int} {μ : MM} {H : Heap} {locs : List Loc} {ls : Array Slot} (F : CallFix p m c cX11_tear 3 s args uw RX11) (hA : ∀ q : Nat, s.heap.size ≤ q → A q) (hR : 3 ≤ R.frames ∧ 63 ≤ R.locals) (ret : RetI p l e R s m args below meth c cX11_tear Qf dmR cfR tyR exR D cy ad A Q) (h : wpX11_tear x1 μ Q) (hw : wdR D cy ad A μ s H) (hS : va_S A s.heap H locs) (hl : lv_has ls 3 [(0, .ref (ad 0 0)), (1, .int (iI x1))]) : W p l e R s m args below meth c H locs 0 0 Qf (F0 m 0 ls []) := by
  have hx := F.1
  have hb := F.2.1
  have hown := F.2.2.2.1
  have hts := F.2.2.2.2
  refine lv_aload_n hx hb dX11_tear_0 rfl (lv_at hl 0 rfl) ?_
  refine lv_iload_n hx hb dX11_tear_1 rfl (lv_at hl 1 rfl) ?_
  refine call_V hexR F (kX11_looked h) 1 tw6_89 tw1_8 tw6_88 tws2_11 tw6_86 hdX11_looked ⟨Nat.le_trans (by decide) hR.1, Nat.le_trans (by decide) hR.2⟩ (hw.recv (k := 0) (i := 0) ⟨rfl, Or.inl rfl⟩ rfl rfl) hA hw hS rfl hl.1 rfl (Nat.le_of_ble_eq_true rfl) dX11_tear_2 (fun v1 μ2 H locs h hw hS => ?_)
  refine lv_istore_n (lv' := [(2, .int (iI v1)), (0, .ref (ad 0 0)), (1, .int (iI x1))]) hx hb dX11_tear_5 rfl hl (by decide) rfl (fun ls hl => ?_)
  refine lv_iload_n hx hb dX11_tear_6 rfl (lv_at hl 0 rfl) ?_
  obtain ⟨g3, h⟩ := h
  refine q_if_ge (tgt := 12) hx hb g3 dX11_tear_7 (by decide) (fun c4 => ?_) (fun c4 => ?_)
  · have h := ite_t c4 h
    refine lv_aload_n hx hb dX11_tear_12 rfl (lv_at hl 1 rfl) ?_
    refine gR_sizes F hw tw5_145 dX11_tear_13 ?_
    refine lv_iload_n hx hb dX11_tear_16 rfl (lv_at hl 2 rfl) ?_
    refine q_bipush hx hb (by decide) dX11_tear_17 ?_
    obtain ⟨g5, h⟩ := h
    obtain ⟨g6, h⟩ := h
    obtain ⟨μ7, eμ7⟩ : ∃ z : MM, z = ms μ2 7 0 x1 (-9) := ⟨_, rfl⟩
    have h := h μ7 eμ7
    refine aR_ist (L := 8) hx hb hw hS 6 rfl rfl (by decide) g5 g6 eμ7 dX11_tear_19 (fun H locs hw hS => ?_)
    refine q_iconst hx hb dX11_tear_20 ?_
    exact ret _ _ _ _ _ _ h hw hS dX11_tear_21
  · have h := ite_f c4 h
    refine lv_iload_n hx hb dX11_tear_10 rfl (lv_at hl 0 rfl) ?_
    exact ret _ _ _ _ _ _ h hw hS dX11_tear_11
set_option maxRecDepth 100000 in
set_option maxHeartbeats 4000000 in
theorem kX11_tear {l : Launch} {D : va_G} {cy : Nat → ClassId} {ad : AD} {A : Nat → Prop} {x1 : Int} {μ : MM} {Q : Int → MM → Prop} (h : wpX11_tear x1 μ Q) : Met l yX11_tear (Cond.code yX11_tear cX11_tear 3 (some .int) :: uw) (rmm 3 63) (wPc [.ref (ad 0 0), .int (iI x1)] dmR cfR tyR exR D cy ad A μ) (wQ vI Q dmR cfR D cy ad A) 0 0 A :=
  met_of (by decide) (Nat.le_of_ble_eq_true rfl) (fun p e R s m args below meth c ls hr hk hRR F hA hw hS hl => wX11_tear F hA (by subst hRR; exact ⟨Nat.le_refl _, Nat.le_refl _⟩) (retI_of F hr hk) h hw hS hl)
theorem hdX11_tear : yX11_tear.cls ≠ "java/lang/invoke/MethodHandle" ∧ yX11_tear.cls ≠ "java/lang/invoke/VarHandle" ∧ (parseMethodDescriptor yX11_tear.desc).map (fun d => d.parameters.length) = some 1 := by decide +kernel
def wpX11_tells (x1 : Int) (x2 : Int) (μ : MM) (Q : Int → MM → Prop) : Prop := wpX11_in x2 0 8 μ (fun v1 μ2 => if v1 = 0 then (Q (-1) μ2) else (wpX11_askedFor x1 μ2 (fun v5 μ6 => rg v5 ∧ (if 0 ≤ v5 then (wpX11_towerTells x1 x2 μ6 (fun v9 μ10 => Q v9 μ10)) else (Q v5 μ6)))))
set_option maxRecDepth 100000 in
set_option maxHeartbeats 4000000 in
theorem wX11_tells {Q : Int → MM → Prop} {x1 : Int} {x2 : Int} {μ : MM} {H : Heap} {locs : List Loc} {ls : Array Slot} (F : CallFix p m c cX11_tells 4 s args uw RX11) (hA : ∀ q : Nat, s.heap.size ≤ q → A q) (hR : 3 ≤ R.frames ∧ 63 ≤ R.locals) (ret : RetI p l e R s m args below meth c cX11_tells Qf dmR cfR tyR exR D cy ad A Q) (h : wpX11_tells x1 x2 μ Q) (hw : wdR D cy ad A μ s H) (hS : va_S A s.heap H locs) (hl : lv_has ls 4 [(0, .ref (ad 0 0)), (1, .int (iI x1)), (2, .int (iI x2))]) : W p l e R s m args below meth c H locs 0 0 Qf (F0 m 0 ls []) := by
  have hx := F.1
  have hb := F.2.1
  have hown := F.2.2.2.1
  have hts := F.2.2.2.2
  refine lv_iload_n hx hb dX11_tells_0 rfl (lv_at hl 2 rfl) ?_
  refine q_iconst hx hb dX11_tells_1 ?_
  refine q_bipush hx hb (by decide) dX11_tells_2 ?_
  refine call_S hexR F (kX11_in h) 3 tw6_77 tw1_8 tw6_76 tw6_75 hdX11_in ⟨Nat.le_trans (by decide) hR.1, Nat.le_trans (by decide) hR.2⟩ hA hw hS rfl hl.1 rfl (Nat.le_of_ble_eq_true rfl) dX11_tells_4 (fun v1 μ2 H locs h hw hS => ?_)
  obtain ⟨z3, h⟩ := h
  refine q_if_ne (tgt := 12) hx hb (rgB z3) dX11_tells_7 (by decide) (fun c4 => ?_) (fun c4 => ?_)
  · have h := ite_f c4 h
    refine lv_aload_n hx hb dX11_tells_12 rfl (lv_at hl 0 rfl) ?_
    refine lv_iload_n hx hb dX11_tells_13 rfl (lv_at hl 1 rfl) ?_
    refine call_V hexR F (kX11_askedFor h) 1 tw6_216 tw1_8 tw6_215 tws3_7 tw6_213 hdX11_askedFor ⟨Nat.le_trans (by decide) hR.1, Nat.le_trans (by decide) hR.2⟩ (hw.recv (k := 0) (i := 0) ⟨rfl, Or.inl rfl⟩ rfl rfl) hA hw hS rfl hl.1 rfl (Nat.le_of_ble_eq_true rfl) dX11_tells_14 (fun v5 μ6 H locs h hw hS => ?_)
    refine lv_istore_n (lv' := [(3, .int (iI v5)), (0, .ref (ad 0 0)), (1, .int (iI x1)), (2, .int (iI x2))]) hx hb dX11_tells_17 rfl hl (by decide) rfl (fun ls hl => ?_)
    refine lv_iload_n hx hb dX11_tells_18 rfl (lv_at hl 0 rfl) ?_
    obtain ⟨g7, h⟩ := h
    refine q_if_ge (tgt := 26) hx hb g7 dX11_tells_19 (by decide) (fun c8 => ?_) (fun c8 => ?_)
    · have h := ite_t c8 h
      refine lv_aload_n hx hb dX11_tells_26 rfl (lv_at hl 1 rfl) ?_
      refine lv_iload_n hx hb dX11_tells_27 rfl (lv_at hl 2 rfl) ?_
      refine lv_iload_n hx hb dX11_tells_28 rfl (lv_at hl 3 rfl) ?_
      refine call_V hexR F (kX11_towerTells h) 2 tw7_66 tw1_8 tw7_65 tws4_1 tw7_63 hdX11_towerTells ⟨Nat.le_trans (by decide) hR.1, Nat.le_trans (by decide) hR.2⟩ (hw.recv (k := 0) (i := 0) ⟨rfl, Or.inl rfl⟩ rfl rfl) hA hw hS rfl hl.1 rfl (Nat.le_of_ble_eq_true rfl) dX11_tells_29 (fun v9 μ10 H locs h hw hS => ?_)
      exact ret _ _ _ _ _ _ h hw hS dX11_tells_32
    · have h := ite_f c8 h
      refine lv_iload_n hx hb dX11_tells_22 rfl (lv_at hl 0 rfl) ?_
      refine lv_goto (tgt := 32) hx hb dX11_tells_23 (by decide) ?_
      exact ret _ _ _ _ _ _ h hw hS dX11_tells_32
  · have h := ite_t c4 h
    refine q_iconst hx hb dX11_tells_10 ?_
    exact ret _ _ _ _ _ _ h hw hS dX11_tells_11
set_option maxRecDepth 100000 in
set_option maxHeartbeats 4000000 in
theorem kX11_tells {l : Launch} {D : va_G} {cy : Nat → ClassId} {ad : AD} {A : Nat → Prop} {x1 : Int} {x2 : Int} {μ : MM} {Q : Int → MM → Prop} (h : wpX11_tells x1 x2 μ Q) : Met l yX11_tells (Cond.code yX11_tells cX11_tells 4 (some .int) :: uw) (rmm 3 63) (wPc [.ref (ad 0 0), .int (iI x1), .int (iI x2)] dmR cfR tyR exR D cy ad A μ) (wQ vI Q dmR cfR D cy ad A) 0 0 A :=
  met_of (by decide) (Nat.le_of_ble_eq_true rfl) (fun p e R s m args below meth c ls hr hk hRR F hA hw hS hl => wX11_tells F hA (by subst hRR; exact ⟨Nat.le_refl _, Nat.le_refl _⟩) (retI_of F hr hk) h hw hS hl)
theorem hdX11_tells : yX11_tells.cls ≠ "java/lang/invoke/MethodHandle" ∧ yX11_tells.cls ≠ "java/lang/invoke/VarHandle" ∧ (parseMethodDescriptor yX11_tells.desc).map (fun d => d.parameters.length) = some 2 := by decide +kernel
def wpX11_told (x1 : Int) (x2 : Int) (μ : MM) (Q : Int → MM → Prop) : Prop := wpX11_isTrain x1 μ (fun v1 μ2 => if v1 = 0 then (Q (-1) μ2) else (wpX11_in x2 0 7 μ2 (fun v5 μ6 => if v5 = 0 then (Q (-1) μ6) else (wpX11_trainTells x1 x2 μ6 (fun v9 μ10 => Q v9 μ10)))))
set_option maxRecDepth 100000 in
set_option maxHeartbeats 4000000 in
theorem wX11_told {Q : Int → MM → Prop} {x1 : Int} {x2 : Int} {μ : MM} {H : Heap} {locs : List Loc} {ls : Array Slot} (F : CallFix p m c cX11_told 3 s args uw RX11) (hA : ∀ q : Nat, s.heap.size ≤ q → A q) (hR : 2 ≤ R.frames ∧ 43 ≤ R.locals) (ret : RetI p l e R s m args below meth c cX11_told Qf dmR cfR tyR exR D cy ad A Q) (h : wpX11_told x1 x2 μ Q) (hw : wdR D cy ad A μ s H) (hS : va_S A s.heap H locs) (hl : lv_has ls 3 [(0, .ref (ad 0 0)), (1, .int (iI x1)), (2, .int (iI x2))]) : W p l e R s m args below meth c H locs 0 0 Qf (F0 m 0 ls []) := by
  have hx := F.1
  have hb := F.2.1
  have hown := F.2.2.2.1
  have hts := F.2.2.2.2
  refine lv_aload_n hx hb dX11_told_0 rfl (lv_at hl 0 rfl) ?_
  refine lv_iload_n hx hb dX11_told_1 rfl (lv_at hl 1 rfl) ?_
  refine call_V hexR F (kX11_isTrain h) 1 tw6_137 tw1_8 tw6_136 tws3_0 tw6_134 hdX11_isTrain ⟨Nat.le_trans (by decide) hR.1, Nat.le_trans (by decide) hR.2⟩ (hw.recv (k := 0) (i := 0) ⟨rfl, Or.inl rfl⟩ rfl rfl) hA hw hS rfl hl.1 rfl (Nat.le_of_ble_eq_true rfl) dX11_told_2 (fun v1 μ2 H locs h hw hS => ?_)
  obtain ⟨z3, h⟩ := h
  refine q_if_eq (tgt := 27) hx hb (rgB z3) dX11_told_5 (by decide) (fun c4 => ?_) (fun c4 => ?_)
  · have h := ite_t c4 h
    refine q_iconst hx hb dX11_told_27 ?_
    exact ret _ _ _ _ _ _ h hw hS dX11_told_28
  · have h := ite_f c4 h
    refine lv_iload_n hx hb dX11_told_8 rfl (lv_at hl 2 rfl) ?_
    refine q_iconst hx hb dX11_told_9 ?_
    refine q_bipush hx hb (by decide) dX11_told_10 ?_
    refine call_S hexR F (kX11_in h) 3 tw6_77 tw1_8 tw6_76 tw6_75 hdX11_in ⟨Nat.le_trans (by decide) hR.1, Nat.le_trans (by decide) hR.2⟩ hA hw hS rfl hl.1 rfl (Nat.le_of_ble_eq_true rfl) dX11_told_12 (fun v5 μ6 H locs h hw hS => ?_)
    obtain ⟨z7, h⟩ := h
    refine q_if_eq (tgt := 27) hx hb (rgB z7) dX11_told_15 (by decide) (fun c8 => ?_) (fun c8 => ?_)
    · have h := ite_t c8 h
      refine q_iconst hx hb dX11_told_27 ?_
      exact ret _ _ _ _ _ _ h hw hS dX11_told_28
    · have h := ite_f c8 h
      refine lv_aload_n hx hb dX11_told_18 rfl (lv_at hl 0 rfl) ?_
      refine lv_iload_n hx hb dX11_told_19 rfl (lv_at hl 1 rfl) ?_
      refine lv_iload_n hx hb dX11_told_20 rfl (lv_at hl 2 rfl) ?_
      refine call_V hexR F (kX11_trainTells h) 2 tw6_154 tw1_8 tw6_153 tws3_1 tw6_151 hdX11_trainTells ⟨Nat.le_trans (by decide) hR.1, Nat.le_trans (by decide) hR.2⟩ (hw.recv (k := 0) (i := 0) ⟨rfl, Or.inl rfl⟩ rfl rfl) hA hw hS rfl hl.1 rfl (Nat.le_of_ble_eq_true rfl) dX11_told_21 (fun v9 μ10 H locs h hw hS => ?_)
      refine lv_goto (tgt := 28) hx hb dX11_told_24 (by decide) ?_
      exact ret _ _ _ _ _ _ h hw hS dX11_told_28
set_option maxRecDepth 100000 in
set_option maxHeartbeats 4000000 in
theorem kX11_told {l : Launch} {D : va_G} {cy : Nat → ClassId} {ad : AD} {A : Nat → Prop} {x1 : Int} {x2 : Int} {μ : MM} {Q : Int → MM → Prop} (h : wpX11_told x1 x2 μ Q) : Met l yX11_told (Cond.code yX11_told cX11_told 3 (some .int) :: uw) (rmm 2 43) (wPc [.ref (ad 0 0), .int (iI x1), .int (iI x2)] dmR cfR tyR exR D cy ad A μ) (wQ vI Q dmR cfR D cy ad A) 0 0 A :=
  met_of (by decide) (Nat.le_of_ble_eq_true rfl) (fun p e R s m args below meth c ls hr hk hRR F hA hw hS hl => wX11_told F hA (by subst hRR; exact ⟨Nat.le_refl _, Nat.le_refl _⟩) (retI_of F hr hk) h hw hS hl)
theorem hdX11_told : yX11_told.cls ≠ "java/lang/invoke/MethodHandle" ∧ yX11_told.cls ≠ "java/lang/invoke/VarHandle" ∧ (parseMethodDescriptor yX11_told.desc).map (fun d => d.parameters.length) = some 2 := by decide +kernel
def wpX11_tower_J23 (Q : Int → MM → Prop) (x1 : Int) (t0 : Int) (μ : MM) : Prop := 0 ≤ x1 ∧ (x1 < 4 ∧ (∀ μ3 : MM, μ3 = ms μ 26 0 x1 1 → (∀ μ4 : MM, μ4 = ms μ3 27 0 x1 0 → (∀ μ5 : MM, μ5 = ms μ4 28 0 x1 0 → (∀ μ6 : MM, μ6 = ms μ5 29 0 x1 20000 → (∀ μ7 : MM, μ7 = ms μ6 30 0 x1 0 → (∀ μ8 : MM, μ8 = ms μ7 31 0 x1 1 → (∀ μ9 : MM, μ9 = ms μ8 32 0 x1 0 → (∀ μ10 : MM, μ10 = ms μ9 33 0 x1 0 → (∀ μ11 : MM, μ11 = ms μ10 37 0 x1 0 → (wpX11_free (2 * x1) μ11 (fun v12 μ13 => wpX11_free ((2 * x1) + 1) μ13 (fun v14 μ15 => Q t0 μ15)))))))))))))
set_option maxRecDepth 100000 in
set_option maxHeartbeats 4000000 in
theorem wX11_tower_J23 {Q : Int → MM → Prop} {x1 : Int} {t0 : Int} {μ : MM} {H : Heap} {locs : List Loc} {ls : Array Slot} (F : CallFix p m c cX11_tower 3 s args uw RX11) (hA : ∀ q : Nat, s.heap.size ≤ q → A q) (hR : 2 ≤ R.frames ∧ 42 ≤ R.locals) (ret : RetI p l e R s m args below meth c cX11_tower Qf dmR cfR tyR exR D cy ad A Q) (h : wpX11_tower_J23 Q x1 t0 μ) (hw : wdR D cy ad A μ s H) (hS : va_S A s.heap H locs) (hl : lv_has ls 3 [(0, .ref (ad 0 0)), (1, .int (iI x1))]) : W p l e R s m args below meth c H locs 0 0 Qf (F0 m 23 ls [.int (iI t0)]) := by
  have hx := F.1
  have hb := F.2.1
  have hown := F.2.2.2.1
  have hts := F.2.2.2.2
  refine lv_istore_n (lv' := [(2, .int (iI t0)), (0, .ref (ad 0 0)), (1, .int (iI x1))]) hx hb dX11_tower_23 rfl hl (by decide) rfl (fun ls hl => ?_)
  refine lv_aload_n hx hb dX11_tower_24 rfl (lv_at hl 1 rfl) ?_
  refine gR_isTower F hw tw5_164 dX11_tower_25 ?_
  refine lv_iload_n hx hb dX11_tower_28 rfl (lv_at hl 2 rfl) ?_
  refine q_iconst hx hb dX11_tower_29 ?_
  obtain ⟨g1, h⟩ := h
  obtain ⟨g2, h⟩ := h
  obtain ⟨μ3, eμ3⟩ : ∃ z : MM, z = ms μ 26 0 x1 1 := ⟨_, rfl⟩
  have h := h μ3 eμ3
  refine aR_zst (L := 4) hx hb hw hS 25 rfl rfl (by decide) g1 g2 (Or.inr rfl) eμ3 dX11_tower_30 (fun H locs hw hS => ?_)
  refine lv_aload_n hx hb dX11_tower_31 rfl (lv_at hl 1 rfl) ?_
  refine gR_handsAt F hw tw5_165 dX11_tower_32 ?_
  refine lv_iload_n hx hb dX11_tower_35 rfl (lv_at hl 2 rfl) ?_
  refine q_iconst hx hb dX11_tower_36 ?_
  obtain ⟨μ4, eμ4⟩ : ∃ z : MM, z = ms μ3 27 0 x1 0 := ⟨_, rfl⟩
  have h := h μ4 eμ4
  refine aR_ist (L := 4) hx hb hw hS 26 rfl rfl (by decide) g1 g2 eμ4 dX11_tower_37 (fun H locs hw hS => ?_)
  refine lv_aload_n hx hb dX11_tower_38 rfl (lv_at hl 1 rfl) ?_
  refine gR_rates F hw tw5_166 dX11_tower_39 ?_
  refine lv_iload_n hx hb dX11_tower_42 rfl (lv_at hl 2 rfl) ?_
  refine q_iconst hx hb dX11_tower_43 ?_
  obtain ⟨μ5, eμ5⟩ : ∃ z : MM, z = ms μ4 28 0 x1 0 := ⟨_, rfl⟩
  have h := h μ5 eμ5
  refine aR_ist (L := 4) hx hb hw hS 27 rfl rfl (by decide) g1 g2 eμ5 dX11_tower_44 (fun H locs hw hS => ?_)
  refine lv_aload_n hx hb dX11_tower_45 rfl (lv_at hl 1 rfl) ?_
  refine gR_goings F hw tw5_167 dX11_tower_46 ?_
  refine lv_iload_n hx hb dX11_tower_49 rfl (lv_at hl 2 rfl) ?_
  refine q_sipush hx hb (by decide) dX11_tower_50 ?_
  obtain ⟨μ6, eμ6⟩ : ∃ z : MM, z = ms μ5 29 0 x1 20000 := ⟨_, rfl⟩
  have h := h μ6 eμ6
  refine aR_ist (L := 4) hx hb hw hS 28 rfl rfl (by decide) g1 g2 eμ6 dX11_tower_53 (fun H locs hw hS => ?_)
  refine lv_aload_n hx hb dX11_tower_54 rfl (lv_at hl 1 rfl) ?_
  refine gR_sums F hw tw5_168 dX11_tower_55 ?_
  refine lv_iload_n hx hb dX11_tower_58 rfl (lv_at hl 2 rfl) ?_
  refine q_iconst hx hb dX11_tower_59 ?_
  obtain ⟨μ7, eμ7⟩ : ∃ z : MM, z = ms μ6 30 0 x1 0 := ⟨_, rfl⟩
  have h := h μ7 eμ7
  refine aR_ist (L := 4) hx hb hw hS 29 rfl rfl (by decide) g1 g2 eμ7 dX11_tower_60 (fun H locs hw hS => ?_)
  refine lv_aload_n hx hb dX11_tower_61 rfl (lv_at hl 1 rfl) ?_
  refine gR_goes F hw tw5_169 dX11_tower_62 ?_
  refine lv_iload_n hx hb dX11_tower_65 rfl (lv_at hl 2 rfl) ?_
  refine q_iconst hx hb dX11_tower_66 ?_
  obtain ⟨μ8, eμ8⟩ : ∃ z : MM, z = ms μ7 31 0 x1 1 := ⟨_, rfl⟩
  have h := h μ8 eμ8
  refine aR_zst (L := 4) hx hb hw hS 30 rfl rfl (by decide) g1 g2 (Or.inr rfl) eμ8 dX11_tower_67 (fun H locs hw hS => ?_)
  refine lv_aload_n hx hb dX11_tower_68 rfl (lv_at hl 1 rfl) ?_
  refine gR_silentFrom F hw tw5_170 dX11_tower_69 ?_
  refine lv_iload_n hx hb dX11_tower_72 rfl (lv_at hl 2 rfl) ?_
  refine q_iconst hx hb dX11_tower_73 ?_
  obtain ⟨μ9, eμ9⟩ : ∃ z : MM, z = ms μ8 32 0 x1 0 := ⟨_, rfl⟩
  have h := h μ9 eμ9
  refine aR_ist (L := 4) hx hb hw hS 31 rfl rfl (by decide) g1 g2 eμ9 dX11_tower_74 (fun H locs hw hS => ?_)
  refine lv_aload_n hx hb dX11_tower_75 rfl (lv_at hl 1 rfl) ?_
  refine gR_silentTo F hw tw5_171 dX11_tower_76 ?_
  refine lv_iload_n hx hb dX11_tower_79 rfl (lv_at hl 2 rfl) ?_
  refine q_iconst hx hb dX11_tower_80 ?_
  obtain ⟨μ10, eμ10⟩ : ∃ z : MM, z = ms μ9 33 0 x1 0 := ⟨_, rfl⟩
  have h := h μ10 eμ10
  refine aR_ist (L := 4) hx hb hw hS 32 rfl rfl (by decide) g1 g2 eμ10 dX11_tower_81 (fun H locs hw hS => ?_)
  refine lv_aload_n hx hb dX11_tower_82 rfl (lv_at hl 1 rfl) ?_
  refine gR_entries F hw tw5_175 dX11_tower_83 ?_
  refine lv_iload_n hx hb dX11_tower_86 rfl (lv_at hl 2 rfl) ?_
  refine q_iconst hx hb dX11_tower_87 ?_
  obtain ⟨μ11, eμ11⟩ : ∃ z : MM, z = ms μ10 37 0 x1 0 := ⟨_, rfl⟩
  have h := h μ11 eμ11
  refine aR_ist (L := 4) hx hb hw hS 36 rfl rfl (by decide) g1 g2 eμ11 dX11_tower_88 (fun H locs hw hS => ?_)
  refine lv_aload_n hx hb dX11_tower_89 rfl (lv_at hl 1 rfl) ?_
  refine q_iconst hx hb dX11_tower_90 ?_
  refine lv_iload_n hx hb dX11_tower_91 rfl (lv_at hl 2 rfl) ?_
  refine q_imul hx hb dX11_tower_92 ?_
  refine call_V hexR F (kX11_free h) 1 tw6_197 tw1_8 tw6_196 tws3_5 tw6_194 hdX11_free ⟨Nat.le_trans (by decide) hR.1, Nat.le_trans (by decide) hR.2⟩ (hw.recv (k := 0) (i := 0) ⟨rfl, Or.inl rfl⟩ rfl rfl) hA hw hS rfl hl.1 rfl (Nat.le_of_ble_eq_true rfl) dX11_tower_93 (fun v12 μ13 H locs h hw hS => ?_)
  refine lv_aload_n hx hb dX11_tower_96 rfl (lv_at hl 1 rfl) ?_
  refine q_iconst hx hb dX11_tower_97 ?_
  refine lv_iload_n hx hb dX11_tower_98 rfl (lv_at hl 2 rfl) ?_
  refine q_imul hx hb dX11_tower_99 ?_
  refine q_iconst hx hb dX11_tower_100 ?_
  refine q_iadd hx hb dX11_tower_101 ?_
  refine call_V hexR F (kX11_free h) 1 tw6_197 tw1_8 tw6_196 tws3_5 tw6_194 hdX11_free ⟨Nat.le_trans (by decide) hR.1, Nat.le_trans (by decide) hR.2⟩ (hw.recv (k := 0) (i := 0) ⟨rfl, Or.inl rfl⟩ rfl rfl) hA hw hS rfl hl.1 rfl (Nat.le_of_ble_eq_true rfl) dX11_tower_102 (fun v14 μ15 H locs h hw hS => ?_)
  refine lv_iload_n hx hb dX11_tower_105 rfl (lv_at hl 0 rfl) ?_
  exact ret _ _ _ _ _ _ h hw hS dX11_tower_106
def wpX11_tower (x1 : Int) (μ : MM) (Q : Int → MM → Prop) : Prop := wpX11_isNumber x1 μ (fun v1 μ2 => if v1 = 0 then (Q (-1) μ2) else (0 ≤ x1 ∧ (x1 < 4 ∧ (rg (μ2 26 0 x1) ∧ (if (μ2 26 0 x1) = 0 then (wpX11_tower_J23 Q x1 0 μ2) else (wpX11_tower_J23 Q x1 1 μ2))))))
set_option maxRecDepth 100000 in
set_option maxHeartbeats 4000000 in
theorem wX11_tower {Q : Int → MM → Prop} {x1 : Int} {μ : MM} {H : Heap} {locs : List Loc} {ls : Array Slot} (F : CallFix p m c cX11_tower 3 s args uw RX11) (hA : ∀ q : Nat, s.heap.size ≤ q → A q) (hR : 2 ≤ R.frames ∧ 42 ≤ R.locals) (ret : RetI p l e R s m args below meth c cX11_tower Qf dmR cfR tyR exR D cy ad A Q) (h : wpX11_tower x1 μ Q) (hw : wdR D cy ad A μ s H) (hS : va_S A s.heap H locs) (hl : lv_has ls 3 [(0, .ref (ad 0 0)), (1, .int (iI x1))]) : W p l e R s m args below meth c H locs 0 0 Qf (F0 m 0 ls []) := by
  have hx := F.1
  have hb := F.2.1
  have hown := F.2.2.2.1
  have hts := F.2.2.2.2
  refine lv_iload_n hx hb dX11_tower_0 rfl (lv_at hl 1 rfl) ?_
  refine call_S hexR F (kX11_isNumber h) 1 tw6_193 tw1_8 tw6_192 tw6_191 hdX11_isNumber ⟨Nat.le_trans (by decide) hR.1, Nat.le_trans (by decide) hR.2⟩ hA hw hS rfl hl.1 rfl (Nat.le_of_ble_eq_true rfl) dX11_tower_1 (fun v1 μ2 H locs h hw hS => ?_)
  obtain ⟨z3, h⟩ := h
  refine q_if_ne (tgt := 9) hx hb (rgB z3) dX11_tower_4 (by decide) (fun c4 => ?_) (fun c4 => ?_)
  · have h := ite_f c4 h
    refine lv_aload_n hx hb dX11_tower_9 rfl (lv_at hl 0 rfl) ?_
    refine gR_isTower F hw tw5_164 dX11_tower_10 ?_
    refine lv_iload_n hx hb dX11_tower_13 rfl (lv_at hl 1 rfl) ?_
    obtain ⟨g5, h⟩ := h
    obtain ⟨g6, h⟩ := h
    refine aR_zld (L := 4) hx hb hw 25 rfl rfl (by decide) g5 g6 dX11_tower_14 ?_
    obtain ⟨g7, h⟩ := h
    refine q_if_eq (tgt := 22) hx hb g7 dX11_tower_15 (by decide) (fun c8 => ?_) (fun c8 => ?_)
    · have h := ite_t c8 h
      refine q_iconst hx hb dX11_tower_22 ?_
      exact wX11_tower_J23 F hA hR ret h hw hS (lv_sub hl [0, 1] rfl)
    · have h := ite_f c8 h
      refine q_iconst hx hb dX11_tower_18 ?_
      refine lv_goto (tgt := 23) hx hb dX11_tower_19 (by decide) ?_
      exact wX11_tower_J23 F hA hR ret h hw hS (lv_sub hl [0, 1] rfl)
  · have h := ite_t c4 h
    refine q_iconst hx hb dX11_tower_7 ?_
    exact ret _ _ _ _ _ _ h hw hS dX11_tower_8
set_option maxRecDepth 100000 in
set_option maxHeartbeats 4000000 in
theorem kX11_tower {l : Launch} {D : va_G} {cy : Nat → ClassId} {ad : AD} {A : Nat → Prop} {x1 : Int} {μ : MM} {Q : Int → MM → Prop} (h : wpX11_tower x1 μ Q) : Met l yX11_tower (Cond.code yX11_tower cX11_tower 3 (some .int) :: uw) (rmm 2 42) (wPc [.ref (ad 0 0), .int (iI x1)] dmR cfR tyR exR D cy ad A μ) (wQ vI Q dmR cfR D cy ad A) 0 0 A :=
  met_of (by decide) (Nat.le_of_ble_eq_true rfl) (fun p e R s m args below meth c ls hr hk hRR F hA hw hS hl => wX11_tower F hA (by subst hRR; exact ⟨Nat.le_refl _, Nat.le_refl _⟩) (retI_of F hr hk) h hw hS hl)
theorem hdX11_tower : yX11_tower.cls ≠ "java/lang/invoke/MethodHandle" ∧ yX11_tower.cls ≠ "java/lang/invoke/VarHandle" ∧ (parseMethodDescriptor yX11_tower.desc).map (fun d => d.parameters.length) = some 1 := by decide +kernel
def wpX11_train (μ : MM) (Q : Int → MM → Prop) : Prop := rg (μ 0 10 0) ∧ (if (μ 0 10 0) = 16 then (Q (-2) μ) else (wpX11_makes 0 μ (fun v3 μ4 => Q v3 μ4)))
set_option maxRecDepth 100000 in
set_option maxHeartbeats 4000000 in
theorem wX11_train {Q : Int → MM → Prop} {μ : MM} {H : Heap} {locs : List Loc} {ls : Array Slot} (F : CallFix p m c cX11_train 1 s args uw RX11) (hA : ∀ q : Nat, s.heap.size ≤ q → A q) (hR : 1 ≤ R.frames ∧ 21 ≤ R.locals) (ret : RetI p l e R s m args below meth c cX11_train Qf dmR cfR tyR exR D cy ad A Q) (h : wpX11_train μ Q) (hw : wdR D cy ad A μ s H) (hS : va_S A s.heap H locs) (hl : lv_has ls 1 [(0, .ref (ad 0 0))]) : W p l e R s m args below meth c H locs 0 0 Qf (F0 m 0 ls []) := by
  have hx := F.1
  have hb := F.2.1
  have hown := F.2.2.2.1
  have hts := F.2.2.2.2
  refine lv_aload_n hx hb dX11_train_0 rfl (lv_at hl 0 rfl) ?_
  refine gR_trains F hw tw5_148 dX11_train_1 ?_
  refine q_bipush hx hb (by decide) dX11_train_4 ?_
  obtain ⟨g1, h⟩ := h
  refine q_icmp_ne (tgt := 14) hx hb g1 (by decide) dX11_train_6 (by decide) (fun c2 => ?_) (fun c2 => ?_)
  · have h := ite_f c2 h
    refine lv_aload_n hx hb dX11_train_14 rfl (lv_at hl 0 rfl) ?_
    refine q_iconst hx hb dX11_train_15 ?_
    refine call_V hexR F (kX11_makes h) 1 tw6_105 tw1_8 tw6_104 tws2_12 tw6_102 hdX11_makes ⟨Nat.le_trans (by decide) hR.1, Nat.le_trans (by decide) hR.2⟩ (hw.recv (k := 0) (i := 0) ⟨rfl, Or.inl rfl⟩ rfl rfl) hA hw hS rfl hl.1 rfl (Nat.le_of_ble_eq_true rfl) dX11_train_16 (fun v3 μ4 H locs h hw hS => ?_)
    exact ret _ _ _ _ _ _ h hw hS dX11_train_19
  · have h := ite_t c2 h
    refine q_bipush hx hb (by decide) dX11_train_9 ?_
    refine lv_goto (tgt := 19) hx hb dX11_train_11 (by decide) ?_
    exact ret _ _ _ _ _ _ h hw hS dX11_train_19
set_option maxRecDepth 100000 in
set_option maxHeartbeats 4000000 in
theorem kX11_train {l : Launch} {D : va_G} {cy : Nat → ClassId} {ad : AD} {A : Nat → Prop} {μ : MM} {Q : Int → MM → Prop} (h : wpX11_train μ Q) : Met l yX11_train (Cond.code yX11_train cX11_train 1 (some .int) :: uw) (rmm 1 21) (wPc [.ref (ad 0 0)] dmR cfR tyR exR D cy ad A μ) (wQ vI Q dmR cfR D cy ad A) 0 0 A :=
  met_of (by decide) (Nat.le_of_ble_eq_true rfl) (fun p e R s m args below meth c ls hr hk hRR F hA hw hS hl => wX11_train F hA (by subst hRR; exact ⟨Nat.le_refl _, Nat.le_refl _⟩) (retI_of F hr hk) h hw hS hl)
theorem hdX11_train : yX11_train.cls ≠ "java/lang/invoke/MethodHandle" ∧ yX11_train.cls ≠ "java/lang/invoke/VarHandle" ∧ (parseMethodDescriptor yX11_train.desc).map (fun d => d.parameters.length) = some 0 := by decide +kernel
def wpX11_unhang (x1 : Int) (x2 : Int) (μ : MM) (Q : Int → MM → Prop) : Prop := wpX11_askedPlace x1 x2 μ (fun v1 μ2 => rg v1 ∧ (if 0 ≤ v1 then (wpX11_placeOf x1 x2 μ2 (fun v5 μ6 => 0 ≤ v5 ∧ (v5 < 8 ∧ (wpX11_placeOf x1 x2 μ6 (fun v9 μ10 => wpX11_free v9 μ10 (fun v11 μ12 => Q (μ6 35 0 v5) μ12)))))) else (Q v1 μ2)))
set_option maxRecDepth 100000 in
set_option maxHeartbeats 4000000 in
theorem wX11_unhang {Q : Int → MM → Prop} {x1 : Int} {x2 : Int} {μ : MM} {H : Heap} {locs : List Loc} {ls : Array Slot} (F : CallFix p m c cX11_unhang 5 s args uw RX11) (hA : ∀ q : Nat, s.heap.size ≤ q → A q) (hR : 4 ≤ R.frames ∧ 86 ≤ R.locals) (ret : RetI p l e R s m args below meth c cX11_unhang Qf dmR cfR tyR exR D cy ad A Q) (h : wpX11_unhang x1 x2 μ Q) (hw : wdR D cy ad A μ s H) (hS : va_S A s.heap H locs) (hl : lv_has ls 5 [(0, .ref (ad 0 0)), (1, .int (iI x1)), (2, .int (iI x2))]) : W p l e R s m args below meth c H locs 0 0 Qf (F0 m 0 ls []) := by
  have hx := F.1
  have hb := F.2.1
  have hown := F.2.2.2.1
  have hts := F.2.2.2.2
  refine lv_aload_n hx hb dX11_unhang_0 rfl (lv_at hl 0 rfl) ?_
  refine lv_iload_n hx hb dX11_unhang_1 rfl (lv_at hl 1 rfl) ?_
  refine lv_iload_n hx hb dX11_unhang_2 rfl (lv_at hl 2 rfl) ?_
  refine call_V hexR F (kX11_askedPlace h) 2 tw6_212 tw1_8 tw6_211 tws3_6 tw6_209 hdX11_askedPlace ⟨Nat.le_trans (by decide) hR.1, Nat.le_trans (by decide) hR.2⟩ (hw.recv (k := 0) (i := 0) ⟨rfl, Or.inl rfl⟩ rfl rfl) hA hw hS rfl hl.1 rfl (Nat.le_of_ble_eq_true rfl) dX11_unhang_3 (fun v1 μ2 H locs h hw hS => ?_)
  refine lv_istore_n (lv' := [(3, .int (iI v1)), (0, .ref (ad 0 0)), (1, .int (iI x1)), (2, .int (iI x2))]) hx hb dX11_unhang_6 rfl hl (by decide) rfl (fun ls hl => ?_)
  refine lv_iload_n hx hb dX11_unhang_7 rfl (lv_at hl 0 rfl) ?_
  obtain ⟨g3, h⟩ := h
  refine q_if_ge (tgt := 13) hx hb g3 dX11_unhang_8 (by decide) (fun c4 => ?_) (fun c4 => ?_)
  · have h := ite_t c4 h
    refine lv_aload_n hx hb dX11_unhang_13 rfl (lv_at hl 1 rfl) ?_
    refine gR_hung F hw tw5_173 dX11_unhang_14 ?_
    refine lv_iload_n hx hb dX11_unhang_17 rfl (lv_at hl 2 rfl) ?_
    refine lv_iload_n hx hb dX11_unhang_18 rfl (lv_at hl 3 rfl) ?_
    refine call_S hexR F (kX11_placeOf h) 2 tw6_204 tw1_8 tw6_203 tw6_202 hdX11_placeOf ⟨Nat.le_trans (by decide) hR.1, Nat.le_trans (by decide) hR.2⟩ hA hw hS rfl hl.1 rfl (Nat.le_of_ble_eq_true rfl) dX11_unhang_19 (fun v5 μ6 H locs h hw hS => ?_)
    obtain ⟨g7, h⟩ := h
    obtain ⟨g8, h⟩ := h
    refine aR_ild (L := 8) hx hb hw 34 rfl rfl (by decide) g7 g8 dX11_unhang_22 ?_
    refine lv_istore (lv' := [(4, .int (iI (μ6 35 0 v5))), (3, .int (iI v1)), (0, .ref (ad 0 0)), (1, .int (iI x1)), (2, .int (iI x2))]) hx hb dX11_unhang_23 hl (by decide) rfl (fun ls hl => ?_)
    refine lv_aload_n hx hb dX11_unhang_25 rfl (lv_at hl 2 rfl) ?_
    refine lv_iload_n hx hb dX11_unhang_26 rfl (lv_at hl 3 rfl) ?_
    refine lv_iload_n hx hb dX11_unhang_27 rfl (lv_at hl 4 rfl) ?_
    refine call_S hexR F (kX11_placeOf h) 2 tw6_204 tw1_8 tw6_203 tw6_202 hdX11_placeOf ⟨Nat.le_trans (by decide) hR.1, Nat.le_trans (by decide) hR.2⟩ hA hw hS rfl hl.1 rfl (Nat.le_of_ble_eq_true rfl) dX11_unhang_28 (fun v9 μ10 H locs h hw hS => ?_)
    refine call_V hexR F (kX11_free h) 1 tw6_197 tw1_8 tw6_196 tws3_5 tw6_194 hdX11_free ⟨Nat.le_trans (by decide) hR.1, Nat.le_trans (by decide) hR.2⟩ (hw.recv (k := 0) (i := 0) ⟨rfl, Or.inl rfl⟩ rfl rfl) hA hw hS rfl hl.1 rfl (Nat.le_of_ble_eq_true rfl) dX11_unhang_31 (fun v11 μ12 H locs h hw hS => ?_)
    refine lv_iload hx hb dX11_unhang_34 (lv_at hl 0 rfl) ?_
    exact ret _ _ _ _ _ _ h hw hS dX11_unhang_36
  · have h := ite_f c4 h
    refine lv_iload_n hx hb dX11_unhang_11 rfl (lv_at hl 0 rfl) ?_
    exact ret _ _ _ _ _ _ h hw hS dX11_unhang_12
set_option maxRecDepth 100000 in
set_option maxHeartbeats 4000000 in
theorem kX11_unhang {l : Launch} {D : va_G} {cy : Nat → ClassId} {ad : AD} {A : Nat → Prop} {x1 : Int} {x2 : Int} {μ : MM} {Q : Int → MM → Prop} (h : wpX11_unhang x1 x2 μ Q) : Met l yX11_unhang (Cond.code yX11_unhang cX11_unhang 5 (some .int) :: uw) (rmm 4 86) (wPc [.ref (ad 0 0), .int (iI x1), .int (iI x2)] dmR cfR tyR exR D cy ad A μ) (wQ vI Q dmR cfR D cy ad A) 0 0 A :=
  met_of (by decide) (Nat.le_of_ble_eq_true rfl) (fun p e R s m args below meth c ls hr hk hRR F hA hw hS hl => wX11_unhang F hA (by subst hRR; exact ⟨Nat.le_refl _, Nat.le_refl _⟩) (retI_of F hr hk) h hw hS hl)
theorem hdX11_unhang : yX11_unhang.cls ≠ "java/lang/invoke/MethodHandle" ∧ yX11_unhang.cls ≠ "java/lang/invoke/VarHandle" ∧ (parseMethodDescriptor yX11_unhang.desc).map (fun d => d.parameters.length) = some 2 := by decide +kernel
def wpX11_upper (μ : MM) (Q : Int → MM → Prop) : Prop := Q (μ 0 3 0) μ
set_option maxRecDepth 100000 in
set_option maxHeartbeats 4000000 in
theorem wX11_upper {Q : Int → MM → Prop} {μ : MM} {H : Heap} {locs : List Loc} {ls : Array Slot} (F : CallFix p m c cX11_upper 1 s args uw RX11) (hA : ∀ q : Nat, s.heap.size ≤ q → A q) (hR : 0 ≤ R.frames ∧ 0 ≤ R.locals) (ret : RetL p l e R s m args below meth c cX11_upper Qf dmR cfR tyR exR D cy ad A Q) (h : wpX11_upper μ Q) (hw : wdR D cy ad A μ s H) (hS : va_S A s.heap H locs) (hl : lv_has ls 1 [(0, .ref (ad 0 0))]) : W p l e R s m args below meth c H locs 0 0 Qf (F0 m 0 ls []) := by
  have hx := F.1
  have hb := F.2.1
  have hown := F.2.2.2.1
  have hts := F.2.2.2.2
  refine lv_aload_n hx hb dX11_upper_0 rfl (lv_at hl 0 rfl) ?_
  refine gR_upper F hw tw5_141 dX11_upper_1 ?_
  exact ret _ _ _ _ _ _ h hw hS dX11_upper_4
set_option maxRecDepth 100000 in
set_option maxHeartbeats 4000000 in
theorem kX11_upper {l : Launch} {D : va_G} {cy : Nat → ClassId} {ad : AD} {A : Nat → Prop} {μ : MM} {Q : Int → MM → Prop} (h : wpX11_upper μ Q) : Met l yX11_upper (Cond.code yX11_upper cX11_upper 1 (some .long) :: uw) (rmm 0 0) (wPc [.ref (ad 0 0)] dmR cfR tyR exR D cy ad A μ) (wQ vL Q dmR cfR D cy ad A) 0 0 A :=
  met_of (by decide) (Nat.le_of_ble_eq_true rfl) (fun p e R s m args below meth c ls hr hk hRR F hA hw hS hl => wX11_upper F hA (by subst hRR; exact ⟨Nat.le_refl _, Nat.le_refl _⟩) (retL_of F hr hk) h hw hS hl)
theorem hdX11_upper : yX11_upper.cls ≠ "java/lang/invoke/MethodHandle" ∧ yX11_upper.cls ≠ "java/lang/invoke/VarHandle" ∧ (parseMethodDescriptor yX11_upper.desc).map (fun d => d.parameters.length) = some 0 := by decide +kernel
def wpX11_wheel (x1 : Int) (μ : MM) (Q : Int → MM → Prop) : Prop := wpX11_in x1 6 200 μ (fun v1 μ2 => if v1 = 0 then (Q (-1) μ2) else (rg (μ2 0 48 0) ∧ (if (μ2 0 48 0) = 12 then (Q (-2) μ2) else (0 ≤ (μ2 0 48 0) ∧ (μ2 0 48 0 < 12 ∧ (∀ μ9 : MM, μ9 = ms μ2 49 0 (μ2 0 48 0) x1 → (∀ μ10 : MM, μ10 = ms μ9 0 48 0 ((μ9 0 48 0) + 1) → (Q ((μ10 0 48 0) - 1) μ10))))))))
set_option maxRecDepth 100000 in
set_option maxHeartbeats 4000000 in
theorem wX11_wheel {Q : Int → MM → Prop} {x1 : Int} {μ : MM} {H : Heap} {locs : List Loc} {ls : Array Slot} (F : CallFix p m c cX11_wheel 2 s args uw RX11) (hA : ∀ q : Nat, s.heap.size ≤ q → A q) (hR : 1 ≤ R.frames ∧ 22 ≤ R.locals) (ret : RetI p l e R s m args below meth c cX11_wheel Qf dmR cfR tyR exR D cy ad A Q) (h : wpX11_wheel x1 μ Q) (hw : wdR D cy ad A μ s H) (hS : va_S A s.heap H locs) (hl : lv_has ls 2 [(0, .ref (ad 0 0)), (1, .int (iI x1))]) : W p l e R s m args below meth c H locs 0 0 Qf (F0 m 0 ls []) := by
  have hx := F.1
  have hb := F.2.1
  have hown := F.2.2.2.1
  have hts := F.2.2.2.2
  refine lv_iload_n hx hb dX11_wheel_0 rfl (lv_at hl 1 rfl) ?_
  refine q_bipush hx hb (by decide) dX11_wheel_1 ?_
  refine q_sipush hx hb (by decide) dX11_wheel_3 ?_
  refine call_S hexR F (kX11_in h) 3 tw6_77 tw1_8 tw6_76 tw6_75 hdX11_in ⟨Nat.le_trans (by decide) hR.1, Nat.le_trans (by decide) hR.2⟩ hA hw hS rfl hl.1 rfl (Nat.le_of_ble_eq_true rfl) dX11_wheel_6 (fun v1 μ2 H locs h hw hS => ?_)
  obtain ⟨z3, h⟩ := h
  refine q_if_ne (tgt := 14) hx hb (rgB z3) dX11_wheel_9 (by decide) (fun c4 => ?_) (fun c4 => ?_)
  · have h := ite_f c4 h
    refine lv_aload_n hx hb dX11_wheel_14 rfl (lv_at hl 0 rfl) ?_
    refine gR_wheels F hw tw5_186 dX11_wheel_15 ?_
    refine q_bipush hx hb (by decide) dX11_wheel_18 ?_
    obtain ⟨g5, h⟩ := h
    refine q_icmp_ne (tgt := 26) hx hb g5 (by decide) dX11_wheel_20 (by decide) (fun c6 => ?_) (fun c6 => ?_)
    · have h := ite_f c6 h
      refine lv_aload_n hx hb dX11_wheel_26 rfl (lv_at hl 0 rfl) ?_
      refine gR_teeth F hw tw5_187 dX11_wheel_27 ?_
      refine lv_aload_n hx hb dX11_wheel_30 rfl (lv_at hl 0 rfl) ?_
      refine gR_wheels F hw tw5_186 dX11_wheel_31 ?_
      refine lv_iload_n hx hb dX11_wheel_34 rfl (lv_at hl 1 rfl) ?_
      obtain ⟨g7, h⟩ := h
      obtain ⟨g8, h⟩ := h
      obtain ⟨μ9, eμ9⟩ : ∃ z : MM, z = ms μ2 49 0 (μ2 0 48 0) x1 := ⟨_, rfl⟩
      have h := h μ9 eμ9
      refine aR_ist (L := 12) hx hb hw hS 48 rfl rfl (by decide) g7 g8 eμ9 dX11_wheel_35 (fun H locs hw hS => ?_)
      refine lv_aload_n hx hb dX11_wheel_36 rfl (lv_at hl 0 rfl) ?_
      refine lv_dup hx hb dX11_wheel_37 rfl ?_
      refine gR_wheels F hw tw5_186 dX11_wheel_38 ?_
      refine q_iconst hx hb dX11_wheel_41 ?_
      refine q_iadd hx hb dX11_wheel_42 ?_
      obtain ⟨μ10, eμ10⟩ : ∃ z : MM, z = ms μ9 0 48 0 ((μ9 0 48 0) + 1) := ⟨_, rfl⟩
      have h := h μ10 eμ10
      refine pR_wheels F hw hS tw5_186 eμ10 dX11_wheel_43 (fun H locs hw hS => ?_)
      refine lv_aload_n hx hb dX11_wheel_46 rfl (lv_at hl 0 rfl) ?_
      refine gR_wheels F hw tw5_186 dX11_wheel_47 ?_
      refine q_iconst hx hb dX11_wheel_50 ?_
      refine q_isub hx hb dX11_wheel_51 ?_
      exact ret _ _ _ _ _ _ h hw hS dX11_wheel_52
    · have h := ite_t c6 h
      refine q_bipush hx hb (by decide) dX11_wheel_23 ?_
      exact ret _ _ _ _ _ _ h hw hS dX11_wheel_25
  · have h := ite_t c4 h
    refine q_iconst hx hb dX11_wheel_12 ?_
    exact ret _ _ _ _ _ _ h hw hS dX11_wheel_13
set_option maxRecDepth 100000 in
set_option maxHeartbeats 4000000 in
theorem kX11_wheel {l : Launch} {D : va_G} {cy : Nat → ClassId} {ad : AD} {A : Nat → Prop} {x1 : Int} {μ : MM} {Q : Int → MM → Prop} (h : wpX11_wheel x1 μ Q) : Met l yX11_wheel (Cond.code yX11_wheel cX11_wheel 2 (some .int) :: uw) (rmm 1 22) (wPc [.ref (ad 0 0), .int (iI x1)] dmR cfR tyR exR D cy ad A μ) (wQ vI Q dmR cfR D cy ad A) 0 0 A :=
  met_of (by decide) (Nat.le_of_ble_eq_true rfl) (fun p e R s m args below meth c ls hr hk hRR F hA hw hS hl => wX11_wheel F hA (by subst hRR; exact ⟨Nat.le_refl _, Nat.le_refl _⟩) (retI_of F hr hk) h hw hS hl)
theorem hdX11_wheel : yX11_wheel.cls ≠ "java/lang/invoke/MethodHandle" ∧ yX11_wheel.cls ≠ "java/lang/invoke/VarHandle" ∧ (parseMethodDescriptor yX11_wheel.desc).map (fun d => d.parameters.length) = some 1 := by decide +kernel
end
