section
variable {p : Program} {l : Launch} {e : Env} {R : Room} {s : State} {m : MethodId} {args : Array Value} {below : List Frame} {meth : Method} {c : Code} {Qf : State → Prop} {D : va_G} {cy : Nat → ClassId} {ad : AD} {A : Nat → Prop}
def wpX11_pass_J55 (k36 : Int → Int → Int → MM → Prop) (k29 : Int → Int → MM → Prop) (Q : Int → MM → Prop) (x1 : Int) (x2 : Int) (x3 : Int) (μ : MM) : Prop := k36 x1 x2 (x3 + 1) μ
set_option maxRecDepth 100000 in
set_option maxHeartbeats 4000000 in
theorem wX11_pass_J55 {k36 : Int → Int → Int → MM → Prop} {k29 : Int → Int → MM → Prop} {Q : Int → MM → Prop} {x1 : Int} {x2 : Int} {x3 : Int} {μ : MM} {H : Heap} {locs : List Loc} {ls : Array Slot} (F : CallFix p m c cX11_pass 4 s args uw RX11) (hA : ∀ q : Nat, s.heap.size ≤ q → A q) (hR : 6 ≤ R.frames ∧ 134 ≤ R.locals) (ret : RetI p l e R s m args below meth c cX11_pass Qf dmR cfR tyR exR D cy ad A Q) (hk36 : ∀ (x1' x2' x3' : Int) (μ' : MM) (H : Heap) (locs : List Loc) (ls : Array Slot), k36 x1' x2' x3' μ' → wdR D cy ad A μ' s H → va_S A s.heap H locs → lv_has ls 4 [(0, .ref (ad 0 0)), (1, .int (iI (x1'))), (2, .int (iI (x2'))), (3, .int (iI (x3')))] → W p l e R s m args below meth c H locs 0 0 Qf (F0 m 36 ls [])) (hk29 : ∀ (x1' x2' : Int) (μ' : MM) (H : Heap) (locs : List Loc) (ls : Array Slot), k29 x1' x2' μ' → wdR D cy ad A μ' s H → va_S A s.heap H locs → lv_has ls 4 [(0, .ref (ad 0 0)), (1, .int (iI (x1'))), (2, .int (iI (x2')))] → W p l e R s m args below meth c H locs 0 0 Qf (F0 m 29 ls [])) (h : wpX11_pass_J55 k36 k29 Q x1 x2 x3 μ) (hw : wdR D cy ad A μ s H) (hS : va_S A s.heap H locs) (hl : lv_has ls 4 [(0, .ref (ad 0 0)), (1, .int (iI x1)), (2, .int (iI x2)), (3, .int (iI x3))]) : W p l e R s m args below meth c H locs 0 0 Qf (F0 m 55 ls []) := by
  have hx := F.1
  have hb := F.2.1
  have hown := F.2.2.2.1
  have hts := F.2.2.2.2
  refine q_iinc (k := 3) (lv' := [(3, .int (iI (x3 + 1))), (0, .ref (ad 0 0)), (1, .int (iI x1)), (2, .int (iI x2))]) hx hb dX11_pass_55 hl rfl (by decide) rfl (fun ls hl => ?_)
  refine lv_goto (tgt := 36) hx hb dX11_pass_58 (by decide) ?_
  exact hk36 x1 x2 (x3 + 1) _ _ _ _ h hw hS (lv_sub hl [1, 2, 3, 0] rfl)
def wpX11_pass_L36 (k29 : Int → Int → MM → Prop) (Q : Int → MM → Prop) : Nat → Int → Int → Int → MM → Prop
  | 0, _, _, _, _ => False
  | n + 1, x1, x2, x3, μ => rg x3 ∧ (if 4 ≤ x3 then (∀ μ3 : MM, μ3 = ms μ 0 5 0 ((μ 0 5 0) + 1) → (k29 x1 (x2 + 1) μ3)) else (0 ≤ x3 ∧ (x3 < 4 ∧ (rg (μ 26 0 x3) ∧ (if (μ 26 0 x3) = 0 then (wpX11_pass_J55 (fun x1' x2' x3' μ' => wpX11_pass_L36 k29 Q n x1' x2' x3' μ') k29 Q x1 x2 x3 μ) else (wpX11_minuteOf x3 μ (fun v8 μ9 => wpX11_pass_J55 (fun x1' x2' x3' μ' => wpX11_pass_L36 k29 Q n x1' x2' x3' μ') k29 Q x1 x2 x3 μ9)))))))
set_option maxRecDepth 100000 in
set_option maxHeartbeats 4000000 in
theorem wX11_pass_L36 {k29 : Int → Int → MM → Prop} {Q : Int → MM → Prop} (F : CallFix p m c cX11_pass 4 s args uw RX11) (hA : ∀ q : Nat, s.heap.size ≤ q → A q) (hR : 6 ≤ R.frames ∧ 134 ≤ R.locals) (ret : RetI p l e R s m args below meth c cX11_pass Qf dmR cfR tyR exR D cy ad A Q) (hk29 : ∀ (x1' x2' : Int) (μ' : MM) (H : Heap) (locs : List Loc) (ls : Array Slot), k29 x1' x2' μ' → wdR D cy ad A μ' s H → va_S A s.heap H locs → lv_has ls 4 [(0, .ref (ad 0 0)), (1, .int (iI (x1'))), (2, .int (iI (x2')))] → W p l e R s m args below meth c H locs 0 0 Qf (F0 m 29 ls [])) : ∀ (n : Nat) (x1 x2 x3 : Int) (μ : MM) (H : Heap) (locs : List Loc) (ls : Array Slot), wpX11_pass_L36 k29 Q n x1 x2 x3 μ → wdR D cy ad A μ s H → va_S A s.heap H locs → lv_has ls 4 [(0, .ref (ad 0 0)), (1, .int (iI x1)), (2, .int (iI x2)), (3, .int (iI x3))] → W p l e R s m args below meth c H locs 0 0 Qf (F0 m 36 ls []) := by
  have hx := F.1
  have hb := F.2.1
  have hown := F.2.2.2.1
  have hts := F.2.2.2.2
  intro n
  induction n with
  | zero =>
    intro x1 x2 x3 μ H locs ls h hw hS hl
    exact h.elim
  | succ n ih =>
    intro x1 x2 x3 μ H locs ls h hw hS hl
    refine lv_iload_n hx hb dX11_pass_36 rfl (lv_at hl 3 rfl) ?_
    refine q_iconst hx hb dX11_pass_37 ?_
    obtain ⟨g1, h⟩ := h
    refine q_icmp_ge (tgt := 61) hx hb g1 (by decide) dX11_pass_38 (by decide) (fun c2 => ?_) (fun c2 => ?_)
    · have h := ite_t c2 h
      refine lv_aload_n hx hb dX11_pass_61 rfl (lv_at hl 0 rfl) ?_
      refine lv_dup hx hb dX11_pass_62 rfl ?_
      refine gR_now F hw tw5_143 dX11_pass_63 ?_
      refine q_iconst hx hb dX11_pass_66 ?_
      refine q_iadd hx hb dX11_pass_67 ?_
      obtain ⟨μ3, eμ3⟩ : ∃ z : MM, z = ms μ 0 5 0 ((μ 0 5 0) + 1) := ⟨_, rfl⟩
      have h := h μ3 eμ3
      refine pR_now F hw hS tw5_143 eμ3 dX11_pass_68 (fun H locs hw hS => ?_)
      refine q_iinc (k := 2) (lv' := [(2, .int (iI (x2 + 1))), (0, .ref (ad 0 0)), (1, .int (iI x1)), (3, .int (iI x3))]) hx hb dX11_pass_71 hl rfl (by decide) rfl (fun ls hl => ?_)
      refine lv_goto (tgt := 29) hx hb dX11_pass_74 (by decide) ?_
      exact hk29 x1 (x2 + 1) _ _ _ _ h hw hS (lv_sub hl [1, 2, 0] rfl)
    · have h := ite_f c2 h
      refine lv_aload_n hx hb dX11_pass_41 rfl (lv_at hl 0 rfl) ?_
      refine gR_isTower F hw tw5_164 dX11_pass_42 ?_
      refine lv_iload_n hx hb dX11_pass_45 rfl (lv_at hl 3 rfl) ?_
      obtain ⟨g4, h⟩ := h
      obtain ⟨g5, h⟩ := h
      refine aR_zld (L := 4) hx hb hw 25 rfl rfl (by decide) g4 g5 dX11_pass_46 ?_
      obtain ⟨g6, h⟩ := h
      refine q_if_eq (tgt := 55) hx hb g6 dX11_pass_47 (by decide) (fun c7 => ?_) (fun c7 => ?_)
      · have h := ite_t c7 h
        exact wX11_pass_J55 F hA hR ret (fun x1 x2 x3 => ih x1 x2 x3) hk29 h hw hS (lv_sub hl [0, 1, 2, 3] rfl)
      · have h := ite_f c7 h
        refine lv_aload_n hx hb dX11_pass_50 rfl (lv_at hl 0 rfl) ?_
        refine lv_iload_n hx hb dX11_pass_51 rfl (lv_at hl 3 rfl) ?_
        refine call_V hexR F (kX11_minuteOf h) 1 tw7_57 tw1_8 tw7_56 tws4_0 tw7_54 hdX11_minuteOf ⟨Nat.le_trans (by decide) hR.1, Nat.le_trans (by decide) hR.2⟩ (hw.recv (k := 0) (i := 0) ⟨rfl, Or.inl rfl⟩ rfl rfl) hA hw hS rfl hl.1 rfl (Nat.le_of_ble_eq_true rfl) dX11_pass_52 (fun v8 μ9 H locs h hw hS => ?_)
        exact wX11_pass_J55 F hA hR ret (fun x1 x2 x3 => ih x1 x2 x3) hk29 h hw hS (lv_sub hl [0, 1, 2, 3] rfl)
def wpX11_pass_L29 (Q : Int → MM → Prop) : Nat → Int → Int → MM → Prop
  | 0, _, _, _ => False
  | n + 1, x1, x2, μ => rg x2 ∧ (rg x1 ∧ (if x1 ≤ x2 then (Q (μ 0 5 0) μ) else (∃ n4 : Nat, wpX11_pass_L36 (fun x1' x2' μ' => wpX11_pass_L29 Q n x1' x2' μ') Q n4 x1 x2 0 μ)))
set_option maxRecDepth 100000 in
set_option maxHeartbeats 4000000 in
theorem wX11_pass_L29 {Q : Int → MM → Prop} (F : CallFix p m c cX11_pass 4 s args uw RX11) (hA : ∀ q : Nat, s.heap.size ≤ q → A q) (hR : 6 ≤ R.frames ∧ 134 ≤ R.locals) (ret : RetI p l e R s m args below meth c cX11_pass Qf dmR cfR tyR exR D cy ad A Q) : ∀ (n : Nat) (x1 x2 : Int) (μ : MM) (H : Heap) (locs : List Loc) (ls : Array Slot), wpX11_pass_L29 Q n x1 x2 μ → wdR D cy ad A μ s H → va_S A s.heap H locs → lv_has ls 4 [(0, .ref (ad 0 0)), (1, .int (iI x1)), (2, .int (iI x2))] → W p l e R s m args below meth c H locs 0 0 Qf (F0 m 29 ls []) := by
  have hx := F.1
  have hb := F.2.1
  have hown := F.2.2.2.1
  have hts := F.2.2.2.2
  intro n
  induction n with
  | zero =>
    intro x1 x2 μ H locs ls h hw hS hl
    exact h.elim
  | succ n ih =>
    intro x1 x2 μ H locs ls h hw hS hl
    refine lv_iload_n hx hb dX11_pass_29 rfl (lv_at hl 2 rfl) ?_
    refine lv_iload_n hx hb dX11_pass_30 rfl (lv_at hl 1 rfl) ?_
    obtain ⟨g1, h⟩ := h
    obtain ⟨g2, h⟩ := h
    refine q_icmp_ge (tgt := 77) hx hb g1 g2 dX11_pass_31 (by decide) (fun c3 => ?_) (fun c3 => ?_)
    · have h := ite_t c3 h
      refine lv_aload_n hx hb dX11_pass_77 rfl (lv_at hl 0 rfl) ?_
      refine gR_now F hw tw5_143 dX11_pass_78 ?_
      exact ret _ _ _ _ _ _ h hw hS dX11_pass_81
    · have h := ite_f c3 h
      refine q_iconst hx hb dX11_pass_34 ?_
      refine lv_istore_n (lv' := [(3, .int (iI 0)), (0, .ref (ad 0 0)), (1, .int (iI x1)), (2, .int (iI x2))]) hx hb dX11_pass_35 rfl hl (by decide) rfl (fun ls hl => ?_)
      obtain ⟨n4, h⟩ := h
      exact wX11_pass_L36 F hA hR ret (fun x1 x2 => ih x1 x2) n4 x1 x2 0 _ _ _ _ h hw hS (lv_sub hl [1, 2, 3, 0] rfl)
def wpX11_pass (x1 : Int) (μ : MM) (Q : Int → MM → Prop) : Prop := wpX11_in x1 0 3000 μ (fun v1 μ2 => if v1 = 0 then (Q (-1) μ2) else (rg ((μ2 0 5 0) + x1) ∧ (if ((μ2 0 5 0) + x1) ≤ 1000000 then (∃ n7 : Nat, wpX11_pass_L29 Q n7 x1 0 μ2) else (Q (-2) μ2))))
set_option maxRecDepth 100000 in
set_option maxHeartbeats 4000000 in
theorem wX11_pass {Q : Int → MM → Prop} {x1 : Int} {μ : MM} {H : Heap} {locs : List Loc} {ls : Array Slot} (F : CallFix p m c cX11_pass 4 s args uw RX11) (hA : ∀ q : Nat, s.heap.size ≤ q → A q) (hR : 6 ≤ R.frames ∧ 134 ≤ R.locals) (ret : RetI p l e R s m args below meth c cX11_pass Qf dmR cfR tyR exR D cy ad A Q) (h : wpX11_pass x1 μ Q) (hw : wdR D cy ad A μ s H) (hS : va_S A s.heap H locs) (hl : lv_has ls 4 [(0, .ref (ad 0 0)), (1, .int (iI x1))]) : W p l e R s m args below meth c H locs 0 0 Qf (F0 m 0 ls []) := by
  have hx := F.1
  have hb := F.2.1
  have hown := F.2.2.2.1
  have hts := F.2.2.2.2
  refine lv_iload_n hx hb dX11_pass_0 rfl (lv_at hl 1 rfl) ?_
  refine q_iconst hx hb dX11_pass_1 ?_
  refine q_sipush hx hb (by decide) dX11_pass_2 ?_
  refine call_S hexR F (kX11_in h) 3 tw6_77 tw1_8 tw6_76 tw6_75 hdX11_in ⟨Nat.le_trans (by decide) hR.1, Nat.le_trans (by decide) hR.2⟩ hA hw hS rfl hl.1 rfl (Nat.le_of_ble_eq_true rfl) dX11_pass_5 (fun v1 μ2 H locs h hw hS => ?_)
  obtain ⟨z3, h⟩ := h
  refine q_if_ne (tgt := 13) hx hb (rgB z3) dX11_pass_8 (by decide) (fun c4 => ?_) (fun c4 => ?_)
  · have h := ite_f c4 h
    refine lv_aload_n hx hb dX11_pass_13 rfl (lv_at hl 0 rfl) ?_
    refine gR_now F hw tw5_143 dX11_pass_14 ?_
    refine lv_iload_n hx hb dX11_pass_17 rfl (lv_at hl 1 rfl) ?_
    refine q_iadd hx hb dX11_pass_18 ?_
    refine q_ldc (n := 1000000) hx hb hown (hts _ tw7_53) (by decide) dX11_pass_19 ?_
    obtain ⟨g5, h⟩ := h
    refine q_icmp_le (tgt := 27) hx hb g5 (by decide) dX11_pass_21 (by decide) (fun c6 => ?_) (fun c6 => ?_)
    · have h := ite_t c6 h
      refine q_iconst hx hb dX11_pass_27 ?_
      refine lv_istore_n (lv' := [(2, .int (iI 0)), (0, .ref (ad 0 0)), (1, .int (iI x1))]) hx hb dX11_pass_28 rfl hl (by decide) rfl (fun ls hl => ?_)
      obtain ⟨n7, h⟩ := h
      exact wX11_pass_L29 F hA hR ret n7 x1 0 _ _ _ _ h hw hS (lv_sub hl [1, 2, 0] rfl)
    · have h := ite_f c6 h
      refine q_bipush hx hb (by decide) dX11_pass_24 ?_
      exact ret _ _ _ _ _ _ h hw hS dX11_pass_26
  · have h := ite_t c4 h
    refine q_iconst hx hb dX11_pass_11 ?_
    exact ret _ _ _ _ _ _ h hw hS dX11_pass_12
set_option maxRecDepth 100000 in
set_option maxHeartbeats 4000000 in
theorem kX11_pass {l : Launch} {D : va_G} {cy : Nat → ClassId} {ad : AD} {A : Nat → Prop} {x1 : Int} {μ : MM} {Q : Int → MM → Prop} (h : wpX11_pass x1 μ Q) : Met l yX11_pass (Cond.code yX11_pass cX11_pass 4 (some .int) :: uw) (rmm 6 134) (wPc [.ref (ad 0 0), .int (iI x1)] dmR cfR tyR exR D cy ad A μ) (wQ vI Q dmR cfR D cy ad A) 0 0 A :=
  met_of (by decide) (Nat.le_of_ble_eq_true rfl) (fun p e R s m args below meth c ls hr hk hRR F hA hw hS hl => wX11_pass F hA (by subst hRR; exact ⟨Nat.le_refl _, Nat.le_refl _⟩) (retI_of F hr hk) h hw hS hl)
theorem hdX11_pass : yX11_pass.cls ≠ "java/lang/invoke/MethodHandle" ∧ yX11_pass.cls ≠ "java/lang/invoke/VarHandle" ∧ (parseMethodDescriptor yX11_pass.desc).map (fun d => d.parameters.length) = some 1 := by decide +kernel
def wpX11_plateOf (x1 : Int) (x2 : Int) (μ : MM) (Q : Int → MM → Prop) : Prop := wpX11_isRow x1 μ (fun v1 μ2 => if v1 = 0 then (Q (-1) μ2) else (rg (μ2 0 10 0) ∧ (if (μ2 0 10 0) = 16 then (Q (-2) μ2) else (0 ≤ x1 ∧ (x1 < 8 ∧ (rg (μ2 7 0 x1) ∧ (if 0 ≤ (μ2 7 0 x1) then (wpX11_areNotches x1 μ2 (fun v11 μ12 => if v11 = 0 then (wpX11_meets 5 μ12 (fun v15 μ16 => Q v15 μ16)) else (wpX11_cutOf x1 x2 μ12 (fun v17 μ18 => Q v17 μ18)))) else (wpX11_meets 1 μ2 (fun v19 μ20 => Q v19 μ20)))))))))
set_option maxRecDepth 100000 in
set_option maxHeartbeats 4000000 in
theorem wX11_plateOf {Q : Int → MM → Prop} {x1 : Int} {x2 : Int} {μ : MM} {H : Heap} {locs : List Loc} {ls : Array Slot} (F : CallFix p m c cX11_plateOf 3 s args uw RX11) (hA : ∀ q : Nat, s.heap.size ≤ q → A q) (hR : 2 ≤ R.frames ∧ 45 ≤ R.locals) (ret : RetI p l e R s m args below meth c cX11_plateOf Qf dmR cfR tyR exR D cy ad A Q) (h : wpX11_plateOf x1 x2 μ Q) (hw : wdR D cy ad A μ s H) (hS : va_S A s.heap H locs) (hl : lv_has ls 3 [(0, .ref (ad 0 0)), (1, .int (iI x1)), (2, .int (iI x2))]) : W p l e R s m args below meth c H locs 0 0 Qf (F0 m 0 ls []) := by
  have hx := F.1
  have hb := F.2.1
  have hown := F.2.2.2.1
  have hts := F.2.2.2.2
  refine lv_iload_n hx hb dX11_plateOf_0 rfl (lv_at hl 1 rfl) ?_
  refine call_S hexR F (kX11_isRow h) 1 tw6_74 tw1_8 tw6_73 tw6_72 hdX11_isRow ⟨Nat.le_trans (by decide) hR.1, Nat.le_trans (by decide) hR.2⟩ hA hw hS rfl hl.1 rfl (Nat.le_of_ble_eq_true rfl) dX11_plateOf_1 (fun v1 μ2 H locs h hw hS => ?_)
  obtain ⟨z3, h⟩ := h
  refine q_if_ne (tgt := 9) hx hb (rgB z3) dX11_plateOf_4 (by decide) (fun c4 => ?_) (fun c4 => ?_)
  · have h := ite_f c4 h
    refine lv_aload_n hx hb dX11_plateOf_9 rfl (lv_at hl 0 rfl) ?_
    refine gR_trains F hw tw5_148 dX11_plateOf_10 ?_
    refine q_bipush hx hb (by decide) dX11_plateOf_13 ?_
    obtain ⟨g5, h⟩ := h
    refine q_icmp_ne (tgt := 21) hx hb g5 (by decide) dX11_plateOf_15 (by decide) (fun c6 => ?_) (fun c6 => ?_)
    · have h := ite_f c6 h
      refine lv_aload_n hx hb dX11_plateOf_21 rfl (lv_at hl 0 rfl) ?_
      refine gR_sizes F hw tw5_145 dX11_plateOf_22 ?_
      refine lv_iload_n hx hb dX11_plateOf_25 rfl (lv_at hl 1 rfl) ?_
      obtain ⟨g7, h⟩ := h
      obtain ⟨g8, h⟩ := h
      refine aR_ild (L := 8) hx hb hw 6 rfl rfl (by decide) g7 g8 dX11_plateOf_26 ?_
      obtain ⟨g9, h⟩ := h
      refine q_if_ge (tgt := 38) hx hb g9 dX11_plateOf_27 (by decide) (fun c10 => ?_) (fun c10 => ?_)
      · have h := ite_t c10 h
        refine lv_aload_n hx hb dX11_plateOf_38 rfl (lv_at hl 0 rfl) ?_
        refine lv_iload_n hx hb dX11_plateOf_39 rfl (lv_at hl 1 rfl) ?_
        refine call_V hexR F (kX11_areNotches h) 1 tw6_117 tw1_8 tw6_116 tws2_14 tw6_114 hdX11_areNotches ⟨Nat.le_trans (by decide) hR.1, Nat.le_trans (by decide) hR.2⟩ (hw.recv (k := 0) (i := 0) ⟨rfl, Or.inl rfl⟩ rfl rfl) hA hw hS rfl hl.1 rfl (Nat.le_of_ble_eq_true rfl) dX11_plateOf_40 (fun v11 μ12 H locs h hw hS => ?_)
        obtain ⟨z13, h⟩ := h
        refine q_if_eq (tgt := 55) hx hb (rgB z13) dX11_plateOf_43 (by decide) (fun c14 => ?_) (fun c14 => ?_)
        · have h := ite_t c14 h
          refine lv_aload_n hx hb dX11_plateOf_55 rfl (lv_at hl 0 rfl) ?_
          refine q_iconst hx hb dX11_plateOf_56 ?_
          refine call_V hexR F (kX11_meets h) 1 tw6_81 tw1_8 tw6_80 tws2_10 tw6_78 hdX11_meets ⟨Nat.le_trans (by decide) hR.1, Nat.le_trans (by decide) hR.2⟩ (hw.recv (k := 0) (i := 0) ⟨rfl, Or.inl rfl⟩ rfl rfl) hA hw hS rfl hl.1 rfl (Nat.le_of_ble_eq_true rfl) dX11_plateOf_57 (fun v15 μ16 H locs h hw hS => ?_)
          exact ret _ _ _ _ _ _ h hw hS dX11_plateOf_60
        · have h := ite_f c14 h
          refine lv_aload_n hx hb dX11_plateOf_46 rfl (lv_at hl 0 rfl) ?_
          refine lv_iload_n hx hb dX11_plateOf_47 rfl (lv_at hl 1 rfl) ?_
          refine lv_iload_n hx hb dX11_plateOf_48 rfl (lv_at hl 2 rfl) ?_
          refine call_V hexR F (kX11_cutOf h) 2 tw6_121 tw1_8 tw6_120 tws2_15 tw6_118 hdX11_cutOf ⟨Nat.le_trans (by decide) hR.1, Nat.le_trans (by decide) hR.2⟩ (hw.recv (k := 0) (i := 0) ⟨rfl, Or.inl rfl⟩ rfl rfl) hA hw hS rfl hl.1 rfl (Nat.le_of_ble_eq_true rfl) dX11_plateOf_49 (fun v17 μ18 H locs h hw hS => ?_)
          refine lv_goto (tgt := 60) hx hb dX11_plateOf_52 (by decide) ?_
          exact ret _ _ _ _ _ _ h hw hS dX11_plateOf_60
      · have h := ite_f c10 h
        refine lv_aload_n hx hb dX11_plateOf_30 rfl (lv_at hl 0 rfl) ?_
        refine q_iconst hx hb dX11_plateOf_31 ?_
        refine call_V hexR F (kX11_meets h) 1 tw6_81 tw1_8 tw6_80 tws2_10 tw6_78 hdX11_meets ⟨Nat.le_trans (by decide) hR.1, Nat.le_trans (by decide) hR.2⟩ (hw.recv (k := 0) (i := 0) ⟨rfl, Or.inl rfl⟩ rfl rfl) hA hw hS rfl hl.1 rfl (Nat.le_of_ble_eq_true rfl) dX11_plateOf_32 (fun v19 μ20 H locs h hw hS => ?_)
        refine lv_goto (tgt := 60) hx hb dX11_plateOf_35 (by decide) ?_
        exact ret _ _ _ _ _ _ h hw hS dX11_plateOf_60
    · have h := ite_t c6 h
      refine q_bipush hx hb (by decide) dX11_plateOf_18 ?_
      exact ret _ _ _ _ _ _ h hw hS dX11_plateOf_20
  · have h := ite_t c4 h
    refine q_iconst hx hb dX11_plateOf_7 ?_
    exact ret _ _ _ _ _ _ h hw hS dX11_plateOf_8
set_option maxRecDepth 100000 in
set_option maxHeartbeats 4000000 in
theorem kX11_plateOf {l : Launch} {D : va_G} {cy : Nat → ClassId} {ad : AD} {A : Nat → Prop} {x1 : Int} {x2 : Int} {μ : MM} {Q : Int → MM → Prop} (h : wpX11_plateOf x1 x2 μ Q) : Met l yX11_plateOf (Cond.code yX11_plateOf cX11_plateOf 3 (some .int) :: uw) (rmm 2 45) (wPc [.ref (ad 0 0), .int (iI x1), .int (iI x2)] dmR cfR tyR exR D cy ad A μ) (wQ vI Q dmR cfR D cy ad A) 0 0 A :=
  met_of (by decide) (Nat.le_of_ble_eq_true rfl) (fun p e R s m args below meth c ls hr hk hRR F hA hw hS hl => wX11_plateOf F hA (by subst hRR; exact ⟨Nat.le_refl _, Nat.le_refl _⟩) (retI_of F hr hk) h hw hS hl)
theorem hdX11_plateOf : yX11_plateOf.cls ≠ "java/lang/invoke/MethodHandle" ∧ yX11_plateOf.cls ≠ "java/lang/invoke/VarHandle" ∧ (parseMethodDescriptor yX11_plateOf.desc).map (fun d => d.parameters.length) = some 2 := by decide +kernel
def wpX11_plate (x1 : Int) (μ : MM) (Q : Int → MM → Prop) : Prop := wpX11_plateOf x1 1 μ (fun v1 μ2 => Q v1 μ2)
set_option maxRecDepth 100000 in
set_option maxHeartbeats 4000000 in
theorem wX11_plate {Q : Int → MM → Prop} {x1 : Int} {μ : MM} {H : Heap} {locs : List Loc} {ls : Array Slot} (F : CallFix p m c cX11_plate 2 s args uw RX11) (hA : ∀ q : Nat, s.heap.size ≤ q → A q) (hR : 3 ≤ R.frames ∧ 67 ≤ R.locals) (ret : RetI p l e R s m args below meth c cX11_plate Qf dmR cfR tyR exR D cy ad A Q) (h : wpX11_plate x1 μ Q) (hw : wdR D cy ad A μ s H) (hS : va_S A s.heap H locs) (hl : lv_has ls 2 [(0, .ref (ad 0 0)), (1, .int (iI x1))]) : W p l e R s m args below meth c H locs 0 0 Qf (F0 m 0 ls []) := by
  have hx := F.1
  have hb := F.2.1
  have hown := F.2.2.2.1
  have hts := F.2.2.2.2
  refine lv_aload_n hx hb dX11_plate_0 rfl (lv_at hl 0 rfl) ?_
  refine lv_iload_n hx hb dX11_plate_1 rfl (lv_at hl 1 rfl) ?_
  refine q_iconst hx hb dX11_plate_2 ?_
  refine call_V hexR F (kX11_plateOf h) 2 tw6_113 tw1_8 tw6_112 tws2_13 tw6_110 hdX11_plateOf ⟨Nat.le_trans (by decide) hR.1, Nat.le_trans (by decide) hR.2⟩ (hw.recv (k := 0) (i := 0) ⟨rfl, Or.inl rfl⟩ rfl rfl) hA hw hS rfl hl.1 rfl (Nat.le_of_ble_eq_true rfl) dX11_plate_3 (fun v1 μ2 H locs h hw hS => ?_)
  exact ret _ _ _ _ _ _ h hw hS dX11_plate_6
set_option maxRecDepth 100000 in
set_option maxHeartbeats 4000000 in
theorem kX11_plate {l : Launch} {D : va_G} {cy : Nat → ClassId} {ad : AD} {A : Nat → Prop} {x1 : Int} {μ : MM} {Q : Int → MM → Prop} (h : wpX11_plate x1 μ Q) : Met l yX11_plate (Cond.code yX11_plate cX11_plate 2 (some .int) :: uw) (rmm 3 67) (wPc [.ref (ad 0 0), .int (iI x1)] dmR cfR tyR exR D cy ad A μ) (wQ vI Q dmR cfR D cy ad A) 0 0 A :=
  met_of (by decide) (Nat.le_of_ble_eq_true rfl) (fun p e R s m args below meth c ls hr hk hRR F hA hw hS hl => wX11_plate F hA (by subst hRR; exact ⟨Nat.le_refl _, Nat.le_refl _⟩) (retI_of F hr hk) h hw hS hl)
theorem hdX11_plate : yX11_plate.cls ≠ "java/lang/invoke/MethodHandle" ∧ yX11_plate.cls ≠ "java/lang/invoke/VarHandle" ∧ (parseMethodDescriptor yX11_plate.desc).map (fun d => d.parameters.length) = some 1 := by decide +kernel
def wpX11_put (x1 : Int) (x2 : Int) (μ : MM) (Q : Int → MM → Prop) : Prop := wpX11_isTrain x1 μ (fun v1 μ2 => if v1 = 0 then (Q (-1) μ2) else (wpX11_isPlate x1 μ2 (fun v5 μ6 => if v5 = 0 then (wpX11_meets 3 μ6 (fun v19 μ20 => Q v19 μ20)) else (0 ≤ x1 ∧ (x1 < 16 ∧ (wpX11_in x2 0 ((μ6 12 0 x1) - 1) μ6 (fun v11 μ12 => if v11 = 0 then (wpX11_meets 2 μ12 (fun v17 μ18 => Q v17 μ18)) else (∀ y15 : Int, y15 = μ12 14 0 x1 → (∀ μ16 : MM, μ16 = ms μ12 14 0 x1 x2 → (Q y15 μ16))))))))))
set_option maxRecDepth 100000 in
set_option maxHeartbeats 4000000 in
theorem wX11_put {Q : Int → MM → Prop} {x1 : Int} {x2 : Int} {μ : MM} {H : Heap} {locs : List Loc} {ls : Array Slot} (F : CallFix p m c cX11_put 4 s args uw RX11) (hA : ∀ q : Nat, s.heap.size ≤ q → A q) (hR : 2 ≤ R.frames ∧ 43 ≤ R.locals) (ret : RetI p l e R s m args below meth c cX11_put Qf dmR cfR tyR exR D cy ad A Q) (h : wpX11_put x1 x2 μ Q) (hw : wdR D cy ad A μ s H) (hS : va_S A s.heap H locs) (hl : lv_has ls 4 [(0, .ref (ad 0 0)), (1, .int (iI x1)), (2, .int (iI x2))]) : W p l e R s m args below meth c H locs 0 0 Qf (F0 m 0 ls []) := by
  have hx := F.1
  have hb := F.2.1
  have hown := F.2.2.2.1
  have hts := F.2.2.2.2
  refine lv_aload_n hx hb dX11_put_0 rfl (lv_at hl 0 rfl) ?_
  refine lv_iload_n hx hb dX11_put_1 rfl (lv_at hl 1 rfl) ?_
  refine call_V hexR F (kX11_isTrain h) 1 tw6_137 tw1_8 tw6_136 tws3_0 tw6_134 hdX11_isTrain ⟨Nat.le_trans (by decide) hR.1, Nat.le_trans (by decide) hR.2⟩ (hw.recv (k := 0) (i := 0) ⟨rfl, Or.inl rfl⟩ rfl rfl) hA hw hS rfl hl.1 rfl (Nat.le_of_ble_eq_true rfl) dX11_put_2 (fun v1 μ2 H locs h hw hS => ?_)
  obtain ⟨z3, h⟩ := h
  refine q_if_ne (tgt := 10) hx hb (rgB z3) dX11_put_5 (by decide) (fun c4 => ?_) (fun c4 => ?_)
  · have h := ite_f c4 h
    refine lv_aload_n hx hb dX11_put_10 rfl (lv_at hl 0 rfl) ?_
    refine lv_iload_n hx hb dX11_put_11 rfl (lv_at hl 1 rfl) ?_
    refine call_V hexR F (kX11_isPlate h) 1 tw6_158 tw1_8 tw6_157 tws3_2 tw6_155 hdX11_isPlate ⟨Nat.le_trans (by decide) hR.1, Nat.le_trans (by decide) hR.2⟩ (hw.recv (k := 0) (i := 0) ⟨rfl, Or.inl rfl⟩ rfl rfl) hA hw hS rfl hl.1 rfl (Nat.le_of_ble_eq_true rfl) dX11_put_12 (fun v5 μ6 H locs h hw hS => ?_)
    obtain ⟨z7, h⟩ := h
    refine q_if_ne (tgt := 24) hx hb (rgB z7) dX11_put_15 (by decide) (fun c8 => ?_) (fun c8 => ?_)
    · have h := ite_f c8 h
      refine lv_iload_n hx hb dX11_put_24 rfl (lv_at hl 2 rfl) ?_
      refine q_iconst hx hb dX11_put_25 ?_
      refine lv_aload_n hx hb dX11_put_26 rfl (lv_at hl 0 rfl) ?_
      refine gR_many F hw tw5_150 dX11_put_27 ?_
      refine lv_iload_n hx hb dX11_put_30 rfl (lv_at hl 1 rfl) ?_
      obtain ⟨g9, h⟩ := h
      obtain ⟨g10, h⟩ := h
      refine aR_ild (L := 16) hx hb hw 11 rfl rfl (by decide) g9 g10 dX11_put_31 ?_
      refine q_iconst hx hb dX11_put_32 ?_
      refine q_isub hx hb dX11_put_33 ?_
      refine call_S hexR F (kX11_in h) 3 tw6_77 tw1_8 tw6_76 tw6_75 hdX11_in ⟨Nat.le_trans (by decide) hR.1, Nat.le_trans (by decide) hR.2⟩ hA hw hS rfl hl.1 rfl (Nat.le_of_ble_eq_true rfl) dX11_put_34 (fun v11 μ12 H locs h hw hS => ?_)
      obtain ⟨z13, h⟩ := h
      refine q_if_ne (tgt := 46) hx hb (rgB z13) dX11_put_37 (by decide) (fun c14 => ?_) (fun c14 => ?_)
      · have h := ite_f c14 h
        refine lv_aload_n hx hb dX11_put_46 rfl (lv_at hl 0 rfl) ?_
        refine gR_stands F hw tw5_152 dX11_put_47 ?_
        refine lv_iload_n hx hb dX11_put_50 rfl (lv_at hl 1 rfl) ?_
        refine aR_ild (L := 16) hx hb hw 13 rfl rfl (by decide) g9 g10 dX11_put_51 ?_
        obtain ⟨y15, ey15⟩ : ∃ z : Int, z = μ12 14 0 x1 := ⟨_, rfl⟩
        have h := h y15 ey15
        refine q_nmI ey15 ?_
        refine lv_istore_n (lv' := [(3, .int (iI y15)), (0, .ref (ad 0 0)), (1, .int (iI x1)), (2, .int (iI x2))]) hx hb dX11_put_52 rfl hl (by decide) rfl (fun ls hl => ?_)
        refine lv_aload_n hx hb dX11_put_53 rfl (lv_at hl 1 rfl) ?_
        refine gR_stands F hw tw5_152 dX11_put_54 ?_
        refine lv_iload_n hx hb dX11_put_57 rfl (lv_at hl 2 rfl) ?_
        refine lv_iload_n hx hb dX11_put_58 rfl (lv_at hl 3 rfl) ?_
        obtain ⟨μ16, eμ16⟩ : ∃ z : MM, z = ms μ12 14 0 x1 x2 := ⟨_, rfl⟩
        have h := h μ16 eμ16
        refine aR_ist (L := 16) hx hb hw hS 13 rfl rfl (by decide) g9 g10 eμ16 dX11_put_59 (fun H locs hw hS => ?_)
        refine lv_iload_n hx hb dX11_put_60 rfl (lv_at hl 0 rfl) ?_
        exact ret _ _ _ _ _ _ h hw hS dX11_put_61
      · have h := ite_t c14 h
        refine lv_aload_n hx hb dX11_put_40 rfl (lv_at hl 0 rfl) ?_
        refine q_iconst hx hb dX11_put_41 ?_
        refine call_V hexR F (kX11_meets h) 1 tw6_81 tw1_8 tw6_80 tws2_10 tw6_78 hdX11_meets ⟨Nat.le_trans (by decide) hR.1, Nat.le_trans (by decide) hR.2⟩ (hw.recv (k := 0) (i := 0) ⟨rfl, Or.inl rfl⟩ rfl rfl) hA hw hS rfl hl.1 rfl (Nat.le_of_ble_eq_true rfl) dX11_put_42 (fun v17 μ18 H locs h hw hS => ?_)
        exact ret _ _ _ _ _ _ h hw hS dX11_put_45
    · have h := ite_t c8 h
      refine lv_aload_n hx hb dX11_put_18 rfl (lv_at hl 0 rfl) ?_
      refine q_iconst hx hb dX11_put_19 ?_
      refine call_V hexR F (kX11_meets h) 1 tw6_81 tw1_8 tw6_80 tws2_10 tw6_78 hdX11_meets ⟨Nat.le_trans (by decide) hR.1, Nat.le_trans (by decide) hR.2⟩ (hw.recv (k := 0) (i := 0) ⟨rfl, Or.inl rfl⟩ rfl rfl) hA hw hS rfl hl.1 rfl (Nat.le_of_ble_eq_true rfl) dX11_put_20 (fun v19 μ20 H locs h hw hS => ?_)
      exact ret _ _ _ _ _ _ h hw hS dX11_put_23
  · have h := ite_t c4 h
    refine q_iconst hx hb dX11_put_8 ?_
    exact ret _ _ _ _ _ _ h hw hS dX11_put_9
set_option maxRecDepth 100000 in
set_option maxHeartbeats 4000000 in
theorem kX11_put {l : Launch} {D : va_G} {cy : Nat → ClassId} {ad : AD} {A : Nat → Prop} {x1 : Int} {x2 : Int} {μ : MM} {Q : Int → MM → Prop} (h : wpX11_put x1 x2 μ Q) : Met l yX11_put (Cond.code yX11_put cX11_put 4 (some .int) :: uw) (rmm 2 43) (wPc [.ref (ad 0 0), .int (iI x1), .int (iI x2)] dmR cfR tyR exR D cy ad A μ) (wQ vI Q dmR cfR D cy ad A) 0 0 A :=
  met_of (by decide) (Nat.le_of_ble_eq_true rfl) (fun p e R s m args below meth c ls hr hk hRR F hA hw hS hl => wX11_put F hA (by subst hRR; exact ⟨Nat.le_refl _, Nat.le_refl _⟩) (retI_of F hr hk) h hw hS hl)
theorem hdX11_put : yX11_put.cls ≠ "java/lang/invoke/MethodHandle" ∧ yX11_put.cls ≠ "java/lang/invoke/VarHandle" ∧ (parseMethodDescriptor yX11_put.desc).map (fun d => d.parameters.length) = some 2 := by decide +kernel
def wpX11_putRight_J92 (k64 : Int → Int → Int → Int → MM → Prop) (Q : Int → MM → Prop) (x1 : Int) (x4 : Int) (x5 : Int) (x6 : Int) (t1 : Int) (t2 : Int) (μ : MM) : Prop := 0 ≤ t1 ∧ (t1 < 144 ∧ (∀ μ3 : MM, μ3 = ms μ 39 0 t1 t2 → (k64 x1 x4 x5 (x6 + 1) μ3)))
set_option maxRecDepth 100000 in
set_option maxHeartbeats 4000000 in
theorem wX11_putRight_J92 {k64 : Int → Int → Int → Int → MM → Prop} {Q : Int → MM → Prop} {x1 : Int} {x4 : Int} {x5 : Int} {x6 : Int} {t1 : Int} {t2 : Int} {μ : MM} {H : Heap} {locs : List Loc} {ls : Array Slot} (F : CallFix p m c cX11_putRight 11 s args uw RX11) (hA : ∀ q : Nat, s.heap.size ≤ q → A q) (hR : 5 ≤ R.frames ∧ 109 ≤ R.locals) (ret : RetI p l e R s m args below meth c cX11_putRight Qf dmR cfR tyR exR D cy ad A Q) (hk64 : ∀ (x1' x4' x5' x6' : Int) (μ' : MM) (H : Heap) (locs : List Loc) (ls : Array Slot), k64 x1' x4' x5' x6' μ' → wdR D cy ad A μ' s H → va_S A s.heap H locs → lv_has ls 11 [(0, .ref (ad 0 0)), (1, .int (iI (x1'))), (4, .int (iI (x4'))), (5, .int (iI (x5'))), (6, .int (iI (x6')))] → W p l e R s m args below meth c H locs 0 0 Qf (F0 m 64 ls [])) (h : wpX11_putRight_J92 k64 Q x1 x4 x5 x6 t1 t2 μ) (hw : wdR D cy ad A μ s H) (hS : va_S A s.heap H locs) (hl : lv_has ls 11 [(0, .ref (ad 0 0)), (1, .int (iI x1)), (4, .int (iI x4)), (5, .int (iI x5)), (6, .int (iI x6))]) : W p l e R s m args below meth c H locs 0 0 Qf (F0 m 92 ls [.int (iI t2), .int (iI t1), .ref (ad 39 0)]) := by
  have hx := F.1
  have hb := F.2.1
  have hown := F.2.2.2.1
  have hts := F.2.2.2.2
  obtain ⟨g1, h⟩ := h
  obtain ⟨g2, h⟩ := h
  obtain ⟨μ3, eμ3⟩ : ∃ z : MM, z = ms μ 39 0 t1 t2 := ⟨_, rfl⟩
  have h := h μ3 eμ3
  refine aR_ist (L := 144) hx hb hw hS 38 rfl rfl (by decide) g1 g2 eμ3 dX11_putRight_92 (fun H locs hw hS => ?_)
  refine q_iinc (k := 4) (lv' := [(6, .int (iI (x6 + 1))), (0, .ref (ad 0 0)), (1, .int (iI x1)), (4, .int (iI x4)), (5, .int (iI x5))]) hx hb dX11_putRight_93 hl rfl (by decide) rfl (fun ls hl => ?_)
  refine lv_goto (tgt := 64) hx hb dX11_putRight_96 (by decide) ?_
  exact hk64 x1 x4 x5 (x6 + 1) _ _ _ _ h hw hS (lv_sub hl [1, 2, 3, 4, 0] rfl)
def wpX11_putRight_J179 (k124 : Int → Int → Int → Int → Int → MM → Prop) (k113 : Int → Int → Int → Int → MM → Prop) (k102 : Int → Int → Int → MM → Prop) (Q : Int → MM → Prop) (x1 : Int) (x4 : Int) (x6 : Int) (x7 : Int) (x8 : Int) (μ : MM) : Prop := k124 x1 x4 x6 x7 (x8 + 1) μ
set_option maxRecDepth 100000 in
set_option maxHeartbeats 4000000 in
theorem wX11_putRight_J179 {k124 : Int → Int → Int → Int → Int → MM → Prop} {k113 : Int → Int → Int → Int → MM → Prop} {k102 : Int → Int → Int → MM → Prop} {Q : Int → MM → Prop} {x1 : Int} {x4 : Int} {x6 : Int} {x7 : Int} {x8 : Int} {μ : MM} {H : Heap} {locs : List Loc} {ls : Array Slot} (F : CallFix p m c cX11_putRight 11 s args uw RX11) (hA : ∀ q : Nat, s.heap.size ≤ q → A q) (hR : 5 ≤ R.frames ∧ 109 ≤ R.locals) (ret : RetI p l e R s m args below meth c cX11_putRight Qf dmR cfR tyR exR D cy ad A Q) (hk124 : ∀ (x1' x4' x6' x7' x8' : Int) (μ' : MM) (H : Heap) (locs : List Loc) (ls : Array Slot), k124 x1' x4' x6' x7' x8' μ' → wdR D cy ad A μ' s H → va_S A s.heap H locs → lv_has ls 11 [(0, .ref (ad 0 0)), (1, .int (iI (x1'))), (4, .int (iI (x4'))), (6, .int (iI (x6'))), (7, .int (iI (x7'))), (8, .int (iI (x8')))] → W p l e R s m args below meth c H locs 0 0 Qf (F0 m 124 ls [])) (hk113 : ∀ (x1' x4' x6' x7' : Int) (μ' : MM) (H : Heap) (locs : List Loc) (ls : Array Slot), k113 x1' x4' x6' x7' μ' → wdR D cy ad A μ' s H → va_S A s.heap H locs → lv_has ls 11 [(0, .ref (ad 0 0)), (1, .int (iI (x1'))), (4, .int (iI (x4'))), (6, .int (iI (x6'))), (7, .int (iI (x7')))] → W p l e R s m args below meth c H locs 0 0 Qf (F0 m 113 ls [])) (hk102 : ∀ (x1' x4' x6' : Int) (μ' : MM) (H : Heap) (locs : List Loc) (ls : Array Slot), k102 x1' x4' x6' μ' → wdR D cy ad A μ' s H → va_S A s.heap H locs → lv_has ls 11 [(0, .ref (ad 0 0)), (1, .int (iI (x1'))), (4, .int (iI (x4'))), (6, .int (iI (x6')))] → W p l e R s m args below meth c H locs 0 0 Qf (F0 m 102 ls [])) (h : wpX11_putRight_J179 k124 k113 k102 Q x1 x4 x6 x7 x8 μ) (hw : wdR D cy ad A μ s H) (hS : va_S A s.heap H locs) (hl : lv_has ls 11 [(0, .ref (ad 0 0)), (1, .int (iI x1)), (4, .int (iI x4)), (6, .int (iI x6)), (7, .int (iI x7)), (8, .int (iI x8))]) : W p l e R s m args below meth c H locs 0 0 Qf (F0 m 179 ls []) := by
  have hx := F.1
  have hb := F.2.1
  have hown := F.2.2.2.1
  have hts := F.2.2.2.2
  refine q_iinc (k := 5) (lv' := [(8, .int (iI (x8 + 1))), (0, .ref (ad 0 0)), (1, .int (iI x1)), (4, .int (iI x4)), (6, .int (iI x6)), (7, .int (iI x7))]) hx hb dX11_putRight_179 hl rfl (by decide) rfl (fun ls hl => ?_)
  refine lv_goto (tgt := 124) hx hb dX11_putRight_182 (by decide) ?_
  exact hk124 x1 x4 x6 x7 (x8 + 1) _ _ _ _ h hw hS (lv_sub hl [1, 2, 3, 4, 5, 0] rfl)
def wpX11_putRight_L124 (k113 : Int → Int → Int → Int → MM → Prop) (k102 : Int → Int → Int → MM → Prop) (Q : Int → MM → Prop) : Nat → Int → Int → Int → Int → Int → MM → Prop
  | 0, _, _, _, _, _, _ => False
  | n + 1, x1, x4, x6, x7, x8, μ => rg x8 ∧ (if 3 ≤ x8 then (k113 x1 x4 x6 (x7 + 1) μ) else (wpX11_after x7 x8 μ (fun v3 μ4 => 0 ≤ v3 ∧ (v3 < 144 ∧ (wpX11_costOf x4 x7 x8 μ4 (fun v7 μ8 => ∀ y9 : Int, y9 = (μ4 39 0 v3) + v7 → (0 ≤ x7 ∧ (x7 < 144 ∧ (rg y9 ∧ (rg (μ8 39 0 x7) ∧ (if (μ8 39 0 x7) ≤ y9 then (wpX11_putRight_J179 (fun x1' x4' x6' x7' x8' μ' => wpX11_putRight_L124 k113 k102 Q n x1' x4' x6' x7' x8' μ') k113 k102 Q x1 x4 x6 x7 x8 μ8) else (∀ μ15 : MM, μ15 = ms μ8 39 0 x7 y9 → (wpX11_putRight_J179 (fun x1' x4' x6' x7' x8' μ' => wpX11_putRight_L124 k113 k102 Q n x1' x4' x6' x7' x8' μ') k113 k102 Q x1 x4 1 x7 x8 μ15)))))))))))))
set_option maxRecDepth 100000 in
set_option maxHeartbeats 4000000 in
theorem wX11_putRight_L124 {k113 : Int → Int → Int → Int → MM → Prop} {k102 : Int → Int → Int → MM → Prop} {Q : Int → MM → Prop} (F : CallFix p m c cX11_putRight 11 s args uw RX11) (hA : ∀ q : Nat, s.heap.size ≤ q → A q) (hR : 5 ≤ R.frames ∧ 109 ≤ R.locals) (ret : RetI p l e R s m args below meth c cX11_putRight Qf dmR cfR tyR exR D cy ad A Q) (hk113 : ∀ (x1' x4' x6' x7' : Int) (μ' : MM) (H : Heap) (locs : List Loc) (ls : Array Slot), k113 x1' x4' x6' x7' μ' → wdR D cy ad A μ' s H → va_S A s.heap H locs → lv_has ls 11 [(0, .ref (ad 0 0)), (1, .int (iI (x1'))), (4, .int (iI (x4'))), (6, .int (iI (x6'))), (7, .int (iI (x7')))] → W p l e R s m args below meth c H locs 0 0 Qf (F0 m 113 ls [])) (hk102 : ∀ (x1' x4' x6' : Int) (μ' : MM) (H : Heap) (locs : List Loc) (ls : Array Slot), k102 x1' x4' x6' μ' → wdR D cy ad A μ' s H → va_S A s.heap H locs → lv_has ls 11 [(0, .ref (ad 0 0)), (1, .int (iI (x1'))), (4, .int (iI (x4'))), (6, .int (iI (x6')))] → W p l e R s m args below meth c H locs 0 0 Qf (F0 m 102 ls [])) : ∀ (n : Nat) (x1 x4 x6 x7 x8 : Int) (μ : MM) (H : Heap) (locs : List Loc) (ls : Array Slot), wpX11_putRight_L124 k113 k102 Q n x1 x4 x6 x7 x8 μ → wdR D cy ad A μ s H → va_S A s.heap H locs → lv_has ls 11 [(0, .ref (ad 0 0)), (1, .int (iI x1)), (4, .int (iI x4)), (6, .int (iI x6)), (7, .int (iI x7)), (8, .int (iI x8))] → W p l e R s m args below meth c H locs 0 0 Qf (F0 m 124 ls []) := by
  have hx := F.1
  have hb := F.2.1
  have hown := F.2.2.2.1
  have hts := F.2.2.2.2
  intro n
  induction n with
  | zero =>
    intro x1 x4 x6 x7 x8 μ H locs ls h hw hS hl
    exact h.elim
  | succ n ih =>
    intro x1 x4 x6 x7 x8 μ H locs ls h hw hS hl
    refine lv_iload hx hb dX11_putRight_124 (lv_at hl 5 rfl) ?_
    refine q_iconst hx hb dX11_putRight_126 ?_
    obtain ⟨g1, h⟩ := h
    refine q_icmp_ge (tgt := 185) hx hb g1 (by decide) dX11_putRight_127 (by decide) (fun c2 => ?_) (fun c2 => ?_)
    · have h := ite_t c2 h
      refine q_iinc (k := 4) (lv' := [(7, .int (iI (x7 + 1))), (0, .ref (ad 0 0)), (1, .int (iI x1)), (4, .int (iI x4)), (6, .int (iI x6)), (8, .int (iI x8))]) hx hb dX11_putRight_185 hl rfl (by decide) rfl (fun ls hl => ?_)
      refine lv_goto (tgt := 113) hx hb dX11_putRight_188 (by decide) ?_
      exact hk113 x1 x4 x6 (x7 + 1) _ _ _ _ h hw hS (lv_sub hl [1, 2, 3, 4, 0] rfl)
    · have h := ite_f c2 h
      refine lv_aload_n hx hb dX11_putRight_130 rfl (lv_at hl 0 rfl) ?_
      refine gR_best F hw tw5_177 dX11_putRight_131 ?_
      refine lv_iload hx hb dX11_putRight_134 (lv_at hl 4 rfl) ?_
      refine lv_iload hx hb dX11_putRight_136 (lv_at hl 5 rfl) ?_
      refine call_S hexR F (kX11_after h) 2 tw7_116 tw1_8 tw7_115 tw7_114 hdX11_after ⟨Nat.le_trans (by decide) hR.1, Nat.le_trans (by decide) hR.2⟩ hA hw hS rfl hl.1 rfl (Nat.le_of_ble_eq_true rfl) dX11_putRight_138 (fun v3 μ4 H locs h hw hS => ?_)
      obtain ⟨g5, h⟩ := h
      obtain ⟨g6, h⟩ := h
      refine aR_ild (L := 144) hx hb hw 38 rfl rfl (by decide) g5 g6 dX11_putRight_141 ?_
      refine lv_aload_n hx hb dX11_putRight_142 rfl (lv_at hl 0 rfl) ?_
      refine lv_iload hx hb dX11_putRight_143 (lv_at hl 2 rfl) ?_
      refine lv_iload hx hb dX11_putRight_145 (lv_at hl 4 rfl) ?_
      refine lv_iload hx hb dX11_putRight_147 (lv_at hl 5 rfl) ?_
      refine call_V hexR F (kX11_costOf h) 3 tw7_120 tw1_8 tw7_119 tws4_6 tw7_117 hdX11_costOf ⟨Nat.le_trans (by decide) hR.1, Nat.le_trans (by decide) hR.2⟩ (hw.recv (k := 0) (i := 0) ⟨rfl, Or.inl rfl⟩ rfl rfl) hA hw hS rfl hl.1 rfl (Nat.le_of_ble_eq_true rfl) dX11_putRight_149 (fun v7 μ8 H locs h hw hS => ?_)
      refine q_iadd hx hb dX11_putRight_152 ?_
      obtain ⟨y9, ey9⟩ : ∃ z : Int, z = (μ4 39 0 v3) + v7 := ⟨_, rfl⟩
      have h := h y9 ey9
      refine q_nmI ey9 ?_
      refine lv_istore (lv' := [(9, .int (iI y9)), (0, .ref (ad 0 0)), (1, .int (iI x1)), (4, .int (iI x4)), (6, .int (iI x6)), (7, .int (iI x7)), (8, .int (iI x8))]) hx hb dX11_putRight_153 hl (by decide) rfl (fun ls hl => ?_)
      refine lv_iload hx hb dX11_putRight_155 (lv_at hl 0 rfl) ?_
      refine lv_aload_n hx hb dX11_putRight_157 rfl (lv_at hl 1 rfl) ?_
      refine gR_best F hw tw5_177 dX11_putRight_158 ?_
      refine lv_iload hx hb dX11_putRight_161 (lv_at hl 5 rfl) ?_
      obtain ⟨g10, h⟩ := h
      obtain ⟨g11, h⟩ := h
      refine aR_ild (L := 144) hx hb hw 38 rfl rfl (by decide) g10 g11 dX11_putRight_163 ?_
      obtain ⟨g12, h⟩ := h
      obtain ⟨g13, h⟩ := h
      refine q_icmp_ge (tgt := 179) hx hb g12 g13 dX11_putRight_164 (by decide) (fun c14 => ?_) (fun c14 => ?_)
      · have h := ite_t c14 h
        exact wX11_putRight_J179 F hA hR ret (fun x1 x4 x6 x7 x8 => ih x1 x4 x6 x7 x8) hk113 hk102 h hw hS (lv_sub hl [1, 2, 3, 4, 5, 6] rfl)
      · have h := ite_f c14 h
        refine lv_aload_n hx hb dX11_putRight_167 rfl (lv_at hl 1 rfl) ?_
        refine gR_best F hw tw5_177 dX11_putRight_168 ?_
        refine lv_iload hx hb dX11_putRight_171 (lv_at hl 5 rfl) ?_
        refine lv_iload hx hb dX11_putRight_173 (lv_at hl 0 rfl) ?_
        obtain ⟨μ15, eμ15⟩ : ∃ z : MM, z = ms μ8 39 0 x7 y9 := ⟨_, rfl⟩
        have h := h μ15 eμ15
        refine aR_ist (L := 144) hx hb hw hS 38 rfl rfl (by decide) g10 g11 eμ15 dX11_putRight_175 (fun H locs hw hS => ?_)
        refine q_iconst hx hb dX11_putRight_176 ?_
        refine lv_istore (lv' := [(6, .int (iI 1)), (9, .int (iI y9)), (0, .ref (ad 0 0)), (1, .int (iI x1)), (4, .int (iI x4)), (7, .int (iI x7)), (8, .int (iI x8))]) hx hb dX11_putRight_177 hl (by decide) rfl (fun ls hl => ?_)
        exact wX11_putRight_J179 F hA hR ret (fun x1 x4 x6 x7 x8 => ih x1 x4 x6 x7 x8) hk113 hk102 h hw hS (lv_sub hl [2, 3, 4, 0, 5, 6] rfl)
def wpX11_putRight_L113 (k102 : Int → Int → Int → MM → Prop) (Q : Int → MM → Prop) : Nat → Int → Int → Int → Int → MM → Prop
  | 0, _, _, _, _, _ => False
  | n + 1, x1, x4, x6, x7, μ => rg x7 ∧ (if 144 ≤ x7 then (k102 x1 x4 x6 μ) else (∃ n3 : Nat, wpX11_putRight_L124 (fun x1' x4' x6' x7' μ' => wpX11_putRight_L113 k102 Q n x1' x4' x6' x7' μ') k102 Q n3 x1 x4 x6 x7 0 μ))
set_option maxRecDepth 100000 in
set_option maxHeartbeats 4000000 in
theorem wX11_putRight_L113 {k102 : Int → Int → Int → MM → Prop} {Q : Int → MM → Prop} (F : CallFix p m c cX11_putRight 11 s args uw RX11) (hA : ∀ q : Nat, s.heap.size ≤ q → A q) (hR : 5 ≤ R.frames ∧ 109 ≤ R.locals) (ret : RetI p l e R s m args below meth c cX11_putRight Qf dmR cfR tyR exR D cy ad A Q) (hk102 : ∀ (x1' x4' x6' : Int) (μ' : MM) (H : Heap) (locs : List Loc) (ls : Array Slot), k102 x1' x4' x6' μ' → wdR D cy ad A μ' s H → va_S A s.heap H locs → lv_has ls 11 [(0, .ref (ad 0 0)), (1, .int (iI (x1'))), (4, .int (iI (x4'))), (6, .int (iI (x6')))] → W p l e R s m args below meth c H locs 0 0 Qf (F0 m 102 ls [])) : ∀ (n : Nat) (x1 x4 x6 x7 : Int) (μ : MM) (H : Heap) (locs : List Loc) (ls : Array Slot), wpX11_putRight_L113 k102 Q n x1 x4 x6 x7 μ → wdR D cy ad A μ s H → va_S A s.heap H locs → lv_has ls 11 [(0, .ref (ad 0 0)), (1, .int (iI x1)), (4, .int (iI x4)), (6, .int (iI x6)), (7, .int (iI x7))] → W p l e R s m args below meth c H locs 0 0 Qf (F0 m 113 ls []) := by
  have hx := F.1
  have hb := F.2.1
  have hown := F.2.2.2.1
  have hts := F.2.2.2.2
  intro n
  induction n with
  | zero =>
    intro x1 x4 x6 x7 μ H locs ls h hw hS hl
    exact h.elim
  | succ n ih =>
    intro x1 x4 x6 x7 μ H locs ls h hw hS hl
    refine lv_iload hx hb dX11_putRight_113 (lv_at hl 4 rfl) ?_
    refine q_sipush hx hb (by decide) dX11_putRight_115 ?_
    obtain ⟨g1, h⟩ := h
    refine q_icmp_ge (tgt := 191) hx hb g1 (by decide) dX11_putRight_118 (by decide) (fun c2 => ?_) (fun c2 => ?_)
    · have h := ite_t c2 h
      refine lv_goto (tgt := 102) hx hb dX11_putRight_191 (by decide) ?_
      exact hk102 x1 x4 x6 _ _ _ _ h hw hS (lv_sub hl [0, 1, 2, 3] rfl)
    · have h := ite_f c2 h
      refine q_iconst hx hb dX11_putRight_121 ?_
      refine lv_istore (lv' := [(8, .int (iI 0)), (0, .ref (ad 0 0)), (1, .int (iI x1)), (4, .int (iI x4)), (6, .int (iI x6)), (7, .int (iI x7))]) hx hb dX11_putRight_122 hl (by decide) rfl (fun ls hl => ?_)
      obtain ⟨n3, h⟩ := h
      exact wX11_putRight_L124 F hA hR ret (fun x1 x4 x6 x7 => ih x1 x4 x6 x7) hk102 n3 x1 x4 x6 x7 0 _ _ _ _ h hw hS (lv_sub hl [1, 2, 3, 4, 5, 0] rfl)
def wpX11_putRight_L248 (k236 : Int → Int → Int → Int → MM → Prop) (Q : Int → MM → Prop) : Nat → Int → Int → Int → Int → Int → MM → Prop
  | 0, _, _, _, _, _, _ => False
  | n + 1, x4, x7, x8, x9, x10, μ => wpX11_after x7 x10 μ (fun v1 μ2 => 0 ≤ v1 ∧ (v1 < 144 ∧ (wpX11_costOf x4 x7 x10 μ2 (fun v5 μ6 => 0 ≤ x7 ∧ (x7 < 144 ∧ (rg ((μ2 39 0 v1) + v5) ∧ (rg (μ6 39 0 x7) ∧ (if ((μ2 39 0 v1) + v5) = (μ6 39 0 x7) then (0 ≤ x9 ∧ (x9 < 144 ∧ (∀ μ14 : MM, μ14 = ms μ6 41 0 x9 x10 → (wpX11_after x7 x10 μ14 (fun v15 μ16 => k236 x4 v15 x8 (x9 + 1) μ16))))) else (wpX11_putRight_L248 k236 Q n x4 x7 x8 x9 (x10 + 1) μ6)))))))))
set_option maxRecDepth 100000 in
set_option maxHeartbeats 4000000 in
theorem wX11_putRight_L248 {k236 : Int → Int → Int → Int → MM → Prop} {Q : Int → MM → Prop} (F : CallFix p m c cX11_putRight 11 s args uw RX11) (hA : ∀ q : Nat, s.heap.size ≤ q → A q) (hR : 5 ≤ R.frames ∧ 109 ≤ R.locals) (ret : RetI p l e R s m args below meth c cX11_putRight Qf dmR cfR tyR exR D cy ad A Q) (hk236 : ∀ (x4' x7' x8' x9' : Int) (μ' : MM) (H : Heap) (locs : List Loc) (ls : Array Slot), k236 x4' x7' x8' x9' μ' → wdR D cy ad A μ' s H → va_S A s.heap H locs → lv_has ls 11 [(0, .ref (ad 0 0)), (4, .int (iI (x4'))), (7, .int (iI (x7'))), (8, .int (iI (x8'))), (9, .int (iI (x9')))] → W p l e R s m args below meth c H locs 0 0 Qf (F0 m 236 ls [])) : ∀ (n : Nat) (x4 x7 x8 x9 x10 : Int) (μ : MM) (H : Heap) (locs : List Loc) (ls : Array Slot), wpX11_putRight_L248 k236 Q n x4 x7 x8 x9 x10 μ → wdR D cy ad A μ s H → va_S A s.heap H locs → lv_has ls 11 [(0, .ref (ad 0 0)), (4, .int (iI x4)), (7, .int (iI x7)), (8, .int (iI x8)), (9, .int (iI x9)), (10, .int (iI x10))] → W p l e R s m args below meth c H locs 0 0 Qf (F0 m 248 ls []) := by
  have hx := F.1
  have hb := F.2.1
  have hown := F.2.2.2.1
  have hts := F.2.2.2.2
  intro n
  induction n with
  | zero =>
    intro x4 x7 x8 x9 x10 μ H locs ls h hw hS hl
    exact h.elim
  | succ n ih =>
    intro x4 x7 x8 x9 x10 μ H locs ls h hw hS hl
    refine lv_aload_n hx hb dX11_putRight_248 rfl (lv_at hl 0 rfl) ?_
    refine gR_best F hw tw5_177 dX11_putRight_249 ?_
    refine lv_iload hx hb dX11_putRight_252 (lv_at hl 2 rfl) ?_
    refine lv_iload hx hb dX11_putRight_254 (lv_at hl 5 rfl) ?_
    refine call_S hexR F (kX11_after h) 2 tw7_116 tw1_8 tw7_115 tw7_114 hdX11_after ⟨Nat.le_trans (by decide) hR.1, Nat.le_trans (by decide) hR.2⟩ hA hw hS rfl hl.1 rfl (Nat.le_of_ble_eq_true rfl) dX11_putRight_256 (fun v1 μ2 H locs h hw hS => ?_)
    obtain ⟨g3, h⟩ := h
    obtain ⟨g4, h⟩ := h
    refine aR_ild (L := 144) hx hb hw 38 rfl rfl (by decide) g3 g4 dX11_putRight_259 ?_
    refine lv_aload_n hx hb dX11_putRight_260 rfl (lv_at hl 0 rfl) ?_
    refine lv_iload hx hb dX11_putRight_261 (lv_at hl 1 rfl) ?_
    refine lv_iload hx hb dX11_putRight_263 (lv_at hl 2 rfl) ?_
    refine lv_iload hx hb dX11_putRight_265 (lv_at hl 5 rfl) ?_
    refine call_V hexR F (kX11_costOf h) 3 tw7_120 tw1_8 tw7_119 tws4_6 tw7_117 hdX11_costOf ⟨Nat.le_trans (by decide) hR.1, Nat.le_trans (by decide) hR.2⟩ (hw.recv (k := 0) (i := 0) ⟨rfl, Or.inl rfl⟩ rfl rfl) hA hw hS rfl hl.1 rfl (Nat.le_of_ble_eq_true rfl) dX11_putRight_267 (fun v5 μ6 H locs h hw hS => ?_)
    refine q_iadd hx hb dX11_putRight_270 ?_
    refine lv_aload_n hx hb dX11_putRight_271 rfl (lv_at hl 0 rfl) ?_
    refine gR_best F hw tw5_177 dX11_putRight_272 ?_
    refine lv_iload hx hb dX11_putRight_275 (lv_at hl 2 rfl) ?_
    obtain ⟨g7, h⟩ := h
    obtain ⟨g8, h⟩ := h
    refine aR_ild (L := 144) hx hb hw 38 rfl rfl (by decide) g7 g8 dX11_putRight_277 ?_
    obtain ⟨g9, h⟩ := h
    obtain ⟨g10, h⟩ := h
    refine q_icmp_eq (tgt := 287) hx hb g9 g10 dX11_putRight_278 (by decide) (fun c11 => ?_) (fun c11 => ?_)
    · have h := ite_t c11 h
      refine lv_aload_n hx hb dX11_putRight_287 rfl (lv_at hl 0 rfl) ?_
      refine gR_actRow F hw tw5_179 dX11_putRight_288 ?_
      refine lv_iload hx hb dX11_putRight_291 (lv_at hl 4 rfl) ?_
      refine lv_iload hx hb dX11_putRight_293 (lv_at hl 5 rfl) ?_
      obtain ⟨g12, h⟩ := h
      obtain ⟨g13, h⟩ := h
      obtain ⟨μ14, eμ14⟩ : ∃ z : MM, z = ms μ6 41 0 x9 x10 := ⟨_, rfl⟩
      have h := h μ14 eμ14
      refine aR_ist (L := 144) hx hb hw hS 40 rfl rfl (by decide) g12 g13 eμ14 dX11_putRight_295 (fun H locs hw hS => ?_)
      refine lv_iload hx hb dX11_putRight_296 (lv_at hl 2 rfl) ?_
      refine lv_iload hx hb dX11_putRight_298 (lv_at hl 5 rfl) ?_
      refine call_S hexR F (kX11_after h) 2 tw7_116 tw1_8 tw7_115 tw7_114 hdX11_after ⟨Nat.le_trans (by decide) hR.1, Nat.le_trans (by decide) hR.2⟩ hA hw hS rfl hl.1 rfl (Nat.le_of_ble_eq_true rfl) dX11_putRight_300 (fun v15 μ16 H locs h hw hS => ?_)
      refine lv_istore (lv' := [(7, .int (iI v15)), (0, .ref (ad 0 0)), (4, .int (iI x4)), (8, .int (iI x8)), (9, .int (iI x9)), (10, .int (iI x10))]) hx hb dX11_putRight_303 hl (by decide) rfl (fun ls hl => ?_)
      refine q_iinc (k := 4) (lv' := [(9, .int (iI (x9 + 1))), (7, .int (iI v15)), (0, .ref (ad 0 0)), (4, .int (iI x4)), (8, .int (iI x8)), (10, .int (iI x10))]) hx hb dX11_putRight_305 hl rfl (by decide) rfl (fun ls hl => ?_)
      refine lv_goto (tgt := 236) hx hb dX11_putRight_308 (by decide) ?_
      exact hk236 x4 v15 x8 (x9 + 1) _ _ _ _ h hw hS (lv_sub hl [2, 3, 1, 4, 0] rfl)
    · have h := ite_f c11 h
      refine q_iinc (k := 5) (lv' := [(10, .int (iI (x10 + 1))), (0, .ref (ad 0 0)), (4, .int (iI x4)), (7, .int (iI x7)), (8, .int (iI x8)), (9, .int (iI x9))]) hx hb dX11_putRight_281 hl rfl (by decide) rfl (fun ls hl => ?_)
      refine lv_goto (tgt := 248) hx hb dX11_putRight_284 (by decide) ?_
      exact ih x4 x7 x8 x9 (x10 + 1) _ _ _ _ h hw hS (lv_sub hl [1, 2, 3, 4, 5, 0] rfl)
def wpX11_putRight_L236 (Q : Int → MM → Prop) : Nat → Int → Int → Int → Int → MM → Prop
  | 0, _, _, _, _, _ => False
  | n + 1, x4, x7, x8, x9, μ => rg x9 ∧ (rg (μ 0 40 0) ∧ (if (μ 0 40 0) ≤ x9 then (∀ μ4 : MM, μ4 = ms μ 0 2 0 (μ 0 40 0) → (rg x8 ∧ (Q (Int.tdiv x8 1000) μ4))) else (∃ n6 : Nat, wpX11_putRight_L248 (fun x4' x7' x8' x9' μ' => wpX11_putRight_L236 Q n x4' x7' x8' x9' μ') Q n6 x4 x7 x8 x9 0 μ)))
set_option maxRecDepth 100000 in
set_option maxHeartbeats 4000000 in
theorem wX11_putRight_L236 {Q : Int → MM → Prop} (F : CallFix p m c cX11_putRight 11 s args uw RX11) (hA : ∀ q : Nat, s.heap.size ≤ q → A q) (hR : 5 ≤ R.frames ∧ 109 ≤ R.locals) (ret : RetI p l e R s m args below meth c cX11_putRight Qf dmR cfR tyR exR D cy ad A Q) : ∀ (n : Nat) (x4 x7 x8 x9 : Int) (μ : MM) (H : Heap) (locs : List Loc) (ls : Array Slot), wpX11_putRight_L236 Q n x4 x7 x8 x9 μ → wdR D cy ad A μ s H → va_S A s.heap H locs → lv_has ls 11 [(0, .ref (ad 0 0)), (4, .int (iI x4)), (7, .int (iI x7)), (8, .int (iI x8)), (9, .int (iI x9))] → W p l e R s m args below meth c H locs 0 0 Qf (F0 m 236 ls []) := by
  have hx := F.1
  have hb := F.2.1
  have hown := F.2.2.2.1
  have hts := F.2.2.2.2
  intro n
  induction n with
  | zero =>
    intro x4 x7 x8 x9 μ H locs ls h hw hS hl
    exact h.elim
  | succ n ih =>
    intro x4 x7 x8 x9 μ H locs ls h hw hS hl
    refine lv_iload hx hb dX11_putRight_236 (lv_at hl 4 rfl) ?_
    refine lv_aload_n hx hb dX11_putRight_238 rfl (lv_at hl 0 rfl) ?_
    refine gR_acts F hw tw5_178 dX11_putRight_239 ?_
    obtain ⟨g1, h⟩ := h
    obtain ⟨g2, h⟩ := h
    refine q_icmp_ge (tgt := 311) hx hb g1 g2 dX11_putRight_242 (by decide) (fun c3 => ?_) (fun c3 => ?_)
    · have h := ite_t c3 h
      refine lv_aload_n hx hb dX11_putRight_311 rfl (lv_at hl 0 rfl) ?_
      refine lv_aload_n hx hb dX11_putRight_312 rfl (lv_at hl 0 rfl) ?_
      refine gR_acts F hw tw5_178 dX11_putRight_313 ?_
      obtain ⟨μ4, eμ4⟩ : ∃ z : MM, z = ms μ 0 2 0 (μ 0 40 0) := ⟨_, rfl⟩
      have h := h μ4 eμ4
      refine pR_asked F hw hS tw5_140 eμ4 dX11_putRight_316 (fun H locs hw hS => ?_)
      refine lv_iload hx hb dX11_putRight_319 (lv_at hl 3 rfl) ?_
      refine q_sipush hx hb (by decide) dX11_putRight_321 ?_
      obtain ⟨g5, h⟩ := h
      refine q_idiv hx hb g5 (by decide) (by decide) dX11_putRight_324 ?_
      exact ret _ _ _ _ _ _ h hw hS dX11_putRight_325
    · have h := ite_f c3 h
      refine q_iconst hx hb dX11_putRight_245 ?_
      refine lv_istore (lv' := [(10, .int (iI 0)), (0, .ref (ad 0 0)), (4, .int (iI x4)), (7, .int (iI x7)), (8, .int (iI x8)), (9, .int (iI x9))]) hx hb dX11_putRight_246 hl (by decide) rfl (fun ls hl => ?_)
      obtain ⟨n6, h⟩ := h
      exact wX11_putRight_L248 F hA hR ret (fun x4 x7 x8 x9 => ih x4 x7 x8 x9) n6 x4 x7 x8 x9 0 _ _ _ _ h hw hS (lv_sub hl [1, 2, 3, 4, 5, 0] rfl)
def wpX11_putRight_L102 (Q : Int → MM → Prop) : Nat → Int → Int → Int → MM → Prop
  | 0, _, _, _, _ => False
  | n + 1, x1, x4, x6, μ => rg x6 ∧ (if x6 = 0 then (0 ≤ x4 ∧ (x4 < 16 ∧ (wpX11_nextHour x1 μ (fun v5 μ6 => ∀ y7 : Int, y7 = ((12 * (μ 14 0 x4)) + v5) - 1 → (0 ≤ y7 ∧ (y7 < 144 ∧ (rg (μ6 39 0 y7) ∧ (∀ μ11 : MM, μ11 = ms μ6 0 40 0 (Int.tmod (μ6 39 0 y7) 1000) → (∃ n12 : Nat, wpX11_putRight_L236 Q n12 x4 y7 (μ6 39 0 y7) 0 μ11))))))))) else (∃ n13 : Nat, wpX11_putRight_L113 (fun x1' x4' x6' μ' => wpX11_putRight_L102 Q n x1' x4' x6' μ') Q n13 x1 x4 0 0 μ))
set_option maxRecDepth 100000 in
set_option maxHeartbeats 4000000 in
theorem wX11_putRight_L102 {Q : Int → MM → Prop} (F : CallFix p m c cX11_putRight 11 s args uw RX11) (hA : ∀ q : Nat, s.heap.size ≤ q → A q) (hR : 5 ≤ R.frames ∧ 109 ≤ R.locals) (ret : RetI p l e R s m args below meth c cX11_putRight Qf dmR cfR tyR exR D cy ad A Q) : ∀ (n : Nat) (x1 x4 x6 : Int) (μ : MM) (H : Heap) (locs : List Loc) (ls : Array Slot), wpX11_putRight_L102 Q n x1 x4 x6 μ → wdR D cy ad A μ s H → va_S A s.heap H locs → lv_has ls 11 [(0, .ref (ad 0 0)), (1, .int (iI x1)), (4, .int (iI x4)), (6, .int (iI x6))] → W p l e R s m args below meth c H locs 0 0 Qf (F0 m 102 ls []) := by
  have hx := F.1
  have hb := F.2.1
  have hown := F.2.2.2.1
  have hts := F.2.2.2.2
  intro n
  induction n with
  | zero =>
    intro x1 x4 x6 μ H locs ls h hw hS hl
    exact h.elim
  | succ n ih =>
    intro x1 x4 x6 μ H locs ls h hw hS hl
    refine lv_iload hx hb dX11_putRight_102 (lv_at hl 3 rfl) ?_
    obtain ⟨g1, h⟩ := h
    refine q_if_eq (tgt := 194) hx hb g1 dX11_putRight_104 (by decide) (fun c2 => ?_) (fun c2 => ?_)
    · have h := ite_t c2 h
      refine q_bipush hx hb (by decide) dX11_putRight_194 ?_
      refine lv_aload_n hx hb dX11_putRight_196 rfl (lv_at hl 0 rfl) ?_
      refine gR_stands F hw tw5_152 dX11_putRight_197 ?_
      refine lv_iload hx hb dX11_putRight_200 (lv_at hl 2 rfl) ?_
      obtain ⟨g3, h⟩ := h
      obtain ⟨g4, h⟩ := h
      refine aR_ild (L := 16) hx hb hw 13 rfl rfl (by decide) g3 g4 dX11_putRight_202 ?_
      refine q_imul hx hb dX11_putRight_203 ?_
      refine lv_aload_n hx hb dX11_putRight_204 rfl (lv_at hl 0 rfl) ?_
      refine lv_iload_n hx hb dX11_putRight_205 rfl (lv_at hl 1 rfl) ?_
      refine call_V hexR F (kX11_nextHour h) 1 tw7_104 tw1_8 tw7_103 tws4_5 tw7_101 hdX11_nextHour ⟨Nat.le_trans (by decide) hR.1, Nat.le_trans (by decide) hR.2⟩ (hw.recv (k := 0) (i := 0) ⟨rfl, Or.inl rfl⟩ rfl rfl) hA hw hS rfl hl.1 rfl (Nat.le_of_ble_eq_true rfl) dX11_putRight_206 (fun v5 μ6 H locs h hw hS => ?_)
      refine q_iadd hx hb dX11_putRight_209 ?_
      refine q_iconst hx hb dX11_putRight_210 ?_
      refine q_isub hx hb dX11_putRight_211 ?_
      obtain ⟨y7, ey7⟩ : ∃ z : Int, z = ((12 * (μ 14 0 x4)) + v5) - 1 := ⟨_, rfl⟩
      have h := h y7 ey7
      refine q_nmI ey7 ?_
      refine lv_istore (lv' := [(7, .int (iI y7)), (0, .ref (ad 0 0)), (1, .int (iI x1)), (4, .int (iI x4)), (6, .int (iI x6))]) hx hb dX11_putRight_212 hl (by decide) rfl (fun ls hl => ?_)
      refine lv_aload_n hx hb dX11_putRight_214 rfl (lv_at hl 1 rfl) ?_
      refine gR_best F hw tw5_177 dX11_putRight_215 ?_
      refine lv_iload hx hb dX11_putRight_218 (lv_at hl 0 rfl) ?_
      obtain ⟨g8, h⟩ := h
      obtain ⟨g9, h⟩ := h
      refine aR_ild (L := 144) hx hb hw 38 rfl rfl (by decide) g8 g9 dX11_putRight_220 ?_
      refine lv_istore (lv' := [(8, .int (iI (μ6 39 0 y7))), (7, .int (iI y7)), (0, .ref (ad 0 0)), (1, .int (iI x1)), (4, .int (iI x4)), (6, .int (iI x6))]) hx hb dX11_putRight_221 hl (by decide) rfl (fun ls hl => ?_)
      refine lv_aload_n hx hb dX11_putRight_223 rfl (lv_at hl 2 rfl) ?_
      refine lv_iload hx hb dX11_putRight_224 (lv_at hl 0 rfl) ?_
      refine q_sipush hx hb (by decide) dX11_putRight_226 ?_
      obtain ⟨g10, h⟩ := h
      refine q_irem hx hb g10 (by decide) (by decide) dX11_putRight_229 ?_
      obtain ⟨μ11, eμ11⟩ : ∃ z : MM, z = ms μ6 0 40 0 (Int.tmod (μ6 39 0 y7) 1000) := ⟨_, rfl⟩
      have h := h μ11 eμ11
      refine pR_acts F hw hS tw5_178 eμ11 dX11_putRight_230 (fun H locs hw hS => ?_)
      refine q_iconst hx hb dX11_putRight_233 ?_
      refine lv_istore (lv' := [(9, .int (iI 0)), (8, .int (iI (μ6 39 0 y7))), (7, .int (iI y7)), (0, .ref (ad 0 0)), (1, .int (iI x1)), (4, .int (iI x4)), (6, .int (iI x6))]) hx hb dX11_putRight_234 hl (by decide) rfl (fun ls hl => ?_)
      obtain ⟨n12, h⟩ := h
      exact wX11_putRight_L236 F hA hR ret n12 x4 y7 (μ6 39 0 y7) 0 _ _ _ _ h hw hS (lv_sub hl [3, 5, 2, 1, 0] rfl)
    · have h := ite_f c2 h
      refine q_iconst hx hb dX11_putRight_107 ?_
      refine lv_istore (lv' := [(6, .int (iI 0)), (0, .ref (ad 0 0)), (1, .int (iI x1)), (4, .int (iI x4))]) hx hb dX11_putRight_108 hl (by decide) rfl (fun ls hl => ?_)
      refine q_iconst hx hb dX11_putRight_110 ?_
      refine lv_istore (lv' := [(7, .int (iI 0)), (6, .int (iI 0)), (0, .ref (ad 0 0)), (1, .int (iI x1)), (4, .int (iI x4))]) hx hb dX11_putRight_111 hl (by decide) rfl (fun ls hl => ?_)
      obtain ⟨n13, h⟩ := h
      exact wX11_putRight_L113 F hA hR ret (fun x1 x4 x6 => ih x1 x4 x6) n13 x1 x4 0 0 _ _ _ _ h hw hS (lv_sub hl [2, 3, 4, 1, 0] rfl)
def wpX11_putRight_L64 (Q : Int → MM → Prop) : Nat → Int → Int → Int → Int → MM → Prop
  | 0, _, _, _, _, _ => False
  | n + 1, x1, x4, x5, x6, μ => rg x6 ∧ (if 144 ≤ x6 then (∃ n3 : Nat, wpX11_putRight_L102 Q n3 x1 x4 1 μ) else (rg x5 ∧ (if x6 = x5 then (wpX11_putRight_J92 (fun x1' x4' x5' x6' μ' => wpX11_putRight_L64 Q n x1' x4' x5' x6' μ') Q x1 x4 x5 x6 x6 0 μ) else (wpX11_putRight_J92 (fun x1' x4' x5' x6' μ' => wpX11_putRight_L64 Q n x1' x4' x5' x6' μ') Q x1 x4 x5 x6 x6 100000000 μ))))
set_option maxRecDepth 100000 in
set_option maxHeartbeats 4000000 in
theorem wX11_putRight_L64 {Q : Int → MM → Prop} (F : CallFix p m c cX11_putRight 11 s args uw RX11) (hA : ∀ q : Nat, s.heap.size ≤ q → A q) (hR : 5 ≤ R.frames ∧ 109 ≤ R.locals) (ret : RetI p l e R s m args below meth c cX11_putRight Qf dmR cfR tyR exR D cy ad A Q) : ∀ (n : Nat) (x1 x4 x5 x6 : Int) (μ : MM) (H : Heap) (locs : List Loc) (ls : Array Slot), wpX11_putRight_L64 Q n x1 x4 x5 x6 μ → wdR D cy ad A μ s H → va_S A s.heap H locs → lv_has ls 11 [(0, .ref (ad 0 0)), (1, .int (iI x1)), (4, .int (iI x4)), (5, .int (iI x5)), (6, .int (iI x6))] → W p l e R s m args below meth c H locs 0 0 Qf (F0 m 64 ls []) := by
  have hx := F.1
  have hb := F.2.1
  have hown := F.2.2.2.1
  have hts := F.2.2.2.2
  intro n
  induction n with
  | zero =>
    intro x1 x4 x5 x6 μ H locs ls h hw hS hl
    exact h.elim
  | succ n ih =>
    intro x1 x4 x5 x6 μ H locs ls h hw hS hl
    refine lv_iload hx hb dX11_putRight_64 (lv_at hl 4 rfl) ?_
    refine q_sipush hx hb (by decide) dX11_putRight_66 ?_
    obtain ⟨g1, h⟩ := h
    refine q_icmp_ge (tgt := 99) hx hb g1 (by decide) dX11_putRight_69 (by decide) (fun c2 => ?_) (fun c2 => ?_)
    · have h := ite_t c2 h
      refine q_iconst hx hb dX11_putRight_99 ?_
      refine lv_istore (lv' := [(6, .int (iI 1)), (0, .ref (ad 0 0)), (1, .int (iI x1)), (4, .int (iI x4)), (5, .int (iI x5))]) hx hb dX11_putRight_100 hl (by decide) rfl (fun ls hl => ?_)
      obtain ⟨n3, h⟩ := h
      exact wX11_putRight_L102 F hA hR ret n3 x1 x4 1 _ _ _ _ h hw hS (lv_sub hl [1, 2, 3, 0] rfl)
    · have h := ite_f c2 h
      refine lv_aload_n hx hb dX11_putRight_72 rfl (lv_at hl 0 rfl) ?_
      refine gR_best F hw tw5_177 dX11_putRight_73 ?_
      refine lv_iload hx hb dX11_putRight_76 (lv_at hl 4 rfl) ?_
      refine lv_iload hx hb dX11_putRight_78 (lv_at hl 4 rfl) ?_
      refine lv_iload hx hb dX11_putRight_80 (lv_at hl 3 rfl) ?_
      obtain ⟨g4, h⟩ := h
      refine q_icmp_ne (tgt := 89) hx hb g1 g4 dX11_putRight_82 (by decide) (fun c5 => ?_) (fun c5 => ?_)
      · have h := ite_f c5 h
        refine q_ldcw (n := 100000000) hx hb hown (hts _ tw7_113) (by decide) dX11_putRight_89 ?_
        exact wX11_putRight_J92 F hA hR ret (fun x1 x4 x5 x6 => ih x1 x4 x5 x6) h hw hS (lv_sub hl [0, 1, 2, 3, 4] rfl)
      · have h := ite_t c5 h
        refine q_iconst hx hb dX11_putRight_85 ?_
        refine lv_goto (tgt := 92) hx hb dX11_putRight_86 (by decide) ?_
        exact wX11_putRight_J92 F hA hR ret (fun x1 x4 x5 x6 => ih x1 x4 x5 x6) h hw hS (lv_sub hl [0, 1, 2, 3, 4] rfl)
def wpX11_putRight (x1 : Int) (x2 : Int) (μ : MM) (Q : Int → MM → Prop) : Prop := wpX11_in x2 1 12 μ (fun v1 μ2 => if v1 = 0 then (Q (-1) μ2) else (wpX11_askedPlate x1 0 μ2 (fun v5 μ6 => rg v5 ∧ (if 0 ≤ v5 then (0 ≤ (2 * x1) ∧ (2 * x1 < 8 ∧ (∀ y11 : Int, y11 = μ6 35 0 (2 * x1) → (0 ≤ y11 ∧ (y11 < 16 ∧ (rg (μ6 12 0 y11) ∧ (if (μ6 12 0 y11) = 12 then (∀ y16 : Int, y16 = 13 * (x2 - 1) → (∃ n17 : Nat, wpX11_putRight_L64 Q n17 x1 y11 y16 0 μ6)) else (wpX11_meets 3 μ6 (fun v18 μ19 => Q v18 μ19))))))))) else (Q v5 μ6)))))
set_option maxRecDepth 100000 in
set_option maxHeartbeats 4000000 in
theorem wX11_putRight {Q : Int → MM → Prop} {x1 : Int} {x2 : Int} {μ : MM} {H : Heap} {locs : List Loc} {ls : Array Slot} (F : CallFix p m c cX11_putRight 11 s args uw RX11) (hA : ∀ q : Nat, s.heap.size ≤ q → A q) (hR : 5 ≤ R.frames ∧ 109 ≤ R.locals) (ret : RetI p l e R s m args below meth c cX11_putRight Qf dmR cfR tyR exR D cy ad A Q) (h : wpX11_putRight x1 x2 μ Q) (hw : wdR D cy ad A μ s H) (hS : va_S A s.heap H locs) (hl : lv_has ls 11 [(0, .ref (ad 0 0)), (1, .int (iI x1)), (2, .int (iI x2))]) : W p l e R s m args below meth c H locs 0 0 Qf (F0 m 0 ls []) := by
  have hx := F.1
  have hb := F.2.1
  have hown := F.2.2.2.1
  have hts := F.2.2.2.2
  refine lv_iload_n hx hb dX11_putRight_0 rfl (lv_at hl 2 rfl) ?_
  refine q_iconst hx hb dX11_putRight_1 ?_
  refine q_bipush hx hb (by decide) dX11_putRight_2 ?_
  refine call_S hexR F (kX11_in h) 3 tw6_77 tw1_8 tw6_76 tw6_75 hdX11_in ⟨Nat.le_trans (by decide) hR.1, Nat.le_trans (by decide) hR.2⟩ hA hw hS rfl hl.1 rfl (Nat.le_of_ble_eq_true rfl) dX11_putRight_4 (fun v1 μ2 H locs h hw hS => ?_)
  obtain ⟨z3, h⟩ := h
  refine q_if_ne (tgt := 12) hx hb (rgB z3) dX11_putRight_7 (by decide) (fun c4 => ?_) (fun c4 => ?_)
  · have h := ite_f c4 h
    refine lv_aload_n hx hb dX11_putRight_12 rfl (lv_at hl 0 rfl) ?_
    refine lv_iload_n hx hb dX11_putRight_13 rfl (lv_at hl 1 rfl) ?_
    refine q_iconst hx hb dX11_putRight_14 ?_
    refine call_V hexR F (kX11_askedPlate h) 2 tw7_96 tw1_8 tw7_95 tws4_3 tw7_93 hdX11_askedPlate ⟨Nat.le_trans (by decide) hR.1, Nat.le_trans (by decide) hR.2⟩ (hw.recv (k := 0) (i := 0) ⟨rfl, Or.inl rfl⟩ rfl rfl) hA hw hS rfl hl.1 rfl (Nat.le_of_ble_eq_true rfl) dX11_putRight_15 (fun v5 μ6 H locs h hw hS => ?_)
    refine lv_istore_n (lv' := [(3, .int (iI v5)), (0, .ref (ad 0 0)), (1, .int (iI x1)), (2, .int (iI x2))]) hx hb dX11_putRight_18 rfl hl (by decide) rfl (fun ls hl => ?_)
    refine lv_iload_n hx hb dX11_putRight_19 rfl (lv_at hl 0 rfl) ?_
    obtain ⟨g7, h⟩ := h
    refine q_if_ge (tgt := 25) hx hb g7 dX11_putRight_20 (by decide) (fun c8 => ?_) (fun c8 => ?_)
    · have h := ite_t c8 h
      refine lv_aload_n hx hb dX11_putRight_25 rfl (lv_at hl 1 rfl) ?_
      refine gR_hung F hw tw5_173 dX11_putRight_26 ?_
      refine q_iconst hx hb dX11_putRight_29 ?_
      refine lv_iload_n hx hb dX11_putRight_30 rfl (lv_at hl 2 rfl) ?_
      refine q_imul hx hb dX11_putRight_31 ?_
      obtain ⟨g9, h⟩ := h
      obtain ⟨g10, h⟩ := h
      refine aR_ild (L := 8) hx hb hw 34 rfl rfl (by decide) g9 g10 dX11_putRight_32 ?_
      obtain ⟨y11, ey11⟩ : ∃ z : Int, z = μ6 35 0 (2 * x1) := ⟨_, rfl⟩
      have h := h y11 ey11
      refine q_nmI ey11 ?_
      refine lv_istore (lv' := [(4, .int (iI y11)), (3, .int (iI v5)), (0, .ref (ad 0 0)), (1, .int (iI x1)), (2, .int (iI x2))]) hx hb dX11_putRight_33 hl (by decide) rfl (fun ls hl => ?_)
      refine lv_aload_n hx hb dX11_putRight_35 rfl (lv_at hl 2 rfl) ?_
      refine gR_many F hw tw5_150 dX11_putRight_36 ?_
      refine lv_iload hx hb dX11_putRight_39 (lv_at hl 0 rfl) ?_
      obtain ⟨g12, h⟩ := h
      obtain ⟨g13, h⟩ := h
      refine aR_ild (L := 16) hx hb hw 11 rfl rfl (by decide) g12 g13 dX11_putRight_41 ?_
      refine q_bipush hx hb (by decide) dX11_putRight_42 ?_
      obtain ⟨g14, h⟩ := h
      refine q_icmp_eq (tgt := 53) hx hb g14 (by decide) dX11_putRight_44 (by decide) (fun c15 => ?_) (fun c15 => ?_)
      · have h := ite_t c15 h
        refine q_bipush hx hb (by decide) dX11_putRight_53 ?_
        refine lv_iload_n hx hb dX11_putRight_55 rfl (lv_at hl 4 rfl) ?_
        refine q_iconst hx hb dX11_putRight_56 ?_
        refine q_isub hx hb dX11_putRight_57 ?_
        refine q_imul hx hb dX11_putRight_58 ?_
        obtain ⟨y16, ey16⟩ : ∃ z : Int, z = 13 * (x2 - 1) := ⟨_, rfl⟩
        have h := h y16 ey16
        refine q_nmI ey16 ?_
        refine lv_istore (lv' := [(5, .int (iI y16)), (4, .int (iI y11)), (3, .int (iI v5)), (0, .ref (ad 0 0)), (1, .int (iI x1)), (2, .int (iI x2))]) hx hb dX11_putRight_59 hl (by decide) rfl (fun ls hl => ?_)
        refine q_iconst hx hb dX11_putRight_61 ?_
        refine lv_istore (lv' := [(6, .int (iI 0)), (5, .int (iI y16)), (4, .int (iI y11)), (3, .int (iI v5)), (0, .ref (ad 0 0)), (1, .int (iI x1)), (2, .int (iI x2))]) hx hb dX11_putRight_62 hl (by decide) rfl (fun ls hl => ?_)
        obtain ⟨n17, h⟩ := h
        exact wX11_putRight_L64 F hA hR ret n17 x1 y11 y16 0 _ _ _ _ h hw hS (lv_sub hl [4, 5, 2, 1, 0] rfl)
      · have h := ite_f c15 h
        refine lv_aload_n hx hb dX11_putRight_47 rfl (lv_at hl 2 rfl) ?_
        refine q_iconst hx hb dX11_putRight_48 ?_
        refine call_V hexR F (kX11_meets h) 1 tw6_81 tw1_8 tw6_80 tws2_10 tw6_78 hdX11_meets ⟨Nat.le_trans (by decide) hR.1, Nat.le_trans (by decide) hR.2⟩ (hw.recv (k := 0) (i := 0) ⟨rfl, Or.inl rfl⟩ rfl rfl) hA hw hS rfl hl.1 rfl (Nat.le_of_ble_eq_true rfl) dX11_putRight_49 (fun v18 μ19 H locs h hw hS => ?_)
        exact ret _ _ _ _ _ _ h hw hS dX11_putRight_52
    · have h := ite_f c8 h
      refine lv_iload_n hx hb dX11_putRight_23 rfl (lv_at hl 0 rfl) ?_
      exact ret _ _ _ _ _ _ h hw hS dX11_putRight_24
  · have h := ite_t c4 h
    refine q_iconst hx hb dX11_putRight_10 ?_
    exact ret _ _ _ _ _ _ h hw hS dX11_putRight_11
set_option maxRecDepth 100000 in
set_option maxHeartbeats 4000000 in
theorem kX11_putRight {l : Launch} {D : va_G} {cy : Nat → ClassId} {ad : AD} {A : Nat → Prop} {x1 : Int} {x2 : Int} {μ : MM} {Q : Int → MM → Prop} (h : wpX11_putRight x1 x2 μ Q) : Met l yX11_putRight (Cond.code yX11_putRight cX11_putRight 11 (some .int) :: uw) (rmm 5 109) (wPc [.ref (ad 0 0), .int (iI x1), .int (iI x2)] dmR cfR tyR exR D cy ad A μ) (wQ vI Q dmR cfR D cy ad A) 0 0 A :=
  met_of (by decide) (Nat.le_of_ble_eq_true rfl) (fun p e R s m args below meth c ls hr hk hRR F hA hw hS hl => wX11_putRight F hA (by subst hRR; exact ⟨Nat.le_refl _, Nat.le_refl _⟩) (retI_of F hr hk) h hw hS hl)
theorem hdX11_putRight : yX11_putRight.cls ≠ "java/lang/invoke/MethodHandle" ∧ yX11_putRight.cls ≠ "java/lang/invoke/VarHandle" ∧ (parseMethodDescriptor yX11_putRight.desc).map (fun d => d.parameters.length) = some 2 := by decide +kernel
end
