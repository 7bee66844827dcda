section
variable {p : Program} {l : Launch} {e : Env} {R : Room} {s : State} {m : MethodId} {args : Array Value} {below : List Frame} {meth : Method} {c : Code} {Qf : State → Prop} {D : va_G} {cy : Nat → ClassId} {ad : AD} {A : Nat → Prop}
def wpX11_isFault (x0 : Int) (x1 : Int) (x2 : Int) (μ : MM) (Q : Int → MM → Prop) : Prop := rg x0 ∧ (if x0 = 0 then (Q 1 μ) else (if x0 = 1 then (wpX11_in x1 1 11 μ (fun v4 μ5 => if v4 = 0 then (Q 0 μ5) else (wpX11_in x2 0 47 μ5 (fun v8 μ9 => if v8 = 0 then (Q 0 μ9) else (Q 1 μ9))))) else (if x0 = 2 then (wpX11_in x1 1 12 μ (fun v13 μ14 => if v13 = 0 then (Q 0 μ14) else (wpX11_in x2 0 24 μ14 (fun v17 μ18 => if v17 = 0 then (Q 0 μ18) else (Q 1 μ18))))) else (if x0 = 3 then (wpX11_in x1 1 11 μ (fun v22 μ23 => Q v22 μ23)) else (if x0 = 4 then (wpX11_in x1 0 47 μ (fun v26 μ27 => if v26 = 0 then (Q 0 μ27) else (wpX11_in x2 x1 47 μ27 (fun v30 μ31 => if v30 = 0 then (Q 0 μ31) else (Q 1 μ31))))) else (Q 0 μ))))))
set_option maxRecDepth 100000 in
set_option maxHeartbeats 4000000 in
theorem wX11_isFault {Q : Int → MM → Prop} {x0 : Int} {x1 : Int} {x2 : Int} {μ : MM} {H : Heap} {locs : List Loc} {ls : Array Slot} (F : CallFix p m c cX11_isFault 3 s args uw RX11) (hA : ∀ q : Nat, s.heap.size ≤ q → A q) (hR : 1 ≤ R.frames ∧ 22 ≤ R.locals) (ret : RetZ p l e R s m args below meth c cX11_isFault Qf dmR cfR tyR exR D cy ad A Q) (h : wpX11_isFault x0 x1 x2 μ Q) (hw : wdR D cy ad A μ s H) (hS : va_S A s.heap H locs) (hl : lv_has ls 3 [(0, .int (iI x0)), (1, .int (iI x1)), (2, .int (iI x2))]) : W p l e R s m args below meth c H locs 0 0 Qf (F0 m 0 ls []) := by
  have hx := F.1
  have hb := F.2.1
  have hown := F.2.2.2.1
  have hts := F.2.2.2.2
  refine lv_iload_n hx hb dX11_isFault_0 rfl (lv_at hl 0 rfl) ?_
  obtain ⟨g1, h⟩ := h
  by_cases c2 : x0 = 0
  · have h := ite_t c2 h
    refine q_tswIn (tgt := 32) hx hb g1 dX11_isFault_1 0 (by rw [c2]; decide) (by decide) rfl (by decide) ?_
    refine q_iconst hx hb dX11_isFault_32 ?_
    exact ret _ _ _ _ _ _ (Or.inr rfl) h hw hS dX11_isFault_33
  · have h := ite_f c2 h
    by_cases c3 : x0 = 1
    · have h := ite_t c3 h
      refine q_tswIn (tgt := 34) hx hb g1 dX11_isFault_1 1 (by rw [c3]; decide) (by decide) rfl (by decide) ?_
      refine lv_iload_n hx hb dX11_isFault_34 rfl (lv_at hl 1 rfl) ?_
      refine q_iconst hx hb dX11_isFault_35 ?_
      refine q_bipush hx hb (by decide) dX11_isFault_36 ?_
      refine call_S hexR F (kX11_in h) 3 tw6_77 tw1_8 tw6_76 tw6_75 hdX11_in ⟨Nat.le_trans (by decide) hR.1, Nat.le_trans (by decide) hR.2⟩ hA hw hS rfl hl.1 rfl (Nat.le_of_ble_eq_true rfl) dX11_isFault_38 (fun v4 μ5 H locs h hw hS => ?_)
      obtain ⟨z6, h⟩ := h
      refine q_if_eq (tgt := 58) hx hb (rgB z6) dX11_isFault_41 (by decide) (fun c7 => ?_) (fun c7 => ?_)
      · have h := ite_t c7 h
        refine q_iconst hx hb dX11_isFault_58 ?_
        exact ret _ _ _ _ _ _ (Or.inl rfl) h hw hS dX11_isFault_59
      · have h := ite_f c7 h
        refine lv_iload_n hx hb dX11_isFault_44 rfl (lv_at hl 2 rfl) ?_
        refine q_iconst hx hb dX11_isFault_45 ?_
        refine q_bipush hx hb (by decide) dX11_isFault_46 ?_
        refine call_S hexR F (kX11_in h) 3 tw6_77 tw1_8 tw6_76 tw6_75 hdX11_in ⟨Nat.le_trans (by decide) hR.1, Nat.le_trans (by decide) hR.2⟩ hA hw hS rfl hl.1 rfl (Nat.le_of_ble_eq_true rfl) dX11_isFault_48 (fun v8 μ9 H locs h hw hS => ?_)
        obtain ⟨z10, h⟩ := h
        refine q_if_eq (tgt := 58) hx hb (rgB z10) dX11_isFault_51 (by decide) (fun c11 => ?_) (fun c11 => ?_)
        · have h := ite_t c11 h
          refine q_iconst hx hb dX11_isFault_58 ?_
          exact ret _ _ _ _ _ _ (Or.inl rfl) h hw hS dX11_isFault_59
        · have h := ite_f c11 h
          refine q_iconst hx hb dX11_isFault_54 ?_
          refine lv_goto (tgt := 59) hx hb dX11_isFault_55 (by decide) ?_
          exact ret _ _ _ _ _ _ (Or.inr rfl) h hw hS dX11_isFault_59
    · have h := ite_f c3 h
      by_cases c12 : x0 = 2
      · have h := ite_t c12 h
        refine q_tswIn (tgt := 60) hx hb g1 dX11_isFault_1 2 (by rw [c12]; decide) (by decide) rfl (by decide) ?_
        refine lv_iload_n hx hb dX11_isFault_60 rfl (lv_at hl 1 rfl) ?_
        refine q_iconst hx hb dX11_isFault_61 ?_
        refine q_bipush hx hb (by decide) dX11_isFault_62 ?_
        refine call_S hexR F (kX11_in h) 3 tw6_77 tw1_8 tw6_76 tw6_75 hdX11_in ⟨Nat.le_trans (by decide) hR.1, Nat.le_trans (by decide) hR.2⟩ hA hw hS rfl hl.1 rfl (Nat.le_of_ble_eq_true rfl) dX11_isFault_64 (fun v13 μ14 H locs h hw hS => ?_)
        obtain ⟨z15, h⟩ := h
        refine q_if_eq (tgt := 84) hx hb (rgB z15) dX11_isFault_67 (by decide) (fun c16 => ?_) (fun c16 => ?_)
        · have h := ite_t c16 h
          refine q_iconst hx hb dX11_isFault_84 ?_
          exact ret _ _ _ _ _ _ (Or.inl rfl) h hw hS dX11_isFault_85
        · have h := ite_f c16 h
          refine lv_iload_n hx hb dX11_isFault_70 rfl (lv_at hl 2 rfl) ?_
          refine q_iconst hx hb dX11_isFault_71 ?_
          refine q_bipush hx hb (by decide) dX11_isFault_72 ?_
          refine call_S hexR F (kX11_in h) 3 tw6_77 tw1_8 tw6_76 tw6_75 hdX11_in ⟨Nat.le_trans (by decide) hR.1, Nat.le_trans (by decide) hR.2⟩ hA hw hS rfl hl.1 rfl (Nat.le_of_ble_eq_true rfl) dX11_isFault_74 (fun v17 μ18 H locs h hw hS => ?_)
          obtain ⟨z19, h⟩ := h
          refine q_if_eq (tgt := 84) hx hb (rgB z19) dX11_isFault_77 (by decide) (fun c20 => ?_) (fun c20 => ?_)
          · have h := ite_t c20 h
            refine q_iconst hx hb dX11_isFault_84 ?_
            exact ret _ _ _ _ _ _ (Or.inl rfl) h hw hS dX11_isFault_85
          · have h := ite_f c20 h
            refine q_iconst hx hb dX11_isFault_80 ?_
            refine lv_goto (tgt := 85) hx hb dX11_isFault_81 (by decide) ?_
            exact ret _ _ _ _ _ _ (Or.inr rfl) h hw hS dX11_isFault_85
      · have h := ite_f c12 h
        by_cases c21 : x0 = 3
        · have h := ite_t c21 h
          refine q_tswIn (tgt := 86) hx hb g1 dX11_isFault_1 3 (by rw [c21]; decide) (by decide) rfl (by decide) ?_
          refine lv_iload_n hx hb dX11_isFault_86 rfl (lv_at hl 1 rfl) ?_
          refine q_iconst hx hb dX11_isFault_87 ?_
          refine q_bipush hx hb (by decide) dX11_isFault_88 ?_
          refine call_S hexR F (kX11_in h) 3 tw6_77 tw1_8 tw6_76 tw6_75 hdX11_in ⟨Nat.le_trans (by decide) hR.1, Nat.le_trans (by decide) hR.2⟩ hA hw hS rfl hl.1 rfl (Nat.le_of_ble_eq_true rfl) dX11_isFault_90 (fun v22 μ23 H locs h hw hS => ?_)
          obtain ⟨z24, h⟩ := h
          exact ret _ _ _ _ _ _ z24 h hw hS dX11_isFault_93
        · have h := ite_f c21 h
          refine q_tswOut (tgt := 94) hx hb g1 dX11_isFault_1 (by omega) (by decide) ?_
          refine lv_iload_n hx hb dX11_isFault_94 rfl (lv_at hl 0 rfl) ?_
          refine q_iconst hx hb dX11_isFault_95 ?_
          refine q_icmp_ne (tgt := 123) hx hb g1 (by decide) dX11_isFault_96 (by decide) (fun c25 => ?_) (fun c25 => ?_)
          · have h := ite_f c25 h
            refine q_iconst hx hb dX11_isFault_123 ?_
            exact ret _ _ _ _ _ _ (Or.inl rfl) h hw hS dX11_isFault_124
          · have h := ite_t c25 h
            refine lv_iload_n hx hb dX11_isFault_99 rfl (lv_at hl 1 rfl) ?_
            refine q_iconst hx hb dX11_isFault_100 ?_
            refine q_bipush hx hb (by decide) dX11_isFault_101 ?_
            refine call_S hexR F (kX11_in h) 3 tw6_77 tw1_8 tw6_76 tw6_75 hdX11_in ⟨Nat.le_trans (by decide) hR.1, Nat.le_trans (by decide) hR.2⟩ hA hw hS rfl hl.1 rfl (Nat.le_of_ble_eq_true rfl) dX11_isFault_103 (fun v26 μ27 H locs h hw hS => ?_)
            obtain ⟨z28, h⟩ := h
            refine q_if_eq (tgt := 123) hx hb (rgB z28) dX11_isFault_106 (by decide) (fun c29 => ?_) (fun c29 => ?_)
            · have h := ite_t c29 h
              refine q_iconst hx hb dX11_isFault_123 ?_
              exact ret _ _ _ _ _ _ (Or.inl rfl) h hw hS dX11_isFault_124
            · have h := ite_f c29 h
              refine lv_iload_n hx hb dX11_isFault_109 rfl (lv_at hl 2 rfl) ?_
              refine lv_iload_n hx hb dX11_isFault_110 rfl (lv_at hl 1 rfl) ?_
              refine q_bipush hx hb (by decide) dX11_isFault_111 ?_
              refine call_S hexR F (kX11_in h) 3 tw6_77 tw1_8 tw6_76 tw6_75 hdX11_in ⟨Nat.le_trans (by decide) hR.1, Nat.le_trans (by decide) hR.2⟩ hA hw hS rfl hl.1 rfl (Nat.le_of_ble_eq_true rfl) dX11_isFault_113 (fun v30 μ31 H locs h hw hS => ?_)
              obtain ⟨z32, h⟩ := h
              refine q_if_eq (tgt := 123) hx hb (rgB z32) dX11_isFault_116 (by decide) (fun c33 => ?_) (fun c33 => ?_)
              · have h := ite_t c33 h
                refine q_iconst hx hb dX11_isFault_123 ?_
                exact ret _ _ _ _ _ _ (Or.inl rfl) h hw hS dX11_isFault_124
              · have h := ite_f c33 h
                refine q_iconst hx hb dX11_isFault_119 ?_
                refine lv_goto (tgt := 124) hx hb dX11_isFault_120 (by decide) ?_
                exact ret _ _ _ _ _ _ (Or.inr rfl) h hw hS dX11_isFault_124
set_option maxRecDepth 100000 in
set_option maxHeartbeats 4000000 in
theorem kX11_isFault {l : Launch} {D : va_G} {cy : Nat → ClassId} {ad : AD} {A : Nat → Prop} {x0 : Int} {x1 : Int} {x2 : Int} {μ : MM} {Q : Int → MM → Prop} (h : wpX11_isFault x0 x1 x2 μ Q) : Met l yX11_isFault (Cond.code yX11_isFault cX11_isFault 3 (some .boolean) :: uw) (rmm 1 22) (wPc [.int (iI x0), .int (iI x1), .int (iI x2)] dmR cfR tyR exR D cy ad A μ) (wQ vI (fun v u => (v = 0 ∨ v = 1) ∧ Q v u) dmR cfR D cy ad A) 0 0 A :=
  met_of (by decide) (Nat.le_of_ble_eq_true rfl) (fun p e R s m args below meth c ls hr hk hRR F hA hw hS hl => wX11_isFault F hA (by subst hRR; exact ⟨Nat.le_refl _, Nat.le_refl _⟩) (retZ2_of F hr hk) h hw hS hl)
theorem hdX11_isFault : yX11_isFault.cls ≠ "java/lang/invoke/MethodHandle" ∧ yX11_isFault.cls ≠ "java/lang/invoke/VarHandle" ∧ (parseMethodDescriptor yX11_isFault.desc).map (fun d => d.parameters.length) = some 3 := by decide +kernel
def wpX11_due (x1 : Int) (x2 : Int) (x3 : Int) (x4 : Int) (x5 : Int) (μ : MM) (Q : Int → MM → Prop) : Prop := wpX11_in x1 1 12 μ (fun v1 μ2 => if v1 = 0 then (Q (-1) μ2) else (wpX11_in x2 0 47 μ2 (fun v5 μ6 => if v5 = 0 then (Q (-1) μ6) else (wpX11_isFault x3 x4 x5 μ6 (fun v9 μ10 => if v9 = 0 then (Q (-1) μ10) else (wpX11_dueAt x1 x2 x3 x4 x5 μ10 (fun v13 μ14 => Q v13 μ14)))))))
set_option maxRecDepth 100000 in
set_option maxHeartbeats 4000000 in
theorem wX11_due {Q : Int → MM → Prop} {x1 : Int} {x2 : Int} {x3 : Int} {x4 : Int} {x5 : Int} {μ : MM} {H : Heap} {locs : List Loc} {ls : Array Slot} (F : CallFix p m c cX11_due 6 s args uw RX11) (hA : ∀ q : Nat, s.heap.size ≤ q → A q) (hR : 2 ≤ R.frames ∧ 47 ≤ R.locals) (ret : RetI p l e R s m args below meth c cX11_due Qf dmR cfR tyR exR D cy ad A Q) (h : wpX11_due x1 x2 x3 x4 x5 μ Q) (hw : wdR D cy ad A μ s H) (hS : va_S A s.heap H locs) (hl : lv_has ls 6 [(0, .ref (ad 0 0)), (1, .int (iI x1)), (2, .int (iI x2)), (3, .int (iI x3)), (4, .int (iI x4)), (5, .int (iI x5))]) : W p l e R s m args below meth c H locs 0 0 Qf (F0 m 0 ls []) := by
  have hx := F.1
  have hb := F.2.1
  have hown := F.2.2.2.1
  have hts := F.2.2.2.2
  refine lv_iload_n hx hb dX11_due_0 rfl (lv_at hl 1 rfl) ?_
  refine q_iconst hx hb dX11_due_1 ?_
  refine q_bipush hx hb (by decide) dX11_due_2 ?_
  refine call_S hexR F (kX11_in h) 3 tw6_77 tw1_8 tw6_76 tw6_75 hdX11_in ⟨Nat.le_trans (by decide) hR.1, Nat.le_trans (by decide) hR.2⟩ hA hw hS rfl hl.1 rfl (Nat.le_of_ble_eq_true rfl) dX11_due_4 (fun v1 μ2 H locs h hw hS => ?_)
  obtain ⟨z3, h⟩ := h
  refine q_if_eq (tgt := 44) hx hb (rgB z3) dX11_due_7 (by decide) (fun c4 => ?_) (fun c4 => ?_)
  · have h := ite_t c4 h
    refine q_iconst hx hb dX11_due_44 ?_
    exact ret _ _ _ _ _ _ h hw hS dX11_due_45
  · have h := ite_f c4 h
    refine lv_iload_n hx hb dX11_due_10 rfl (lv_at hl 2 rfl) ?_
    refine q_iconst hx hb dX11_due_11 ?_
    refine q_bipush hx hb (by decide) dX11_due_12 ?_
    refine call_S hexR F (kX11_in h) 3 tw6_77 tw1_8 tw6_76 tw6_75 hdX11_in ⟨Nat.le_trans (by decide) hR.1, Nat.le_trans (by decide) hR.2⟩ hA hw hS rfl hl.1 rfl (Nat.le_of_ble_eq_true rfl) dX11_due_14 (fun v5 μ6 H locs h hw hS => ?_)
    obtain ⟨z7, h⟩ := h
    refine q_if_eq (tgt := 44) hx hb (rgB z7) dX11_due_17 (by decide) (fun c8 => ?_) (fun c8 => ?_)
    · have h := ite_t c8 h
      refine q_iconst hx hb dX11_due_44 ?_
      exact ret _ _ _ _ _ _ h hw hS dX11_due_45
    · have h := ite_f c8 h
      refine lv_iload_n hx hb dX11_due_20 rfl (lv_at hl 3 rfl) ?_
      refine lv_iload hx hb dX11_due_21 (lv_at hl 4 rfl) ?_
      refine lv_iload hx hb dX11_due_23 (lv_at hl 5 rfl) ?_
      refine call_S hexR F (kX11_isFault h) 3 tw7_131 tw1_8 tw7_130 tw7_129 hdX11_isFault ⟨Nat.le_trans (by decide) hR.1, Nat.le_trans (by decide) hR.2⟩ hA hw hS rfl hl.1 rfl (Nat.le_of_ble_eq_true rfl) dX11_due_25 (fun v9 μ10 H locs h hw hS => ?_)
      obtain ⟨z11, h⟩ := h
      refine q_if_eq (tgt := 44) hx hb (rgB z11) dX11_due_28 (by decide) (fun c12 => ?_) (fun c12 => ?_)
      · have h := ite_t c12 h
        refine q_iconst hx hb dX11_due_44 ?_
        exact ret _ _ _ _ _ _ h hw hS dX11_due_45
      · have h := ite_f c12 h
        refine lv_iload_n hx hb dX11_due_31 rfl (lv_at hl 1 rfl) ?_
        refine lv_iload_n hx hb dX11_due_32 rfl (lv_at hl 2 rfl) ?_
        refine lv_iload_n hx hb dX11_due_33 rfl (lv_at hl 3 rfl) ?_
        refine lv_iload hx hb dX11_due_34 (lv_at hl 4 rfl) ?_
        refine lv_iload hx hb dX11_due_36 (lv_at hl 5 rfl) ?_
        refine call_S hexR F (kX11_dueAt h) 5 tw7_134 tw1_8 tw7_133 tw7_132 hdX11_dueAt ⟨Nat.le_trans (by decide) hR.1, Nat.le_trans (by decide) hR.2⟩ hA hw hS rfl hl.1 rfl (Nat.le_of_ble_eq_true rfl) dX11_due_38 (fun v13 μ14 H locs h hw hS => ?_)
        refine lv_goto (tgt := 45) hx hb dX11_due_41 (by decide) ?_
        exact ret _ _ _ _ _ _ h hw hS dX11_due_45
set_option maxRecDepth 100000 in
set_option maxHeartbeats 4000000 in
theorem kX11_due {l : Launch} {D : va_G} {cy : Nat → ClassId} {ad : AD} {A : Nat → Prop} {x1 : Int} {x2 : Int} {x3 : Int} {x4 : Int} {x5 : Int} {μ : MM} {Q : Int → MM → Prop} (h : wpX11_due x1 x2 x3 x4 x5 μ Q) : Met l yX11_due (Cond.code yX11_due cX11_due 6 (some .int) :: uw) (rmm 2 47) (wPc [.ref (ad 0 0), .int (iI x1), .int (iI x2), .int (iI x3), .int (iI x4), .int (iI x5)] dmR cfR tyR exR D cy ad A μ) (wQ vI Q dmR cfR D cy ad A) 0 0 A :=
  met_of (by decide) (Nat.le_of_ble_eq_true rfl) (fun p e R s m args below meth c ls hr hk hRR F hA hw hS hl => wX11_due F hA (by subst hRR; exact ⟨Nat.le_refl _, Nat.le_refl _⟩) (retI_of F hr hk) h hw hS hl)
theorem hdX11_due : yX11_due.cls ≠ "java/lang/invoke/MethodHandle" ∧ yX11_due.cls ≠ "java/lang/invoke/VarHandle" ∧ (parseMethodDescriptor yX11_due.desc).map (fun d => d.parameters.length) = some 5 := by decide +kernel
def wpX11_looked (x1 : Int) (μ : MM) (Q : Int → MM → Prop) : Prop := wpX11_isRow x1 μ (fun v1 μ2 => if v1 = 0 then (Q (-1) μ2) else (0 ≤ x1 ∧ (x1 < 8 ∧ (rg (μ2 7 0 x1) ∧ (if 0 ≤ (μ2 7 0 x1) then (Q 0 μ2) else (wpX11_meets 1 μ2 (fun v9 μ10 => Q v9 μ10)))))))
set_option maxRecDepth 100000 in
set_option maxHeartbeats 4000000 in
theorem wX11_looked {Q : Int → MM → Prop} {x1 : Int} {μ : MM} {H : Heap} {locs : List Loc} {ls : Array Slot} (F : CallFix p m c cX11_looked 2 s args uw RX11) (hA : ∀ q : Nat, s.heap.size ≤ q → A q) (hR : 2 ≤ R.frames ∧ 42 ≤ R.locals) (ret : RetI p l e R s m args below meth c cX11_looked Qf dmR cfR tyR exR D cy ad A Q) (h : wpX11_looked x1 μ Q) (hw : wdR D cy ad A μ s H) (hS : va_S A s.heap H locs) (hl : lv_has ls 2 [(0, .ref (ad 0 0)), (1, .int (iI x1))]) : W p l e R s m args below meth c H locs 0 0 Qf (F0 m 0 ls []) := by
  have hx := F.1
  have hb := F.2.1
  have hown := F.2.2.2.1
  have hts := F.2.2.2.2
  refine lv_iload_n hx hb dX11_looked_0 rfl (lv_at hl 1 rfl) ?_
  refine call_S hexR F (kX11_isRow h) 1 tw6_74 tw1_8 tw6_73 tw6_72 hdX11_isRow ⟨Nat.le_trans (by decide) hR.1, Nat.le_trans (by decide) hR.2⟩ hA hw hS rfl hl.1 rfl (Nat.le_of_ble_eq_true rfl) dX11_looked_1 (fun v1 μ2 H locs h hw hS => ?_)
  obtain ⟨z3, h⟩ := h
  refine q_if_ne (tgt := 11) hx hb (rgB z3) dX11_looked_4 (by decide) (fun c4 => ?_) (fun c4 => ?_)
  · have h := ite_f c4 h
    refine lv_aload_n hx hb dX11_looked_11 rfl (lv_at hl 0 rfl) ?_
    refine gR_sizes F hw tw5_145 dX11_looked_12 ?_
    refine lv_iload_n hx hb dX11_looked_15 rfl (lv_at hl 1 rfl) ?_
    obtain ⟨g5, h⟩ := h
    obtain ⟨g6, h⟩ := h
    refine aR_ild (L := 8) hx hb hw 6 rfl rfl (by decide) g5 g6 dX11_looked_16 ?_
    obtain ⟨g7, h⟩ := h
    refine q_if_ge (tgt := 28) hx hb g7 dX11_looked_17 (by decide) (fun c8 => ?_) (fun c8 => ?_)
    · have h := ite_t c8 h
      refine q_iconst hx hb dX11_looked_28 ?_
      exact ret _ _ _ _ _ _ h hw hS dX11_looked_29
    · have h := ite_f c8 h
      refine lv_aload_n hx hb dX11_looked_20 rfl (lv_at hl 0 rfl) ?_
      refine q_iconst hx hb dX11_looked_21 ?_
      refine call_V hexR F (kX11_meets h) 1 tw6_81 tw1_8 tw6_80 tws2_10 tw6_78 hdX11_meets ⟨Nat.le_trans (by decide) hR.1, Nat.le_trans (by decide) hR.2⟩ (hw.recv (k := 0) (i := 0) ⟨rfl, Or.inl rfl⟩ rfl rfl) hA hw hS rfl hl.1 rfl (Nat.le_of_ble_eq_true rfl) dX11_looked_22 (fun v9 μ10 H locs h hw hS => ?_)
      refine lv_goto (tgt := 29) hx hb dX11_looked_25 (by decide) ?_
      exact ret _ _ _ _ _ _ h hw hS dX11_looked_29
  · have h := ite_t c4 h
    refine q_iconst hx hb dX11_looked_7 ?_
    refine lv_goto (tgt := 29) hx hb dX11_looked_8 (by decide) ?_
    exact ret _ _ _ _ _ _ h hw hS dX11_looked_29
set_option maxRecDepth 100000 in
set_option maxHeartbeats 4000000 in
theorem kX11_looked {l : Launch} {D : va_G} {cy : Nat → ClassId} {ad : AD} {A : Nat → Prop} {x1 : Int} {μ : MM} {Q : Int → MM → Prop} (h : wpX11_looked x1 μ Q) : Met l yX11_looked (Cond.code yX11_looked cX11_looked 2 (some .int) :: uw) (rmm 2 42) (wPc [.ref (ad 0 0), .int (iI x1)] dmR cfR tyR exR D cy ad A μ) (wQ vI Q dmR cfR D cy ad A) 0 0 A :=
  met_of (by decide) (Nat.le_of_ble_eq_true rfl) (fun p e R s m args below meth c ls hr hk hRR F hA hw hS hl => wX11_looked F hA (by subst hRR; exact ⟨Nat.le_refl _, Nat.le_refl _⟩) (retI_of F hr hk) h hw hS hl)
theorem hdX11_looked : yX11_looked.cls ≠ "java/lang/invoke/MethodHandle" ∧ yX11_looked.cls ≠ "java/lang/invoke/VarHandle" ∧ (parseMethodDescriptor yX11_looked.desc).map (fun d => d.parameters.length) = some 1 := by decide +kernel
def wpX11_misfitsOf_J59 (k6 : Int → Int → Int → Int → Int → Int → Int → MM → Prop) (Q : Int → MM → Prop) (x1 : Int) (x2 : Int) (x3 : Int) (x4 : Int) (x5 : Int) (x7 : Int) (t0 : Int) (t1 : Int) (μ : MM) : Prop := k6 x1 x2 x3 x4 x5 (t0 + t1) (x7 + 1) μ
set_option maxRecDepth 100000 in
set_option maxHeartbeats 4000000 in
theorem wX11_misfitsOf_J59 {k6 : Int → Int → Int → Int → Int → Int → Int → MM → Prop} {Q : Int → MM → Prop} {x1 : Int} {x2 : Int} {x3 : Int} {x4 : Int} {x5 : Int} {x7 : Int} {t0 : Int} {t1 : Int} {μ : MM} {H : Heap} {locs : List Loc} {ls : Array Slot} (F : CallFix p m c cX11_misfitsOf 9 s args uw RX11) (hA : ∀ q : Nat, s.heap.size ≤ q → A q) (hR : 2 ≤ R.frames ∧ 47 ≤ R.locals) (ret : RetI p l e R s m args below meth c cX11_misfitsOf Qf dmR cfR tyR exR D cy ad A Q) (hk6 : ∀ (x1' x2' x3' x4' x5' x6' x7' : Int) (μ' : MM) (H : Heap) (locs : List Loc) (ls : Array Slot), k6 x1' x2' x3' x4' x5' x6' x7' μ' → wdR D cy ad A μ' s H → va_S A s.heap H locs → lv_has ls 9 [(0, .ref (ad 0 0)), (1, .int (iI (x1'))), (2, .int (iI (x2'))), (3, .int (iI (x3'))), (4, .int (iI (x4'))), (5, .int (iI (x5'))), (6, .int (iI (x6'))), (7, .int (iI (x7')))] → W p l e R s m args below meth c H locs 0 0 Qf (F0 m 6 ls [])) (h : wpX11_misfitsOf_J59 k6 Q x1 x2 x3 x4 x5 x7 t0 t1 μ) (hw : wdR D cy ad A μ s H) (hS : va_S A s.heap H locs) (hl : lv_has ls 9 [(0, .ref (ad 0 0)), (1, .int (iI x1)), (2, .int (iI x2)), (3, .int (iI x3)), (4, .int (iI x4)), (5, .int (iI x5)), (7, .int (iI x7))]) : W p l e R s m args below meth c H locs 0 0 Qf (F0 m 59 ls [.int (iI t1), .int (iI t0)]) := by
  have hx := F.1
  have hb := F.2.1
  have hown := F.2.2.2.1
  have hts := F.2.2.2.2
  refine q_iadd hx hb dX11_misfitsOf_59 ?_
  refine lv_istore (lv' := [(6, .int (iI (t0 + t1))), (0, .ref (ad 0 0)), (1, .int (iI x1)), (2, .int (iI x2)), (3, .int (iI x3)), (4, .int (iI x4)), (5, .int (iI x5)), (7, .int (iI x7))]) hx hb dX11_misfitsOf_60 hl (by decide) rfl (fun ls hl => ?_)
  refine q_iinc (k := 7) (lv' := [(7, .int (iI (x7 + 1))), (6, .int (iI (t0 + t1))), (0, .ref (ad 0 0)), (1, .int (iI x1)), (2, .int (iI x2)), (3, .int (iI x3)), (4, .int (iI x4)), (5, .int (iI x5))]) hx hb dX11_misfitsOf_62 hl rfl (by decide) rfl (fun ls hl => ?_)
  refine lv_goto (tgt := 6) hx hb dX11_misfitsOf_65 (by decide) ?_
  exact hk6 x1 x2 x3 x4 x5 (t0 + t1) (x7 + 1) _ _ _ _ h hw hS (lv_sub hl [2, 3, 4, 5, 6, 7, 1, 0] rfl)
def wpX11_misfitsOf_J58 (k6 : Int → Int → Int → Int → Int → Int → Int → MM → Prop) (Q : Int → MM → Prop) (x1 : Int) (x2 : Int) (x3 : Int) (x4 : Int) (x5 : Int) (x7 : Int) (t0 : Int) (μ : MM) : Prop := wpX11_misfitsOf_J59 k6 Q x1 x2 x3 x4 x5 x7 t0 0 μ
set_option maxRecDepth 100000 in
set_option maxHeartbeats 4000000 in
theorem wX11_misfitsOf_J58 {k6 : Int → Int → Int → Int → Int → Int → Int → MM → Prop} {Q : Int → MM → Prop} {x1 : Int} {x2 : Int} {x3 : Int} {x4 : Int} {x5 : Int} {x7 : Int} {t0 : Int} {μ : MM} {H : Heap} {locs : List Loc} {ls : Array Slot} (F : CallFix p m c cX11_misfitsOf 9 s args uw RX11) (hA : ∀ q : Nat, s.heap.size ≤ q → A q) (hR : 2 ≤ R.frames ∧ 47 ≤ R.locals) (ret : RetI p l e R s m args below meth c cX11_misfitsOf Qf dmR cfR tyR exR D cy ad A Q) (hk6 : ∀ (x1' x2' x3' x4' x5' x6' x7' : Int) (μ' : MM) (H : Heap) (locs : List Loc) (ls : Array Slot), k6 x1' x2' x3' x4' x5' x6' x7' μ' → wdR D cy ad A μ' s H → va_S A s.heap H locs → lv_has ls 9 [(0, .ref (ad 0 0)), (1, .int (iI (x1'))), (2, .int (iI (x2'))), (3, .int (iI (x3'))), (4, .int (iI (x4'))), (5, .int (iI (x5'))), (6, .int (iI (x6'))), (7, .int (iI (x7')))] → W p l e R s m args below meth c H locs 0 0 Qf (F0 m 6 ls [])) (h : wpX11_misfitsOf_J58 k6 Q x1 x2 x3 x4 x5 x7 t0 μ) (hw : wdR D cy ad A μ s H) (hS : va_S A s.heap H locs) (hl : lv_has ls 9 [(0, .ref (ad 0 0)), (1, .int (iI x1)), (2, .int (iI x2)), (3, .int (iI x3)), (4, .int (iI x4)), (5, .int (iI x5)), (7, .int (iI x7))]) : W p l e R s m args below meth c H locs 0 0 Qf (F0 m 58 ls [.int (iI t0)]) := by
  have hx := F.1
  have hb := F.2.1
  have hown := F.2.2.2.1
  have hts := F.2.2.2.2
  refine q_iconst hx hb dX11_misfitsOf_58 ?_
  exact wX11_misfitsOf_J59 F hA hR ret hk6 h hw hS (lv_sub hl [0, 1, 2, 3, 4, 5, 6] rfl)
def wpX11_misfitsOf_L6 (Q : Int → MM → Prop) : Nat → Int → Int → Int → Int → Int → Int → Int → MM → Prop
  | 0, _, _, _, _, _, _, _, _ => False
  | n + 1, x1, x2, x3, x4, x5, x6, x7, μ => 0 ≤ x1 ∧ (x1 < 8 ∧ (rg x7 ∧ (rg (μ 7 0 x1) ∧ (if (μ 7 0 x1) ≤ x7 then (Q x6 μ) else (0 ≤ ((48 * x1) + x7) ∧ ((48 * x1) + x7 < 384 ∧ (∀ y8 : Int, y8 = μ 8 0 ((48 * x1) + x7) → (rg y8 ∧ (if y8 < 0 then (wpX11_misfitsOf_J58 (fun x1' x2' x3' x4' x5' x6' x7' μ' => wpX11_misfitsOf_L6 Q n x1' x2' x3' x4' x5' x6' x7' μ') Q x1 x2 x3 x4 x5 x7 x6 μ) else (wpX11_dueAt x2 x7 x3 x4 x5 μ (fun v11 μ12 => rg v11 ∧ (if y8 = v11 then (wpX11_misfitsOf_J58 (fun x1' x2' x3' x4' x5' x6' x7' μ' => wpX11_misfitsOf_L6 Q n x1' x2' x3' x4' x5' x6' x7' μ') Q x1 x2 x3 x4 x5 x7 x6 μ12) else (wpX11_misfitsOf_J59 (fun x1' x2' x3' x4' x5' x6' x7' μ' => wpX11_misfitsOf_L6 Q n x1' x2' x3' x4' x5' x6' x7' μ') Q x1 x2 x3 x4 x5 x7 x6 1 μ12)))))))))))))
set_option maxRecDepth 100000 in
set_option maxHeartbeats 4000000 in
theorem wX11_misfitsOf_L6 {Q : Int → MM → Prop} (F : CallFix p m c cX11_misfitsOf 9 s args uw RX11) (hA : ∀ q : Nat, s.heap.size ≤ q → A q) (hR : 2 ≤ R.frames ∧ 47 ≤ R.locals) (ret : RetI p l e R s m args below meth c cX11_misfitsOf Qf dmR cfR tyR exR D cy ad A Q) : ∀ (n : Nat) (x1 x2 x3 x4 x5 x6 x7 : Int) (μ : MM) (H : Heap) (locs : List Loc) (ls : Array Slot), wpX11_misfitsOf_L6 Q n x1 x2 x3 x4 x5 x6 x7 μ → wdR D cy ad A μ s H → va_S A s.heap H locs → lv_has ls 9 [(0, .ref (ad 0 0)), (1, .int (iI x1)), (2, .int (iI x2)), (3, .int (iI x3)), (4, .int (iI x4)), (5, .int (iI x5)), (6, .int (iI x6)), (7, .int (iI x7))] → W p l e R s m args below meth c H locs 0 0 Qf (F0 m 6 ls []) := by
  have hx := F.1
  have hb := F.2.1
  have hown := F.2.2.2.1
  have hts := F.2.2.2.2
  intro n
  induction n with
  | zero =>
    intro x1 x2 x3 x4 x5 x6 x7 μ H locs ls h hw hS hl
    exact h.elim
  | succ n ih =>
    intro x1 x2 x3 x4 x5 x6 x7 μ H locs ls h hw hS hl
    refine lv_iload hx hb dX11_misfitsOf_6 (lv_at hl 7 rfl) ?_
    refine lv_aload_n hx hb dX11_misfitsOf_8 rfl (lv_at hl 0 rfl) ?_
    refine gR_sizes F hw tw5_145 dX11_misfitsOf_9 ?_
    refine lv_iload_n hx hb dX11_misfitsOf_12 rfl (lv_at hl 1 rfl) ?_
    obtain ⟨g1, h⟩ := h
    obtain ⟨g2, h⟩ := h
    refine aR_ild (L := 8) hx hb hw 6 rfl rfl (by decide) g1 g2 dX11_misfitsOf_13 ?_
    obtain ⟨g3, h⟩ := h
    obtain ⟨g4, h⟩ := h
    refine q_icmp_ge (tgt := 68) hx hb g3 g4 dX11_misfitsOf_14 (by decide) (fun c5 => ?_) (fun c5 => ?_)
    · have h := ite_t c5 h
      refine lv_iload hx hb dX11_misfitsOf_68 (lv_at hl 6 rfl) ?_
      exact ret _ _ _ _ _ _ h hw hS dX11_misfitsOf_70
    · have h := ite_f c5 h
      refine lv_aload_n hx hb dX11_misfitsOf_17 rfl (lv_at hl 0 rfl) ?_
      refine gR_rows F hw tw5_146 dX11_misfitsOf_18 ?_
      refine q_bipush hx hb (by decide) dX11_misfitsOf_21 ?_
      refine lv_iload_n hx hb dX11_misfitsOf_23 rfl (lv_at hl 1 rfl) ?_
      refine q_imul hx hb dX11_misfitsOf_24 ?_
      refine lv_iload hx hb dX11_misfitsOf_25 (lv_at hl 7 rfl) ?_
      refine q_iadd hx hb dX11_misfitsOf_27 ?_
      obtain ⟨g6, h⟩ := h
      obtain ⟨g7, h⟩ := h
      refine aR_ild (L := 384) hx hb hw 7 rfl rfl (by decide) g6 g7 dX11_misfitsOf_28 ?_
      obtain ⟨y8, ey8⟩ : ∃ z : Int, z = μ 8 0 ((48 * x1) + x7) := ⟨_, rfl⟩
      have h := h y8 ey8
      refine q_nmI ey8 ?_
      refine lv_istore (lv' := [(8, .int (iI y8)), (0, .ref (ad 0 0)), (1, .int (iI x1)), (2, .int (iI x2)), (3, .int (iI x3)), (4, .int (iI x4)), (5, .int (iI x5)), (6, .int (iI x6)), (7, .int (iI x7))]) hx hb dX11_misfitsOf_29 hl (by decide) rfl (fun ls hl => ?_)
      refine lv_iload hx hb dX11_misfitsOf_31 (lv_at hl 7 rfl) ?_
      refine lv_iload hx hb dX11_misfitsOf_33 (lv_at hl 0 rfl) ?_
      obtain ⟨g9, h⟩ := h
      refine q_if_lt (tgt := 58) hx hb g9 dX11_misfitsOf_35 (by decide) (fun c10 => ?_) (fun c10 => ?_)
      · have h := ite_t c10 h
        exact wX11_misfitsOf_J58 F hA hR ret (fun x1 x2 x3 x4 x5 x6 x7 => ih x1 x2 x3 x4 x5 x6 x7) h hw hS (lv_sub hl [1, 2, 3, 4, 5, 6, 8] rfl)
      · have h := ite_f c10 h
        refine lv_iload hx hb dX11_misfitsOf_38 (lv_at hl 0 rfl) ?_
        refine lv_iload_n hx hb dX11_misfitsOf_40 rfl (lv_at hl 3 rfl) ?_
        refine lv_iload hx hb dX11_misfitsOf_41 (lv_at hl 8 rfl) ?_
        refine lv_iload_n hx hb dX11_misfitsOf_43 rfl (lv_at hl 4 rfl) ?_
        refine lv_iload hx hb dX11_misfitsOf_44 (lv_at hl 5 rfl) ?_
        refine lv_iload hx hb dX11_misfitsOf_46 (lv_at hl 6 rfl) ?_
        refine call_S hexR F (kX11_dueAt h) 5 tw7_134 tw1_8 tw7_133 tw7_132 hdX11_dueAt ⟨Nat.le_trans (by decide) hR.1, Nat.le_trans (by decide) hR.2⟩ hA hw hS rfl hl.1 rfl (Nat.le_of_ble_eq_true rfl) dX11_misfitsOf_48 (fun v11 μ12 H locs h hw hS => ?_)
        obtain ⟨g13, h⟩ := h
        refine q_icmp_eq (tgt := 58) hx hb g9 g13 dX11_misfitsOf_51 (by decide) (fun c14 => ?_) (fun c14 => ?_)
        · have h := ite_t c14 h
          exact wX11_misfitsOf_J58 F hA hR ret (fun x1 x2 x3 x4 x5 x6 x7 => ih x1 x2 x3 x4 x5 x6 x7) h hw hS (lv_sub hl [1, 2, 3, 4, 5, 6, 8] rfl)
        · have h := ite_f c14 h
          refine q_iconst hx hb dX11_misfitsOf_54 ?_
          refine lv_goto (tgt := 59) hx hb dX11_misfitsOf_55 (by decide) ?_
          exact wX11_misfitsOf_J59 F hA hR ret (fun x1 x2 x3 x4 x5 x6 x7 => ih x1 x2 x3 x4 x5 x6 x7) h hw hS (lv_sub hl [1, 2, 3, 4, 5, 6, 8] rfl)
def wpX11_misfitsOf (x1 : Int) (x2 : Int) (x3 : Int) (x4 : Int) (x5 : Int) (μ : MM) (Q : Int → MM → Prop) : Prop := ∃ n1 : Nat, wpX11_misfitsOf_L6 Q n1 x1 x2 x3 x4 x5 0 0 μ
set_option maxRecDepth 100000 in
set_option maxHeartbeats 4000000 in
theorem wX11_misfitsOf {Q : Int → MM → Prop} {x1 : Int} {x2 : Int} {x3 : Int} {x4 : Int} {x5 : Int} {μ : MM} {H : Heap} {locs : List Loc} {ls : Array Slot} (F : CallFix p m c cX11_misfitsOf 9 s args uw RX11) (hA : ∀ q : Nat, s.heap.size ≤ q → A q) (hR : 2 ≤ R.frames ∧ 47 ≤ R.locals) (ret : RetI p l e R s m args below meth c cX11_misfitsOf Qf dmR cfR tyR exR D cy ad A Q) (h : wpX11_misfitsOf x1 x2 x3 x4 x5 μ Q) (hw : wdR D cy ad A μ s H) (hS : va_S A s.heap H locs) (hl : lv_has ls 9 [(0, .ref (ad 0 0)), (1, .int (iI x1)), (2, .int (iI x2)), (3, .int (iI x3)), (4, .int (iI x4)), (5, .int (iI x5))]) : W p l e R s m args below meth c H locs 0 0 Qf (F0 m 0 ls []) := by
  have hx := F.1
  have hb := F.2.1
  have hown := F.2.2.2.1
  have hts := F.2.2.2.2
  refine q_iconst hx hb dX11_misfitsOf_0 ?_
  refine lv_istore (lv' := [(6, .int (iI 0)), (0, .ref (ad 0 0)), (1, .int (iI x1)), (2, .int (iI x2)), (3, .int (iI x3)), (4, .int (iI x4)), (5, .int (iI x5))]) hx hb dX11_misfitsOf_1 hl (by decide) rfl (fun ls hl => ?_)
  refine q_iconst hx hb dX11_misfitsOf_3 ?_
  refine lv_istore (lv' := [(7, .int (iI 0)), (6, .int (iI 0)), (0, .ref (ad 0 0)), (1, .int (iI x1)), (2, .int (iI x2)), (3, .int (iI x3)), (4, .int (iI x4)), (5, .int (iI x5))]) hx hb dX11_misfitsOf_4 hl (by decide) rfl (fun ls hl => ?_)
  obtain ⟨n1, h⟩ := h
  exact wX11_misfitsOf_L6 F hA hR ret n1 x1 x2 x3 x4 x5 0 0 _ _ _ _ h hw hS (lv_sub hl [2, 3, 4, 5, 6, 7, 1, 0] rfl)
set_option maxRecDepth 100000 in
set_option maxHeartbeats 4000000 in
theorem kX11_misfitsOf {l : Launch} {D : va_G} {cy : Nat → ClassId} {ad : AD} {A : Nat → Prop} {x1 : Int} {x2 : Int} {x3 : Int} {x4 : Int} {x5 : Int} {μ : MM} {Q : Int → MM → Prop} (h : wpX11_misfitsOf x1 x2 x3 x4 x5 μ Q) : Met l yX11_misfitsOf (Cond.code yX11_misfitsOf cX11_misfitsOf 9 (some .int) :: uw) (rmm 2 47) (wPc [.ref (ad 0 0), .int (iI x1), .int (iI x2), .int (iI x3), .int (iI x4), .int (iI x5)] dmR cfR tyR exR D cy ad A μ) (wQ vI Q dmR cfR D cy ad A) 0 0 A :=
  met_of (by decide) (Nat.le_of_ble_eq_true rfl) (fun p e R s m args below meth c ls hr hk hRR F hA hw hS hl => wX11_misfitsOf F hA (by subst hRR; exact ⟨Nat.le_refl _, Nat.le_refl _⟩) (retI_of F hr hk) h hw hS hl)
theorem hdX11_misfitsOf : yX11_misfitsOf.cls ≠ "java/lang/invoke/MethodHandle" ∧ yX11_misfitsOf.cls ≠ "java/lang/invoke/VarHandle" ∧ (parseMethodDescriptor yX11_misfitsOf.desc).map (fun d => d.parameters.length) = some 5 := by decide +kernel
def wpX11_tryFault_J92 (Q : Int → MM → Prop) (t1 : Int) (μ : MM) : Prop := 0 ≤ t1 ∧ (t1 < 3 ∧ (∀ μ3 : MM, μ3 = ms μ 47 0 t1 (-9) → (Q 0 μ3)))
set_option maxRecDepth 100000 in
set_option maxHeartbeats 4000000 in
theorem wX11_tryFault_J92 {Q : Int → MM → Prop} {t1 : Int} {μ : MM} {H : Heap} {locs : List Loc} {ls : Array Slot} (F : CallFix p m c cX11_tryFault 7 s args uw RX11) (hA : ∀ q : Nat, s.heap.size ≤ q → A q) (hR : 3 ≤ R.frames ∧ 75 ≤ R.locals) (ret : RetV p l e R s m args below meth c cX11_tryFault Qf dmR cfR tyR exR D cy ad A Q) (h : wpX11_tryFault_J92 Q t1 μ) (hw : wdR D cy ad A μ s H) (hS : va_S A s.heap H locs) (hl : lv_has ls 7 []) : W p l e R s m args below meth c H locs 0 0 Qf (F0 m 92 ls [.int (iI t1), .ref (ad 47 0)]) := by
  have hx := F.1
  have hb := F.2.1
  have hown := F.2.2.2.1
  have hts := F.2.2.2.2
  refine q_bipush hx hb (by decide) dX11_tryFault_92 ?_
  refine lv_goto (tgt := 99) hx hb dX11_tryFault_94 (by decide) ?_
  obtain ⟨g1, h⟩ := h
  obtain ⟨g2, h⟩ := h
  obtain ⟨μ3, eμ3⟩ : ∃ z : MM, z = ms μ 47 0 t1 (-9) := ⟨_, rfl⟩
  have h := h μ3 eμ3
  refine aR_ist (L := 3) hx hb hw hS 46 rfl rfl (by decide) g1 g2 eμ3 dX11_tryFault_99 (fun H locs hw hS => ?_)
  exact ret _ _ _ _ _ h hw hS dX11_tryFault_100
def wpX11_tryFault_J77 (Q : Int → MM → Prop) (x3 : Int) (x5 : Int) (t1 : Int) (t2 : Int) (μ : MM) : Prop := 0 ≤ t1 ∧ (t1 < 3 ∧ (∀ μ3 : MM, μ3 = ms μ 47 0 t1 t2 → (rg x3 ∧ (if x3 = 0 then (wpX11_tryFault_J92 Q 2 μ3) else (if x3 = 3 then (wpX11_tryFault_J92 Q 2 μ3) else (∀ μ7 : MM, μ7 = ms μ3 47 0 2 x5 → (Q 0 μ7)))))))
set_option maxRecDepth 100000 in
set_option maxHeartbeats 4000000 in
theorem wX11_tryFault_J77 {Q : Int → MM → Prop} {x3 : Int} {x5 : Int} {t1 : Int} {t2 : Int} {μ : MM} {H : Heap} {locs : List Loc} {ls : Array Slot} (F : CallFix p m c cX11_tryFault 7 s args uw RX11) (hA : ∀ q : Nat, s.heap.size ≤ q → A q) (hR : 3 ≤ R.frames ∧ 75 ≤ R.locals) (ret : RetV p l e R s m args below meth c cX11_tryFault Qf dmR cfR tyR exR D cy ad A Q) (h : wpX11_tryFault_J77 Q x3 x5 t1 t2 μ) (hw : wdR D cy ad A μ s H) (hS : va_S A s.heap H locs) (hl : lv_has ls 7 [(0, .ref (ad 0 0)), (3, .int (iI x3)), (5, .int (iI x5))]) : W p l e R s m args below meth c H locs 0 0 Qf (F0 m 77 ls [.int (iI t2), .int (iI t1), .ref (ad 47 0)]) := by
  have hx := F.1
  have hb := F.2.1
  have hown := F.2.2.2.1
  have hts := F.2.2.2.2
  obtain ⟨g1, h⟩ := h
  obtain ⟨g2, h⟩ := h
  obtain ⟨μ3, eμ3⟩ : ∃ z : MM, z = ms μ 47 0 t1 t2 := ⟨_, rfl⟩
  have h := h μ3 eμ3
  refine aR_ist (L := 3) hx hb hw hS 46 rfl rfl (by decide) g1 g2 eμ3 dX11_tryFault_77 (fun H locs hw hS => ?_)
  refine lv_aload_n hx hb dX11_tryFault_78 rfl (lv_at hl 0 rfl) ?_
  refine gR_held F hw tw5_185 dX11_tryFault_79 ?_
  refine q_iconst hx hb dX11_tryFault_82 ?_
  refine lv_iload_n hx hb dX11_tryFault_83 rfl (lv_at hl 1 rfl) ?_
  obtain ⟨g4, h⟩ := h
  refine q_if_eq (tgt := 92) hx hb g4 dX11_tryFault_84 (by decide) (fun c5 => ?_) (fun c5 => ?_)
  · have h := ite_t c5 h
    exact wX11_tryFault_J92 F hA hR ret h hw hS (lv_sub hl [] rfl)
  · have h := ite_f c5 h
    refine lv_iload_n hx hb dX11_tryFault_87 rfl (lv_at hl 1 rfl) ?_
    refine q_iconst hx hb dX11_tryFault_88 ?_
    refine q_icmp_ne (tgt := 97) hx hb g4 (by decide) dX11_tryFault_89 (by decide) (fun c6 => ?_) (fun c6 => ?_)
    · have h := ite_f c6 h
      refine lv_iload hx hb dX11_tryFault_97 (lv_at hl 2 rfl) ?_
      obtain ⟨μ7, eμ7⟩ : ∃ z : MM, z = ms μ3 47 0 2 x5 := ⟨_, rfl⟩
      have h := h μ7 eμ7
      refine aR_ist (L := 3) hx hb hw hS 46 rfl rfl (by decide) (by decide) (by decide) eμ7 dX11_tryFault_99 (fun H locs hw hS => ?_)
      exact ret _ _ _ _ _ h hw hS dX11_tryFault_100
    · have h := ite_t c6 h
      exact wX11_tryFault_J92 F hA hR ret h hw hS (lv_sub hl [] rfl)
def wpX11_tryFault_J48 (Q : Int → MM → Prop) (x3 : Int) (x4 : Int) (x5 : Int) (x6 : Int) (μ : MM) : Prop := ∀ μ1 : MM, μ1 = ms μ 0 45 0 x6 → (∀ μ2 : MM, μ2 = ms μ1 47 0 0 x3 → (rg x3 ∧ (if x3 = 0 then (wpX11_tryFault_J77 Q x3 x5 1 (-9) μ2) else (wpX11_tryFault_J77 Q x3 x5 1 x4 μ2))))
set_option maxRecDepth 100000 in
set_option maxHeartbeats 4000000 in
theorem wX11_tryFault_J48 {Q : Int → MM → Prop} {x3 : Int} {x4 : Int} {x5 : Int} {x6 : Int} {μ : MM} {H : Heap} {locs : List Loc} {ls : Array Slot} (F : CallFix p m c cX11_tryFault 7 s args uw RX11) (hA : ∀ q : Nat, s.heap.size ≤ q → A q) (hR : 3 ≤ R.frames ∧ 75 ≤ R.locals) (ret : RetV p l e R s m args below meth c cX11_tryFault Qf dmR cfR tyR exR D cy ad A Q) (h : wpX11_tryFault_J48 Q x3 x4 x5 x6 μ) (hw : wdR D cy ad A μ s H) (hS : va_S A s.heap H locs) (hl : lv_has ls 7 [(0, .ref (ad 0 0)), (3, .int (iI x3)), (4, .int (iI x4)), (5, .int (iI x5)), (6, .int (iI x6))]) : W p l e R s m args below meth c H locs 0 0 Qf (F0 m 48 ls []) := by
  have hx := F.1
  have hb := F.2.1
  have hown := F.2.2.2.1
  have hts := F.2.2.2.2
  refine lv_aload_n hx hb dX11_tryFault_48 rfl (lv_at hl 0 rfl) ?_
  refine lv_iload hx hb dX11_tryFault_49 (lv_at hl 4 rfl) ?_
  obtain ⟨μ1, eμ1⟩ : ∃ z : MM, z = ms μ 0 45 0 x6 := ⟨_, rfl⟩
  have h := h μ1 eμ1
  refine pR_fewest F hw hS tw5_183 eμ1 dX11_tryFault_51 (fun H locs hw hS => ?_)
  refine lv_aload_n hx hb dX11_tryFault_54 rfl (lv_at hl 0 rfl) ?_
  refine gR_held F hw tw5_185 dX11_tryFault_55 ?_
  refine q_iconst hx hb dX11_tryFault_58 ?_
  refine lv_iload_n hx hb dX11_tryFault_59 rfl (lv_at hl 1 rfl) ?_
  obtain ⟨μ2, eμ2⟩ : ∃ z : MM, z = ms μ1 47 0 0 x3 := ⟨_, rfl⟩
  have h := h μ2 eμ2
  refine aR_ist (L := 3) hx hb hw hS 46 rfl rfl (by decide) (by decide) (by decide) eμ2 dX11_tryFault_60 (fun H locs hw hS => ?_)
  refine lv_aload_n hx hb dX11_tryFault_61 rfl (lv_at hl 0 rfl) ?_
  refine gR_held F hw tw5_185 dX11_tryFault_62 ?_
  refine q_iconst hx hb dX11_tryFault_65 ?_
  refine lv_iload_n hx hb dX11_tryFault_66 rfl (lv_at hl 1 rfl) ?_
  obtain ⟨g3, h⟩ := h
  refine q_if_ne (tgt := 75) hx hb g3 dX11_tryFault_67 (by decide) (fun c4 => ?_) (fun c4 => ?_)
  · have h := ite_f c4 h
    refine lv_iload hx hb dX11_tryFault_75 (lv_at hl 2 rfl) ?_
    exact wX11_tryFault_J77 F hA hR ret h hw hS (lv_sub hl [0, 1, 3] rfl)
  · have h := ite_t c4 h
    refine q_bipush hx hb (by decide) dX11_tryFault_70 ?_
    refine lv_goto (tgt := 77) hx hb dX11_tryFault_72 (by decide) ?_
    exact wX11_tryFault_J77 F hA hR ret h hw hS (lv_sub hl [0, 1, 3] rfl)
def wpX11_tryFault_J28 (Q : Int → MM → Prop) (x3 : Int) (x4 : Int) (x5 : Int) (x6 : Int) (t1 : Int) (t2 : Int) (μ : MM) : Prop := ∀ μ1 : MM, μ1 = ms μ 0 46 0 (t1 + t2) → (rg (μ1 0 45 0) ∧ (if (μ1 0 45 0) < 0 then (wpX11_tryFault_J48 Q x3 x4 x5 x6 μ1) else (rg x6 ∧ (if (μ1 0 45 0) ≤ x6 then (Q 0 μ1) else (wpX11_tryFault_J48 Q x3 x4 x5 x6 μ1)))))
set_option maxRecDepth 100000 in
set_option maxHeartbeats 4000000 in
theorem wX11_tryFault_J28 {Q : Int → MM → Prop} {x3 : Int} {x4 : Int} {x5 : Int} {x6 : Int} {t1 : Int} {t2 : Int} {μ : MM} {H : Heap} {locs : List Loc} {ls : Array Slot} (F : CallFix p m c cX11_tryFault 7 s args uw RX11) (hA : ∀ q : Nat, s.heap.size ≤ q → A q) (hR : 3 ≤ R.frames ∧ 75 ≤ R.locals) (ret : RetV p l e R s m args below meth c cX11_tryFault Qf dmR cfR tyR exR D cy ad A Q) (h : wpX11_tryFault_J28 Q x3 x4 x5 x6 t1 t2 μ) (hw : wdR D cy ad A μ s H) (hS : va_S A s.heap H locs) (hl : lv_has ls 7 [(0, .ref (ad 0 0)), (3, .int (iI x3)), (4, .int (iI x4)), (5, .int (iI x5)), (6, .int (iI x6))]) : W p l e R s m args below meth c H locs 0 0 Qf (F0 m 28 ls [.int (iI t2), .int (iI t1), .ref (ad 0 0)]) := by
  have hx := F.1
  have hb := F.2.1
  have hown := F.2.2.2.1
  have hts := F.2.2.2.2
  refine q_iadd hx hb dX11_tryFault_28 ?_
  obtain ⟨μ1, eμ1⟩ : ∃ z : MM, z = ms μ 0 46 0 (t1 + t2) := ⟨_, rfl⟩
  have h := h μ1 eμ1
  refine pR_without F hw hS tw5_184 eμ1 dX11_tryFault_29 (fun H locs hw hS => ?_)
  refine lv_aload_n hx hb dX11_tryFault_32 rfl (lv_at hl 0 rfl) ?_
  refine gR_fewest F hw tw5_183 dX11_tryFault_33 ?_
  obtain ⟨g2, h⟩ := h
  refine q_if_lt (tgt := 48) hx hb g2 dX11_tryFault_36 (by decide) (fun c3 => ?_) (fun c3 => ?_)
  · have h := ite_t c3 h
    exact wX11_tryFault_J48 F hA hR ret h hw hS (lv_sub hl [0, 1, 2, 3, 4] rfl)
  · have h := ite_f c3 h
    refine lv_iload hx hb dX11_tryFault_39 (lv_at hl 4 rfl) ?_
    refine lv_aload_n hx hb dX11_tryFault_41 rfl (lv_at hl 0 rfl) ?_
    refine gR_fewest F hw tw5_183 dX11_tryFault_42 ?_
    obtain ⟨g4, h⟩ := h
    refine q_icmp_ge (tgt := 100) hx hb g4 g2 dX11_tryFault_45 (by decide) (fun c5 => ?_) (fun c5 => ?_)
    · have h := ite_t c5 h
      exact ret _ _ _ _ _ h hw hS dX11_tryFault_100
    · have h := ite_f c5 h
      exact wX11_tryFault_J48 F hA hR ret h hw hS (lv_sub hl [0, 1, 2, 3, 4] rfl)
def wpX11_tryFault (x1 : Int) (x2 : Int) (x3 : Int) (x4 : Int) (x5 : Int) (μ : MM) (Q : Int → MM → Prop) : Prop := wpX11_misfitsOf x1 x2 x3 x4 x5 μ (fun v1 μ2 => rg v1 ∧ (if v1 = 0 then (wpX11_tryFault_J28 Q x3 x4 x5 v1 (μ2 0 46 0) 1 μ2) else (wpX11_tryFault_J28 Q x3 x4 x5 v1 (μ2 0 46 0) 0 μ2)))
set_option maxRecDepth 100000 in
set_option maxHeartbeats 4000000 in
theorem wX11_tryFault {Q : Int → MM → Prop} {x1 : Int} {x2 : Int} {x3 : Int} {x4 : Int} {x5 : Int} {μ : MM} {H : Heap} {locs : List Loc} {ls : Array Slot} (F : CallFix p m c cX11_tryFault 7 s args uw RX11) (hA : ∀ q : Nat, s.heap.size ≤ q → A q) (hR : 3 ≤ R.frames ∧ 75 ≤ R.locals) (ret : RetV p l e R s m args below meth c cX11_tryFault Qf dmR cfR tyR exR D cy ad A Q) (h : wpX11_tryFault x1 x2 x3 x4 x5 μ Q) (hw : wdR D cy ad A μ s H) (hS : va_S A s.heap H locs) (hl : lv_has ls 7 [(0, .ref (ad 0 0)), (1, .int (iI x1)), (2, .int (iI x2)), (3, .int (iI x3)), (4, .int (iI x4)), (5, .int (iI x5))]) : W p l e R s m args below meth c H locs 0 0 Qf (F0 m 0 ls []) := by
  have hx := F.1
  have hb := F.2.1
  have hown := F.2.2.2.1
  have hts := F.2.2.2.2
  refine lv_aload_n hx hb dX11_tryFault_0 rfl (lv_at hl 0 rfl) ?_
  refine lv_iload_n hx hb dX11_tryFault_1 rfl (lv_at hl 1 rfl) ?_
  refine lv_iload_n hx hb dX11_tryFault_2 rfl (lv_at hl 2 rfl) ?_
  refine lv_iload_n hx hb dX11_tryFault_3 rfl (lv_at hl 3 rfl) ?_
  refine lv_iload hx hb dX11_tryFault_4 (lv_at hl 4 rfl) ?_
  refine lv_iload hx hb dX11_tryFault_6 (lv_at hl 5 rfl) ?_
  refine call_V hexR F (kX11_misfitsOf h) 5 tw7_142 tw1_8 tw7_141 tws4_7 tw7_139 hdX11_misfitsOf ⟨Nat.le_trans (by decide) hR.1, Nat.le_trans (by decide) hR.2⟩ (hw.recv (k := 0) (i := 0) ⟨rfl, Or.inl rfl⟩ rfl rfl) hA hw hS rfl hl.1 rfl (Nat.le_of_ble_eq_true rfl) dX11_tryFault_8 (fun v1 μ2 H locs h hw hS => ?_)
  refine lv_istore (lv' := [(6, .int (iI v1)), (0, .ref (ad 0 0)), (1, .int (iI x1)), (2, .int (iI x2)), (3, .int (iI x3)), (4, .int (iI x4)), (5, .int (iI x5))]) hx hb dX11_tryFault_11 hl (by decide) rfl (fun ls hl => ?_)
  refine lv_aload_n hx hb dX11_tryFault_13 rfl (lv_at hl 1 rfl) ?_
  refine lv_dup hx hb dX11_tryFault_14 rfl ?_
  refine gR_without F hw tw5_184 dX11_tryFault_15 ?_
  refine lv_iload hx hb dX11_tryFault_18 (lv_at hl 0 rfl) ?_
  obtain ⟨g3, h⟩ := h
  refine q_if_ne (tgt := 27) hx hb g3 dX11_tryFault_20 (by decide) (fun c4 => ?_) (fun c4 => ?_)
  · have h := ite_f c4 h
    refine q_iconst hx hb dX11_tryFault_27 ?_
    exact wX11_tryFault_J28 F hA hR ret h hw hS (lv_sub hl [1, 4, 5, 6, 0] rfl)
  · have h := ite_t c4 h
    refine q_iconst hx hb dX11_tryFault_23 ?_
    refine lv_goto (tgt := 28) hx hb dX11_tryFault_24 (by decide) ?_
    exact wX11_tryFault_J28 F hA hR ret h hw hS (lv_sub hl [1, 4, 5, 6, 0] rfl)
set_option maxRecDepth 100000 in
set_option maxHeartbeats 4000000 in
theorem kX11_tryFault {l : Launch} {D : va_G} {cy : Nat → ClassId} {ad : AD} {A : Nat → Prop} {x1 : Int} {x2 : Int} {x3 : Int} {x4 : Int} {x5 : Int} {μ : MM} {Q : Int → MM → Prop} (h : wpX11_tryFault x1 x2 x3 x4 x5 μ Q) : Met l yX11_tryFault (Cond.code yX11_tryFault cX11_tryFault 7 none :: uw) (rmm 3 75) (wPc [.ref (ad 0 0), .int (iI x1), .int (iI x2), .int (iI x3), .int (iI x4), .int (iI x5)] dmR cfR tyR exR D cy ad A μ) (wQ vV Q dmR cfR D cy ad A) 0 0 A :=
  met_of (by decide) (Nat.le_of_ble_eq_true rfl) (fun p e R s m args below meth c ls hr hk hRR F hA hw hS hl => wX11_tryFault F hA (by subst hRR; exact ⟨Nat.le_refl _, Nat.le_refl _⟩) (retV_of F hr hk) h hw hS hl)
theorem hdX11_tryFault : yX11_tryFault.cls ≠ "java/lang/invoke/MethodHandle" ∧ yX11_tryFault.cls ≠ "java/lang/invoke/VarHandle" ∧ (parseMethodDescriptor yX11_tryFault.desc).map (fun d => d.parameters.length) = some 5 := by decide +kernel
def wpX11_tryAll_J82 (k31 : Int → Int → Int → Int → Int → MM → Prop) (k21 : Int → Int → Int → Int → MM → Prop) (k13 : Int → Int → Int → MM → Prop) (Q : Int → MM → Prop) (x1 : Int) (x2 : Int) (x3 : Int) (x4 : Int) (x5 : Int) (μ : MM) : Prop := k31 x1 x2 x3 x4 (x5 + 1) μ
set_option maxRecDepth 100000 in
set_option maxHeartbeats 4000000 in
theorem wX11_tryAll_J82 {k31 : Int → Int → Int → Int → Int → MM → Prop} {k21 : Int → Int → Int → Int → MM → Prop} {k13 : Int → Int → Int → MM → Prop} {Q : Int → MM → Prop} {x1 : Int} {x2 : Int} {x3 : Int} {x4 : Int} {x5 : Int} {μ : MM} {H : Heap} {locs : List Loc} {ls : Array Slot} (F : CallFix p m c cX11_tryAll 6 s args uw RX11) (hA : ∀ q : Nat, s.heap.size ≤ q → A q) (hR : 4 ≤ R.frames ∧ 101 ≤ R.locals) (ret : RetV p l e R s m args below meth c cX11_tryAll Qf dmR cfR tyR exR D cy ad A Q) (hk31 : ∀ (x1' x2' x3' x4' x5' : Int) (μ' : MM) (H : Heap) (locs : List Loc) (ls : Array Slot), k31 x1' x2' x3' x4' x5' μ' → wdR D cy ad A μ' s H → va_S A s.heap H locs → lv_has ls 6 [(0, .ref (ad 0 0)), (1, .int (iI (x1'))), (2, .int (iI (x2'))), (3, .int (iI (x3'))), (4, .int (iI (x4'))), (5, .int (iI (x5')))] → W p l e R s m args below meth c H locs 0 0 Qf (F0 m 31 ls [])) (hk21 : ∀ (x1' x2' x3' x4' : Int) (μ' : MM) (H : Heap) (locs : List Loc) (ls : Array Slot), k21 x1' x2' x3' x4' μ' → wdR D cy ad A μ' s H → va_S A s.heap H locs → lv_has ls 6 [(0, .ref (ad 0 0)), (1, .int (iI (x1'))), (2, .int (iI (x2'))), (3, .int (iI (x3'))), (4, .int (iI (x4')))] → W p l e R s m args below meth c H locs 0 0 Qf (F0 m 21 ls [])) (hk13 : ∀ (x1' x2' x3' : Int) (μ' : MM) (H : Heap) (locs : List Loc) (ls : Array Slot), k13 x1' x2' x3' μ' → wdR D cy ad A μ' s H → va_S A s.heap H locs → lv_has ls 6 [(0, .ref (ad 0 0)), (1, .int (iI (x1'))), (2, .int (iI (x2'))), (3, .int (iI (x3')))] → W p l e R s m args below meth c H locs 0 0 Qf (F0 m 13 ls [])) (h : wpX11_tryAll_J82 k31 k21 k13 Q x1 x2 x3 x4 x5 μ) (hw : wdR D cy ad A μ s H) (hS : va_S A s.heap H locs) (hl : lv_has ls 6 [(0, .ref (ad 0 0)), (1, .int (iI x1)), (2, .int (iI x2)), (3, .int (iI x3)), (4, .int (iI x4)), (5, .int (iI x5))]) : W p l e R s m args below meth c H locs 0 0 Qf (F0 m 82 ls []) := by
  have hx := F.1
  have hb := F.2.1
  have hown := F.2.2.2.1
  have hts := F.2.2.2.2
  refine q_iinc (k := 5) (lv' := [(5, .int (iI (x5 + 1))), (0, .ref (ad 0 0)), (1, .int (iI x1)), (2, .int (iI x2)), (3, .int (iI x3)), (4, .int (iI x4))]) hx hb dX11_tryAll_82 hl rfl (by decide) rfl (fun ls hl => ?_)
  refine lv_goto (tgt := 31) hx hb dX11_tryAll_85 (by decide) ?_
  exact hk31 x1 x2 x3 x4 (x5 + 1) _ _ _ _ h hw hS (lv_sub hl [1, 2, 3, 4, 5, 0] rfl)
def wpX11_tryAll_J71 (k31 : Int → Int → Int → Int → Int → MM → Prop) (k21 : Int → Int → Int → Int → MM → Prop) (k13 : Int → Int → Int → MM → Prop) (Q : Int → MM → Prop) (x1 : Int) (x2 : Int) (x3 : Int) (x4 : Int) (x5 : Int) (μ : MM) : Prop := wpX11_tryFault x1 x2 x3 x4 x5 μ (fun v1 μ2 => wpX11_tryAll_J82 k31 k21 k13 Q x1 x2 x3 x4 x5 μ2)
set_option maxRecDepth 100000 in
set_option maxHeartbeats 4000000 in
theorem wX11_tryAll_J71 {k31 : Int → Int → Int → Int → Int → MM → Prop} {k21 : Int → Int → Int → Int → MM → Prop} {k13 : Int → Int → Int → MM → Prop} {Q : Int → MM → Prop} {x1 : Int} {x2 : Int} {x3 : Int} {x4 : Int} {x5 : Int} {μ : MM} {H : Heap} {locs : List Loc} {ls : Array Slot} (F : CallFix p m c cX11_tryAll 6 s args uw RX11) (hA : ∀ q : Nat, s.heap.size ≤ q → A q) (hR : 4 ≤ R.frames ∧ 101 ≤ R.locals) (ret : RetV p l e R s m args below meth c cX11_tryAll Qf dmR cfR tyR exR D cy ad A Q) (hk31 : ∀ (x1' x2' x3' x4' x5' : Int) (μ' : MM) (H : Heap) (locs : List Loc) (ls : Array Slot), k31 x1' x2' x3' x4' x5' μ' → wdR D cy ad A μ' s H → va_S A s.heap H locs → lv_has ls 6 [(0, .ref (ad 0 0)), (1, .int (iI (x1'))), (2, .int (iI (x2'))), (3, .int (iI (x3'))), (4, .int (iI (x4'))), (5, .int (iI (x5')))] → W p l e R s m args below meth c H locs 0 0 Qf (F0 m 31 ls [])) (hk21 : ∀ (x1' x2' x3' x4' : Int) (μ' : MM) (H : Heap) (locs : List Loc) (ls : Array Slot), k21 x1' x2' x3' x4' μ' → wdR D cy ad A μ' s H → va_S A s.heap H locs → lv_has ls 6 [(0, .ref (ad 0 0)), (1, .int (iI (x1'))), (2, .int (iI (x2'))), (3, .int (iI (x3'))), (4, .int (iI (x4')))] → W p l e R s m args below meth c H locs 0 0 Qf (F0 m 21 ls [])) (hk13 : ∀ (x1' x2' x3' : Int) (μ' : MM) (H : Heap) (locs : List Loc) (ls : Array Slot), k13 x1' x2' x3' μ' → wdR D cy ad A μ' s H → va_S A s.heap H locs → lv_has ls 6 [(0, .ref (ad 0 0)), (1, .int (iI (x1'))), (2, .int (iI (x2'))), (3, .int (iI (x3')))] → W p l e R s m args below meth c H locs 0 0 Qf (F0 m 13 ls [])) (h : wpX11_tryAll_J71 k31 k21 k13 Q x1 x2 x3 x4 x5 μ) (hw : wdR D cy ad A μ s H) (hS : va_S A s.heap H locs) (hl : lv_has ls 6 [(0, .ref (ad 0 0)), (1, .int (iI x1)), (2, .int (iI x2)), (3, .int (iI x3)), (4, .int (iI x4)), (5, .int (iI x5))]) : W p l e R s m args below meth c H locs 0 0 Qf (F0 m 71 ls []) := by
  have hx := F.1
  have hb := F.2.1
  have hown := F.2.2.2.1
  have hts := F.2.2.2.2
  refine lv_aload_n hx hb dX11_tryAll_71 rfl (lv_at hl 0 rfl) ?_
  refine lv_iload_n hx hb dX11_tryAll_72 rfl (lv_at hl 1 rfl) ?_
  refine lv_iload_n hx hb dX11_tryAll_73 rfl (lv_at hl 2 rfl) ?_
  refine lv_iload_n hx hb dX11_tryAll_74 rfl (lv_at hl 3 rfl) ?_
  refine lv_iload hx hb dX11_tryAll_75 (lv_at hl 4 rfl) ?_
  refine lv_iload hx hb dX11_tryAll_77 (lv_at hl 5 rfl) ?_
  refine call_V hexR F (kX11_tryFault h) 5 tw7_154 tw1_8 tw7_153 tws4_9 tw7_151 hdX11_tryFault ⟨Nat.le_trans (by decide) hR.1, Nat.le_trans (by decide) hR.2⟩ (hw.recv (k := 0) (i := 0) ⟨rfl, Or.inl rfl⟩ rfl rfl) hA hw hS rfl hl.1 rfl (Nat.le_of_ble_eq_true rfl) dX11_tryAll_79 (fun v1 μ2 H locs h hw hS => ?_)
  exact wX11_tryAll_J82 F hA hR ret hk31 hk21 hk13 h hw hS (lv_sub hl [0, 1, 2, 3, 4, 5] rfl)
def wpX11_tryAll_J48 (k31 : Int → Int → Int → Int → Int → MM → Prop) (k21 : Int → Int → Int → Int → MM → Prop) (k13 : Int → Int → Int → MM → Prop) (Q : Int → MM → Prop) (x1 : Int) (x2 : Int) (x3 : Int) (x4 : Int) (x5 : Int) (t0 : Int) (t1 : Int) (μ : MM) : Prop := rg t0 ∧ (rg t1 ∧ (if t1 ≤ t0 then (k21 x1 x2 x3 (x4 + 1) μ) else (wpX11_isFault x3 x4 x5 μ (fun v4 μ5 => if v4 = 0 then (wpX11_tryAll_J82 k31 k21 k13 Q x1 x2 x3 x4 x5 μ5) else (rg x3 ∧ (if 0 < x3 then (wpX11_tryAll_J71 k31 k21 k13 Q x1 x2 x3 x4 x5 μ5) else (rg x4 ∧ (if x4 = 0 then (wpX11_tryAll_J71 k31 k21 k13 Q x1 x2 x3 x4 x5 μ5) else (wpX11_tryAll_J82 k31 k21 k13 Q x1 x2 x3 x4 x5 μ5)))))))))
set_option maxRecDepth 100000 in
set_option maxHeartbeats 4000000 in
theorem wX11_tryAll_J48 {k31 : Int → Int → Int → Int → Int → MM → Prop} {k21 : Int → Int → Int → Int → MM → Prop} {k13 : Int → Int → Int → MM → Prop} {Q : Int → MM → Prop} {x1 : Int} {x2 : Int} {x3 : Int} {x4 : Int} {x5 : Int} {t0 : Int} {t1 : Int} {μ : MM} {H : Heap} {locs : List Loc} {ls : Array Slot} (F : CallFix p m c cX11_tryAll 6 s args uw RX11) (hA : ∀ q : Nat, s.heap.size ≤ q → A q) (hR : 4 ≤ R.frames ∧ 101 ≤ R.locals) (ret : RetV p l e R s m args below meth c cX11_tryAll Qf dmR cfR tyR exR D cy ad A Q) (hk31 : ∀ (x1' x2' x3' x4' x5' : Int) (μ' : MM) (H : Heap) (locs : List Loc) (ls : Array Slot), k31 x1' x2' x3' x4' x5' μ' → wdR D cy ad A μ' s H → va_S A s.heap H locs → lv_has ls 6 [(0, .ref (ad 0 0)), (1, .int (iI (x1'))), (2, .int (iI (x2'))), (3, .int (iI (x3'))), (4, .int (iI (x4'))), (5, .int (iI (x5')))] → W p l e R s m args below meth c H locs 0 0 Qf (F0 m 31 ls [])) (hk21 : ∀ (x1' x2' x3' x4' : Int) (μ' : MM) (H : Heap) (locs : List Loc) (ls : Array Slot), k21 x1' x2' x3' x4' μ' → wdR D cy ad A μ' s H → va_S A s.heap H locs → lv_has ls 6 [(0, .ref (ad 0 0)), (1, .int (iI (x1'))), (2, .int (iI (x2'))), (3, .int (iI (x3'))), (4, .int (iI (x4')))] → W p l e R s m args below meth c H locs 0 0 Qf (F0 m 21 ls [])) (hk13 : ∀ (x1' x2' x3' : Int) (μ' : MM) (H : Heap) (locs : List Loc) (ls : Array Slot), k13 x1' x2' x3' μ' → wdR D cy ad A μ' s H → va_S A s.heap H locs → lv_has ls 6 [(0, .ref (ad 0 0)), (1, .int (iI (x1'))), (2, .int (iI (x2'))), (3, .int (iI (x3')))] → W p l e R s m args below meth c H locs 0 0 Qf (F0 m 13 ls [])) (h : wpX11_tryAll_J48 k31 k21 k13 Q x1 x2 x3 x4 x5 t0 t1 μ) (hw : wdR D cy ad A μ s H) (hS : va_S A s.heap H locs) (hl : lv_has ls 6 [(0, .ref (ad 0 0)), (1, .int (iI x1)), (2, .int (iI x2)), (3, .int (iI x3)), (4, .int (iI x4)), (5, .int (iI x5))]) : W p l e R s m args below meth c H locs 0 0 Qf (F0 m 48 ls [.int (iI t1), .int (iI t0)]) := by
  have hx := F.1
  have hb := F.2.1
  have hown := F.2.2.2.1
  have hts := F.2.2.2.2
  obtain ⟨g1, h⟩ := h
  obtain ⟨g2, h⟩ := h
  refine q_icmp_ge (tgt := 88) hx hb g1 g2 dX11_tryAll_48 (by decide) (fun c3 => ?_) (fun c3 => ?_)
  · have h := ite_t c3 h
    refine q_iinc (k := 4) (lv' := [(4, .int (iI (x4 + 1))), (0, .ref (ad 0 0)), (1, .int (iI x1)), (2, .int (iI x2)), (3, .int (iI x3)), (5, .int (iI x5))]) hx hb dX11_tryAll_88 hl rfl (by decide) rfl (fun ls hl => ?_)
    refine lv_goto (tgt := 21) hx hb dX11_tryAll_91 (by decide) ?_
    exact hk21 x1 x2 x3 (x4 + 1) _ _ _ _ h hw hS (lv_sub hl [1, 2, 3, 4, 0] rfl)
  · have h := ite_f c3 h
    refine lv_iload_n hx hb dX11_tryAll_51 rfl (lv_at hl 3 rfl) ?_
    refine lv_iload hx hb dX11_tryAll_52 (lv_at hl 4 rfl) ?_
    refine lv_iload hx hb dX11_tryAll_54 (lv_at hl 5 rfl) ?_
    refine call_S hexR F (kX11_isFault h) 3 tw7_131 tw1_8 tw7_130 tw7_129 hdX11_isFault ⟨Nat.le_trans (by decide) hR.1, Nat.le_trans (by decide) hR.2⟩ hA hw hS rfl hl.1 rfl (Nat.le_of_ble_eq_true rfl) dX11_tryAll_56 (fun v4 μ5 H locs h hw hS => ?_)
    obtain ⟨z6, h⟩ := h
    refine q_if_eq (tgt := 82) hx hb (rgB z6) dX11_tryAll_59 (by decide) (fun c7 => ?_) (fun c7 => ?_)
    · have h := ite_t c7 h
      exact wX11_tryAll_J82 F hA hR ret hk31 hk21 hk13 h hw hS (lv_sub hl [0, 1, 2, 3, 4, 5] rfl)
    · have h := ite_f c7 h
      refine lv_iload_n hx hb dX11_tryAll_62 rfl (lv_at hl 3 rfl) ?_
      obtain ⟨g8, h⟩ := h
      refine q_if_gt (tgt := 71) hx hb g8 dX11_tryAll_63 (by decide) (fun c9 => ?_) (fun c9 => ?_)
      · have h := ite_t c9 h
        exact wX11_tryAll_J71 F hA hR ret hk31 hk21 hk13 h hw hS (lv_sub hl [0, 1, 2, 3, 4, 5] rfl)
      · have h := ite_f c9 h
        refine lv_iload hx hb dX11_tryAll_66 (lv_at hl 4 rfl) ?_
        obtain ⟨g10, h⟩ := h
        refine q_if_ne (tgt := 82) hx hb g10 dX11_tryAll_68 (by decide) (fun c11 => ?_) (fun c11 => ?_)
        · have h := ite_f c11 h
          exact wX11_tryAll_J82 F hA hR ret hk31 hk21 hk13 h hw hS (lv_sub hl [0, 1, 2, 3, 4, 5] rfl)
        · have h := ite_t c11 h
          exact wX11_tryAll_J71 F hA hR ret hk31 hk21 hk13 h hw hS (lv_sub hl [0, 1, 2, 3, 4, 5] rfl)
def wpX11_tryAll_J42 (k31 : Int → Int → Int → Int → Int → MM → Prop) (k21 : Int → Int → Int → Int → MM → Prop) (k13 : Int → Int → Int → MM → Prop) (Q : Int → MM → Prop) (x1 : Int) (x2 : Int) (x3 : Int) (x4 : Int) (x5 : Int) (t0 : Int) (μ : MM) : Prop := wpX11_tryAll_J48 k31 k21 k13 Q x1 x2 x3 x4 x5 t0 1 μ
set_option maxRecDepth 100000 in
set_option maxHeartbeats 4000000 in
theorem wX11_tryAll_J42 {k31 : Int → Int → Int → Int → Int → MM → Prop} {k21 : Int → Int → Int → Int → MM → Prop} {k13 : Int → Int → Int → MM → Prop} {Q : Int → MM → Prop} {x1 : Int} {x2 : Int} {x3 : Int} {x4 : Int} {x5 : Int} {t0 : Int} {μ : MM} {H : Heap} {locs : List Loc} {ls : Array Slot} (F : CallFix p m c cX11_tryAll 6 s args uw RX11) (hA : ∀ q : Nat, s.heap.size ≤ q → A q) (hR : 4 ≤ R.frames ∧ 101 ≤ R.locals) (ret : RetV p l e R s m args below meth c cX11_tryAll Qf dmR cfR tyR exR D cy ad A Q) (hk31 : ∀ (x1' x2' x3' x4' x5' : Int) (μ' : MM) (H : Heap) (locs : List Loc) (ls : Array Slot), k31 x1' x2' x3' x4' x5' μ' → wdR D cy ad A μ' s H → va_S A s.heap H locs → lv_has ls 6 [(0, .ref (ad 0 0)), (1, .int (iI (x1'))), (2, .int (iI (x2'))), (3, .int (iI (x3'))), (4, .int (iI (x4'))), (5, .int (iI (x5')))] → W p l e R s m args below meth c H locs 0 0 Qf (F0 m 31 ls [])) (hk21 : ∀ (x1' x2' x3' x4' : Int) (μ' : MM) (H : Heap) (locs : List Loc) (ls : Array Slot), k21 x1' x2' x3' x4' μ' → wdR D cy ad A μ' s H → va_S A s.heap H locs → lv_has ls 6 [(0, .ref (ad 0 0)), (1, .int (iI (x1'))), (2, .int (iI (x2'))), (3, .int (iI (x3'))), (4, .int (iI (x4')))] → W p l e R s m args below meth c H locs 0 0 Qf (F0 m 21 ls [])) (hk13 : ∀ (x1' x2' x3' : Int) (μ' : MM) (H : Heap) (locs : List Loc) (ls : Array Slot), k13 x1' x2' x3' μ' → wdR D cy ad A μ' s H → va_S A s.heap H locs → lv_has ls 6 [(0, .ref (ad 0 0)), (1, .int (iI (x1'))), (2, .int (iI (x2'))), (3, .int (iI (x3')))] → W p l e R s m args below meth c H locs 0 0 Qf (F0 m 13 ls [])) (h : wpX11_tryAll_J42 k31 k21 k13 Q x1 x2 x3 x4 x5 t0 μ) (hw : wdR D cy ad A μ s H) (hS : va_S A s.heap H locs) (hl : lv_has ls 6 [(0, .ref (ad 0 0)), (1, .int (iI x1)), (2, .int (iI x2)), (3, .int (iI x3)), (4, .int (iI x4)), (5, .int (iI x5))]) : W p l e R s m args below meth c H locs 0 0 Qf (F0 m 42 ls [.int (iI t0)]) := by
  have hx := F.1
  have hb := F.2.1
  have hown := F.2.2.2.1
  have hts := F.2.2.2.2
  refine q_iconst hx hb dX11_tryAll_42 ?_
  refine lv_goto (tgt := 48) hx hb dX11_tryAll_43 (by decide) ?_
  exact wX11_tryAll_J48 F hA hR ret hk31 hk21 hk13 h hw hS (lv_sub hl [0, 1, 2, 3, 4, 5] rfl)
def wpX11_tryAll_L31 (k21 : Int → Int → Int → Int → MM → Prop) (k13 : Int → Int → Int → MM → Prop) (Q : Int → MM → Prop) : Nat → Int → Int → Int → Int → Int → MM → Prop
  | 0, _, _, _, _, _, _ => False
  | n + 1, x1, x2, x3, x4, x5, μ => rg x3 ∧ (if x3 = 0 then (wpX11_tryAll_J42 (fun x1' x2' x3' x4' x5' μ' => wpX11_tryAll_L31 k21 k13 Q n x1' x2' x3' x4' x5' μ') k21 k13 Q x1 x2 x3 x4 x5 x5 μ) else (if x3 = 3 then (wpX11_tryAll_J42 (fun x1' x2' x3' x4' x5' μ' => wpX11_tryAll_L31 k21 k13 Q n x1' x2' x3' x4' x5' μ') k21 k13 Q x1 x2 x3 x4 x5 x5 μ) else (wpX11_tryAll_J48 (fun x1' x2' x3' x4' x5' μ' => wpX11_tryAll_L31 k21 k13 Q n x1' x2' x3' x4' x5' μ') k21 k13 Q x1 x2 x3 x4 x5 x5 48 μ)))
set_option maxRecDepth 100000 in
set_option maxHeartbeats 4000000 in
theorem wX11_tryAll_L31 {k21 : Int → Int → Int → Int → MM → Prop} {k13 : Int → Int → Int → MM → Prop} {Q : Int → MM → Prop} (F : CallFix p m c cX11_tryAll 6 s args uw RX11) (hA : ∀ q : Nat, s.heap.size ≤ q → A q) (hR : 4 ≤ R.frames ∧ 101 ≤ R.locals) (ret : RetV p l e R s m args below meth c cX11_tryAll Qf dmR cfR tyR exR D cy ad A Q) (hk21 : ∀ (x1' x2' x3' x4' : Int) (μ' : MM) (H : Heap) (locs : List Loc) (ls : Array Slot), k21 x1' x2' x3' x4' μ' → wdR D cy ad A μ' s H → va_S A s.heap H locs → lv_has ls 6 [(0, .ref (ad 0 0)), (1, .int (iI (x1'))), (2, .int (iI (x2'))), (3, .int (iI (x3'))), (4, .int (iI (x4')))] → W p l e R s m args below meth c H locs 0 0 Qf (F0 m 21 ls [])) (hk13 : ∀ (x1' x2' x3' : Int) (μ' : MM) (H : Heap) (locs : List Loc) (ls : Array Slot), k13 x1' x2' x3' μ' → wdR D cy ad A μ' s H → va_S A s.heap H locs → lv_has ls 6 [(0, .ref (ad 0 0)), (1, .int (iI (x1'))), (2, .int (iI (x2'))), (3, .int (iI (x3')))] → W p l e R s m args below meth c H locs 0 0 Qf (F0 m 13 ls [])) : ∀ (n : Nat) (x1 x2 x3 x4 x5 : Int) (μ : MM) (H : Heap) (locs : List Loc) (ls : Array Slot), wpX11_tryAll_L31 k21 k13 Q n x1 x2 x3 x4 x5 μ → wdR D cy ad A μ s H → va_S A s.heap H locs → lv_has ls 6 [(0, .ref (ad 0 0)), (1, .int (iI x1)), (2, .int (iI x2)), (3, .int (iI x3)), (4, .int (iI x4)), (5, .int (iI x5))] → W p l e R s m args below meth c H locs 0 0 Qf (F0 m 31 ls []) := by
  have hx := F.1
  have hb := F.2.1
  have hown := F.2.2.2.1
  have hts := F.2.2.2.2
  intro n
  induction n with
  | zero =>
    intro x1 x2 x3 x4 x5 μ H locs ls h hw hS hl
    exact h.elim
  | succ n ih =>
    intro x1 x2 x3 x4 x5 μ H locs ls h hw hS hl
    refine lv_iload hx hb dX11_tryAll_31 (lv_at hl 5 rfl) ?_
    refine lv_iload_n hx hb dX11_tryAll_33 rfl (lv_at hl 3 rfl) ?_
    obtain ⟨g1, h⟩ := h
    refine q_if_eq (tgt := 42) hx hb g1 dX11_tryAll_34 (by decide) (fun c2 => ?_) (fun c2 => ?_)
    · have h := ite_t c2 h
      exact wX11_tryAll_J42 F hA hR ret (fun x1 x2 x3 x4 x5 => ih x1 x2 x3 x4 x5) hk21 hk13 h hw hS (lv_sub hl [0, 1, 2, 3, 4, 5] rfl)
    · have h := ite_f c2 h
      refine lv_iload_n hx hb dX11_tryAll_37 rfl (lv_at hl 3 rfl) ?_
      refine q_iconst hx hb dX11_tryAll_38 ?_
      refine q_icmp_ne (tgt := 46) hx hb g1 (by decide) dX11_tryAll_39 (by decide) (fun c3 => ?_) (fun c3 => ?_)
      · have h := ite_f c3 h
        refine q_bipush hx hb (by decide) dX11_tryAll_46 ?_
        exact wX11_tryAll_J48 F hA hR ret (fun x1 x2 x3 x4 x5 => ih x1 x2 x3 x4 x5) hk21 hk13 h hw hS (lv_sub hl [0, 1, 2, 3, 4, 5] rfl)
      · have h := ite_t c3 h
        exact wX11_tryAll_J42 F hA hR ret (fun x1 x2 x3 x4 x5 => ih x1 x2 x3 x4 x5) hk21 hk13 h hw hS (lv_sub hl [0, 1, 2, 3, 4, 5] rfl)
def wpX11_tryAll_L21 (k13 : Int → Int → Int → MM → Prop) (Q : Int → MM → Prop) : Nat → Int → Int → Int → Int → MM → Prop
  | 0, _, _, _, _, _ => False
  | n + 1, x1, x2, x3, x4, μ => rg x4 ∧ (if 48 ≤ x4 then (k13 x1 x2 (x3 + 1) μ) else (∃ n3 : Nat, wpX11_tryAll_L31 (fun x1' x2' x3' x4' μ' => wpX11_tryAll_L21 k13 Q n x1' x2' x3' x4' μ') k13 Q n3 x1 x2 x3 x4 0 μ))
set_option maxRecDepth 100000 in
set_option maxHeartbeats 4000000 in
theorem wX11_tryAll_L21 {k13 : Int → Int → Int → MM → Prop} {Q : Int → MM → Prop} (F : CallFix p m c cX11_tryAll 6 s args uw RX11) (hA : ∀ q : Nat, s.heap.size ≤ q → A q) (hR : 4 ≤ R.frames ∧ 101 ≤ R.locals) (ret : RetV p l e R s m args below meth c cX11_tryAll Qf dmR cfR tyR exR D cy ad A Q) (hk13 : ∀ (x1' x2' x3' : Int) (μ' : MM) (H : Heap) (locs : List Loc) (ls : Array Slot), k13 x1' x2' x3' μ' → wdR D cy ad A μ' s H → va_S A s.heap H locs → lv_has ls 6 [(0, .ref (ad 0 0)), (1, .int (iI (x1'))), (2, .int (iI (x2'))), (3, .int (iI (x3')))] → W p l e R s m args below meth c H locs 0 0 Qf (F0 m 13 ls [])) : ∀ (n : Nat) (x1 x2 x3 x4 : Int) (μ : MM) (H : Heap) (locs : List Loc) (ls : Array Slot), wpX11_tryAll_L21 k13 Q n x1 x2 x3 x4 μ → wdR D cy ad A μ s H → va_S A s.heap H locs → lv_has ls 6 [(0, .ref (ad 0 0)), (1, .int (iI x1)), (2, .int (iI x2)), (3, .int (iI x3)), (4, .int (iI x4))] → W p l e R s m args below meth c H locs 0 0 Qf (F0 m 21 ls []) := by
  have hx := F.1
  have hb := F.2.1
  have hown := F.2.2.2.1
  have hts := F.2.2.2.2
  intro n
  induction n with
  | zero =>
    intro x1 x2 x3 x4 μ H locs ls h hw hS hl
    exact h.elim
  | succ n ih =>
    intro x1 x2 x3 x4 μ H locs ls h hw hS hl
    refine lv_iload hx hb dX11_tryAll_21 (lv_at hl 4 rfl) ?_
    refine q_bipush hx hb (by decide) dX11_tryAll_23 ?_
    obtain ⟨g1, h⟩ := h
    refine q_icmp_ge (tgt := 94) hx hb g1 (by decide) dX11_tryAll_25 (by decide) (fun c2 => ?_) (fun c2 => ?_)
    · have h := ite_t c2 h
      refine q_iinc (k := 3) (lv' := [(3, .int (iI (x3 + 1))), (0, .ref (ad 0 0)), (1, .int (iI x1)), (2, .int (iI x2)), (4, .int (iI x4))]) hx hb dX11_tryAll_94 hl rfl (by decide) rfl (fun ls hl => ?_)
      refine lv_goto (tgt := 13) hx hb dX11_tryAll_97 (by decide) ?_
      exact hk13 x1 x2 (x3 + 1) _ _ _ _ h hw hS (lv_sub hl [1, 2, 3, 0] rfl)
    · have h := ite_f c2 h
      refine q_iconst hx hb dX11_tryAll_28 ?_
      refine lv_istore (lv' := [(5, .int (iI 0)), (0, .ref (ad 0 0)), (1, .int (iI x1)), (2, .int (iI x2)), (3, .int (iI x3)), (4, .int (iI x4))]) hx hb dX11_tryAll_29 hl (by decide) rfl (fun ls hl => ?_)
      obtain ⟨n3, h⟩ := h
      exact wX11_tryAll_L31 F hA hR ret (fun x1 x2 x3 x4 => ih x1 x2 x3 x4) hk13 n3 x1 x2 x3 x4 0 _ _ _ _ h hw hS (lv_sub hl [1, 2, 3, 4, 5, 0] rfl)
def wpX11_tryAll_L13 (Q : Int → MM → Prop) : Nat → Int → Int → Int → MM → Prop
  | 0, _, _, _, _ => False
  | n + 1, x1, x2, x3, μ => rg x3 ∧ (if 5 ≤ x3 then (Q 0 μ) else (∃ n3 : Nat, wpX11_tryAll_L21 (fun x1' x2' x3' μ' => wpX11_tryAll_L13 Q n x1' x2' x3' μ') Q n3 x1 x2 x3 0 μ))
set_option maxRecDepth 100000 in
set_option maxHeartbeats 4000000 in
theorem wX11_tryAll_L13 {Q : Int → MM → Prop} (F : CallFix p m c cX11_tryAll 6 s args uw RX11) (hA : ∀ q : Nat, s.heap.size ≤ q → A q) (hR : 4 ≤ R.frames ∧ 101 ≤ R.locals) (ret : RetV p l e R s m args below meth c cX11_tryAll Qf dmR cfR tyR exR D cy ad A Q) : ∀ (n : Nat) (x1 x2 x3 : Int) (μ : MM) (H : Heap) (locs : List Loc) (ls : Array Slot), wpX11_tryAll_L13 Q n x1 x2 x3 μ → wdR D cy ad A μ s H → va_S A s.heap H locs → lv_has ls 6 [(0, .ref (ad 0 0)), (1, .int (iI x1)), (2, .int (iI x2)), (3, .int (iI x3))] → W p l e R s m args below meth c H locs 0 0 Qf (F0 m 13 ls []) := by
  have hx := F.1
  have hb := F.2.1
  have hown := F.2.2.2.1
  have hts := F.2.2.2.2
  intro n
  induction n with
  | zero =>
    intro x1 x2 x3 μ H locs ls h hw hS hl
    exact h.elim
  | succ n ih =>
    intro x1 x2 x3 μ H locs ls h hw hS hl
    refine lv_iload_n hx hb dX11_tryAll_13 rfl (lv_at hl 3 rfl) ?_
    refine q_iconst hx hb dX11_tryAll_14 ?_
    obtain ⟨g1, h⟩ := h
    refine q_icmp_ge (tgt := 100) hx hb g1 (by decide) dX11_tryAll_15 (by decide) (fun c2 => ?_) (fun c2 => ?_)
    · have h := ite_t c2 h
      exact ret _ _ _ _ _ h hw hS dX11_tryAll_100
    · have h := ite_f c2 h
      refine q_iconst hx hb dX11_tryAll_18 ?_
      refine lv_istore (lv' := [(4, .int (iI 0)), (0, .ref (ad 0 0)), (1, .int (iI x1)), (2, .int (iI x2)), (3, .int (iI x3))]) hx hb dX11_tryAll_19 hl (by decide) rfl (fun ls hl => ?_)
      obtain ⟨n3, h⟩ := h
      exact wX11_tryAll_L21 F hA hR ret (fun x1 x2 x3 => ih x1 x2 x3) n3 x1 x2 x3 0 _ _ _ _ h hw hS (lv_sub hl [1, 2, 3, 4, 0] rfl)
def wpX11_tryAll (x1 : Int) (x2 : Int) (μ : MM) (Q : Int → MM → Prop) : Prop := ∀ μ1 : MM, μ1 = ms μ 0 45 0 (-9) → (∀ μ2 : MM, μ2 = ms μ1 0 46 0 0 → (∃ n3 : Nat, wpX11_tryAll_L13 Q n3 x1 x2 0 μ2))
set_option maxRecDepth 100000 in
set_option maxHeartbeats 4000000 in
theorem wX11_tryAll {Q : Int → MM → Prop} {x1 : Int} {x2 : Int} {μ : MM} {H : Heap} {locs : List Loc} {ls : Array Slot} (F : CallFix p m c cX11_tryAll 6 s args uw RX11) (hA : ∀ q : Nat, s.heap.size ≤ q → A q) (hR : 4 ≤ R.frames ∧ 101 ≤ R.locals) (ret : RetV p l e R s m args below meth c cX11_tryAll Qf dmR cfR tyR exR D cy ad A Q) (h : wpX11_tryAll x1 x2 μ Q) (hw : wdR D cy ad A μ s H) (hS : va_S A s.heap H locs) (hl : lv_has ls 6 [(0, .ref (ad 0 0)), (1, .int (iI x1)), (2, .int (iI x2))]) : W p l e R s m args below meth c H locs 0 0 Qf (F0 m 0 ls []) := by
  have hx := F.1
  have hb := F.2.1
  have hown := F.2.2.2.1
  have hts := F.2.2.2.2
  refine lv_aload_n hx hb dX11_tryAll_0 rfl (lv_at hl 0 rfl) ?_
  refine q_bipush hx hb (by decide) dX11_tryAll_1 ?_
  obtain ⟨μ1, eμ1⟩ : ∃ z : MM, z = ms μ 0 45 0 (-9) := ⟨_, rfl⟩
  have h := h μ1 eμ1
  refine pR_fewest F hw hS tw5_183 eμ1 dX11_tryAll_3 (fun H locs hw hS => ?_)
  refine lv_aload_n hx hb dX11_tryAll_6 rfl (lv_at hl 0 rfl) ?_
  refine q_iconst hx hb dX11_tryAll_7 ?_
  obtain ⟨μ2, eμ2⟩ : ∃ z : MM, z = ms μ1 0 46 0 0 := ⟨_, rfl⟩
  have h := h μ2 eμ2
  refine pR_without F hw hS tw5_184 eμ2 dX11_tryAll_8 (fun H locs hw hS => ?_)
  refine q_iconst hx hb dX11_tryAll_11 ?_
  refine lv_istore_n (lv' := [(3, .int (iI 0)), (0, .ref (ad 0 0)), (1, .int (iI x1)), (2, .int (iI x2))]) hx hb dX11_tryAll_12 rfl hl (by decide) rfl (fun ls hl => ?_)
  obtain ⟨n3, h⟩ := h
  exact wX11_tryAll_L13 F hA hR ret n3 x1 x2 0 _ _ _ _ h hw hS (lv_sub hl [1, 2, 3, 0] rfl)
set_option maxRecDepth 100000 in
set_option maxHeartbeats 4000000 in
theorem kX11_tryAll {l : Launch} {D : va_G} {cy : Nat → ClassId} {ad : AD} {A : Nat → Prop} {x1 : Int} {x2 : Int} {μ : MM} {Q : Int → MM → Prop} (h : wpX11_tryAll x1 x2 μ Q) : Met l yX11_tryAll (Cond.code yX11_tryAll cX11_tryAll 6 none :: uw) (rmm 4 101) (wPc [.ref (ad 0 0), .int (iI x1), .int (iI x2)] dmR cfR tyR exR D cy ad A μ) (wQ vV Q dmR cfR D cy ad A) 0 0 A :=
  met_of (by decide) (Nat.le_of_ble_eq_true rfl) (fun p e R s m args below meth c ls hr hk hRR F hA hw hS hl => wX11_tryAll F hA (by subst hRR; exact ⟨Nat.le_refl _, Nat.le_refl _⟩) (retV_of F hr hk) h hw hS hl)
theorem hdX11_tryAll : yX11_tryAll.cls ≠ "java/lang/invoke/MethodHandle" ∧ yX11_tryAll.cls ≠ "java/lang/invoke/VarHandle" ∧ (parseMethodDescriptor yX11_tryAll.desc).map (fun d => d.parameters.length) = some 2 := by decide +kernel
end
