section
variable {p : Program} {l : Launch} {e : Env} {R : Room} {s : State} {m : MethodId} {args : Array Value} {below : List Frame} {meth : Method} {c : Code} {Qf : State → Prop} {D : va_G} {cy : Nat → ClassId} {ad : AD} {A : Nat → Prop}
def wpX10_isHour (G : GG) (x0 : Int) (μ : MM) (Q : Int → MM → Prop) : Prop := rg x0 ∧ (if x0 < 1 then (Q 0 μ) else (if 12 < x0 then (Q 0 μ) else (Q 1 μ)))
set_option maxRecDepth 100000 in
set_option maxHeartbeats 4000000 in
theorem wX10_isHour {G : GG} {Q : Int → MM → Prop} {x0 : Int} {μ : MM} {H : Heap} {locs : List Loc} {ls : Array Slot} (F : CallFix p m c cX10_isHour 1 s args uw RX10) (hA : ∀ q : Nat, s.heap.size ≤ q → A q) (hR : 0 ≤ R.frames ∧ 0 ≤ R.locals) (ret : RetZ p l e R s m args below meth c cX10_isHour Qf (dmC G) (cfC G) tyC (exC G) D cy ad A Q) (h : wpX10_isHour G x0 μ Q) (hw : wdC G D cy ad A μ s H) (hS : va_S A s.heap H locs) (hl : lv_has ls 1 [(0, .int (iI x0))]) : W p l e R s m args below meth c H locs 0 0 Qf (F0 m 0 ls []) := by
  have hx := F.1
  have hb := F.2.1
  have hown := F.2.2.2.1
  have hts := F.2.2.2.2
  refine lv_iload_n hx hb dX10_isHour_0 rfl (lv_at hl 0 rfl) ?_
  refine q_iconst hx hb dX10_isHour_1 ?_
  obtain ⟨g1, h⟩ := h
  refine q_icmp_lt (tgt := 15) hx hb g1 (by decide) dX10_isHour_2 (by decide) (fun c2 => ?_) (fun c2 => ?_)
  · have h := ite_t c2 h
    refine q_iconst hx hb dX10_isHour_15 ?_
    exact ret _ _ _ _ _ _ (Or.inl rfl) h hw hS dX10_isHour_16
  · have h := ite_f c2 h
    refine lv_iload_n hx hb dX10_isHour_5 rfl (lv_at hl 0 rfl) ?_
    refine q_bipush hx hb (by decide) dX10_isHour_6 ?_
    refine q_icmp_gt (tgt := 15) hx hb g1 (by decide) dX10_isHour_8 (by decide) (fun c3 => ?_) (fun c3 => ?_)
    · have h := ite_t c3 h
      refine q_iconst hx hb dX10_isHour_15 ?_
      exact ret _ _ _ _ _ _ (Or.inl rfl) h hw hS dX10_isHour_16
    · have h := ite_f c3 h
      refine q_iconst hx hb dX10_isHour_11 ?_
      refine lv_goto (tgt := 16) hx hb dX10_isHour_12 (by decide) ?_
      exact ret _ _ _ _ _ _ (Or.inr rfl) h hw hS dX10_isHour_16
set_option maxRecDepth 100000 in
set_option maxHeartbeats 4000000 in
theorem kX10_isHour {l : Launch} {D : va_G} {cy : Nat → ClassId} {ad : AD} {A : Nat → Prop} {G : GG} {x0 : Int} {μ : MM} {Q : Int → MM → Prop} (h : wpX10_isHour G x0 μ Q) : Met l yX10_isHour (Cond.code yX10_isHour cX10_isHour 1 (some .boolean) :: uw) (rmm 0 0) (wPc [.int (iI x0)] (dmC G) (cfC G) tyC (exC G) D cy ad A μ) (wQ vI (fun v u => (v = 0 ∨ v = 1) ∧ Q v u) (dmC G) (cfC G) D cy ad A) 0 0 A :=
  met_of (by decide) (Nat.le_of_ble_eq_true rfl) (fun p e R s m args below meth c ls hr hk hRR F hA hw hS hl => wX10_isHour F hA (by subst hRR; exact ⟨Nat.le_refl _, Nat.le_refl _⟩) (retZ2_of F hr hk) h hw hS hl)
theorem hdX10_isHour : yX10_isHour.cls ≠ "java/lang/invoke/MethodHandle" ∧ yX10_isHour.cls ≠ "java/lang/invoke/VarHandle" ∧ (parseMethodDescriptor yX10_isHour.desc).map (fun d => d.parameters.length) = some 1 := by decide +kernel
def wpX1_dueAt (G : GG) (x0 : Int) (x1 : Int) (x2 : Int) (x3 : Int) (x4 : Int) (μ : MM) (Q : Int → MM → Prop) : Prop := rg ((x0 - 1) + x1) ∧ (∀ y2 : Int, y2 = (Int.tmod ((x0 - 1) + x1) 12) + 1 → (rg x2 ∧ (if x2 = 1 then (rg x1 ∧ (rg x4 ∧ (if x4 ≤ x1 then (rg ((y2 - 1) + x3) ∧ (Q ((Int.tmod ((y2 - 1) + x3) 12) + 1) μ)) else (Q y2 μ)))) else (if x2 = 2 then (rg y2 ∧ (rg x3 ∧ (if y2 = x3 then (Q x4 μ) else (Q y2 μ)))) else (if x2 = 3 then (wpJ9_max_7cf53 G (y2 - x3) 0 μ (fun v14 μ15 => Q v14 μ15)) else (if x2 = 4 then (rg x1 ∧ (rg x3 ∧ (if x1 < x3 then (Q y2 μ) else (rg x4 ∧ (if x4 < x1 then (Q y2 μ) else (Q 0 μ)))))) else (Q y2 μ)))))))
set_option maxRecDepth 100000 in
set_option maxHeartbeats 4000000 in
theorem wX1_dueAt {G : GG} {Q : Int → MM → Prop} {x0 : Int} {x1 : Int} {x2 : Int} {x3 : Int} {x4 : Int} {μ : MM} {H : Heap} {locs : List Loc} {ls : Array Slot} (F : CallFix p m c cX1_dueAt 6 s args uw RX1) (hA : ∀ q : Nat, s.heap.size ≤ q → A q) (hR : 1 ≤ R.frames ∧ 21 ≤ R.locals) (ret : RetI p l e R s m args below meth c cX1_dueAt Qf (dmC G) (cfC G) tyC (exC G) D cy ad A Q) (h : wpX1_dueAt G x0 x1 x2 x3 x4 μ Q) (hw : wdC G D cy ad A μ s H) (hS : va_S A s.heap H locs) (hl : lv_has ls 6 [(0, .int (iI x0)), (1, .int (iI x1)), (2, .int (iI x2)), (3, .int (iI x3)), (4, .int (iI x4))]) : W p l e R s m args below meth c H locs 0 0 Qf (F0 m 0 ls []) := by
  have hx := F.1
  have hb := F.2.1
  have hown := F.2.2.2.1
  have hts := F.2.2.2.2
  refine lv_iload_n hx hb dX1_dueAt_0 rfl (lv_at hl 0 rfl) ?_
  refine q_iconst hx hb dX1_dueAt_1 ?_
  refine q_isub hx hb dX1_dueAt_2 ?_
  refine lv_iload_n hx hb dX1_dueAt_3 rfl (lv_at hl 1 rfl) ?_
  refine q_iadd hx hb dX1_dueAt_4 ?_
  refine q_bipush hx hb (by decide) dX1_dueAt_5 ?_
  obtain ⟨g1, h⟩ := h
  refine q_irem hx hb g1 (by decide) (by decide) dX1_dueAt_7 ?_
  refine q_iconst hx hb dX1_dueAt_8 ?_
  refine q_iadd hx hb dX1_dueAt_9 ?_
  obtain ⟨y2, ey2⟩ : ∃ z : Int, z = (Int.tmod ((x0 - 1) + x1) 12) + 1 := ⟨_, rfl⟩
  have h := h y2 ey2
  refine q_nmI ey2 ?_
  refine lv_istore (lv' := [(5, .int (iI y2)), (0, .int (iI x0)), (1, .int (iI x1)), (2, .int (iI x2)), (3, .int (iI x3)), (4, .int (iI x4))]) hx hb dX1_dueAt_10 hl (by decide) rfl (fun ls hl => ?_)
  refine lv_iload_n hx hb dX1_dueAt_12 rfl (lv_at hl 3 rfl) ?_
  obtain ⟨g3, h⟩ := h
  by_cases c4 : x2 = 1
  · have h := ite_t c4 h
    refine q_tswIn (tgt := 44) hx hb g3 dX1_dueAt_13 0 (by rw [c4]; decide) (by decide) rfl (by decide) ?_
    refine lv_iload_n hx hb dX1_dueAt_44 rfl (lv_at hl 2 rfl) ?_
    refine lv_iload hx hb dX1_dueAt_45 (lv_at hl 5 rfl) ?_
    obtain ⟨g5, h⟩ := h
    obtain ⟨g6, h⟩ := h
    refine q_icmp_ge (tgt := 55) hx hb g5 g6 dX1_dueAt_47 (by decide) (fun c7 => ?_) (fun c7 => ?_)
    · have h := ite_t c7 h
      refine lv_iload hx hb dX1_dueAt_55 (lv_at hl 0 rfl) ?_
      refine q_iconst hx hb dX1_dueAt_57 ?_
      refine q_isub hx hb dX1_dueAt_58 ?_
      refine lv_iload_n hx hb dX1_dueAt_59 rfl (lv_at hl 4 rfl) ?_
      refine q_iadd hx hb dX1_dueAt_60 ?_
      refine q_bipush hx hb (by decide) dX1_dueAt_61 ?_
      obtain ⟨g8, h⟩ := h
      refine q_irem hx hb g8 (by decide) (by decide) dX1_dueAt_63 ?_
      refine q_iconst hx hb dX1_dueAt_64 ?_
      refine q_iadd hx hb dX1_dueAt_65 ?_
      exact ret _ _ _ _ _ _ h hw hS dX1_dueAt_66
    · have h := ite_f c7 h
      refine lv_iload hx hb dX1_dueAt_50 (lv_at hl 0 rfl) ?_
      refine lv_goto (tgt := 66) hx hb dX1_dueAt_52 (by decide) ?_
      exact ret _ _ _ _ _ _ h hw hS dX1_dueAt_66
  · have h := ite_f c4 h
    by_cases c9 : x2 = 2
    · have h := ite_t c9 h
      refine q_tswIn (tgt := 67) hx hb g3 dX1_dueAt_13 1 (by rw [c9]; decide) (by decide) rfl (by decide) ?_
      refine lv_iload hx hb dX1_dueAt_67 (lv_at hl 0 rfl) ?_
      refine lv_iload_n hx hb dX1_dueAt_69 rfl (lv_at hl 4 rfl) ?_
      obtain ⟨g10, h⟩ := h
      obtain ⟨g11, h⟩ := h
      refine q_icmp_ne (tgt := 78) hx hb g10 g11 dX1_dueAt_70 (by decide) (fun c12 => ?_) (fun c12 => ?_)
      · have h := ite_f c12 h
        refine lv_iload hx hb dX1_dueAt_78 (lv_at hl 0 rfl) ?_
        exact ret _ _ _ _ _ _ h hw hS dX1_dueAt_80
      · have h := ite_t c12 h
        refine lv_iload hx hb dX1_dueAt_73 (lv_at hl 5 rfl) ?_
        refine lv_goto (tgt := 80) hx hb dX1_dueAt_75 (by decide) ?_
        exact ret _ _ _ _ _ _ h hw hS dX1_dueAt_80
    · have h := ite_f c9 h
      by_cases c13 : x2 = 3
      · have h := ite_t c13 h
        refine q_tswIn (tgt := 81) hx hb g3 dX1_dueAt_13 2 (by rw [c13]; decide) (by decide) rfl (by decide) ?_
        refine lv_iload hx hb dX1_dueAt_81 (lv_at hl 0 rfl) ?_
        refine lv_iload_n hx hb dX1_dueAt_83 rfl (lv_at hl 4 rfl) ?_
        refine q_isub hx hb dX1_dueAt_84 ?_
        refine q_iconst hx hb dX1_dueAt_85 ?_
        refine call_S hexC F (kJ9_max_7cf53 h) 2 tw2_167 tw1_13 tw2_166 tw4_141 hdJ9_max_7cf53 ⟨Nat.le_trans (by decide) hR.1, Nat.le_trans (by decide) hR.2⟩ hA hw hS rfl hl.1 rfl (Nat.le_of_ble_eq_true rfl) dX1_dueAt_86 (fun v14 μ15 H locs h hw hS => ?_)
        exact ret _ _ _ _ _ _ h hw hS dX1_dueAt_89
      · have h := ite_f c13 h
        by_cases c16 : x2 = 4
        · have h := ite_t c16 h
          refine q_tswIn (tgt := 90) hx hb g3 dX1_dueAt_13 3 (by rw [c16]; decide) (by decide) rfl (by decide) ?_
          refine lv_iload_n hx hb dX1_dueAt_90 rfl (lv_at hl 2 rfl) ?_
          refine lv_iload_n hx hb dX1_dueAt_91 rfl (lv_at hl 4 rfl) ?_
          obtain ⟨g17, h⟩ := h
          obtain ⟨g18, h⟩ := h
          refine q_icmp_lt (tgt := 105) hx hb g17 g18 dX1_dueAt_92 (by decide) (fun c19 => ?_) (fun c19 => ?_)
          · have h := ite_t c19 h
            refine lv_iload hx hb dX1_dueAt_105 (lv_at hl 0 rfl) ?_
            exact ret _ _ _ _ _ _ h hw hS dX1_dueAt_107
          · have h := ite_f c19 h
            refine lv_iload_n hx hb dX1_dueAt_95 rfl (lv_at hl 2 rfl) ?_
            refine lv_iload hx hb dX1_dueAt_96 (lv_at hl 5 rfl) ?_
            obtain ⟨g20, h⟩ := h
            refine q_icmp_gt (tgt := 105) hx hb g17 g20 dX1_dueAt_98 (by decide) (fun c21 => ?_) (fun c21 => ?_)
            · have h := ite_t c21 h
              refine lv_iload hx hb dX1_dueAt_105 (lv_at hl 0 rfl) ?_
              exact ret _ _ _ _ _ _ h hw hS dX1_dueAt_107
            · have h := ite_f c21 h
              refine q_iconst hx hb dX1_dueAt_101 ?_
              refine lv_goto (tgt := 107) hx hb dX1_dueAt_102 (by decide) ?_
              exact ret _ _ _ _ _ _ h hw hS dX1_dueAt_107
        · have h := ite_f c16 h
          refine q_tswOut (tgt := 108) hx hb g3 dX1_dueAt_13 (by omega) (by decide) ?_
          refine lv_iload hx hb dX1_dueAt_108 (lv_at hl 0 rfl) ?_
          exact ret _ _ _ _ _ _ h hw hS dX1_dueAt_110
set_option maxRecDepth 100000 in
set_option maxHeartbeats 4000000 in
theorem kX1_dueAt {l : Launch} {D : va_G} {cy : Nat → ClassId} {ad : AD} {A : Nat → Prop} {G : GG} {x0 : Int} {x1 : Int} {x2 : Int} {x3 : Int} {x4 : Int} {μ : MM} {Q : Int → MM → Prop} (h : wpX1_dueAt G x0 x1 x2 x3 x4 μ Q) : Met l yX1_dueAt (Cond.code yX1_dueAt cX1_dueAt 6 (some .int) :: uw) (rmm 1 21) (wPc [.int (iI x0), .int (iI x1), .int (iI x2), .int (iI x3), .int (iI x4)] (dmC G) (cfC G) tyC (exC G) D cy ad A μ) (wQ vI Q (dmC G) (cfC G) D cy ad A) 0 0 A :=
  met_of (by decide) (Nat.le_of_ble_eq_true rfl) (fun p e R s m args below meth c ls hr hk hRR F hA hw hS hl => wX1_dueAt F hA (by subst hRR; exact ⟨Nat.le_refl _, Nat.le_refl _⟩) (retI_of F hr hk) h hw hS hl)
theorem hdX1_dueAt : yX1_dueAt.cls ≠ "java/lang/invoke/MethodHandle" ∧ yX1_dueAt.cls ≠ "java/lang/invoke/VarHandle" ∧ (parseMethodDescriptor yX1_dueAt.desc).map (fun d => d.parameters.length) = some 5 := by decide +kernel
def wpX1_isFault (G : GG) (x0 : Int) (x1 : Int) (x2 : Int) (μ : MM) (Q : Int → MM → Prop) : Prop := rg x0 ∧ (if x0 = 0 then (Q 1 μ) else (if x0 = 1 then (rg x1 ∧ (if x1 < 1 then (Q 0 μ) else (if 12 ≤ x1 then (Q 0 μ) else (rg x2 ∧ (if x2 < 0 then (Q 0 μ) else (if 48 ≤ x2 then (Q 0 μ) else (Q 1 μ))))))) else (if x0 = 2 then (wpX10_isHour G x1 μ (fun v11 μ12 => if v11 = 0 then (Q 0 μ12) else (rg x2 ∧ (if x2 < 0 then (Q 0 μ12) else (if 24 < x2 then (Q 0 μ12) else (Q 1 μ12)))))) else (if x0 = 3 then (rg x1 ∧ (if x1 < 1 then (Q 0 μ) else (if 12 ≤ x1 then (Q 0 μ) else (Q 1 μ)))) else (if x0 = 4 then (rg x1 ∧ (if x1 < 0 then (Q 0 μ) else (rg x2 ∧ (if x2 < x1 then (Q 0 μ) else (if 48 ≤ x2 then (Q 0 μ) else (Q 1 μ)))))) else (Q 0 μ))))))
set_option maxRecDepth 100000 in
set_option maxHeartbeats 4000000 in
theorem wX1_isFault {G : GG} {Q : Int → MM → Prop} {x0 : Int} {x1 : Int} {x2 : Int} {μ : MM} {H : Heap} {locs : List Loc} {ls : Array Slot} (F : CallFix p m c cX1_isFault 3 s args uw RX1) (hA : ∀ q : Nat, s.heap.size ≤ q → A q) (hR : 1 ≤ R.frames ∧ 20 ≤ R.locals) (ret : RetZ p l e R s m args below meth c cX1_isFault Qf (dmC G) (cfC G) tyC (exC G) D cy ad A Q) (h : wpX1_isFault G x0 x1 x2 μ Q) (hw : wdC G D cy ad A μ s H) (hS : va_S A s.heap H locs) (hl : lv_has ls 3 [(0, .int (iI x0)), (1, .int (iI x1)), (2, .int (iI x2))]) : W p l e R s m args below meth c H locs 0 0 Qf (F0 m 0 ls []) := by
  have hx := F.1
  have hb := F.2.1
  have hown := F.2.2.2.1
  have hts := F.2.2.2.2
  refine lv_iload_n hx hb dX1_isFault_0 rfl (lv_at hl 0 rfl) ?_
  obtain ⟨g1, h⟩ := h
  by_cases c2 : x0 = 0
  · have h := ite_t c2 h
    refine q_tswIn (tgt := 36) hx hb g1 dX1_isFault_1 0 (by rw [c2]; decide) (by decide) rfl (by decide) ?_
    refine q_iconst hx hb dX1_isFault_36 ?_
    exact ret _ _ _ _ _ _ (Or.inr rfl) h hw hS dX1_isFault_37
  · have h := ite_f c2 h
    by_cases c3 : x0 = 1
    · have h := ite_t c3 h
      refine q_tswIn (tgt := 38) hx hb g1 dX1_isFault_1 1 (by rw [c3]; decide) (by decide) rfl (by decide) ?_
      refine lv_iload_n hx hb dX1_isFault_38 rfl (lv_at hl 1 rfl) ?_
      refine q_iconst hx hb dX1_isFault_39 ?_
      obtain ⟨g4, h⟩ := h
      refine q_icmp_lt (tgt := 63) hx hb g4 (by decide) dX1_isFault_40 (by decide) (fun c5 => ?_) (fun c5 => ?_)
      · have h := ite_t c5 h
        refine q_iconst hx hb dX1_isFault_63 ?_
        exact ret _ _ _ _ _ _ (Or.inl rfl) h hw hS dX1_isFault_64
      · have h := ite_f c5 h
        refine lv_iload_n hx hb dX1_isFault_43 rfl (lv_at hl 1 rfl) ?_
        refine q_bipush hx hb (by decide) dX1_isFault_44 ?_
        refine q_icmp_ge (tgt := 63) hx hb g4 (by decide) dX1_isFault_46 (by decide) (fun c6 => ?_) (fun c6 => ?_)
        · have h := ite_t c6 h
          refine q_iconst hx hb dX1_isFault_63 ?_
          exact ret _ _ _ _ _ _ (Or.inl rfl) h hw hS dX1_isFault_64
        · have h := ite_f c6 h
          refine lv_iload_n hx hb dX1_isFault_49 rfl (lv_at hl 2 rfl) ?_
          obtain ⟨g7, h⟩ := h
          refine q_if_lt (tgt := 63) hx hb g7 dX1_isFault_50 (by decide) (fun c8 => ?_) (fun c8 => ?_)
          · have h := ite_t c8 h
            refine q_iconst hx hb dX1_isFault_63 ?_
            exact ret _ _ _ _ _ _ (Or.inl rfl) h hw hS dX1_isFault_64
          · have h := ite_f c8 h
            refine lv_iload_n hx hb dX1_isFault_53 rfl (lv_at hl 2 rfl) ?_
            refine q_bipush hx hb (by decide) dX1_isFault_54 ?_
            refine q_icmp_ge (tgt := 63) hx hb g7 (by decide) dX1_isFault_56 (by decide) (fun c9 => ?_) (fun c9 => ?_)
            · have h := ite_t c9 h
              refine q_iconst hx hb dX1_isFault_63 ?_
              exact ret _ _ _ _ _ _ (Or.inl rfl) h hw hS dX1_isFault_64
            · have h := ite_f c9 h
              refine q_iconst hx hb dX1_isFault_59 ?_
              refine lv_goto (tgt := 64) hx hb dX1_isFault_60 (by decide) ?_
              exact ret _ _ _ _ _ _ (Or.inr rfl) h hw hS dX1_isFault_64
    · have h := ite_f c3 h
      by_cases c10 : x0 = 2
      · have h := ite_t c10 h
        refine q_tswIn (tgt := 65) hx hb g1 dX1_isFault_1 2 (by rw [c10]; decide) (by decide) rfl (by decide) ?_
        refine lv_iload_n hx hb dX1_isFault_65 rfl (lv_at hl 1 rfl) ?_
        refine call_SN hexC F (kX10_isHour h) 1 tw4_111 tw1_1 tw4_110 hw.2.1.2.2.2.2.2.2.1 hdX10_isHour ⟨Nat.le_trans (by decide) hR.1, Nat.le_trans (by decide) hR.2⟩ hA hw hS rfl hl.1 rfl (Nat.le_of_ble_eq_true rfl) dX1_isFault_66 (fun v11 μ12 H locs h hw hS => ?_)
        obtain ⟨z13, h⟩ := h
        refine q_if_eq (tgt := 86) hx hb (rgB z13) dX1_isFault_69 (by decide) (fun c14 => ?_) (fun c14 => ?_)
        · have h := ite_t c14 h
          refine q_iconst hx hb dX1_isFault_86 ?_
          exact ret _ _ _ _ _ _ (Or.inl rfl) h hw hS dX1_isFault_87
        · have h := ite_f c14 h
          refine lv_iload_n hx hb dX1_isFault_72 rfl (lv_at hl 2 rfl) ?_
          obtain ⟨g15, h⟩ := h
          refine q_if_lt (tgt := 86) hx hb g15 dX1_isFault_73 (by decide) (fun c16 => ?_) (fun c16 => ?_)
          · have h := ite_t c16 h
            refine q_iconst hx hb dX1_isFault_86 ?_
            exact ret _ _ _ _ _ _ (Or.inl rfl) h hw hS dX1_isFault_87
          · have h := ite_f c16 h
            refine lv_iload_n hx hb dX1_isFault_76 rfl (lv_at hl 2 rfl) ?_
            refine q_bipush hx hb (by decide) dX1_isFault_77 ?_
            refine q_icmp_gt (tgt := 86) hx hb g15 (by decide) dX1_isFault_79 (by decide) (fun c17 => ?_) (fun c17 => ?_)
            · have h := ite_t c17 h
              refine q_iconst hx hb dX1_isFault_86 ?_
              exact ret _ _ _ _ _ _ (Or.inl rfl) h hw hS dX1_isFault_87
            · have h := ite_f c17 h
              refine q_iconst hx hb dX1_isFault_82 ?_
              refine lv_goto (tgt := 87) hx hb dX1_isFault_83 (by decide) ?_
              exact ret _ _ _ _ _ _ (Or.inr rfl) h hw hS dX1_isFault_87
      · have h := ite_f c10 h
        by_cases c18 : x0 = 3
        · have h := ite_t c18 h
          refine q_tswIn (tgt := 88) hx hb g1 dX1_isFault_1 3 (by rw [c18]; decide) (by decide) rfl (by decide) ?_
          refine lv_iload_n hx hb dX1_isFault_88 rfl (lv_at hl 1 rfl) ?_
          refine q_iconst hx hb dX1_isFault_89 ?_
          obtain ⟨g19, h⟩ := h
          refine q_icmp_lt (tgt := 103) hx hb g19 (by decide) dX1_isFault_90 (by decide) (fun c20 => ?_) (fun c20 => ?_)
          · have h := ite_t c20 h
            refine q_iconst hx hb dX1_isFault_103 ?_
            exact ret _ _ _ _ _ _ (Or.inl rfl) h hw hS dX1_isFault_104
          · have h := ite_f c20 h
            refine lv_iload_n hx hb dX1_isFault_93 rfl (lv_at hl 1 rfl) ?_
            refine q_bipush hx hb (by decide) dX1_isFault_94 ?_
            refine q_icmp_ge (tgt := 103) hx hb g19 (by decide) dX1_isFault_96 (by decide) (fun c21 => ?_) (fun c21 => ?_)
            · have h := ite_t c21 h
              refine q_iconst hx hb dX1_isFault_103 ?_
              exact ret _ _ _ _ _ _ (Or.inl rfl) h hw hS dX1_isFault_104
            · have h := ite_f c21 h
              refine q_iconst hx hb dX1_isFault_99 ?_
              refine lv_goto (tgt := 104) hx hb dX1_isFault_100 (by decide) ?_
              exact ret _ _ _ _ _ _ (Or.inr rfl) h hw hS dX1_isFault_104
        · have h := ite_f c18 h
          by_cases c22 : x0 = 4
          · have h := ite_t c22 h
            refine q_tswIn (tgt := 105) hx hb g1 dX1_isFault_1 4 (by rw [c22]; decide) (by decide) rfl (by decide) ?_
            refine lv_iload_n hx hb dX1_isFault_105 rfl (lv_at hl 1 rfl) ?_
            obtain ⟨g23, h⟩ := h
            refine q_if_lt (tgt := 124) hx hb g23 dX1_isFault_106 (by decide) (fun c24 => ?_) (fun c24 => ?_)
            · have h := ite_t c24 h
              refine q_iconst hx hb dX1_isFault_124 ?_
              exact ret _ _ _ _ _ _ (Or.inl rfl) h hw hS dX1_isFault_125
            · have h := ite_f c24 h
              refine lv_iload_n hx hb dX1_isFault_109 rfl (lv_at hl 1 rfl) ?_
              refine lv_iload_n hx hb dX1_isFault_110 rfl (lv_at hl 2 rfl) ?_
              obtain ⟨g25, h⟩ := h
              refine q_icmp_gt (tgt := 124) hx hb g23 g25 dX1_isFault_111 (by decide) (fun c26 => ?_) (fun c26 => ?_)
              · have h := ite_t c26 h
                refine q_iconst hx hb dX1_isFault_124 ?_
                exact ret _ _ _ _ _ _ (Or.inl rfl) h hw hS dX1_isFault_125
              · have h := ite_f c26 h
                refine lv_iload_n hx hb dX1_isFault_114 rfl (lv_at hl 2 rfl) ?_
                refine q_bipush hx hb (by decide) dX1_isFault_115 ?_
                refine q_icmp_ge (tgt := 124) hx hb g25 (by decide) dX1_isFault_117 (by decide) (fun c27 => ?_) (fun c27 => ?_)
                · have h := ite_t c27 h
                  refine q_iconst hx hb dX1_isFault_124 ?_
                  exact ret _ _ _ _ _ _ (Or.inl rfl) h hw hS dX1_isFault_125
                · have h := ite_f c27 h
                  refine q_iconst hx hb dX1_isFault_120 ?_
                  refine lv_goto (tgt := 125) hx hb dX1_isFault_121 (by decide) ?_
                  exact ret _ _ _ _ _ _ (Or.inr rfl) h hw hS dX1_isFault_125
          · have h := ite_f c22 h
            refine q_tswOut (tgt := 126) hx hb g1 dX1_isFault_1 (by omega) (by decide) ?_
            refine q_iconst hx hb dX1_isFault_126 ?_
            exact ret _ _ _ _ _ _ (Or.inl rfl) h hw hS dX1_isFault_127
set_option maxRecDepth 100000 in
set_option maxHeartbeats 4000000 in
theorem kX1_isFault {l : Launch} {D : va_G} {cy : Nat → ClassId} {ad : AD} {A : Nat → Prop} {G : GG} {x0 : Int} {x1 : Int} {x2 : Int} {μ : MM} {Q : Int → MM → Prop} (h : wpX1_isFault G x0 x1 x2 μ Q) : Met l yX1_isFault (Cond.code yX1_isFault cX1_isFault 3 (some .boolean) :: uw) (rmm 1 20) (wPc [.int (iI x0), .int (iI x1), .int (iI x2)] (dmC G) (cfC G) tyC (exC G) D cy ad A μ) (wQ vI (fun v u => (v = 0 ∨ v = 1) ∧ Q v u) (dmC G) (cfC G) D cy ad A) 0 0 A :=
  met_of (by decide) (Nat.le_of_ble_eq_true rfl) (fun p e R s m args below meth c ls hr hk hRR F hA hw hS hl => wX1_isFault F hA (by subst hRR; exact ⟨Nat.le_refl _, Nat.le_refl _⟩) (retZ2_of F hr hk) h hw hS hl)
theorem hdX1_isFault : yX1_isFault.cls ≠ "java/lang/invoke/MethodHandle" ∧ yX1_isFault.cls ≠ "java/lang/invoke/VarHandle" ∧ (parseMethodDescriptor yX1_isFault.desc).map (fun d => d.parameters.length) = some 3 := by decide +kernel
def wpX10_due (G : GG) (x1 : Int) (x2 : Int) (x3 : Int) (x4 : Int) (x5 : Int) (μ : MM) (Q : Int → MM → Prop) : Prop := wpX10_isHour G x1 μ (fun v1 μ2 => if v1 = 0 then (Q (-1) μ2) else (rg x2 ∧ (if x2 < 0 then (Q (-1) μ2) else (if 48 ≤ x2 then (Q (-1) μ2) else (wpX1_isFault G x3 x4 x5 μ2 (fun v8 μ9 => if v8 = 0 then (Q (-1) μ9) else (wpX1_dueAt G x1 x2 x3 x4 x5 μ9 (fun v12 μ13 => Q v12 μ13))))))))
set_option maxRecDepth 100000 in
set_option maxHeartbeats 4000000 in
theorem wX10_due {G : GG} {Q : Int → MM → Prop} {x1 : Int} {x2 : Int} {x3 : Int} {x4 : Int} {x5 : Int} {μ : MM} {H : Heap} {locs : List Loc} {ls : Array Slot} (F : CallFix p m c cX10_due 6 s args uw RX10) (hA : ∀ q : Nat, s.heap.size ≤ q → A q) (hR : 2 ≤ R.frames ∧ 46 ≤ R.locals) (ret : RetI p l e R s m args below meth c cX10_due Qf (dmC G) (cfC G) tyC (exC G) D cy ad A Q) (h : wpX10_due G x1 x2 x3 x4 x5 μ Q) (hw : wdC G D cy ad A μ s H) (hS : va_S A s.heap H locs) (hl : lv_has ls 6 [(0, .ref (ad 0 0)), (1, .int (iI x1)), (2, .int (iI x2)), (3, .int (iI x3)), (4, .int (iI x4)), (5, .int (iI x5))]) : W p l e R s m args below meth c H locs 0 0 Qf (F0 m 0 ls []) := by
  have hx := F.1
  have hb := F.2.1
  have hown := F.2.2.2.1
  have hts := F.2.2.2.2
  refine lv_iload_n hx hb dX10_due_0 rfl (lv_at hl 1 rfl) ?_
  refine call_S hexC F (kX10_isHour h) 1 tw4_111 tw1_1 tw4_110 tw4_109 hdX10_isHour ⟨Nat.le_trans (by decide) hR.1, Nat.le_trans (by decide) hR.2⟩ hA hw hS rfl hl.1 rfl (Nat.le_of_ble_eq_true rfl) dX10_due_1 (fun v1 μ2 H locs h hw hS => ?_)
  obtain ⟨z3, h⟩ := h
  refine q_if_eq (tgt := 28) hx hb (rgB z3) dX10_due_4 (by decide) (fun c4 => ?_) (fun c4 => ?_)
  · have h := ite_t c4 h
    refine q_iconst hx hb dX10_due_28 ?_
    exact ret _ _ _ _ _ _ h hw hS dX10_due_29
  · have h := ite_f c4 h
    refine lv_iload_n hx hb dX10_due_7 rfl (lv_at hl 2 rfl) ?_
    obtain ⟨g5, h⟩ := h
    refine q_if_lt (tgt := 28) hx hb g5 dX10_due_8 (by decide) (fun c6 => ?_) (fun c6 => ?_)
    · have h := ite_t c6 h
      refine q_iconst hx hb dX10_due_28 ?_
      exact ret _ _ _ _ _ _ h hw hS dX10_due_29
    · have h := ite_f c6 h
      refine lv_iload_n hx hb dX10_due_11 rfl (lv_at hl 2 rfl) ?_
      refine q_bipush hx hb (by decide) dX10_due_12 ?_
      refine q_icmp_ge (tgt := 28) hx hb g5 (by decide) dX10_due_14 (by decide) (fun c7 => ?_) (fun c7 => ?_)
      · have h := ite_t c7 h
        refine q_iconst hx hb dX10_due_28 ?_
        exact ret _ _ _ _ _ _ h hw hS dX10_due_29
      · have h := ite_f c7 h
        refine lv_iload_n hx hb dX10_due_17 rfl (lv_at hl 3 rfl) ?_
        refine lv_iload hx hb dX10_due_18 (lv_at hl 4 rfl) ?_
        refine lv_iload hx hb dX10_due_20 (lv_at hl 5 rfl) ?_
        refine call_S hexC F (kX1_isFault h) 3 tw4_136 tw1_3 tw4_135 tw4_134 hdX1_isFault ⟨Nat.le_trans (by decide) hR.1, Nat.le_trans (by decide) hR.2⟩ hA hw hS rfl hl.1 rfl (Nat.le_of_ble_eq_true rfl) dX10_due_22 (fun v8 μ9 H locs h hw hS => ?_)
        obtain ⟨z10, h⟩ := h
        refine q_if_ne (tgt := 30) hx hb (rgB z10) dX10_due_25 (by decide) (fun c11 => ?_) (fun c11 => ?_)
        · have h := ite_f c11 h
          refine lv_iload_n hx hb dX10_due_30 rfl (lv_at hl 1 rfl) ?_
          refine lv_iload_n hx hb dX10_due_31 rfl (lv_at hl 2 rfl) ?_
          refine lv_iload_n hx hb dX10_due_32 rfl (lv_at hl 3 rfl) ?_
          refine lv_iload hx hb dX10_due_33 (lv_at hl 4 rfl) ?_
          refine lv_iload hx hb dX10_due_35 (lv_at hl 5 rfl) ?_
          refine call_S hexC F (kX1_dueAt h) 5 tw4_140 tw1_3 tw4_139 tw4_138 hdX1_dueAt ⟨Nat.le_trans (by decide) hR.1, Nat.le_trans (by decide) hR.2⟩ hA hw hS rfl hl.1 rfl (Nat.le_of_ble_eq_true rfl) dX10_due_37 (fun v12 μ13 H locs h hw hS => ?_)
          exact ret _ _ _ _ _ _ h hw hS dX10_due_40
        · have h := ite_t c11 h
          refine q_iconst hx hb dX10_due_28 ?_
          exact ret _ _ _ _ _ _ h hw hS dX10_due_29
set_option maxRecDepth 100000 in
set_option maxHeartbeats 4000000 in
theorem kX10_due {l : Launch} {D : va_G} {cy : Nat → ClassId} {ad : AD} {A : Nat → Prop} {G : GG} {x1 : Int} {x2 : Int} {x3 : Int} {x4 : Int} {x5 : Int} {μ : MM} {Q : Int → MM → Prop} (h : wpX10_due G x1 x2 x3 x4 x5 μ Q) : Met l yX10_due (Cond.code yX10_due cX10_due 6 (some .int) :: uw) (rmm 2 46) (wPc [.ref (ad 0 0), .int (iI x1), .int (iI x2), .int (iI x3), .int (iI x4), .int (iI x5)] (dmC G) (cfC G) tyC (exC G) D cy ad A μ) (wQ vI Q (dmC G) (cfC G) D cy ad A) 0 0 A :=
  met_of (by decide) (Nat.le_of_ble_eq_true rfl) (fun p e R s m args below meth c ls hr hk hRR F hA hw hS hl => wX10_due F hA (by subst hRR; exact ⟨Nat.le_refl _, Nat.le_refl _⟩) (retI_of F hr hk) h hw hS hl)
theorem hdX10_due : yX10_due.cls ≠ "java/lang/invoke/MethodHandle" ∧ yX10_due.cls ≠ "java/lang/invoke/VarHandle" ∧ (parseMethodDescriptor yX10_due.desc).map (fun d => d.parameters.length) = some 5 := by decide +kernel
def wpX10_refusalOfHeard (G : GG) (x1 : Int) (x2 : Int) (x3 : Int) (μ : MM) (Q : Int → MM → Prop) : Prop := wpX10_rowOf G x1 μ (fun v1 μ2 => if v1 < 0 then (Q (-1) μ2) else (v1 < 8 ∧ (wpX10_isHour G x2 μ2 (fun v6 μ7 => if v6 = 0 then (Q (-1) μ7) else (rg x3 ∧ (if x3 = 0 then (Q (-1) μ7) else (wpX6_isThere G v1 μ7 (fun v12 μ13 => if v12 = 0 then (wpX10_found G 1 μ13 (fun v16 μ17 => Q v16 μ17)) else (Q 0 μ13)))))))))
set_option maxRecDepth 100000 in
set_option maxHeartbeats 4000000 in
theorem wX10_refusalOfHeard {G : GG} {Q : Int → MM → Prop} {x1 : Int} {x2 : Int} {x3 : Int} {μ : MM} {H : Heap} {locs : List Loc} {ls : Array Slot} (F : CallFix p m c cX10_refusalOfHeard 5 s args uw RX10) (hA : ∀ q : Nat, s.heap.size ≤ q → A q) (hR : 1 ≤ R.frames ∧ 21 ≤ R.locals) (ret : RetI p l e R s m args below meth c cX10_refusalOfHeard Qf (dmC G) (cfC G) tyC (exC G) D cy ad A Q) (h : wpX10_refusalOfHeard G x1 x2 x3 μ Q) (hw : wdC G D cy ad A μ s H) (hS : va_S A s.heap H locs) (hl : lv_has ls 5 [(0, .ref (ad 0 0)), (1, .int (iI x1)), (2, .int (iI x2)), (3, .int (iI x3))]) : W p l e R s m args below meth c H locs 0 0 Qf (F0 m 0 ls []) := by
  have hx := F.1
  have hb := F.2.1
  have hown := F.2.2.2.1
  have hts := F.2.2.2.2
  refine lv_aload_n hx hb dX10_refusalOfHeard_0 rfl (lv_at hl 0 rfl) ?_
  refine lv_iload_n hx hb dX10_refusalOfHeard_1 rfl (lv_at hl 1 rfl) ?_
  refine call_V hexC F (kX10_rowOf h) 1 tw2_16 tw1_1 tw2_15 tws1_0 tw2_13 hdX10_rowOf ⟨Nat.le_trans (by decide) hR.1, Nat.le_trans (by decide) hR.2⟩ (hw.recv (k := 0) (i := 0) rfl rfl rfl) hA hw hS rfl hl.1 rfl (Nat.le_of_ble_eq_true rfl) dX10_refusalOfHeard_2 (fun v1 μ2 H locs h hw hS => ?_)
  refine q_astore (lv' := [(4, rf ad 1 v1), (0, .ref (ad 0 0)), (1, .int (iI x1)), (2, .int (iI x2)), (3, .int (iI x3))]) hx hb dX10_refusalOfHeard_5 hl (by decide) rfl (fun ls hl => ?_)
  refine q_aload hx hb dX10_refusalOfHeard_7 (lv_at hl 0 rfl) ?_
  refine q_ifnull (tgt := 23) hx hb dX10_refusalOfHeard_9 (by decide) (fun c3 => ?_) (fun c3 => ?_)
  · have h := ite_t c3 h
    refine q_iconst hx hb dX10_refusalOfHeard_23 ?_
    exact ret _ _ _ _ _ _ h hw hS dX10_refusalOfHeard_24
  · have h := ite_f c3 h
    obtain ⟨g4, h⟩ := h
    have hi5 : 0 ≤ v1 ∧ v1 < 8 := ⟨by omega, g4⟩
    have hl : lv_has ls 5 [(4, .ref (ad 1 v1)), (0, .ref (ad 0 0)), (1, .int (iI x1)), (2, .int (iI x2)), (3, .int (iI x3))] := by rw [← rf_pos (ad := ad) (k := 1) hi5.1]; exact hl
    refine lv_iload_n hx hb dX10_refusalOfHeard_12 rfl (lv_at hl 3 rfl) ?_
    refine call_S hexC F (kX10_isHour h) 1 tw4_111 tw1_1 tw4_110 tw4_109 hdX10_isHour ⟨Nat.le_trans (by decide) hR.1, Nat.le_trans (by decide) hR.2⟩ hA hw hS rfl hl.1 rfl (Nat.le_of_ble_eq_true rfl) dX10_refusalOfHeard_13 (fun v6 μ7 H locs h hw hS => ?_)
    obtain ⟨z8, h⟩ := h
    refine q_if_eq (tgt := 23) hx hb (rgB z8) dX10_refusalOfHeard_16 (by decide) (fun c9 => ?_) (fun c9 => ?_)
    · have h := ite_t c9 h
      refine q_iconst hx hb dX10_refusalOfHeard_23 ?_
      exact ret _ _ _ _ _ _ h hw hS dX10_refusalOfHeard_24
    · have h := ite_f c9 h
      refine lv_iload_n hx hb dX10_refusalOfHeard_19 rfl (lv_at hl 4 rfl) ?_
      obtain ⟨g10, h⟩ := h
      refine q_if_ne (tgt := 25) hx hb g10 dX10_refusalOfHeard_20 (by decide) (fun c11 => ?_) (fun c11 => ?_)
      · have h := ite_f c11 h
        refine lv_aload hx hb dX10_refusalOfHeard_25 (lv_at hl 0 rfl) ?_
        refine call_V hexC F (kX6_isThere h hi5) 0 tw2_35 tw1_5 tw2_33 tw2_34 tw2_32 hdX6_isThere ⟨Nat.le_trans (by decide) hR.1, Nat.le_trans (by decide) hR.2⟩ (hw.recv (k := 1) (i := v1) hi5 rfl rfl) hA hw hS rfl hl.1 rfl (Nat.le_of_ble_eq_true rfl) dX10_refusalOfHeard_27 (fun v12 μ13 H locs h hw hS => ?_)
        obtain ⟨z14, h⟩ := h
        refine q_if_eq (tgt := 37) hx hb (rgB z14) dX10_refusalOfHeard_30 (by decide) (fun c15 => ?_) (fun c15 => ?_)
        · have h := ite_t c15 h
          refine lv_aload_n hx hb dX10_refusalOfHeard_37 rfl (lv_at hl 1 rfl) ?_
          refine q_iconst hx hb dX10_refusalOfHeard_38 ?_
          refine call_V hexC F (kX10_found h) 1 tw2_20 tw1_1 tw2_19 tws1_1 tw2_17 hdX10_found ⟨Nat.le_trans (by decide) hR.1, Nat.le_trans (by decide) hR.2⟩ (hw.recv (k := 0) (i := 0) rfl rfl rfl) hA hw hS rfl hl.1 rfl (Nat.le_of_ble_eq_true rfl) dX10_refusalOfHeard_39 (fun v16 μ17 H locs h hw hS => ?_)
          exact ret _ _ _ _ _ _ h hw hS dX10_refusalOfHeard_42
        · have h := ite_f c15 h
          refine q_iconst hx hb dX10_refusalOfHeard_33 ?_
          refine lv_goto (tgt := 42) hx hb dX10_refusalOfHeard_34 (by decide) ?_
          exact ret _ _ _ _ _ _ h hw hS dX10_refusalOfHeard_42
      · have h := ite_t c11 h
        refine q_iconst hx hb dX10_refusalOfHeard_23 ?_
        exact ret _ _ _ _ _ _ h hw hS dX10_refusalOfHeard_24
set_option maxRecDepth 100000 in
set_option maxHeartbeats 4000000 in
theorem kX10_refusalOfHeard {l : Launch} {D : va_G} {cy : Nat → ClassId} {ad : AD} {A : Nat → Prop} {G : GG} {x1 : Int} {x2 : Int} {x3 : Int} {μ : MM} {Q : Int → MM → Prop} (h : wpX10_refusalOfHeard G x1 x2 x3 μ Q) : Met l yX10_refusalOfHeard (Cond.code yX10_refusalOfHeard cX10_refusalOfHeard 5 (some .int) :: uw) (rmm 1 21) (wPc [.ref (ad 0 0), .int (iI x1), .int (iI x2), .int (iI x3)] (dmC G) (cfC G) tyC (exC G) D cy ad A μ) (wQ vI Q (dmC G) (cfC G) D cy ad A) 0 0 A :=
  met_of (by decide) (Nat.le_of_ble_eq_true rfl) (fun p e R s m args below meth c ls hr hk hRR F hA hw hS hl => wX10_refusalOfHeard F hA (by subst hRR; exact ⟨Nat.le_refl _, Nat.le_refl _⟩) (retI_of F hr hk) h hw hS hl)
theorem hdX10_refusalOfHeard : yX10_refusalOfHeard.cls ≠ "java/lang/invoke/MethodHandle" ∧ yX10_refusalOfHeard.cls ≠ "java/lang/invoke/VarHandle" ∧ (parseMethodDescriptor yX10_refusalOfHeard.desc).map (fun d => d.parameters.length) = some 3 := by decide +kernel
def wpX1_listen_J42 (G : GG) (k7 : Int → Int → MM → Prop) (Q : Int → MM → Prop) (x1 : Int) (x3 : Int) (t1 : Int) (t2 : Int) (μ : MM) : Prop := 0 ≤ t1 ∧ (t1 < 48 ∧ (∀ μ3 : MM, μ3 = ms μ 16 0 t1 t2 → (k7 x1 (x3 + 1) μ3)))
set_option maxRecDepth 100000 in
set_option maxHeartbeats 4000000 in
theorem wX1_listen_J42 {G : GG} {k7 : Int → Int → MM → Prop} {Q : Int → MM → Prop} {x1 : Int} {x3 : Int} {t1 : Int} {t2 : Int} {μ : MM} {H : Heap} {locs : List Loc} {ls : Array Slot} (F : CallFix p m c cX1_listen 4 s args uw RX1) (hA : ∀ q : Nat, s.heap.size ≤ q → A q) (hR : 1 ≤ R.frames ∧ 21 ≤ R.locals) (ret : RetV p l e R s m args below meth c cX1_listen Qf (dmC G) (cfC G) tyC (exC G) D cy ad A Q) (hk7 : ∀ (x1' x3' : Int) (μ' : MM) (H : Heap) (locs : List Loc) (ls : Array Slot), k7 x1' x3' μ' → wdC G D cy ad A μ' s H → va_S A s.heap H locs → lv_has ls 4 [(0, .ref (ad 6 0)), (1, rf ad 1 (x1')), (3, .int (iI (x3')))] → W p l e R s m args below meth c H locs 0 0 Qf (F0 m 7 ls [])) (h : wpX1_listen_J42 G k7 Q x1 x3 t1 t2 μ) (hw : wdC G D cy ad A μ s H) (hS : va_S A s.heap H locs) (hl : lv_has ls 4 [(0, .ref (ad 6 0)), (1, rf ad 1 x1), (3, .int (iI x3))]) : W p l e R s m args below meth c H locs 0 0 Qf (F0 m 42 ls [.int (iI t2), .int (iI t1), .ref (ad 16 0)]) := by
  have hx := F.1
  have hb := F.2.1
  have hown := F.2.2.2.1
  have hts := F.2.2.2.2
  obtain ⟨g1, h⟩ := h
  obtain ⟨g2, h⟩ := h
  obtain ⟨μ3, eμ3⟩ : ∃ z : MM, z = ms μ 16 0 t1 t2 := ⟨_, rfl⟩
  have h := h μ3 eμ3
  refine aC_16_st hx hb hw hS g1 g2 eμ3 dX1_listen_42 (fun H locs hw hS => ?_)
  refine q_iinc (k := 2) (lv' := [(3, .int (iI (x3 + 1))), (0, .ref (ad 6 0)), (1, rf ad 1 x1)]) hx hb dX1_listen_43 hl rfl (by decide) rfl (fun ls hl => ?_)
  refine lv_goto (tgt := 7) hx hb dX1_listen_46 (by decide) ?_
  exact hk7 x1 (x3 + 1) _ _ _ _ h hw hS (lv_sub hl [1, 2, 0] rfl)
def wpX1_listen_J41 (G : GG) (k7 : Int → Int → MM → Prop) (Q : Int → MM → Prop) (x1 : Int) (x3 : Int) (t1 : Int) (μ : MM) : Prop := wpX1_listen_J42 G k7 Q x1 x3 t1 (-1) μ
set_option maxRecDepth 100000 in
set_option maxHeartbeats 4000000 in
theorem wX1_listen_J41 {G : GG} {k7 : Int → Int → MM → Prop} {Q : Int → MM → Prop} {x1 : Int} {x3 : Int} {t1 : Int} {μ : MM} {H : Heap} {locs : List Loc} {ls : Array Slot} (F : CallFix p m c cX1_listen 4 s args uw RX1) (hA : ∀ q : Nat, s.heap.size ≤ q → A q) (hR : 1 ≤ R.frames ∧ 21 ≤ R.locals) (ret : RetV p l e R s m args below meth c cX1_listen Qf (dmC G) (cfC G) tyC (exC G) D cy ad A Q) (hk7 : ∀ (x1' x3' : Int) (μ' : MM) (H : Heap) (locs : List Loc) (ls : Array Slot), k7 x1' x3' μ' → wdC G D cy ad A μ' s H → va_S A s.heap H locs → lv_has ls 4 [(0, .ref (ad 6 0)), (1, rf ad 1 (x1')), (3, .int (iI (x3')))] → W p l e R s m args below meth c H locs 0 0 Qf (F0 m 7 ls [])) (h : wpX1_listen_J41 G k7 Q x1 x3 t1 μ) (hw : wdC G D cy ad A μ s H) (hS : va_S A s.heap H locs) (hl : lv_has ls 4 [(0, .ref (ad 6 0)), (1, rf ad 1 x1), (3, .int (iI x3))]) : W p l e R s m args below meth c H locs 0 0 Qf (F0 m 41 ls [.int (iI t1), .ref (ad 16 0)]) := by
  have hx := F.1
  have hb := F.2.1
  have hown := F.2.2.2.1
  have hts := F.2.2.2.2
  refine q_iconst hx hb dX1_listen_41 ?_
  exact wX1_listen_J42 F hA hR ret hk7 h hw hS (lv_sub hl [0, 1, 2] rfl)
def wpX1_listen_L7 (G : GG) (Q : Int → MM → Prop) : Nat → Int → Int → MM → Prop
  | 0, _, _, _ => False
  | n + 1, x1, x3, μ => rg x3 ∧ (if 48 ≤ x3 then (Q 0 μ) else (if x1 < 0 then (wpX1_listen_J41 G (fun x1' x3' μ' => wpX1_listen_L7 G Q n x1' x3' μ') Q x1 x3 x3 μ) else (x1 < 8 ∧ (rg (μ 1 1 x1) ∧ (if (μ 1 1 x1) ≤ x3 then (wpX1_listen_J41 G (fun x1' x3' μ' => wpX1_listen_L7 G Q n x1' x3' μ') Q x1 x3 x3 μ) else (wpX6_at G x1 x3 μ (fun v8 μ9 => wpX1_listen_J42 G (fun x1' x3' μ' => wpX1_listen_L7 G Q n x1' x3' μ') Q x1 x3 x3 v8 μ9)))))))
set_option maxRecDepth 100000 in
set_option maxHeartbeats 4000000 in
theorem wX1_listen_L7 {G : GG} {Q : Int → MM → Prop} (F : CallFix p m c cX1_listen 4 s args uw RX1) (hA : ∀ q : Nat, s.heap.size ≤ q → A q) (hR : 1 ≤ R.frames ∧ 21 ≤ R.locals) (ret : RetV p l e R s m args below meth c cX1_listen Qf (dmC G) (cfC G) tyC (exC G) D cy ad A Q) : ∀ (n : Nat) (x1 x3 : Int) (μ : MM) (H : Heap) (locs : List Loc) (ls : Array Slot), wpX1_listen_L7 G Q n x1 x3 μ → wdC G D cy ad A μ s H → va_S A s.heap H locs → lv_has ls 4 [(0, .ref (ad 6 0)), (1, rf ad 1 x1), (3, .int (iI x3))] → W p l e R s m args below meth c H locs 0 0 Qf (F0 m 7 ls []) := by
  have hx := F.1
  have hb := F.2.1
  have hown := F.2.2.2.1
  have hts := F.2.2.2.2
  intro n
  induction n with
  | zero =>
    intro x1 x3 μ H locs ls h hw hS hl
    exact h.elim
  | succ n ih =>
    intro x1 x3 μ H locs ls h hw hS hl
    refine lv_iload_n hx hb dX1_listen_7 rfl (lv_at hl 2 rfl) ?_
    refine lv_aload_n hx hb dX1_listen_8 rfl (lv_at hl 0 rfl) ?_
    refine gC_U_heard F hw tw1_51 dX1_listen_9 ?_
    refine aC_16_ln hx hb hw dX1_listen_12 ?_
    obtain ⟨g1, h⟩ := h
    refine q_icmp_ge (tgt := 49) hx hb g1 (by decide) dX1_listen_13 (by decide) (fun c2 => ?_) (fun c2 => ?_)
    · have h := ite_t c2 h
      exact ret _ _ _ _ _ h hw hS dX1_listen_49
    · have h := ite_f c2 h
      refine lv_aload_n hx hb dX1_listen_16 rfl (lv_at hl 0 rfl) ?_
      refine gC_U_heard F hw tw1_51 dX1_listen_17 ?_
      refine lv_iload_n hx hb dX1_listen_20 rfl (lv_at hl 2 rfl) ?_
      refine q_aload_n hx hb dX1_listen_21 rfl (lv_at hl 1 rfl) ?_
      refine q_ifnull (tgt := 41) hx hb dX1_listen_22 (by decide) (fun c3 => ?_) (fun c3 => ?_)
      · have h := ite_t c3 h
        exact wX1_listen_J41 F hA hR ret (fun x1 x3 => ih x1 x3) h hw hS (lv_sub hl [0, 1, 2] rfl)
      · have h := ite_f c3 h
        obtain ⟨g4, h⟩ := h
        have hi5 : 0 ≤ x1 ∧ x1 < 8 := ⟨by omega, g4⟩
        have hl : lv_has ls 4 [(0, .ref (ad 6 0)), (1, .ref (ad 1 x1)), (3, .int (iI x3))] := by rw [← rf_pos (ad := ad) (k := 1) hi5.1]; exact hl
        refine lv_iload_n hx hb dX1_listen_25 rfl (lv_at hl 2 rfl) ?_
        refine lv_aload_n hx hb dX1_listen_26 rfl (lv_at hl 1 rfl) ?_
        refine gC_R_size F hw hi5 tw1_124 dX1_listen_27 ?_
        obtain ⟨g6, h⟩ := h
        refine q_icmp_ge (tgt := 41) hx hb g1 g6 dX1_listen_30 (by decide) (fun c7 => ?_) (fun c7 => ?_)
        · have h := ite_t c7 h
          have hl : lv_has ls 4 [(0, .ref (ad 6 0)), (1, rf ad 1 x1), (3, .int (iI x3))] := by rw [rf_pos (ad := ad) (k := 1) (hi5).1]; exact (lv_sub hl [0, 1, 2] rfl)
          exact wX1_listen_J41 F hA hR ret (fun x1 x3 => ih x1 x3) h hw hS hl
        · have h := ite_f c7 h
          refine lv_aload_n hx hb dX1_listen_33 rfl (lv_at hl 1 rfl) ?_
          refine lv_iload_n hx hb dX1_listen_34 rfl (lv_at hl 2 rfl) ?_
          refine call_V hexC F (kX6_at h hi5) 1 tw2_43 tw1_5 tw2_41 tw2_42 tw4_154 hdX6_at ⟨Nat.le_trans (by decide) hR.1, Nat.le_trans (by decide) hR.2⟩ (hw.recv (k := 1) (i := x1) hi5 rfl rfl) hA hw hS rfl hl.1 rfl (Nat.le_of_ble_eq_true rfl) dX1_listen_35 (fun v8 μ9 H locs h hw hS => ?_)
          refine lv_goto (tgt := 42) hx hb dX1_listen_38 (by decide) ?_
          have hl : lv_has ls 4 [(0, .ref (ad 6 0)), (1, rf ad 1 x1), (3, .int (iI x3))] := by rw [rf_pos (ad := ad) (k := 1) (hi5).1]; exact (lv_sub hl [0, 1, 2] rfl)
          exact wX1_listen_J42 F hA hR ret (fun x1 x3 => ih x1 x3) h hw hS hl
def wpX1_listen (G : GG) (x1 : Int) (x2 : Int) (μ : MM) (Q : Int → MM → Prop) : Prop := ∀ μ1 : MM, μ1 = ms μ 6 1 0 x2 → (∃ n2 : Nat, wpX1_listen_L7 G Q n2 x1 0 μ1)
set_option maxRecDepth 100000 in
set_option maxHeartbeats 4000000 in
theorem wX1_listen {G : GG} {Q : Int → MM → Prop} {x1 : Int} {x2 : Int} {μ : MM} {H : Heap} {locs : List Loc} {ls : Array Slot} (F : CallFix p m c cX1_listen 4 s args uw RX1) (hA : ∀ q : Nat, s.heap.size ≤ q → A q) (hR : 1 ≤ R.frames ∧ 21 ≤ R.locals) (ret : RetV p l e R s m args below meth c cX1_listen Qf (dmC G) (cfC G) tyC (exC G) D cy ad A Q) (h : wpX1_listen G x1 x2 μ Q) (hw : wdC G D cy ad A μ s H) (hS : va_S A s.heap H locs) (hl : lv_has ls 4 [(0, .ref (ad 6 0)), (1, rf ad 1 x1), (2, .int (iI x2))]) : W p l e R s m args below meth c H locs 0 0 Qf (F0 m 0 ls []) := by
  have hx := F.1
  have hb := F.2.1
  have hown := F.2.2.2.1
  have hts := F.2.2.2.2
  refine lv_aload_n hx hb dX1_listen_0 rfl (lv_at hl 0 rfl) ?_
  refine lv_iload_n hx hb dX1_listen_1 rfl (lv_at hl 2 rfl) ?_
  obtain ⟨μ1, eμ1⟩ : ∃ z : MM, z = ms μ 6 1 0 x2 := ⟨_, rfl⟩
  have h := h μ1 eμ1
  refine pC_U_hour F hw hS tw1_52 eμ1 dX1_listen_2 (fun H locs hw hS => ?_)
  refine q_iconst hx hb dX1_listen_5 ?_
  refine lv_istore_n (lv' := [(3, .int (iI 0)), (0, .ref (ad 6 0)), (1, rf ad 1 x1), (2, .int (iI x2))]) hx hb dX1_listen_6 rfl hl (by decide) rfl (fun ls hl => ?_)
  obtain ⟨n2, h⟩ := h
  exact wX1_listen_L7 F hA hR ret n2 x1 0 _ _ _ _ h hw hS (lv_sub hl [1, 2, 0] rfl)
set_option maxRecDepth 100000 in
set_option maxHeartbeats 4000000 in
theorem kX1_listen {l : Launch} {D : va_G} {cy : Nat → ClassId} {ad : AD} {A : Nat → Prop} {G : GG} {x1 : Int} {x2 : Int} {μ : MM} {Q : Int → MM → Prop} (h : wpX1_listen G x1 x2 μ Q) : Met l yX1_listen (Cond.code yX1_listen cX1_listen 4 none :: uw) (rmm 1 21) (wPc [.ref (ad 6 0), rf ad 1 x1, .int (iI x2)] (dmC G) (cfC G) tyC (exC G) D cy ad A μ) (wQ vV Q (dmC G) (cfC G) D cy ad A) 0 0 A :=
  met_of (by decide) (by simp [lg_sl, rf_cat, cat_i, cat_l, cat_r]) (fun p e R s m args below meth c ls hr hk hRR F hA hw hS hl => wX1_listen F hA (by subst hRR; exact ⟨Nat.le_refl _, Nat.le_refl _⟩) (retV_of F hr hk) h hw hS (by simpa [lv_args, rf_cat, cat_i, cat_l, cat_r] using hl))
theorem hdX1_listen : yX1_listen.cls ≠ "java/lang/invoke/MethodHandle" ∧ yX1_listen.cls ≠ "java/lang/invoke/VarHandle" ∧ (parseMethodDescriptor yX1_listen.desc).map (fun d => d.parameters.length) = some 2 := by decide +kernel
def wpX1_misfit (G : GG) (x1 : Int) (x2 : Int) (μ : MM) (Q : Int → MM → Prop) : Prop := rg x1 ∧ (if x1 < 0 then (Q 0 μ) else (if x1 < 48 then (0 ≤ x1 ∧ (x1 < 48 ∧ (rg (μ 16 0 x1) ∧ (if (μ 16 0 x1) < 0 then (Q 0 μ) else (rg x2 ∧ (if (μ 16 0 x1) = x2 then (Q 0 μ) else (Q 1 μ))))))) else (Q 0 μ)))
set_option maxRecDepth 100000 in
set_option maxHeartbeats 4000000 in
theorem wX1_misfit {G : GG} {Q : Int → MM → Prop} {x1 : Int} {x2 : Int} {μ : MM} {H : Heap} {locs : List Loc} {ls : Array Slot} (F : CallFix p m c cX1_misfit 3 s args uw RX1) (hA : ∀ q : Nat, s.heap.size ≤ q → A q) (hR : 0 ≤ R.frames ∧ 0 ≤ R.locals) (ret : RetI p l e R s m args below meth c cX1_misfit Qf (dmC G) (cfC G) tyC (exC G) D cy ad A Q) (h : wpX1_misfit G x1 x2 μ Q) (hw : wdC G D cy ad A μ s H) (hS : va_S A s.heap H locs) (hl : lv_has ls 3 [(0, .ref (ad 6 0)), (1, .int (iI x1)), (2, .int (iI x2))]) : W p l e R s m args below meth c H locs 0 0 Qf (F0 m 0 ls []) := by
  have hx := F.1
  have hb := F.2.1
  have hown := F.2.2.2.1
  have hts := F.2.2.2.2
  refine lv_iload_n hx hb dX1_misfit_0 rfl (lv_at hl 1 rfl) ?_
  obtain ⟨g1, h⟩ := h
  refine q_if_lt (tgt := 13) hx hb g1 dX1_misfit_1 (by decide) (fun c2 => ?_) (fun c2 => ?_)
  · have h := ite_t c2 h
    refine q_iconst hx hb dX1_misfit_13 ?_
    exact ret _ _ _ _ _ _ h hw hS dX1_misfit_14
  · have h := ite_f c2 h
    refine lv_iload_n hx hb dX1_misfit_4 rfl (lv_at hl 1 rfl) ?_
    refine lv_aload_n hx hb dX1_misfit_5 rfl (lv_at hl 0 rfl) ?_
    refine gC_U_heard F hw tw1_51 dX1_misfit_6 ?_
    refine aC_16_ln hx hb hw dX1_misfit_9 ?_
    refine q_icmp_lt (tgt := 15) hx hb g1 (by decide) dX1_misfit_10 (by decide) (fun c3 => ?_) (fun c3 => ?_)
    · have h := ite_t c3 h
      refine lv_aload_n hx hb dX1_misfit_15 rfl (lv_at hl 0 rfl) ?_
      refine gC_U_heard F hw tw1_51 dX1_misfit_16 ?_
      refine lv_iload_n hx hb dX1_misfit_19 rfl (lv_at hl 1 rfl) ?_
      obtain ⟨g4, h⟩ := h
      obtain ⟨g5, h⟩ := h
      refine aC_16_ld hx hb hw g4 g5 dX1_misfit_20 ?_
      obtain ⟨g6, h⟩ := h
      refine q_if_lt (tgt := 38) hx hb g6 dX1_misfit_21 (by decide) (fun c7 => ?_) (fun c7 => ?_)
      · have h := ite_t c7 h
        refine q_iconst hx hb dX1_misfit_38 ?_
        exact ret _ _ _ _ _ _ h hw hS dX1_misfit_39
      · have h := ite_f c7 h
        refine lv_aload_n hx hb dX1_misfit_24 rfl (lv_at hl 0 rfl) ?_
        refine gC_U_heard F hw tw1_51 dX1_misfit_25 ?_
        refine lv_iload_n hx hb dX1_misfit_28 rfl (lv_at hl 1 rfl) ?_
        refine aC_16_ld hx hb hw g4 g5 dX1_misfit_29 ?_
        refine lv_iload_n hx hb dX1_misfit_30 rfl (lv_at hl 2 rfl) ?_
        obtain ⟨g8, h⟩ := h
        refine q_icmp_eq (tgt := 38) hx hb g6 g8 dX1_misfit_31 (by decide) (fun c9 => ?_) (fun c9 => ?_)
        · have h := ite_t c9 h
          refine q_iconst hx hb dX1_misfit_38 ?_
          exact ret _ _ _ _ _ _ h hw hS dX1_misfit_39
        · have h := ite_f c9 h
          refine q_iconst hx hb dX1_misfit_34 ?_
          refine lv_goto (tgt := 39) hx hb dX1_misfit_35 (by decide) ?_
          exact ret _ _ _ _ _ _ h hw hS dX1_misfit_39
    · have h := ite_f c3 h
      refine q_iconst hx hb dX1_misfit_13 ?_
      exact ret _ _ _ _ _ _ h hw hS dX1_misfit_14
set_option maxRecDepth 100000 in
set_option maxHeartbeats 4000000 in
theorem kX1_misfit {l : Launch} {D : va_G} {cy : Nat → ClassId} {ad : AD} {A : Nat → Prop} {G : GG} {x1 : Int} {x2 : Int} {μ : MM} {Q : Int → MM → Prop} (h : wpX1_misfit G x1 x2 μ Q) : Met l yX1_misfit (Cond.code yX1_misfit cX1_misfit 3 (some .int) :: uw) (rmm 0 0) (wPc [.ref (ad 6 0), .int (iI x1), .int (iI x2)] (dmC G) (cfC G) tyC (exC G) D cy ad A μ) (wQ vI Q (dmC G) (cfC G) D cy ad A) 0 0 A :=
  met_of (by decide) (Nat.le_of_ble_eq_true rfl) (fun p e R s m args below meth c ls hr hk hRR F hA hw hS hl => wX1_misfit F hA (by subst hRR; exact ⟨Nat.le_refl _, Nat.le_refl _⟩) (retI_of F hr hk) h hw hS hl)
theorem hdX1_misfit : yX1_misfit.cls ≠ "java/lang/invoke/MethodHandle" ∧ yX1_misfit.cls ≠ "java/lang/invoke/VarHandle" ∧ (parseMethodDescriptor yX1_misfit.desc).map (fun d => d.parameters.length) = some 2 := by decide +kernel
def wpX1_misfitsOf_L6 (G : GG) (Q : Int → MM → Prop) : Nat → Int → Int → Int → Int → Int → MM → Prop
  | 0, _, _, _, _, _, _ => False
  | n + 1, x1, x2, x3, x4, x5, μ => rg x5 ∧ (if 48 ≤ x5 then (Q x4 μ) else (wpX1_dueAt G (μ 6 1 0) x5 x1 x2 x3 μ (fun v3 μ4 => wpX1_misfit G x5 v3 μ4 (fun v5 μ6 => wpX1_misfitsOf_L6 G Q n x1 x2 x3 (x4 + v5) (x5 + 1) μ6))))
set_option maxRecDepth 100000 in
set_option maxHeartbeats 4000000 in
theorem wX1_misfitsOf_L6 {G : GG} {Q : Int → MM → Prop} (F : CallFix p m c cX1_misfitsOf 6 s args uw RX1) (hA : ∀ q : Nat, s.heap.size ≤ q → A q) (hR : 2 ≤ R.frames ∧ 46 ≤ R.locals) (ret : RetI p l e R s m args below meth c cX1_misfitsOf Qf (dmC G) (cfC G) tyC (exC G) D cy ad A Q) : ∀ (n : Nat) (x1 x2 x3 x4 x5 : Int) (μ : MM) (H : Heap) (locs : List Loc) (ls : Array Slot), wpX1_misfitsOf_L6 G Q n x1 x2 x3 x4 x5 μ → wdC G D cy ad A μ s H → va_S A s.heap H locs → lv_has ls 6 [(0, .ref (ad 6 0)), (1, .int (iI x1)), (2, .int (iI x2)), (3, .int (iI x3)), (4, .int (iI x4)), (5, .int (iI x5))] → W p l e R s m args below meth c H locs 0 0 Qf (F0 m 6 ls []) := by
  have hx := F.1
  have hb := F.2.1
  have hown := F.2.2.2.1
  have hts := F.2.2.2.2
  intro n
  induction n with
  | zero =>
    intro x1 x2 x3 x4 x5 μ H locs ls h hw hS hl
    exact h.elim
  | succ n ih =>
    intro x1 x2 x3 x4 x5 μ H locs ls h hw hS hl
    refine lv_iload hx hb dX1_misfitsOf_6 (lv_at hl 5 rfl) ?_
    refine lv_aload_n hx hb dX1_misfitsOf_8 rfl (lv_at hl 0 rfl) ?_
    refine gC_U_heard F hw tw1_51 dX1_misfitsOf_9 ?_
    refine aC_16_ln hx hb hw dX1_misfitsOf_12 ?_
    obtain ⟨g1, h⟩ := h
    refine q_icmp_ge (tgt := 45) hx hb g1 (by decide) dX1_misfitsOf_13 (by decide) (fun c2 => ?_) (fun c2 => ?_)
    · have h := ite_t c2 h
      refine lv_iload hx hb dX1_misfitsOf_45 (lv_at hl 4 rfl) ?_
      exact ret _ _ _ _ _ _ h hw hS dX1_misfitsOf_47
    · have h := ite_f c2 h
      refine lv_iload hx hb dX1_misfitsOf_16 (lv_at hl 4 rfl) ?_
      refine lv_aload_n hx hb dX1_misfitsOf_18 rfl (lv_at hl 0 rfl) ?_
      refine lv_iload hx hb dX1_misfitsOf_19 (lv_at hl 5 rfl) ?_
      refine lv_aload_n hx hb dX1_misfitsOf_21 rfl (lv_at hl 0 rfl) ?_
      refine gC_U_hour F hw tw1_52 dX1_misfitsOf_22 ?_
      refine lv_iload hx hb dX1_misfitsOf_25 (lv_at hl 5 rfl) ?_
      refine lv_iload_n hx hb dX1_misfitsOf_27 rfl (lv_at hl 1 rfl) ?_
      refine lv_iload_n hx hb dX1_misfitsOf_28 rfl (lv_at hl 2 rfl) ?_
      refine lv_iload_n hx hb dX1_misfitsOf_29 rfl (lv_at hl 3 rfl) ?_
      refine call_S hexC F (kX1_dueAt h) 5 tw4_140 tw1_3 tw4_139 tw4_159 hdX1_dueAt ⟨Nat.le_trans (by decide) hR.1, Nat.le_trans (by decide) hR.2⟩ hA hw hS rfl hl.1 rfl (Nat.le_of_ble_eq_true rfl) dX1_misfitsOf_30 (fun v3 μ4 H locs h hw hS => ?_)
      refine call_V hexC F (kX1_misfit h) 2 tw4_163 tw1_3 tw4_162 tws1_10 tw4_160 hdX1_misfit ⟨Nat.le_trans (by decide) hR.1, Nat.le_trans (by decide) hR.2⟩ (hw.recv (k := 6) (i := 0) rfl rfl rfl) hA hw hS rfl hl.1 rfl (Nat.le_of_ble_eq_true rfl) dX1_misfitsOf_33 (fun v5 μ6 H locs h hw hS => ?_)
      refine q_iadd hx hb dX1_misfitsOf_36 ?_
      refine lv_istore (lv' := [(4, .int (iI (x4 + v5))), (0, .ref (ad 6 0)), (1, .int (iI x1)), (2, .int (iI x2)), (3, .int (iI x3)), (5, .int (iI x5))]) hx hb dX1_misfitsOf_37 hl (by decide) rfl (fun ls hl => ?_)
      refine q_iinc (k := 5) (lv' := [(5, .int (iI (x5 + 1))), (4, .int (iI (x4 + v5))), (0, .ref (ad 6 0)), (1, .int (iI x1)), (2, .int (iI x2)), (3, .int (iI x3))]) hx hb dX1_misfitsOf_39 hl rfl (by decide) rfl (fun ls hl => ?_)
      refine lv_goto (tgt := 6) hx hb dX1_misfitsOf_42 (by decide) ?_
      exact ih x1 x2 x3 (x4 + v5) (x5 + 1) _ _ _ _ h hw hS (lv_sub hl [2, 3, 4, 5, 1, 0] rfl)
def wpX1_misfitsOf (G : GG) (x1 : Int) (x2 : Int) (x3 : Int) (μ : MM) (Q : Int → MM → Prop) : Prop := ∃ n1 : Nat, wpX1_misfitsOf_L6 G Q n1 x1 x2 x3 0 0 μ
set_option maxRecDepth 100000 in
set_option maxHeartbeats 4000000 in
theorem wX1_misfitsOf {G : GG} {Q : Int → MM → Prop} {x1 : Int} {x2 : Int} {x3 : Int} {μ : MM} {H : Heap} {locs : List Loc} {ls : Array Slot} (F : CallFix p m c cX1_misfitsOf 6 s args uw RX1) (hA : ∀ q : Nat, s.heap.size ≤ q → A q) (hR : 2 ≤ R.frames ∧ 46 ≤ R.locals) (ret : RetI p l e R s m args below meth c cX1_misfitsOf Qf (dmC G) (cfC G) tyC (exC G) D cy ad A Q) (h : wpX1_misfitsOf G x1 x2 x3 μ Q) (hw : wdC G D cy ad A μ s H) (hS : va_S A s.heap H locs) (hl : lv_has ls 6 [(0, .ref (ad 6 0)), (1, .int (iI x1)), (2, .int (iI x2)), (3, .int (iI x3))]) : W p l e R s m args below meth c H locs 0 0 Qf (F0 m 0 ls []) := by
  have hx := F.1
  have hb := F.2.1
  have hown := F.2.2.2.1
  have hts := F.2.2.2.2
  refine q_iconst hx hb dX1_misfitsOf_0 ?_
  refine lv_istore (lv' := [(4, .int (iI 0)), (0, .ref (ad 6 0)), (1, .int (iI x1)), (2, .int (iI x2)), (3, .int (iI x3))]) hx hb dX1_misfitsOf_1 hl (by decide) rfl (fun ls hl => ?_)
  refine q_iconst hx hb dX1_misfitsOf_3 ?_
  refine lv_istore (lv' := [(5, .int (iI 0)), (4, .int (iI 0)), (0, .ref (ad 6 0)), (1, .int (iI x1)), (2, .int (iI x2)), (3, .int (iI x3))]) hx hb dX1_misfitsOf_4 hl (by decide) rfl (fun ls hl => ?_)
  obtain ⟨n1, h⟩ := h
  exact wX1_misfitsOf_L6 F hA hR ret n1 x1 x2 x3 0 0 _ _ _ _ h hw hS (lv_sub hl [2, 3, 4, 5, 1, 0] rfl)
set_option maxRecDepth 100000 in
set_option maxHeartbeats 4000000 in
theorem kX1_misfitsOf {l : Launch} {D : va_G} {cy : Nat → ClassId} {ad : AD} {A : Nat → Prop} {G : GG} {x1 : Int} {x2 : Int} {x3 : Int} {μ : MM} {Q : Int → MM → Prop} (h : wpX1_misfitsOf G x1 x2 x3 μ Q) : Met l yX1_misfitsOf (Cond.code yX1_misfitsOf cX1_misfitsOf 6 (some .int) :: uw) (rmm 2 46) (wPc [.ref (ad 6 0), .int (iI x1), .int (iI x2), .int (iI x3)] (dmC G) (cfC G) tyC (exC G) D cy ad A μ) (wQ vI Q (dmC G) (cfC G) D cy ad A) 0 0 A :=
  met_of (by decide) (Nat.le_of_ble_eq_true rfl) (fun p e R s m args below meth c ls hr hk hRR F hA hw hS hl => wX1_misfitsOf F hA (by subst hRR; exact ⟨Nat.le_refl _, Nat.le_refl _⟩) (retI_of F hr hk) h hw hS hl)
theorem hdX1_misfitsOf : yX1_misfitsOf.cls ≠ "java/lang/invoke/MethodHandle" ∧ yX1_misfitsOf.cls ≠ "java/lang/invoke/VarHandle" ∧ (parseMethodDescriptor yX1_misfitsOf.desc).map (fun d => d.parameters.length) = some 3 := by decide +kernel
def wpX1_offer_J15 (G : GG) (Q : Int → MM → Prop) (x1 : Int) (x2 : Int) (x3 : Int) (x4 : Int) (μ : MM) : Prop := rg x4 ∧ (rg (μ 6 5 0) ∧ (if (μ 6 5 0) ≤ x4 then (Q 0 μ) else (∀ μ4 : MM, μ4 = ms μ 6 5 0 x4 → (∀ μ5 : MM, μ5 = ms μ4 6 2 0 x1 → (∀ μ6 : MM, μ6 = ms μ5 6 3 0 x2 → (∀ μ7 : MM, μ7 = ms μ6 6 4 0 x3 → (Q 0 μ7)))))))
set_option maxRecDepth 100000 in
set_option maxHeartbeats 4000000 in
theorem wX1_offer_J15 {G : GG} {Q : Int → MM → Prop} {x1 : Int} {x2 : Int} {x3 : Int} {x4 : Int} {μ : MM} {H : Heap} {locs : List Loc} {ls : Array Slot} (F : CallFix p m c cX1_offer 5 s args uw RX1) (hA : ∀ q : Nat, s.heap.size ≤ q → A q) (hR : 0 ≤ R.frames ∧ 0 ≤ R.locals) (ret : RetV p l e R s m args below meth c cX1_offer Qf (dmC G) (cfC G) tyC (exC G) D cy ad A Q) (h : wpX1_offer_J15 G Q x1 x2 x3 x4 μ) (hw : wdC G D cy ad A μ s H) (hS : va_S A s.heap H locs) (hl : lv_has ls 5 [(0, .ref (ad 6 0)), (1, .int (iI x1)), (2, .int (iI x2)), (3, .int (iI x3)), (4, .int (iI x4))]) : W p l e R s m args below meth c H locs 0 0 Qf (F0 m 15 ls []) := by
  have hx := F.1
  have hb := F.2.1
  have hown := F.2.2.2.1
  have hts := F.2.2.2.2
  refine lv_iload hx hb dX1_offer_15 (lv_at hl 4 rfl) ?_
  refine lv_aload_n hx hb dX1_offer_17 rfl (lv_at hl 0 rfl) ?_
  refine gC_U_fewest F hw tw1_59 dX1_offer_18 ?_
  obtain ⟨g1, h⟩ := h
  obtain ⟨g2, h⟩ := h
  refine q_icmp_ge (tgt := 45) hx hb g1 g2 dX1_offer_21 (by decide) (fun c3 => ?_) (fun c3 => ?_)
  · have h := ite_t c3 h
    exact ret _ _ _ _ _ h hw hS dX1_offer_45
  · have h := ite_f c3 h
    refine lv_aload_n hx hb dX1_offer_24 rfl (lv_at hl 0 rfl) ?_
    refine lv_iload hx hb dX1_offer_25 (lv_at hl 4 rfl) ?_
    obtain ⟨μ4, eμ4⟩ : ∃ z : MM, z = ms μ 6 5 0 x4 := ⟨_, rfl⟩
    have h := h μ4 eμ4
    refine pC_U_fewest F hw hS tw1_59 eμ4 dX1_offer_27 (fun H locs hw hS => ?_)
    refine lv_aload_n hx hb dX1_offer_30 rfl (lv_at hl 0 rfl) ?_
    refine lv_iload_n hx hb dX1_offer_31 rfl (lv_at hl 1 rfl) ?_
    obtain ⟨μ5, eμ5⟩ : ∃ z : MM, z = ms μ4 6 2 0 x1 := ⟨_, rfl⟩
    have h := h μ5 eμ5
    refine pC_U_sort F hw hS tw1_53 eμ5 dX1_offer_32 (fun H locs hw hS => ?_)
    refine lv_aload_n hx hb dX1_offer_35 rfl (lv_at hl 0 rfl) ?_
    refine lv_iload_n hx hb dX1_offer_36 rfl (lv_at hl 2 rfl) ?_
    obtain ⟨μ6, eμ6⟩ : ∃ z : MM, z = ms μ5 6 3 0 x2 := ⟨_, rfl⟩
    have h := h μ6 eμ6
    refine pC_U_first F hw hS tw1_55 eμ6 dX1_offer_37 (fun H locs hw hS => ?_)
    refine lv_aload_n hx hb dX1_offer_40 rfl (lv_at hl 0 rfl) ?_
    refine lv_iload_n hx hb dX1_offer_41 rfl (lv_at hl 3 rfl) ?_
    obtain ⟨μ7, eμ7⟩ : ∃ z : MM, z = ms μ6 6 4 0 x3 := ⟨_, rfl⟩
    have h := h μ7 eμ7
    refine pC_U_second F hw hS tw1_57 eμ7 dX1_offer_42 (fun H locs hw hS => ?_)
    exact ret _ _ _ _ _ h hw hS dX1_offer_45
def wpX1_offer (G : GG) (x1 : Int) (x2 : Int) (x3 : Int) (x4 : Int) (μ : MM) (Q : Int → MM → Prop) : Prop := rg x4 ∧ (if x4 = 0 then (∀ μ3 : MM, μ3 = ms μ 6 6 0 ((μ 6 6 0) + 1) → (wpX1_offer_J15 G Q x1 x2 x3 x4 μ3)) else (wpX1_offer_J15 G Q x1 x2 x3 x4 μ))
set_option maxRecDepth 100000 in
set_option maxHeartbeats 4000000 in
theorem wX1_offer {G : GG} {Q : Int → MM → Prop} {x1 : Int} {x2 : Int} {x3 : Int} {x4 : Int} {μ : MM} {H : Heap} {locs : List Loc} {ls : Array Slot} (F : CallFix p m c cX1_offer 5 s args uw RX1) (hA : ∀ q : Nat, s.heap.size ≤ q → A q) (hR : 0 ≤ R.frames ∧ 0 ≤ R.locals) (ret : RetV p l e R s m args below meth c cX1_offer Qf (dmC G) (cfC G) tyC (exC G) D cy ad A Q) (h : wpX1_offer G x1 x2 x3 x4 μ Q) (hw : wdC G D cy ad A μ s H) (hS : va_S A s.heap H locs) (hl : lv_has ls 5 [(0, .ref (ad 6 0)), (1, .int (iI x1)), (2, .int (iI x2)), (3, .int (iI x3)), (4, .int (iI x4))]) : W p l e R s m args below meth c H locs 0 0 Qf (F0 m 0 ls []) := by
  have hx := F.1
  have hb := F.2.1
  have hown := F.2.2.2.1
  have hts := F.2.2.2.2
  refine lv_iload hx hb dX1_offer_0 (lv_at hl 4 rfl) ?_
  obtain ⟨g1, h⟩ := h
  refine q_if_ne (tgt := 15) hx hb g1 dX1_offer_2 (by decide) (fun c2 => ?_) (fun c2 => ?_)
  · have h := ite_f c2 h
    exact wX1_offer_J15 F hA hR ret h hw hS (lv_sub hl [0, 1, 2, 3, 4] rfl)
  · have h := ite_t c2 h
    refine lv_aload_n hx hb dX1_offer_5 rfl (lv_at hl 0 rfl) ?_
    refine lv_dup hx hb dX1_offer_6 rfl ?_
    refine gC_U_fitting F hw tw1_61 dX1_offer_7 ?_
    refine q_iconst hx hb dX1_offer_10 ?_
    refine q_iadd hx hb dX1_offer_11 ?_
    obtain ⟨μ3, eμ3⟩ : ∃ z : MM, z = ms μ 6 6 0 ((μ 6 6 0) + 1) := ⟨_, rfl⟩
    have h := h μ3 eμ3
    refine pC_U_fitting F hw hS tw1_61 eμ3 dX1_offer_12 (fun H locs hw hS => ?_)
    exact wX1_offer_J15 F hA hR ret h hw hS (lv_sub hl [0, 1, 2, 3, 4] rfl)
set_option maxRecDepth 100000 in
set_option maxHeartbeats 4000000 in
theorem kX1_offer {l : Launch} {D : va_G} {cy : Nat → ClassId} {ad : AD} {A : Nat → Prop} {G : GG} {x1 : Int} {x2 : Int} {x3 : Int} {x4 : Int} {μ : MM} {Q : Int → MM → Prop} (h : wpX1_offer G x1 x2 x3 x4 μ Q) : Met l yX1_offer (Cond.code yX1_offer cX1_offer 5 none :: uw) (rmm 0 0) (wPc [.ref (ad 6 0), .int (iI x1), .int (iI x2), .int (iI x3), .int (iI x4)] (dmC G) (cfC G) tyC (exC G) D cy ad A μ) (wQ vV Q (dmC G) (cfC G) D cy ad A) 0 0 A :=
  met_of (by decide) (Nat.le_of_ble_eq_true rfl) (fun p e R s m args below meth c ls hr hk hRR F hA hw hS hl => wX1_offer F hA (by subst hRR; exact ⟨Nat.le_refl _, Nat.le_refl _⟩) (retV_of F hr hk) h hw hS hl)
theorem hdX1_offer : yX1_offer.cls ≠ "java/lang/invoke/MethodHandle" ∧ yX1_offer.cls ≠ "java/lang/invoke/VarHandle" ∧ (parseMethodDescriptor yX1_offer.desc).map (fun d => d.parameters.length) = some 4 := by decide +kernel
def wpX1_misfitOfNone (G : GG) (x1 : Int) (μ : MM) (Q : Int → MM → Prop) : Prop := wpX1_dueAt G (μ 6 1 0) x1 0 0 0 μ (fun v1 μ2 => wpX1_misfit G x1 v1 μ2 (fun v3 μ4 => Q v3 μ4))
set_option maxRecDepth 100000 in
set_option maxHeartbeats 4000000 in
theorem wX1_misfitOfNone {G : GG} {Q : Int → MM → Prop} {x1 : Int} {μ : MM} {H : Heap} {locs : List Loc} {ls : Array Slot} (F : CallFix p m c cX1_misfitOfNone 2 s args uw RX1) (hA : ∀ q : Nat, s.heap.size ≤ q → A q) (hR : 2 ≤ R.frames ∧ 46 ≤ R.locals) (ret : RetI p l e R s m args below meth c cX1_misfitOfNone Qf (dmC G) (cfC G) tyC (exC G) D cy ad A Q) (h : wpX1_misfitOfNone G x1 μ Q) (hw : wdC G D cy ad A μ s H) (hS : va_S A s.heap H locs) (hl : lv_has ls 2 [(0, .ref (ad 6 0)), (1, .int (iI x1))]) : W p l e R s m args below meth c H locs 0 0 Qf (F0 m 0 ls []) := by
  have hx := F.1
  have hb := F.2.1
  have hown := F.2.2.2.1
  have hts := F.2.2.2.2
  refine lv_aload_n hx hb dX1_misfitOfNone_0 rfl (lv_at hl 0 rfl) ?_
  refine lv_iload_n hx hb dX1_misfitOfNone_1 rfl (lv_at hl 1 rfl) ?_
  refine lv_aload_n hx hb dX1_misfitOfNone_2 rfl (lv_at hl 0 rfl) ?_
  refine gC_U_hour F hw tw1_52 dX1_misfitOfNone_3 ?_
  refine lv_iload_n hx hb dX1_misfitOfNone_6 rfl (lv_at hl 1 rfl) ?_
  refine q_iconst hx hb dX1_misfitOfNone_7 ?_
  refine q_iconst hx hb dX1_misfitOfNone_8 ?_
  refine q_iconst hx hb dX1_misfitOfNone_9 ?_
  refine call_S hexC F (kX1_dueAt h) 5 tw4_140 tw1_3 tw4_139 tw4_159 hdX1_dueAt ⟨Nat.le_trans (by decide) hR.1, Nat.le_trans (by decide) hR.2⟩ hA hw hS rfl hl.1 rfl (Nat.le_of_ble_eq_true rfl) dX1_misfitOfNone_10 (fun v1 μ2 H locs h hw hS => ?_)
  refine call_V hexC F (kX1_misfit h) 2 tw4_163 tw1_3 tw4_162 tws1_10 tw4_160 hdX1_misfit ⟨Nat.le_trans (by decide) hR.1, Nat.le_trans (by decide) hR.2⟩ (hw.recv (k := 6) (i := 0) rfl rfl rfl) hA hw hS rfl hl.1 rfl (Nat.le_of_ble_eq_true rfl) dX1_misfitOfNone_13 (fun v3 μ4 H locs h hw hS => ?_)
  exact ret _ _ _ _ _ _ h hw hS dX1_misfitOfNone_16
set_option maxRecDepth 100000 in
set_option maxHeartbeats 4000000 in
theorem kX1_misfitOfNone {l : Launch} {D : va_G} {cy : Nat → ClassId} {ad : AD} {A : Nat → Prop} {G : GG} {x1 : Int} {μ : MM} {Q : Int → MM → Prop} (h : wpX1_misfitOfNone G x1 μ Q) : Met l yX1_misfitOfNone (Cond.code yX1_misfitOfNone cX1_misfitOfNone 2 (some .int) :: uw) (rmm 2 46) (wPc [.ref (ad 6 0), .int (iI x1)] (dmC G) (cfC G) tyC (exC G) D cy ad A μ) (wQ vI Q (dmC G) (cfC G) D cy ad A) 0 0 A :=
  met_of (by decide) (Nat.le_of_ble_eq_true rfl) (fun p e R s m args below meth c ls hr hk hRR F hA hw hS hl => wX1_misfitOfNone F hA (by subst hRR; exact ⟨Nat.le_refl _, Nat.le_refl _⟩) (retI_of F hr hk) h hw hS hl)
theorem hdX1_misfitOfNone : yX1_misfitOfNone.cls ≠ "java/lang/invoke/MethodHandle" ∧ yX1_misfitOfNone.cls ≠ "java/lang/invoke/VarHandle" ∧ (parseMethodDescriptor yX1_misfitOfNone.desc).map (fun d => d.parameters.length) = some 1 := by decide +kernel
def wpX1_offerDeaf_L16 (G : GG) (k2 : Int → Int → MM → Prop) (Q : Int → MM → Prop) : Nat → Int → Int → Int → Int → MM → Prop
  | 0, _, _, _, _, _ => False
  | n + 1, x1, x2, x3, x4, μ => rg x4 ∧ (if 48 ≤ x4 then (k2 x1 (x2 + 1) μ) else (wpX1_misfit G x4 0 μ (fun v3 μ4 => wpX1_misfitOfNone G x4 μ4 (fun v5 μ6 => ∀ y7 : Int, y7 = x3 + (v3 - v5) → (wpX1_offer G 4 x2 x4 y7 μ6 (fun v8 μ9 => wpX1_offerDeaf_L16 G k2 Q n x1 x2 y7 (x4 + 1) μ9))))))
set_option maxRecDepth 100000 in
set_option maxHeartbeats 4000000 in
theorem wX1_offerDeaf_L16 {G : GG} {k2 : Int → Int → MM → Prop} {Q : Int → MM → Prop} (F : CallFix p m c cX1_offerDeaf 5 s args uw RX1) (hA : ∀ q : Nat, s.heap.size ≤ q → A q) (hR : 3 ≤ R.frames ∧ 67 ≤ R.locals) (ret : RetV p l e R s m args below meth c cX1_offerDeaf Qf (dmC G) (cfC G) tyC (exC G) D cy ad A Q) (hk2 : ∀ (x1' x2' : Int) (μ' : MM) (H : Heap) (locs : List Loc) (ls : Array Slot), k2 x1' x2' μ' → wdC G D cy ad A μ' s H → va_S A s.heap H locs → lv_has ls 5 [(0, .ref (ad 6 0)), (1, .int (iI (x1'))), (2, .int (iI (x2')))] → W p l e R s m args below meth c H locs 0 0 Qf (F0 m 2 ls [])) : ∀ (n : Nat) (x1 x2 x3 x4 : Int) (μ : MM) (H : Heap) (locs : List Loc) (ls : Array Slot), wpX1_offerDeaf_L16 G k2 Q n x1 x2 x3 x4 μ → wdC G D cy ad A μ s H → va_S A s.heap H locs → lv_has ls 5 [(0, .ref (ad 6 0)), (1, .int (iI x1)), (2, .int (iI x2)), (3, .int (iI x3)), (4, .int (iI x4))] → W p l e R s m args below meth c H locs 0 0 Qf (F0 m 16 ls []) := by
  have hx := F.1
  have hb := F.2.1
  have hown := F.2.2.2.1
  have hts := F.2.2.2.2
  intro n
  induction n with
  | zero =>
    intro x1 x2 x3 x4 μ H locs ls h hw hS hl
    exact h.elim
  | succ n ih =>
    intro x1 x2 x3 x4 μ H locs ls h hw hS hl
    refine lv_iload hx hb dX1_offerDeaf_16 (lv_at hl 4 rfl) ?_
    refine lv_aload_n hx hb dX1_offerDeaf_18 rfl (lv_at hl 0 rfl) ?_
    refine gC_U_heard F hw tw1_51 dX1_offerDeaf_19 ?_
    refine aC_16_ln hx hb hw dX1_offerDeaf_22 ?_
    obtain ⟨g1, h⟩ := h
    refine q_icmp_ge (tgt := 58) hx hb g1 (by decide) dX1_offerDeaf_23 (by decide) (fun c2 => ?_) (fun c2 => ?_)
    · have h := ite_t c2 h
      refine q_iinc (k := 2) (lv' := [(2, .int (iI (x2 + 1))), (0, .ref (ad 6 0)), (1, .int (iI x1)), (3, .int (iI x3)), (4, .int (iI x4))]) hx hb dX1_offerDeaf_58 hl rfl (by decide) rfl (fun ls hl => ?_)
      refine lv_goto (tgt := 2) hx hb dX1_offerDeaf_61 (by decide) ?_
      exact hk2 x1 (x2 + 1) _ _ _ _ h hw hS (lv_sub hl [1, 2, 0] rfl)
    · have h := ite_f c2 h
      refine lv_iload_n hx hb dX1_offerDeaf_26 rfl (lv_at hl 3 rfl) ?_
      refine lv_aload_n hx hb dX1_offerDeaf_27 rfl (lv_at hl 0 rfl) ?_
      refine lv_iload hx hb dX1_offerDeaf_28 (lv_at hl 4 rfl) ?_
      refine q_iconst hx hb dX1_offerDeaf_30 ?_
      refine call_V hexC F (kX1_misfit h) 2 tw4_163 tw1_3 tw4_162 tws1_10 tw4_160 hdX1_misfit ⟨Nat.le_trans (by decide) hR.1, Nat.le_trans (by decide) hR.2⟩ (hw.recv (k := 6) (i := 0) rfl rfl rfl) hA hw hS rfl hl.1 rfl (Nat.le_of_ble_eq_true rfl) dX1_offerDeaf_31 (fun v3 μ4 H locs h hw hS => ?_)
      refine lv_aload_n hx hb dX1_offerDeaf_34 rfl (lv_at hl 0 rfl) ?_
      refine lv_iload hx hb dX1_offerDeaf_35 (lv_at hl 4 rfl) ?_
      refine call_V hexC F (kX1_misfitOfNone h) 1 tw4_184 tw1_3 tw4_183 tws1_13 tw4_181 hdX1_misfitOfNone ⟨Nat.le_trans (by decide) hR.1, Nat.le_trans (by decide) hR.2⟩ (hw.recv (k := 6) (i := 0) rfl rfl rfl) hA hw hS rfl hl.1 rfl (Nat.le_of_ble_eq_true rfl) dX1_offerDeaf_37 (fun v5 μ6 H locs h hw hS => ?_)
      refine q_isub hx hb dX1_offerDeaf_40 ?_
      refine q_iadd hx hb dX1_offerDeaf_41 ?_
      obtain ⟨y7, ey7⟩ : ∃ z : Int, z = x3 + (v3 - v5) := ⟨_, rfl⟩
      have h := h y7 ey7
      refine q_nmI ey7 ?_
      refine lv_istore_n (lv' := [(3, .int (iI y7)), (0, .ref (ad 6 0)), (1, .int (iI x1)), (2, .int (iI x2)), (4, .int (iI x4))]) hx hb dX1_offerDeaf_42 rfl hl (by decide) rfl (fun ls hl => ?_)
      refine lv_aload_n hx hb dX1_offerDeaf_43 rfl (lv_at hl 1 rfl) ?_
      refine q_iconst hx hb dX1_offerDeaf_44 ?_
      refine lv_iload_n hx hb dX1_offerDeaf_45 rfl (lv_at hl 3 rfl) ?_
      refine lv_iload hx hb dX1_offerDeaf_46 (lv_at hl 4 rfl) ?_
      refine lv_iload_n hx hb dX1_offerDeaf_48 rfl (lv_at hl 0 rfl) ?_
      refine call_V hexC F (kX1_offer h) 4 tw4_176 tw1_3 tw4_175 tws1_11 tw4_173 hdX1_offer ⟨Nat.le_trans (by decide) hR.1, Nat.le_trans (by decide) hR.2⟩ (hw.recv (k := 6) (i := 0) rfl rfl rfl) hA hw hS rfl hl.1 rfl (Nat.le_of_ble_eq_true rfl) dX1_offerDeaf_49 (fun v8 μ9 H locs h hw hS => ?_)
      refine q_iinc (k := 4) (lv' := [(4, .int (iI (x4 + 1))), (3, .int (iI y7)), (0, .ref (ad 6 0)), (1, .int (iI x1)), (2, .int (iI x2))]) hx hb dX1_offerDeaf_52 hl rfl (by decide) rfl (fun ls hl => ?_)
      refine lv_goto (tgt := 16) hx hb dX1_offerDeaf_55 (by decide) ?_
      exact ih x1 x2 y7 (x4 + 1) _ _ _ _ h hw hS (lv_sub hl [2, 3, 4, 1, 0] rfl)
def wpX1_offerDeaf_L2 (G : GG) (Q : Int → MM → Prop) : Nat → Int → Int → MM → Prop
  | 0, _, _, _ => False
  | n + 1, x1, x2, μ => rg x2 ∧ (if 48 ≤ x2 then (Q 0 μ) else (∃ n3 : Nat, wpX1_offerDeaf_L16 G (fun x1' x2' μ' => wpX1_offerDeaf_L2 G Q n x1' x2' μ') Q n3 x1 x2 x1 x2 μ))
set_option maxRecDepth 100000 in
set_option maxHeartbeats 4000000 in
theorem wX1_offerDeaf_L2 {G : GG} {Q : Int → MM → Prop} (F : CallFix p m c cX1_offerDeaf 5 s args uw RX1) (hA : ∀ q : Nat, s.heap.size ≤ q → A q) (hR : 3 ≤ R.frames ∧ 67 ≤ R.locals) (ret : RetV p l e R s m args below meth c cX1_offerDeaf Qf (dmC G) (cfC G) tyC (exC G) D cy ad A Q) : ∀ (n : Nat) (x1 x2 : Int) (μ : MM) (H : Heap) (locs : List Loc) (ls : Array Slot), wpX1_offerDeaf_L2 G Q n x1 x2 μ → wdC G D cy ad A μ s H → va_S A s.heap H locs → lv_has ls 5 [(0, .ref (ad 6 0)), (1, .int (iI x1)), (2, .int (iI x2))] → W p l e R s m args below meth c H locs 0 0 Qf (F0 m 2 ls []) := by
  have hx := F.1
  have hb := F.2.1
  have hown := F.2.2.2.1
  have hts := F.2.2.2.2
  intro n
  induction n with
  | zero =>
    intro x1 x2 μ H locs ls h hw hS hl
    exact h.elim
  | succ n ih =>
    intro x1 x2 μ H locs ls h hw hS hl
    refine lv_iload_n hx hb dX1_offerDeaf_2 rfl (lv_at hl 2 rfl) ?_
    refine lv_aload_n hx hb dX1_offerDeaf_3 rfl (lv_at hl 0 rfl) ?_
    refine gC_U_heard F hw tw1_51 dX1_offerDeaf_4 ?_
    refine aC_16_ln hx hb hw dX1_offerDeaf_7 ?_
    obtain ⟨g1, h⟩ := h
    refine q_icmp_ge (tgt := 64) hx hb g1 (by decide) dX1_offerDeaf_8 (by decide) (fun c2 => ?_) (fun c2 => ?_)
    · have h := ite_t c2 h
      exact ret _ _ _ _ _ h hw hS dX1_offerDeaf_64
    · have h := ite_f c2 h
      refine lv_iload_n hx hb dX1_offerDeaf_11 rfl (lv_at hl 1 rfl) ?_
      refine lv_istore_n (lv' := [(3, .int (iI x1)), (0, .ref (ad 6 0)), (1, .int (iI x1)), (2, .int (iI x2))]) hx hb dX1_offerDeaf_12 rfl hl (by decide) rfl (fun ls hl => ?_)
      refine lv_iload_n hx hb dX1_offerDeaf_13 rfl (lv_at hl 3 rfl) ?_
      refine lv_istore (lv' := [(4, .int (iI x2)), (3, .int (iI x1)), (0, .ref (ad 6 0)), (1, .int (iI x1)), (2, .int (iI x2))]) hx hb dX1_offerDeaf_14 hl (by decide) rfl (fun ls hl => ?_)
      obtain ⟨n3, h⟩ := h
      exact wX1_offerDeaf_L16 F hA hR ret (fun x1 x2 => ih x1 x2) n3 x1 x2 x1 x2 _ _ _ _ h hw hS (lv_sub hl [2, 3, 4, 1, 0] rfl)
def wpX1_offerDeaf (G : GG) (x1 : Int) (μ : MM) (Q : Int → MM → Prop) : Prop := ∃ n1 : Nat, wpX1_offerDeaf_L2 G Q n1 x1 0 μ
set_option maxRecDepth 100000 in
set_option maxHeartbeats 4000000 in
theorem wX1_offerDeaf {G : GG} {Q : Int → MM → Prop} {x1 : Int} {μ : MM} {H : Heap} {locs : List Loc} {ls : Array Slot} (F : CallFix p m c cX1_offerDeaf 5 s args uw RX1) (hA : ∀ q : Nat, s.heap.size ≤ q → A q) (hR : 3 ≤ R.frames ∧ 67 ≤ R.locals) (ret : RetV p l e R s m args below meth c cX1_offerDeaf Qf (dmC G) (cfC G) tyC (exC G) D cy ad A Q) (h : wpX1_offerDeaf G x1 μ Q) (hw : wdC G D cy ad A μ s H) (hS : va_S A s.heap H locs) (hl : lv_has ls 5 [(0, .ref (ad 6 0)), (1, .int (iI x1))]) : W p l e R s m args below meth c H locs 0 0 Qf (F0 m 0 ls []) := by
  have hx := F.1
  have hb := F.2.1
  have hown := F.2.2.2.1
  have hts := F.2.2.2.2
  refine q_iconst hx hb dX1_offerDeaf_0 ?_
  refine lv_istore_n (lv' := [(2, .int (iI 0)), (0, .ref (ad 6 0)), (1, .int (iI x1))]) hx hb dX1_offerDeaf_1 rfl hl (by decide) rfl (fun ls hl => ?_)
  obtain ⟨n1, h⟩ := h
  exact wX1_offerDeaf_L2 F hA hR ret n1 x1 0 _ _ _ _ h hw hS (lv_sub hl [1, 2, 0] rfl)
set_option maxRecDepth 100000 in
set_option maxHeartbeats 4000000 in
theorem kX1_offerDeaf {l : Launch} {D : va_G} {cy : Nat → ClassId} {ad : AD} {A : Nat → Prop} {G : GG} {x1 : Int} {μ : MM} {Q : Int → MM → Prop} (h : wpX1_offerDeaf G x1 μ Q) : Met l yX1_offerDeaf (Cond.code yX1_offerDeaf cX1_offerDeaf 5 none :: uw) (rmm 3 67) (wPc [.ref (ad 6 0), .int (iI x1)] (dmC G) (cfC G) tyC (exC G) D cy ad A μ) (wQ vV Q (dmC G) (cfC G) D cy ad A) 0 0 A :=
  met_of (by decide) (Nat.le_of_ble_eq_true rfl) (fun p e R s m args below meth c ls hr hk hRR F hA hw hS hl => wX1_offerDeaf F hA (by subst hRR; exact ⟨Nat.le_refl _, Nat.le_refl _⟩) (retV_of F hr hk) h hw hS hl)
theorem hdX1_offerDeaf : yX1_offerDeaf.cls ≠ "java/lang/invoke/MethodHandle" ∧ yX1_offerDeaf.cls ≠ "java/lang/invoke/VarHandle" ∧ (parseMethodDescriptor yX1_offerDeaf.desc).map (fun d => d.parameters.length) = some 1 := by decide +kernel
end
