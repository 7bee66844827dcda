section
variable {p : Program} {l : Launch} {e : Env} {R : Room} {s : State} {m : MethodId} {args : Array Value} {below : List Frame} {meth : Method} {c : Code} {Qf : State → Prop} {D : va_G} {cy : Nat → ClassId} {ad : AD} {A : Nat → Prop}
def wpX10_minutesToMeet_J61 (G : GG) (Q : Int → MM → Prop) (x6 : Int) (t0 : Int) (μ : MM) : Prop := wpJ9_abs_0f7a4 G x6 μ (fun v1 μ2 => rg v1 ∧ (rl ((t0 + v1) - 1) ∧ (rl v1 ∧ (v1 ≠ 0 ∧ (Q (Int.tdiv ((t0 + v1) - 1) v1) μ2)))))
set_option maxRecDepth 100000 in
set_option maxHeartbeats 4000000 in
theorem wX10_minutesToMeet_J61 {G : GG} {Q : Int → MM → Prop} {x6 : Int} {t0 : Int} {μ : MM} {H : Heap} {locs : List Loc} {ls : Array Slot} (F : CallFix p m c cX10_minutesToMeet 11 s args uw RX10) (hA : ∀ q : Nat, s.heap.size ≤ q → A q) (hR : 1 ≤ R.frames ∧ 25 ≤ R.locals) (ret : RetI p l e R s m args below meth c cX10_minutesToMeet Qf (dmC G) (cfC G) tyC (exC G) D cy ad A Q) (h : wpX10_minutesToMeet_J61 G Q x6 t0 μ) (hw : wdC G D cy ad A μ s H) (hS : va_S A s.heap H locs) (hl : lv_has ls 11 [(6, .int (iI x6))]) : W p l e R s m args below meth c H locs 0 0 Qf (F0 m 61 ls [.long (lJ t0)]) := by
  have hx := F.1
  have hb := F.2.1
  have hown := F.2.2.2.1
  have hts := F.2.2.2.2
  refine lv_lstore (lv' := [(7, .long (lJ t0)), (6, .int (iI x6))]) hx hb dX10_minutesToMeet_61 hl (by decide) rfl (fun ls hl => ?_)
  refine lv_iload hx hb dX10_minutesToMeet_63 (lv_at hl 1 rfl) ?_
  refine call_S hexC F (kJ9_abs_0f7a4 h) 1 tw4_87 tw1_13 tw4_86 tw4_85 hdJ9_abs_0f7a4 ⟨Nat.le_trans (by decide) hR.1, Nat.le_trans (by decide) hR.2⟩ hA hw hS rfl hl.1 rfl (Nat.le_of_ble_eq_true rfl) dX10_minutesToMeet_65 (fun v1 μ2 H locs h hw hS => ?_)
  obtain ⟨g3, h⟩ := h
  refine q_i2l hx hb g3 dX10_minutesToMeet_68 ?_
  refine lv_lstore (lv' := [(9, .long (lJ v1)), (7, .long (lJ t0)), (6, .int (iI x6))]) hx hb dX10_minutesToMeet_69 hl (by decide) rfl (fun ls hl => ?_)
  refine lv_lload hx hb dX10_minutesToMeet_71 (lv_at hl 1 rfl) ?_
  refine lv_lload hx hb dX10_minutesToMeet_73 (lv_at hl 0 rfl) ?_
  refine q_ladd hx hb dX10_minutesToMeet_75 ?_
  refine q_lconst (v := 1) hx hb (by decide) dX10_minutesToMeet_76 ?_
  refine q_lsub hx hb dX10_minutesToMeet_77 ?_
  refine lv_lload hx hb dX10_minutesToMeet_78 (lv_at hl 0 rfl) ?_
  obtain ⟨g4, h⟩ := h
  obtain ⟨g5, h⟩ := h
  obtain ⟨g6, h⟩ := h
  refine q_ldiv hx hb g4 g5 g6 dX10_minutesToMeet_80 ?_
  refine q_l2i hx hb dX10_minutesToMeet_81 ?_
  exact ret _ _ _ _ _ _ h hw hS dX10_minutesToMeet_82
def wpX10_minutesToMeet (G : GG) (x0 : Int) (x1 : Int) (μ : MM) (Q : Int → MM → Prop) : Prop := wpX8_parts G x0 μ (fun v1 μ2 => wpX8_parts G x1 μ2 (fun v3 μ4 => wpJ9_floorMod_f86c9 G (v1 - v3) 124416000 μ4 (fun v5 μ6 => rl v5 ∧ (if v5 = 0 then (Q 0 μ6) else (∀ y9 : Int, y9 = (μ6 3 2 x0) - (μ6 3 2 x1) → (rg y9 ∧ (if y9 = 0 then (Q (-9) μ6) else (if y9 ≤ 0 then (wpX10_minutesToMeet_J61 G Q y9 v5 μ6) else (wpX10_minutesToMeet_J61 G Q y9 (124416000 - v5) μ6)))))))))
set_option maxRecDepth 100000 in
set_option maxHeartbeats 4000000 in
theorem wX10_minutesToMeet {G : GG} {Q : Int → MM → Prop} {x0 : Int} {x1 : Int} {μ : MM} {H : Heap} {locs : List Loc} {ls : Array Slot} (F : CallFix p m c cX10_minutesToMeet 11 s args uw RX10) (hA : ∀ q : Nat, s.heap.size ≤ q → A q) (hR : 1 ≤ R.frames ∧ 25 ≤ R.locals) (ret : RetI p l e R s m args below meth c cX10_minutesToMeet Qf (dmC G) (cfC G) tyC (exC G) D cy ad A Q) (h : wpX10_minutesToMeet G x0 x1 μ Q) (hi_x0 : 0 ≤ x0 ∧ x0 < 4) (hi_x1 : 0 ≤ x1 ∧ x1 < 4) (hw : wdC G D cy ad A μ s H) (hS : va_S A s.heap H locs) (hl : lv_has ls 11 [(0, .ref (ad 3 x0)), (1, .ref (ad 3 x1))]) : W p l e R s m args below meth c H locs 0 0 Qf (F0 m 0 ls []) := by
  have hx := F.1
  have hb := F.2.1
  have hown := F.2.2.2.1
  have hts := F.2.2.2.2
  refine q_ldc2 (n := 124416000) hx hb hown (hts _ tw4_76) (by decide) dX10_minutesToMeet_0 ?_
  refine lv_lstore_n (lv' := [(2, .long (lJ 124416000)), (0, .ref (ad 3 x0)), (1, .ref (ad 3 x1))]) hx hb dX10_minutesToMeet_3 rfl hl (by decide) rfl (fun ls hl => ?_)
  refine lv_aload_n hx hb dX10_minutesToMeet_4 rfl (lv_at hl 1 rfl) ?_
  refine call_V hexC F (kX8_parts h hi_x0) 0 tw4_80 tw1_6 tw4_78 tw4_79 tw4_77 hdX8_parts ⟨Nat.le_trans (by decide) hR.1, Nat.le_trans (by decide) hR.2⟩ (hw.recv (k := 3) (i := x0) hi_x0 rfl rfl) hA hw hS rfl hl.1 rfl (Nat.le_of_ble_eq_true rfl) dX10_minutesToMeet_5 (fun v1 μ2 H locs h hw hS => ?_)
  refine lv_aload_n hx hb dX10_minutesToMeet_8 rfl (lv_at hl 2 rfl) ?_
  refine call_V hexC F (kX8_parts h hi_x1) 0 tw4_80 tw1_6 tw4_78 tw4_79 tw4_77 hdX8_parts ⟨Nat.le_trans (by decide) hR.1, Nat.le_trans (by decide) hR.2⟩ (hw.recv (k := 3) (i := x1) hi_x1 rfl rfl) hA hw hS rfl hl.1 rfl (Nat.le_of_ble_eq_true rfl) dX10_minutesToMeet_9 (fun v3 μ4 H locs h hw hS => ?_)
  refine q_lsub hx hb dX10_minutesToMeet_12 ?_
  refine lv_lload_n hx hb dX10_minutesToMeet_13 rfl (lv_at hl 0 rfl) ?_
  refine call_S hexC F (kJ9_floorMod_f86c9 h) 2 tw4_84 tw1_13 tw4_83 tw4_82 hdJ9_floorMod_f86c9 ⟨Nat.le_trans (by decide) hR.1, Nat.le_trans (by decide) hR.2⟩ hA hw hS rfl hl.1 rfl (Nat.le_of_ble_eq_true rfl) dX10_minutesToMeet_14 (fun v5 μ6 H locs h hw hS => ?_)
  refine lv_lstore (lv' := [(4, .long (lJ v5)), (2, .long (lJ 124416000)), (0, .ref (ad 3 x0)), (1, .ref (ad 3 x1))]) hx hb dX10_minutesToMeet_17 hl (by decide) rfl (fun ls hl => ?_)
  refine lv_lload hx hb dX10_minutesToMeet_19 (lv_at hl 0 rfl) ?_
  refine q_lconst (v := 0) hx hb (by decide) dX10_minutesToMeet_21 ?_
  obtain ⟨g7, h⟩ := h
  refine q_lcmp_ne (tgt := 28) hx hb g7 (by decide) dX10_minutesToMeet_22 dX10_minutesToMeet_23 (by decide) (fun c8 => ?_) (fun c8 => ?_)
  · have h := ite_f c8 h
    refine lv_aload_n hx hb dX10_minutesToMeet_28 rfl (lv_at hl 2 rfl) ?_
    refine gC_W_rate F hw hi_x0 tw1_167 dX10_minutesToMeet_29 ?_
    refine lv_aload_n hx hb dX10_minutesToMeet_32 rfl (lv_at hl 3 rfl) ?_
    refine gC_W_rate F hw hi_x1 tw1_167 dX10_minutesToMeet_33 ?_
    refine q_isub hx hb dX10_minutesToMeet_36 ?_
    obtain ⟨y9, ey9⟩ : ∃ z : Int, z = (μ6 3 2 x0) - (μ6 3 2 x1) := ⟨_, rfl⟩
    have h := h y9 ey9
    refine q_nmI ey9 ?_
    refine lv_istore (lv' := [(6, .int (iI y9)), (4, .long (lJ v5)), (2, .long (lJ 124416000)), (0, .ref (ad 3 x0)), (1, .ref (ad 3 x1))]) hx hb dX10_minutesToMeet_37 hl (by decide) rfl (fun ls hl => ?_)
    refine lv_iload hx hb dX10_minutesToMeet_39 (lv_at hl 0 rfl) ?_
    obtain ⟨g10, h⟩ := h
    refine q_if_ne (tgt := 47) hx hb g10 dX10_minutesToMeet_41 (by decide) (fun c11 => ?_) (fun c11 => ?_)
    · have h := ite_f c11 h
      refine lv_iload hx hb dX10_minutesToMeet_47 (lv_at hl 0 rfl) ?_
      refine q_if_le (tgt := 59) hx hb g10 dX10_minutesToMeet_49 (by decide) (fun c12 => ?_) (fun c12 => ?_)
      · have h := ite_t c12 h
        refine lv_lload hx hb dX10_minutesToMeet_59 (lv_at hl 1 rfl) ?_
        exact wX10_minutesToMeet_J61 F hA hR ret h hw hS (lv_sub hl [0] rfl)
      · have h := ite_f c12 h
        refine lv_lload_n hx hb dX10_minutesToMeet_52 rfl (lv_at hl 2 rfl) ?_
        refine lv_lload hx hb dX10_minutesToMeet_53 (lv_at hl 1 rfl) ?_
        refine q_lsub hx hb dX10_minutesToMeet_55 ?_
        refine lv_goto (tgt := 61) hx hb dX10_minutesToMeet_56 (by decide) ?_
        exact wX10_minutesToMeet_J61 F hA hR ret h hw hS (lv_sub hl [0] rfl)
    · have h := ite_t c11 h
      refine q_bipush hx hb (by decide) dX10_minutesToMeet_44 ?_
      exact ret _ _ _ _ _ _ h hw hS dX10_minutesToMeet_46
  · have h := ite_t c8 h
    refine q_iconst hx hb dX10_minutesToMeet_26 ?_
    exact ret _ _ _ _ _ _ h hw hS dX10_minutesToMeet_27
set_option maxRecDepth 100000 in
set_option maxHeartbeats 4000000 in
theorem kX10_minutesToMeet {l : Launch} {D : va_G} {cy : Nat → ClassId} {ad : AD} {A : Nat → Prop} {G : GG} {x0 : Int} {x1 : Int} {μ : MM} {Q : Int → MM → Prop} (h : wpX10_minutesToMeet G x0 x1 μ Q) (hi_x0 : 0 ≤ x0 ∧ x0 < 4) (hi_x1 : 0 ≤ x1 ∧ x1 < 4) : Met l yX10_minutesToMeet (Cond.code yX10_minutesToMeet cX10_minutesToMeet 11 (some .int) :: uw) (rmm 1 25) (wPc [.ref (ad 3 x0), .ref (ad 3 x1)] (dmC G) (cfC G) tyC (exC G) D cy ad A μ) (wQ vI Q (dmC G) (cfC G) D cy ad A) 0 0 A :=
  met_of (by decide) (Nat.le_of_ble_eq_true rfl) (fun p e R s m args below meth c ls hr hk hRR F hA hw hS hl => wX10_minutesToMeet F hA (by subst hRR; exact ⟨Nat.le_refl _, Nat.le_refl _⟩) (retI_of F hr hk) h hi_x0 hi_x1 hw hS hl)
theorem hdX10_minutesToMeet : yX10_minutesToMeet.cls ≠ "java/lang/invoke/MethodHandle" ∧ yX10_minutesToMeet.cls ≠ "java/lang/invoke/VarHandle" ∧ (parseMethodDescriptor yX10_minutesToMeet.desc).map (fun d => d.parameters.length) = some 2 := by decide +kernel
def wpX10_meet_J39 (G : GG) (Q : Int → MM → Prop) (μ : MM) : Prop := wpX10_found G 1 μ (fun v1 μ2 => Q v1 μ2)
set_option maxRecDepth 100000 in
set_option maxHeartbeats 4000000 in
theorem wX10_meet_J39 {G : GG} {Q : Int → MM → Prop} {μ : MM} {H : Heap} {locs : List Loc} {ls : Array Slot} (F : CallFix p m c cX10_meet 5 s args uw RX10) (hA : ∀ q : Nat, s.heap.size ≤ q → A q) (hR : 2 ≤ R.frames ∧ 55 ≤ R.locals) (ret : RetI p l e R s m args below meth c cX10_meet Qf (dmC G) (cfC G) tyC (exC G) D cy ad A Q) (h : wpX10_meet_J39 G Q μ) (hw : wdC G D cy ad A μ s H) (hS : va_S A s.heap H locs) (hl : lv_has ls 5 [(0, .ref (ad 0 0))]) : W p l e R s m args below meth c H locs 0 0 Qf (F0 m 39 ls []) := by
  have hx := F.1
  have hb := F.2.1
  have hown := F.2.2.2.1
  have hts := F.2.2.2.2
  refine lv_aload_n hx hb dX10_meet_39 rfl (lv_at hl 0 rfl) ?_
  refine q_iconst hx hb dX10_meet_40 ?_
  refine call_V hexC F (kX10_found h) 1 tw2_20 tw1_1 tw2_19 tws1_1 tw2_17 hdX10_found ⟨Nat.le_trans (by decide) hR.1, Nat.le_trans (by decide) hR.2⟩ (hw.recv (k := 0) (i := 0) rfl rfl rfl) hA hw hS rfl hl.1 rfl (Nat.le_of_ble_eq_true rfl) dX10_meet_41 (fun v1 μ2 H locs h hw hS => ?_)
  exact ret _ _ _ _ _ _ h hw hS dX10_meet_44
def wpX10_meet (G : GG) (x1 : Int) (x2 : Int) (μ : MM) (Q : Int → MM → Prop) : Prop := wpX10_towerOf G x1 μ (fun v1 μ2 => wpX10_towerOf G x2 μ2 (fun v3 μ4 => if v1 < 0 then (Q (-1) μ4) else (v1 < 4 ∧ (if v3 < 0 then (Q (-1) μ4) else (v3 < 4 ∧ (rg (μ4 3 0 v1) ∧ (if (μ4 3 0 v1) = 0 then (wpX10_meet_J39 G Q  μ4) else (rg (μ4 3 0 v3) ∧ (if (μ4 3 0 v3) = 0 then (wpX10_meet_J39 G Q  μ4) else (rg (μ4 3 5 v1) ∧ (if (μ4 3 5 v1) = 0 then (Q (-4) μ4) else (rg (μ4 3 5 v3) ∧ (if (μ4 3 5 v3) = 0 then (Q (-4) μ4) else (wpX10_minutesToMeet G v1 v3 μ4 (fun v19 μ20 => Q v19 μ20)))))))))))))))
set_option maxRecDepth 100000 in
set_option maxHeartbeats 4000000 in
theorem wX10_meet {G : GG} {Q : Int → MM → Prop} {x1 : Int} {x2 : Int} {μ : MM} {H : Heap} {locs : List Loc} {ls : Array Slot} (F : CallFix p m c cX10_meet 5 s args uw RX10) (hA : ∀ q : Nat, s.heap.size ≤ q → A q) (hR : 2 ≤ R.frames ∧ 55 ≤ R.locals) (ret : RetI p l e R s m args below meth c cX10_meet Qf (dmC G) (cfC G) tyC (exC G) D cy ad A Q) (h : wpX10_meet G x1 x2 μ Q) (hw : wdC G D cy ad A μ s H) (hS : va_S A s.heap H locs) (hl : lv_has ls 5 [(0, .ref (ad 0 0)), (1, .int (iI x1)), (2, .int (iI x2))]) : W p l e R s m args below meth c H locs 0 0 Qf (F0 m 0 ls []) := by
  have hx := F.1
  have hb := F.2.1
  have hown := F.2.2.2.1
  have hts := F.2.2.2.2
  refine lv_aload_n hx hb dX10_meet_0 rfl (lv_at hl 0 rfl) ?_
  refine lv_iload_n hx hb dX10_meet_1 rfl (lv_at hl 1 rfl) ?_
  refine call_V hexC F (kX10_towerOf h) 1 tw3_99 tw1_1 tw3_98 tws1_5 tw3_96 hdX10_towerOf ⟨Nat.le_trans (by decide) hR.1, Nat.le_trans (by decide) hR.2⟩ (hw.recv (k := 0) (i := 0) rfl rfl rfl) hA hw hS rfl hl.1 rfl (Nat.le_of_ble_eq_true rfl) dX10_meet_2 (fun v1 μ2 H locs h hw hS => ?_)
  refine q_astore_n (lv' := [(3, rf ad 3 v1), (0, .ref (ad 0 0)), (1, .int (iI x1)), (2, .int (iI x2))]) hx hb dX10_meet_5 rfl hl (by decide) rfl (fun ls hl => ?_)
  refine lv_aload_n hx hb dX10_meet_6 rfl (lv_at hl 1 rfl) ?_
  refine lv_iload_n hx hb dX10_meet_7 rfl (lv_at hl 3 rfl) ?_
  refine call_V hexC F (kX10_towerOf h) 1 tw3_99 tw1_1 tw3_98 tws1_5 tw3_96 hdX10_towerOf ⟨Nat.le_trans (by decide) hR.1, Nat.le_trans (by decide) hR.2⟩ (hw.recv (k := 0) (i := 0) rfl rfl rfl) hA hw hS rfl hl.1 rfl (Nat.le_of_ble_eq_true rfl) dX10_meet_8 (fun v3 μ4 H locs h hw hS => ?_)
  refine q_astore (lv' := [(4, rf ad 3 v3), (3, rf ad 3 v1), (0, .ref (ad 0 0)), (1, .int (iI x1)), (2, .int (iI x2))]) hx hb dX10_meet_11 hl (by decide) (by simp [rf_cat]) (fun ls hl => ?_)
  refine q_aload_n hx hb dX10_meet_13 rfl (lv_at hl 1 rfl) ?_
  refine q_ifnull (tgt := 22) hx hb dX10_meet_14 (by decide) (fun c5 => ?_) (fun c5 => ?_)
  · have h := ite_t c5 h
    refine q_iconst hx hb dX10_meet_22 ?_
    exact ret _ _ _ _ _ _ h hw hS dX10_meet_23
  · have h := ite_f c5 h
    obtain ⟨g6, h⟩ := h
    have hi7 : 0 ≤ v1 ∧ v1 < 4 := ⟨by omega, g6⟩
    have hl : lv_has ls 5 [(4, rf ad 3 v3), (3, .ref (ad 3 v1)), (0, .ref (ad 0 0)), (1, .int (iI x1)), (2, .int (iI x2))] := by rw [← rf_pos (ad := ad) (k := 3) hi7.1]; exact hl
    refine q_aload hx hb dX10_meet_17 (lv_at hl 0 rfl) ?_
    refine q_ifnonnull (tgt := 24) hx hb dX10_meet_19 (by decide) (fun c8 => ?_) (fun c8 => ?_)
    · have h := ite_t c8 h
      refine q_iconst hx hb dX10_meet_22 ?_
      exact ret _ _ _ _ _ _ h hw hS dX10_meet_23
    · have h := ite_f c8 h
      obtain ⟨g9, h⟩ := h
      have hi10 : 0 ≤ v3 ∧ v3 < 4 := ⟨by omega, g9⟩
      have hl : lv_has ls 5 [(4, .ref (ad 3 v3)), (3, .ref (ad 3 v1)), (0, .ref (ad 0 0)), (1, .int (iI x1)), (2, .int (iI x2))] := by rw [← rf_pos (ad := ad) (k := 3) hi10.1]; exact hl
      refine lv_aload_n hx hb dX10_meet_24 rfl (lv_at hl 1 rfl) ?_
      refine gC_W_there F hw hi7 tw1_163 dX10_meet_25 ?_
      obtain ⟨g11, h⟩ := h
      refine q_if_eq (tgt := 39) hx hb g11 dX10_meet_28 (by decide) (fun c12 => ?_) (fun c12 => ?_)
      · have h := ite_t c12 h
        exact wX10_meet_J39 F hA hR ret h hw hS (lv_sub hl [2] rfl)
      · have h := ite_f c12 h
        refine lv_aload hx hb dX10_meet_31 (lv_at hl 0 rfl) ?_
        refine gC_W_there F hw hi10 tw1_163 dX10_meet_33 ?_
        obtain ⟨g13, h⟩ := h
        refine q_if_ne (tgt := 45) hx hb g13 dX10_meet_36 (by decide) (fun c14 => ?_) (fun c14 => ?_)
        · have h := ite_f c14 h
          refine lv_aload_n hx hb dX10_meet_45 rfl (lv_at hl 1 rfl) ?_
          refine gC_W_goes F hw hi7 tw1_173 dX10_meet_46 ?_
          obtain ⟨g15, h⟩ := h
          refine q_if_eq (tgt := 60) hx hb g15 dX10_meet_49 (by decide) (fun c16 => ?_) (fun c16 => ?_)
          · have h := ite_t c16 h
            refine q_bipush hx hb (by decide) dX10_meet_60 ?_
            exact ret _ _ _ _ _ _ h hw hS dX10_meet_62
          · have h := ite_f c16 h
            refine lv_aload hx hb dX10_meet_52 (lv_at hl 0 rfl) ?_
            refine gC_W_goes F hw hi10 tw1_173 dX10_meet_54 ?_
            obtain ⟨g17, h⟩ := h
            refine q_if_ne (tgt := 63) hx hb g17 dX10_meet_57 (by decide) (fun c18 => ?_) (fun c18 => ?_)
            · have h := ite_f c18 h
              refine lv_aload_n hx hb dX10_meet_63 rfl (lv_at hl 1 rfl) ?_
              refine lv_aload hx hb dX10_meet_64 (lv_at hl 0 rfl) ?_
              refine call_S hexC F (kX10_minutesToMeet h hi7 hi10) 2 tw4_75 tw1_1 tw4_74 tw4_73 hdX10_minutesToMeet ⟨Nat.le_trans (by decide) hR.1, Nat.le_trans (by decide) hR.2⟩ hA hw hS rfl hl.1 rfl (Nat.le_of_ble_eq_true rfl) dX10_meet_66 (fun v19 μ20 H locs h hw hS => ?_)
              exact ret _ _ _ _ _ _ h hw hS dX10_meet_69
            · have h := ite_t c18 h
              refine q_bipush hx hb (by decide) dX10_meet_60 ?_
              exact ret _ _ _ _ _ _ h hw hS dX10_meet_62
        · have h := ite_t c14 h
          exact wX10_meet_J39 F hA hR ret h hw hS (lv_sub hl [2] rfl)
set_option maxRecDepth 100000 in
set_option maxHeartbeats 4000000 in
theorem kX10_meet {l : Launch} {D : va_G} {cy : Nat → ClassId} {ad : AD} {A : Nat → Prop} {G : GG} {x1 : Int} {x2 : Int} {μ : MM} {Q : Int → MM → Prop} (h : wpX10_meet G x1 x2 μ Q) : Met l yX10_meet (Cond.code yX10_meet cX10_meet 5 (some .int) :: uw) (rmm 2 55) (wPc [.ref (ad 0 0), .int (iI x1), .int (iI x2)] (dmC G) (cfC G) tyC (exC G) D cy ad A μ) (wQ vI Q (dmC G) (cfC G) D cy ad A) 0 0 A :=
  met_of (by decide) (Nat.le_of_ble_eq_true rfl) (fun p e R s m args below meth c ls hr hk hRR F hA hw hS hl => wX10_meet F hA (by subst hRR; exact ⟨Nat.le_refl _, Nat.le_refl _⟩) (retI_of F hr hk) h hw hS hl)
theorem hdX10_meet : yX10_meet.cls ≠ "java/lang/invoke/MethodHandle" ∧ yX10_meet.cls ≠ "java/lang/invoke/VarHandle" ∧ (parseMethodDescriptor yX10_meet.desc).map (fun d => d.parameters.length) = some 2 := by decide +kernel
def wpX10_misfits (G : GG) (x1 : Int) (x2 : Int) (x3 : Int) (x4 : Int) (x5 : Int) (μ : MM) (Q : Int → MM → Prop) : Prop := wpX1_isFault G x3 x4 x5 μ (fun v1 μ2 => wpX10_refusalOfHeard G x1 x2 v1 μ2 (fun v4 μ5 => rg v4 ∧ (if v4 = 0 then (wpX10_rowOf G x1 μ5 (fun v8 μ9 => wpX1_listen G v8 x2 μ9 (fun v10 μ11 => wpX1_misfitsOf G x3 x4 x5 μ11 (fun v12 μ13 => Q v12 μ13)))) else (Q v4 μ5))))
set_option maxRecDepth 100000 in
set_option maxHeartbeats 4000000 in
theorem wX10_misfits {G : GG} {Q : Int → MM → Prop} {x1 : Int} {x2 : Int} {x3 : Int} {x4 : Int} {x5 : Int} {μ : MM} {H : Heap} {locs : List Loc} {ls : Array Slot} (F : CallFix p m c cX10_misfits 7 s args uw RX10) (hA : ∀ q : Nat, s.heap.size ≤ q → A q) (hR : 3 ≤ R.frames ∧ 71 ≤ R.locals) (ret : RetI p l e R s m args below meth c cX10_misfits Qf (dmC G) (cfC G) tyC (exC G) D cy ad A Q) (h : wpX10_misfits G x1 x2 x3 x4 x5 μ Q) (hw : wdC G D cy ad A μ s H) (hS : va_S A s.heap H locs) (hl : lv_has ls 7 [(0, .ref (ad 0 0)), (1, .int (iI x1)), (2, .int (iI x2)), (3, .int (iI x3)), (4, .int (iI x4)), (5, .int (iI x5))]) : W p l e R s m args below meth c H locs 0 0 Qf (F0 m 0 ls []) := by
  have hx := F.1
  have hb := F.2.1
  have hown := F.2.2.2.1
  have hts := F.2.2.2.2
  refine lv_aload_n hx hb dX10_misfits_0 rfl (lv_at hl 0 rfl) ?_
  refine lv_iload_n hx hb dX10_misfits_1 rfl (lv_at hl 1 rfl) ?_
  refine lv_iload_n hx hb dX10_misfits_2 rfl (lv_at hl 2 rfl) ?_
  refine lv_iload_n hx hb dX10_misfits_3 rfl (lv_at hl 3 rfl) ?_
  refine lv_iload hx hb dX10_misfits_4 (lv_at hl 4 rfl) ?_
  refine lv_iload hx hb dX10_misfits_6 (lv_at hl 5 rfl) ?_
  refine call_S hexC F (kX1_isFault h) 3 tw4_136 tw1_3 tw4_135 tw4_134 hdX1_isFault ⟨Nat.le_trans (by decide) hR.1, Nat.le_trans (by decide) hR.2⟩ hA hw hS rfl hl.1 rfl (Nat.le_of_ble_eq_true rfl) dX10_misfits_8 (fun v1 μ2 H locs h hw hS => ?_)
  obtain ⟨z3, h⟩ := h
  refine call_V hexC F (kX10_refusalOfHeard h) 3 tw4_149 tw1_1 tw4_148 tws1_9 tw4_146 hdX10_refusalOfHeard ⟨Nat.le_trans (by decide) hR.1, Nat.le_trans (by decide) hR.2⟩ (hw.recv (k := 0) (i := 0) rfl rfl rfl) hA hw hS rfl hl.1 rfl (Nat.le_of_ble_eq_true rfl) dX10_misfits_11 (fun v4 μ5 H locs h hw hS => ?_)
  refine lv_istore (lv' := [(6, .int (iI v4)), (0, .ref (ad 0 0)), (1, .int (iI x1)), (2, .int (iI x2)), (3, .int (iI x3)), (4, .int (iI x4)), (5, .int (iI x5))]) hx hb dX10_misfits_14 hl (by decide) rfl (fun ls hl => ?_)
  refine lv_iload hx hb dX10_misfits_16 (lv_at hl 0 rfl) ?_
  obtain ⟨g6, h⟩ := h
  refine q_if_eq (tgt := 24) hx hb g6 dX10_misfits_18 (by decide) (fun c7 => ?_) (fun c7 => ?_)
  · have h := ite_t c7 h
    refine lv_aload_n hx hb dX10_misfits_24 rfl (lv_at hl 1 rfl) ?_
    refine gC_H_faults F hw tw1_212 dX10_misfits_25 ?_
    refine lv_aload_n hx hb dX10_misfits_28 rfl (lv_at hl 1 rfl) ?_
    refine lv_iload_n hx hb dX10_misfits_29 rfl (lv_at hl 2 rfl) ?_
    refine call_V hexC F (kX10_rowOf h) 1 tw2_16 tw1_1 tw2_15 tws1_0 tw2_13 hdX10_rowOf ⟨Nat.le_trans (by decide) hR.1, Nat.le_trans (by decide) hR.2⟩ (hw.recv (k := 0) (i := 0) rfl rfl rfl) hA hw hS rfl hl.1 rfl (Nat.le_of_ble_eq_true rfl) dX10_misfits_30 (fun v8 μ9 H locs h hw hS => ?_)
    refine lv_iload_n hx hb dX10_misfits_33 rfl (lv_at hl 3 rfl) ?_
    refine call_V hexC F (kX1_listen h) 2 tw4_153 tw1_3 tw4_151 tw4_152 tw4_150 hdX1_listen ⟨Nat.le_trans (by decide) hR.1, Nat.le_trans (by decide) hR.2⟩ (hw.recv (k := 6) (i := 0) rfl rfl rfl) hA hw hS rfl hl.1 rfl (Nat.le_of_ble_eq_true rfl) dX10_misfits_34 (fun v10 μ11 H locs h hw hS => ?_)
    refine lv_aload_n hx hb dX10_misfits_37 rfl (lv_at hl 1 rfl) ?_
    refine gC_H_faults F hw tw1_212 dX10_misfits_38 ?_
    refine lv_iload_n hx hb dX10_misfits_41 rfl (lv_at hl 4 rfl) ?_
    refine lv_iload hx hb dX10_misfits_42 (lv_at hl 5 rfl) ?_
    refine lv_iload hx hb dX10_misfits_44 (lv_at hl 6 rfl) ?_
    refine call_V hexC F (kX1_misfitsOf h) 3 tw4_158 tw1_3 tw4_156 tw4_157 tw4_155 hdX1_misfitsOf ⟨Nat.le_trans (by decide) hR.1, Nat.le_trans (by decide) hR.2⟩ (hw.recv (k := 6) (i := 0) rfl rfl rfl) hA hw hS rfl hl.1 rfl (Nat.le_of_ble_eq_true rfl) dX10_misfits_46 (fun v12 μ13 H locs h hw hS => ?_)
    exact ret _ _ _ _ _ _ h hw hS dX10_misfits_49
  · have h := ite_f c7 h
    refine lv_iload hx hb dX10_misfits_21 (lv_at hl 0 rfl) ?_
    exact ret _ _ _ _ _ _ h hw hS dX10_misfits_23
set_option maxRecDepth 100000 in
set_option maxHeartbeats 4000000 in
theorem kX10_misfits {l : Launch} {D : va_G} {cy : Nat → ClassId} {ad : AD} {A : Nat → Prop} {G : GG} {x1 : Int} {x2 : Int} {x3 : Int} {x4 : Int} {x5 : Int} {μ : MM} {Q : Int → MM → Prop} (h : wpX10_misfits G x1 x2 x3 x4 x5 μ Q) : Met l yX10_misfits (Cond.code yX10_misfits cX10_misfits 7 (some .int) :: uw) (rmm 3 71) (wPc [.ref (ad 0 0), .int (iI x1), .int (iI x2), .int (iI x3), .int (iI x4), .int (iI x5)] (dmC G) (cfC G) tyC (exC G) D cy ad A μ) (wQ vI Q (dmC G) (cfC G) D cy ad A) 0 0 A :=
  met_of (by decide) (Nat.le_of_ble_eq_true rfl) (fun p e R s m args below meth c ls hr hk hRR F hA hw hS hl => wX10_misfits F hA (by subst hRR; exact ⟨Nat.le_refl _, Nat.le_refl _⟩) (retI_of F hr hk) h hw hS hl)
theorem hdX10_misfits : yX10_misfits.cls ≠ "java/lang/invoke/MethodHandle" ∧ yX10_misfits.cls ≠ "java/lang/invoke/VarHandle" ∧ (parseMethodDescriptor yX10_misfits.desc).map (fun d => d.parameters.length) = some 5 := by decide +kernel
def wpX2_teethOr1 (G : GG) (x1 : Int) (μ : MM) (Q : Int → MM → Prop) : Prop := rg x1 ∧ (if x1 < 0 then (Q 1 μ) else (if 12 ≤ x1 then (Q 1 μ) else (0 ≤ x1 ∧ (x1 < 12 ∧ (Q (μ 17 0 x1) μ)))))
set_option maxRecDepth 100000 in
set_option maxHeartbeats 4000000 in
theorem wX2_teethOr1 {G : GG} {Q : Int → MM → Prop} {x1 : Int} {μ : MM} {H : Heap} {locs : List Loc} {ls : Array Slot} (F : CallFix p m c cX2_teethOr1 2 s args uw RX2) (hA : ∀ q : Nat, s.heap.size ≤ q → A q) (hR : 0 ≤ R.frames ∧ 0 ≤ R.locals) (ret : RetI p l e R s m args below meth c cX2_teethOr1 Qf (dmC G) (cfC G) tyC (exC G) D cy ad A Q) (h : wpX2_teethOr1 G x1 μ Q) (hw : wdC G D cy ad A μ s H) (hS : va_S A s.heap H locs) (hl : lv_has ls 2 [(0, .ref (ad 7 0)), (1, .int (iI x1))]) : W p l e R s m args below meth c H locs 0 0 Qf (F0 m 0 ls []) := by
  have hx := F.1
  have hb := F.2.1
  have hown := F.2.2.2.1
  have hts := F.2.2.2.2
  refine lv_iload_n hx hb dX2_teethOr1_0 rfl (lv_at hl 1 rfl) ?_
  obtain ⟨g1, h⟩ := h
  refine q_if_lt (tgt := 22) hx hb g1 dX2_teethOr1_1 (by decide) (fun c2 => ?_) (fun c2 => ?_)
  · have h := ite_t c2 h
    refine q_iconst hx hb dX2_teethOr1_22 ?_
    exact ret _ _ _ _ _ _ h hw hS dX2_teethOr1_23
  · have h := ite_f c2 h
    refine lv_iload_n hx hb dX2_teethOr1_4 rfl (lv_at hl 1 rfl) ?_
    refine lv_aload_n hx hb dX2_teethOr1_5 rfl (lv_at hl 0 rfl) ?_
    refine gC_Q_teeth F hw tw1_84 dX2_teethOr1_6 ?_
    refine aC_17_ln hx hb hw dX2_teethOr1_9 ?_
    refine q_icmp_ge (tgt := 22) hx hb g1 (by decide) dX2_teethOr1_10 (by decide) (fun c3 => ?_) (fun c3 => ?_)
    · have h := ite_t c3 h
      refine q_iconst hx hb dX2_teethOr1_22 ?_
      exact ret _ _ _ _ _ _ h hw hS dX2_teethOr1_23
    · have h := ite_f c3 h
      refine lv_aload_n hx hb dX2_teethOr1_13 rfl (lv_at hl 0 rfl) ?_
      refine gC_Q_teeth F hw tw1_84 dX2_teethOr1_14 ?_
      refine lv_iload_n hx hb dX2_teethOr1_17 rfl (lv_at hl 1 rfl) ?_
      obtain ⟨g4, h⟩ := h
      obtain ⟨g5, h⟩ := h
      refine aC_17_ld hx hb hw g4 g5 dX2_teethOr1_18 ?_
      refine lv_goto (tgt := 23) hx hb dX2_teethOr1_19 (by decide) ?_
      exact ret _ _ _ _ _ _ h hw hS dX2_teethOr1_23
set_option maxRecDepth 100000 in
set_option maxHeartbeats 4000000 in
theorem kX2_teethOr1 {l : Launch} {D : va_G} {cy : Nat → ClassId} {ad : AD} {A : Nat → Prop} {G : GG} {x1 : Int} {μ : MM} {Q : Int → MM → Prop} (h : wpX2_teethOr1 G x1 μ Q) : Met l yX2_teethOr1 (Cond.code yX2_teethOr1 cX2_teethOr1 2 (some .int) :: uw) (rmm 0 0) (wPc [.ref (ad 7 0), .int (iI x1)] (dmC G) (cfC G) tyC (exC G) D cy ad A μ) (wQ vI Q (dmC G) (cfC G) D cy ad A) 0 0 A :=
  met_of (by decide) (Nat.le_of_ble_eq_true rfl) (fun p e R s m args below meth c ls hr hk hRR F hA hw hS hl => wX2_teethOr1 F hA (by subst hRR; exact ⟨Nat.le_refl _, Nat.le_refl _⟩) (retI_of F hr hk) h hw hS hl)
theorem hdX2_teethOr1 : yX2_teethOr1.cls ≠ "java/lang/invoke/MethodHandle" ∧ yX2_teethOr1.cls ≠ "java/lang/invoke/VarHandle" ∧ (parseMethodDescriptor yX2_teethOr1.desc).map (fun d => d.parameters.length) = some 1 := by decide +kernel
def wpX2_offer_J77 (G : GG) (Q : Int → MM → Prop) (x1 : Int) (x2 : Int) (x3 : Int) (x4 : Int) (x5 : Int) (x7 : Int) (x9 : Int) (μ : MM) : Prop := ∀ μ1 : MM, μ1 = ms μ 7 6 0 x9 → (∀ μ2 : MM, μ2 = ms μ1 7 7 0 x5 → (∀ μ3 : MM, μ3 = ms μ2 7 8 0 x7 → (∀ μ4 : MM, μ4 = ms μ3 18 0 0 x1 → (∀ μ5 : MM, μ5 = ms μ4 18 0 1 x2 → (∀ μ6 : MM, μ6 = ms μ5 18 0 2 x3 → (∀ μ7 : MM, μ7 = ms μ6 18 0 3 x4 → (rg x3 ∧ (if x3 = (-9) then (∀ μ11 : MM, μ11 = ms μ7 7 3 0 2 → (Q 0 μ11)) else (∀ μ10 : MM, μ10 = ms μ7 7 3 0 4 → (Q 0 μ10))))))))))
set_option maxRecDepth 100000 in
set_option maxHeartbeats 4000000 in
theorem wX2_offer_J77 {G : GG} {Q : Int → MM → Prop} {x1 : Int} {x2 : Int} {x3 : Int} {x4 : Int} {x5 : Int} {x7 : Int} {x9 : Int} {μ : MM} {H : Heap} {locs : List Loc} {ls : Array Slot} (F : CallFix p m c cX2_offer 11 s args uw RX2) (hA : ∀ q : Nat, s.heap.size ≤ q → A q) (hR : 1 ≤ R.frames ∧ 21 ≤ R.locals) (ret : RetV p l e R s m args below meth c cX2_offer Qf (dmC G) (cfC G) tyC (exC G) D cy ad A Q) (h : wpX2_offer_J77 G Q x1 x2 x3 x4 x5 x7 x9 μ) (hw : wdC G D cy ad A μ s H) (hS : va_S A s.heap H locs) (hl : lv_has ls 11 [(0, .ref (ad 7 0)), (1, .int (iI x1)), (2, .int (iI x2)), (3, .int (iI x3)), (4, .int (iI x4)), (5, .long (lJ x5)), (7, .long (lJ x7)), (9, .long (lJ x9))]) : W p l e R s m args below meth c H locs 0 0 Qf (F0 m 77 ls []) := by
  have hx := F.1
  have hb := F.2.1
  have hown := F.2.2.2.1
  have hts := F.2.2.2.2
  refine lv_aload_n hx hb dX2_offer_77 rfl (lv_at hl 0 rfl) ?_
  refine lv_lload hx hb dX2_offer_78 (lv_at hl 7 rfl) ?_
  obtain ⟨μ1, eμ1⟩ : ∃ z : MM, z = ms μ 7 6 0 x9 := ⟨_, rfl⟩
  have h := h μ1 eμ1
  refine pC_Q_leastGap F hw hS tw1_91 eμ1 dX2_offer_80 (fun H locs hw hS => ?_)
  refine lv_aload_n hx hb dX2_offer_83 rfl (lv_at hl 0 rfl) ?_
  refine lv_lload hx hb dX2_offer_84 (lv_at hl 5 rfl) ?_
  obtain ⟨μ2, eμ2⟩ : ∃ z : MM, z = ms μ1 7 7 0 x5 := ⟨_, rfl⟩
  have h := h μ2 eμ2
  refine pC_Q_upper F hw hS tw1_92 eμ2 dX2_offer_86 (fun H locs hw hS => ?_)
  refine lv_aload_n hx hb dX2_offer_89 rfl (lv_at hl 0 rfl) ?_
  refine lv_lload hx hb dX2_offer_90 (lv_at hl 6 rfl) ?_
  obtain ⟨μ3, eμ3⟩ : ∃ z : MM, z = ms μ2 7 8 0 x7 := ⟨_, rfl⟩
  have h := h μ3 eμ3
  refine pC_Q_lower F hw hS tw1_94 eμ3 dX2_offer_92 (fun H locs hw hS => ?_)
  refine lv_aload_n hx hb dX2_offer_95 rfl (lv_at hl 0 rfl) ?_
  refine gC_Q_chosen F hw tw1_87 dX2_offer_96 ?_
  refine q_iconst hx hb dX2_offer_99 ?_
  refine lv_iload_n hx hb dX2_offer_100 rfl (lv_at hl 1 rfl) ?_
  obtain ⟨μ4, eμ4⟩ : ∃ z : MM, z = ms μ3 18 0 0 x1 := ⟨_, rfl⟩
  have h := h μ4 eμ4
  refine aC_18_st hx hb hw hS (by decide) (by decide) eμ4 dX2_offer_101 (fun H locs hw hS => ?_)
  refine lv_aload_n hx hb dX2_offer_102 rfl (lv_at hl 0 rfl) ?_
  refine gC_Q_chosen F hw tw1_87 dX2_offer_103 ?_
  refine q_iconst hx hb dX2_offer_106 ?_
  refine lv_iload_n hx hb dX2_offer_107 rfl (lv_at hl 2 rfl) ?_
  obtain ⟨μ5, eμ5⟩ : ∃ z : MM, z = ms μ4 18 0 1 x2 := ⟨_, rfl⟩
  have h := h μ5 eμ5
  refine aC_18_st hx hb hw hS (by decide) (by decide) eμ5 dX2_offer_108 (fun H locs hw hS => ?_)
  refine lv_aload_n hx hb dX2_offer_109 rfl (lv_at hl 0 rfl) ?_
  refine gC_Q_chosen F hw tw1_87 dX2_offer_110 ?_
  refine q_iconst hx hb dX2_offer_113 ?_
  refine lv_iload_n hx hb dX2_offer_114 rfl (lv_at hl 3 rfl) ?_
  obtain ⟨μ6, eμ6⟩ : ∃ z : MM, z = ms μ5 18 0 2 x3 := ⟨_, rfl⟩
  have h := h μ6 eμ6
  refine aC_18_st hx hb hw hS (by decide) (by decide) eμ6 dX2_offer_115 (fun H locs hw hS => ?_)
  refine lv_aload_n hx hb dX2_offer_116 rfl (lv_at hl 0 rfl) ?_
  refine gC_Q_chosen F hw tw1_87 dX2_offer_117 ?_
  refine q_iconst hx hb dX2_offer_120 ?_
  refine lv_iload hx hb dX2_offer_121 (lv_at hl 4 rfl) ?_
  obtain ⟨μ7, eμ7⟩ : ∃ z : MM, z = ms μ6 18 0 3 x4 := ⟨_, rfl⟩
  have h := h μ7 eμ7
  refine aC_18_st hx hb hw hS (by decide) (by decide) eμ7 dX2_offer_123 (fun H locs hw hS => ?_)
  refine lv_aload_n hx hb dX2_offer_124 rfl (lv_at hl 0 rfl) ?_
  refine lv_iload_n hx hb dX2_offer_125 rfl (lv_at hl 3 rfl) ?_
  refine q_bipush hx hb (by decide) dX2_offer_126 ?_
  obtain ⟨g8, h⟩ := h
  refine q_icmp_ne (tgt := 135) hx hb g8 (by decide) dX2_offer_128 (by decide) (fun c9 => ?_) (fun c9 => ?_)
  · have h := ite_f c9 h
    refine q_iconst hx hb dX2_offer_135 ?_
    obtain ⟨μ10, eμ10⟩ : ∃ z : MM, z = ms μ7 7 3 0 4 := ⟨_, rfl⟩
    have h := h μ10 eμ10
    refine pC_Q_chosenCount F hw hS tw1_88 eμ10 dX2_offer_136 (fun H locs hw hS => ?_)
    exact ret _ _ _ _ _ h hw hS dX2_offer_139
  · have h := ite_t c9 h
    refine q_iconst hx hb dX2_offer_131 ?_
    refine lv_goto (tgt := 136) hx hb dX2_offer_132 (by decide) ?_
    obtain ⟨μ11, eμ11⟩ : ∃ z : MM, z = ms μ7 7 3 0 2 := ⟨_, rfl⟩
    have h := h μ11 eμ11
    refine pC_Q_chosenCount F hw hS tw1_88 eμ11 dX2_offer_136 (fun H locs hw hS => ?_)
    exact ret _ _ _ _ _ h hw hS dX2_offer_139
def wpX2_offer (G : GG) (x1 : Int) (x2 : Int) (x3 : Int) (x4 : Int) (μ : MM) (Q : Int → MM → Prop) : Prop := wpX2_teethOr1 G x1 μ (fun v1 μ2 => rg v1 ∧ (wpX2_teethOr1 G x3 μ2 (fun v4 μ5 => rg v4 ∧ (wpX2_teethOr1 G x2 μ5 (fun v7 μ8 => rg v7 ∧ (wpX2_teethOr1 G x4 μ8 (fun v10 μ11 => rg v10 ∧ (wpJ9_abs_067f4 G (((v1 * v4) * (μ11 7 5 0)) - ((μ11 7 4 0) * (v7 * v10))) μ11 (fun v13 μ14 => rg (μ14 7 3 0) ∧ (if (μ14 7 3 0) ≤ 0 then (wpX2_offer_J77 G Q x1 x2 x3 x4 (v1 * v4) (v7 * v10) v13 μ14) else (rl (v13 * (μ14 7 8 0)) ∧ (rl ((μ14 7 6 0) * (v7 * v10)) ∧ (if (v13 * (μ14 7 8 0)) < ((μ14 7 6 0) * (v7 * v10)) then (wpX2_offer_J77 G Q x1 x2 x3 x4 (v1 * v4) (v7 * v10) v13 μ14) else (Q 0 μ14))))))))))))))
set_option maxRecDepth 100000 in
set_option maxHeartbeats 4000000 in
theorem wX2_offer {G : GG} {Q : Int → MM → Prop} {x1 : Int} {x2 : Int} {x3 : Int} {x4 : Int} {μ : MM} {H : Heap} {locs : List Loc} {ls : Array Slot} (F : CallFix p m c cX2_offer 11 s args uw RX2) (hA : ∀ q : Nat, s.heap.size ≤ q → A q) (hR : 1 ≤ R.frames ∧ 21 ≤ R.locals) (ret : RetV p l e R s m args below meth c cX2_offer Qf (dmC G) (cfC G) tyC (exC G) D cy ad A Q) (h : wpX2_offer G x1 x2 x3 x4 μ Q) (hw : wdC G D cy ad A μ s H) (hS : va_S A s.heap H locs) (hl : lv_has ls 11 [(0, .ref (ad 7 0)), (1, .int (iI x1)), (2, .int (iI x2)), (3, .int (iI x3)), (4, .int (iI x4))]) : W p l e R s m args below meth c H locs 0 0 Qf (F0 m 0 ls []) := by
  have hx := F.1
  have hb := F.2.1
  have hown := F.2.2.2.1
  have hts := F.2.2.2.2
  refine lv_aload_n hx hb dX2_offer_0 rfl (lv_at hl 0 rfl) ?_
  refine lv_iload_n hx hb dX2_offer_1 rfl (lv_at hl 1 rfl) ?_
  refine call_V hexC F (kX2_teethOr1 h) 1 tw4_237 tw1_4 tw4_236 tws2_2 tw4_234 hdX2_teethOr1 ⟨Nat.le_trans (by decide) hR.1, Nat.le_trans (by decide) hR.2⟩ (hw.recv (k := 7) (i := 0) rfl rfl rfl) hA hw hS rfl hl.1 rfl (Nat.le_of_ble_eq_true rfl) dX2_offer_2 (fun v1 μ2 H locs h hw hS => ?_)
  obtain ⟨g3, h⟩ := h
  refine q_i2l hx hb g3 dX2_offer_5 ?_
  refine lv_aload_n hx hb dX2_offer_6 rfl (lv_at hl 0 rfl) ?_
  refine lv_iload_n hx hb dX2_offer_7 rfl (lv_at hl 3 rfl) ?_
  refine call_V hexC F (kX2_teethOr1 h) 1 tw4_237 tw1_4 tw4_236 tws2_2 tw4_234 hdX2_teethOr1 ⟨Nat.le_trans (by decide) hR.1, Nat.le_trans (by decide) hR.2⟩ (hw.recv (k := 7) (i := 0) rfl rfl rfl) hA hw hS rfl hl.1 rfl (Nat.le_of_ble_eq_true rfl) dX2_offer_8 (fun v4 μ5 H locs h hw hS => ?_)
  obtain ⟨g6, h⟩ := h
  refine q_i2l hx hb g6 dX2_offer_11 ?_
  refine q_lmul hx hb dX2_offer_12 ?_
  refine lv_lstore (lv' := [(5, .long (lJ (v1 * v4))), (0, .ref (ad 7 0)), (1, .int (iI x1)), (2, .int (iI x2)), (3, .int (iI x3)), (4, .int (iI x4))]) hx hb dX2_offer_13 hl (by decide) rfl (fun ls hl => ?_)
  refine lv_aload_n hx hb dX2_offer_15 rfl (lv_at hl 1 rfl) ?_
  refine lv_iload_n hx hb dX2_offer_16 rfl (lv_at hl 3 rfl) ?_
  refine call_V hexC F (kX2_teethOr1 h) 1 tw4_237 tw1_4 tw4_236 tws2_2 tw4_234 hdX2_teethOr1 ⟨Nat.le_trans (by decide) hR.1, Nat.le_trans (by decide) hR.2⟩ (hw.recv (k := 7) (i := 0) rfl rfl rfl) hA hw hS rfl hl.1 rfl (Nat.le_of_ble_eq_true rfl) dX2_offer_17 (fun v7 μ8 H locs h hw hS => ?_)
  obtain ⟨g9, h⟩ := h
  refine q_i2l hx hb g9 dX2_offer_20 ?_
  refine lv_aload_n hx hb dX2_offer_21 rfl (lv_at hl 1 rfl) ?_
  refine lv_iload hx hb dX2_offer_22 (lv_at hl 5 rfl) ?_
  refine call_V hexC F (kX2_teethOr1 h) 1 tw4_237 tw1_4 tw4_236 tws2_2 tw4_234 hdX2_teethOr1 ⟨Nat.le_trans (by decide) hR.1, Nat.le_trans (by decide) hR.2⟩ (hw.recv (k := 7) (i := 0) rfl rfl rfl) hA hw hS rfl hl.1 rfl (Nat.le_of_ble_eq_true rfl) dX2_offer_24 (fun v10 μ11 H locs h hw hS => ?_)
  obtain ⟨g12, h⟩ := h
  refine q_i2l hx hb g12 dX2_offer_27 ?_
  refine q_lmul hx hb dX2_offer_28 ?_
  refine lv_lstore (lv' := [(7, .long (lJ (v7 * v10))), (5, .long (lJ (v1 * v4))), (0, .ref (ad 7 0)), (1, .int (iI x1)), (2, .int (iI x2)), (3, .int (iI x3)), (4, .int (iI x4))]) hx hb dX2_offer_29 hl (by decide) rfl (fun ls hl => ?_)
  refine lv_lload hx hb dX2_offer_31 (lv_at hl 1 rfl) ?_
  refine lv_aload_n hx hb dX2_offer_33 rfl (lv_at hl 2 rfl) ?_
  refine gC_Q_dueLower F hw tw1_90 dX2_offer_34 ?_
  refine q_lmul hx hb dX2_offer_37 ?_
  refine lv_aload_n hx hb dX2_offer_38 rfl (lv_at hl 2 rfl) ?_
  refine gC_Q_dueUpper F hw tw1_89 dX2_offer_39 ?_
  refine lv_lload hx hb dX2_offer_42 (lv_at hl 0 rfl) ?_
  refine q_lmul hx hb dX2_offer_44 ?_
  refine q_lsub hx hb dX2_offer_45 ?_
  refine call_S hexC F (kJ9_abs_067f4 h) 1 tw5_0 tw1_13 tw4_239 tw4_238 hdJ9_abs_067f4 ⟨Nat.le_trans (by decide) hR.1, Nat.le_trans (by decide) hR.2⟩ hA hw hS rfl hl.1 rfl (Nat.le_of_ble_eq_true rfl) dX2_offer_46 (fun v13 μ14 H locs h hw hS => ?_)
  refine lv_lstore (lv' := [(9, .long (lJ v13)), (7, .long (lJ (v7 * v10))), (5, .long (lJ (v1 * v4))), (0, .ref (ad 7 0)), (1, .int (iI x1)), (2, .int (iI x2)), (3, .int (iI x3)), (4, .int (iI x4))]) hx hb dX2_offer_49 hl (by decide) rfl (fun ls hl => ?_)
  refine lv_aload_n hx hb dX2_offer_51 rfl (lv_at hl 3 rfl) ?_
  refine gC_Q_chosenCount F hw tw1_88 dX2_offer_52 ?_
  obtain ⟨g15, h⟩ := h
  refine q_if_le (tgt := 77) hx hb g15 dX2_offer_55 (by decide) (fun c16 => ?_) (fun c16 => ?_)
  · have h := ite_t c16 h
    exact wX2_offer_J77 F hA hR ret h hw hS (lv_sub hl [3, 4, 5, 6, 7, 2, 1, 0] rfl)
  · have h := ite_f c16 h
    refine lv_lload hx hb dX2_offer_58 (lv_at hl 0 rfl) ?_
    refine lv_aload_n hx hb dX2_offer_60 rfl (lv_at hl 3 rfl) ?_
    refine gC_Q_lower F hw tw1_94 dX2_offer_61 ?_
    refine q_lmul hx hb dX2_offer_64 ?_
    refine lv_aload_n hx hb dX2_offer_65 rfl (lv_at hl 3 rfl) ?_
    refine gC_Q_leastGap F hw tw1_91 dX2_offer_66 ?_
    refine lv_lload hx hb dX2_offer_69 (lv_at hl 1 rfl) ?_
    refine q_lmul hx hb dX2_offer_71 ?_
    obtain ⟨g17, h⟩ := h
    obtain ⟨g18, h⟩ := h
    refine q_lcmp_lt (tgt := 77) hx hb g17 g18 dX2_offer_72 dX2_offer_73 (by decide) (fun c19 => ?_) (fun c19 => ?_)
    · have h := ite_t c19 h
      exact wX2_offer_J77 F hA hR ret h hw hS (lv_sub hl [3, 4, 5, 6, 7, 2, 1, 0] rfl)
    · have h := ite_f c19 h
      exact ret _ _ _ _ _ h hw hS dX2_offer_76
set_option maxRecDepth 100000 in
set_option maxHeartbeats 4000000 in
theorem kX2_offer {l : Launch} {D : va_G} {cy : Nat → ClassId} {ad : AD} {A : Nat → Prop} {G : GG} {x1 : Int} {x2 : Int} {x3 : Int} {x4 : Int} {μ : MM} {Q : Int → MM → Prop} (h : wpX2_offer G x1 x2 x3 x4 μ Q) : Met l yX2_offer (Cond.code yX2_offer cX2_offer 11 none :: uw) (rmm 1 21) (wPc [.ref (ad 7 0), .int (iI x1), .int (iI x2), .int (iI x3), .int (iI x4)] (dmC G) (cfC G) tyC (exC G) D cy ad A μ) (wQ vV Q (dmC G) (cfC G) D cy ad A) 0 0 A :=
  met_of (by decide) (Nat.le_of_ble_eq_true rfl) (fun p e R s m args below meth c ls hr hk hRR F hA hw hS hl => wX2_offer F hA (by subst hRR; exact ⟨Nat.le_refl _, Nat.le_refl _⟩) (retV_of F hr hk) h hw hS hl)
theorem hdX2_offer : yX2_offer.cls ≠ "java/lang/invoke/MethodHandle" ∧ yX2_offer.cls ≠ "java/lang/invoke/VarHandle" ∧ (parseMethodDescriptor yX2_offer.desc).map (fun d => d.parameters.length) = some 4 := by decide +kernel
def wpX2_offerSecondPairs_J68 (G : GG) (k2 : Int → Int → Int → MM → Prop) (Q : Int → MM → Prop) (x1 : Int) (x2 : Int) (x3 : Int) (μ : MM) : Prop := k2 x1 x2 (x3 + 1) μ
set_option maxRecDepth 100000 in
set_option maxHeartbeats 4000000 in
theorem wX2_offerSecondPairs_J68 {G : GG} {k2 : Int → Int → Int → MM → Prop} {Q : Int → MM → Prop} {x1 : Int} {x2 : Int} {x3 : Int} {μ : MM} {H : Heap} {locs : List Loc} {ls : Array Slot} (F : CallFix p m c cX2_offerSecondPairs 5 s args uw RX2) (hA : ∀ q : Nat, s.heap.size ≤ q → A q) (hR : 2 ≤ R.frames ∧ 51 ≤ R.locals) (ret : RetV p l e R s m args below meth c cX2_offerSecondPairs Qf (dmC G) (cfC G) tyC (exC G) D cy ad A Q) (hk2 : ∀ (x1' x2' x3' : Int) (μ' : MM) (H : Heap) (locs : List Loc) (ls : Array Slot), k2 x1' x2' x3' μ' → wdC G D cy ad A μ' s H → va_S A s.heap H locs → lv_has ls 5 [(0, .ref (ad 7 0)), (1, .int (iI (x1'))), (2, .int (iI (x2'))), (3, .int (iI (x3')))] → W p l e R s m args below meth c H locs 0 0 Qf (F0 m 2 ls [])) (h : wpX2_offerSecondPairs_J68 G k2 Q x1 x2 x3 μ) (hw : wdC G D cy ad A μ s H) (hS : va_S A s.heap H locs) (hl : lv_has ls 5 [(0, .ref (ad 7 0)), (1, .int (iI x1)), (2, .int (iI x2)), (3, .int (iI x3))]) : W p l e R s m args below meth c H locs 0 0 Qf (F0 m 68 ls []) := by
  have hx := F.1
  have hb := F.2.1
  have hown := F.2.2.2.1
  have hts := F.2.2.2.2
  refine q_iinc (k := 3) (lv' := [(3, .int (iI (x3 + 1))), (0, .ref (ad 7 0)), (1, .int (iI x1)), (2, .int (iI x2))]) hx hb dX2_offerSecondPairs_68 hl rfl (by decide) rfl (fun ls hl => ?_)
  refine lv_goto (tgt := 2) hx hb dX2_offerSecondPairs_71 (by decide) ?_
  exact hk2 x1 x2 (x3 + 1) _ _ _ _ h hw hS (lv_sub hl [1, 2, 3, 0] rfl)
def wpX2_offerSecondPairs_J62 (G : GG) (k26 : Int → Int → Int → Int → MM → Prop) (k2 : Int → Int → Int → MM → Prop) (Q : Int → MM → Prop) (x1 : Int) (x2 : Int) (x3 : Int) (x4 : Int) (μ : MM) : Prop := k26 x1 x2 x3 (x4 + 1) μ
set_option maxRecDepth 100000 in
set_option maxHeartbeats 4000000 in
theorem wX2_offerSecondPairs_J62 {G : GG} {k26 : Int → Int → Int → Int → MM → Prop} {k2 : Int → Int → Int → MM → Prop} {Q : Int → MM → Prop} {x1 : Int} {x2 : Int} {x3 : Int} {x4 : Int} {μ : MM} {H : Heap} {locs : List Loc} {ls : Array Slot} (F : CallFix p m c cX2_offerSecondPairs 5 s args uw RX2) (hA : ∀ q : Nat, s.heap.size ≤ q → A q) (hR : 2 ≤ R.frames ∧ 51 ≤ R.locals) (ret : RetV p l e R s m args below meth c cX2_offerSecondPairs Qf (dmC G) (cfC G) tyC (exC G) D cy ad A Q) (hk26 : ∀ (x1' x2' x3' x4' : Int) (μ' : MM) (H : Heap) (locs : List Loc) (ls : Array Slot), k26 x1' x2' x3' x4' μ' → wdC G D cy ad A μ' s H → va_S A s.heap H locs → lv_has ls 5 [(0, .ref (ad 7 0)), (1, .int (iI (x1'))), (2, .int (iI (x2'))), (3, .int (iI (x3'))), (4, .int (iI (x4')))] → W p l e R s m args below meth c H locs 0 0 Qf (F0 m 26 ls [])) (hk2 : ∀ (x1' x2' x3' : Int) (μ' : MM) (H : Heap) (locs : List Loc) (ls : Array Slot), k2 x1' x2' x3' μ' → wdC G D cy ad A μ' s H → va_S A s.heap H locs → lv_has ls 5 [(0, .ref (ad 7 0)), (1, .int (iI (x1'))), (2, .int (iI (x2'))), (3, .int (iI (x3')))] → W p l e R s m args below meth c H locs 0 0 Qf (F0 m 2 ls [])) (h : wpX2_offerSecondPairs_J62 G k26 k2 Q x1 x2 x3 x4 μ) (hw : wdC G D cy ad A μ s H) (hS : va_S A s.heap H locs) (hl : lv_has ls 5 [(0, .ref (ad 7 0)), (1, .int (iI x1)), (2, .int (iI x2)), (3, .int (iI x3)), (4, .int (iI x4))]) : W p l e R s m args below meth c H locs 0 0 Qf (F0 m 62 ls []) := by
  have hx := F.1
  have hb := F.2.1
  have hown := F.2.2.2.1
  have hts := F.2.2.2.2
  refine q_iinc (k := 4) (lv' := [(4, .int (iI (x4 + 1))), (0, .ref (ad 7 0)), (1, .int (iI x1)), (2, .int (iI x2)), (3, .int (iI x3))]) hx hb dX2_offerSecondPairs_62 hl rfl (by decide) rfl (fun ls hl => ?_)
  refine lv_goto (tgt := 26) hx hb dX2_offerSecondPairs_65 (by decide) ?_
  exact hk26 x1 x2 x3 (x4 + 1) _ _ _ _ h hw hS (lv_sub hl [1, 2, 3, 4, 0] rfl)
def wpX2_offerSecondPairs_L26 (G : GG) (k2 : Int → Int → Int → MM → Prop) (Q : Int → MM → Prop) : Nat → Int → Int → Int → Int → MM → Prop
  | 0, _, _, _, _, _ => False
  | n + 1, x1, x2, x3, x4, μ => rg x4 ∧ (rg (μ 7 1 0) ∧ (if (μ 7 1 0) ≤ x4 then (wpX2_offerSecondPairs_J68 G k2 Q x1 x2 x3 μ) else (rg x1 ∧ (if x4 = x1 then (wpX2_offerSecondPairs_J62 G (fun x1' x2' x3' x4' μ' => wpX2_offerSecondPairs_L26 G k2 Q n x1' x2' x3' x4' μ') k2 Q x1 x2 x3 x4 μ) else (rg x2 ∧ (if x4 = x2 then (wpX2_offerSecondPairs_J62 G (fun x1' x2' x3' x4' μ' => wpX2_offerSecondPairs_L26 G k2 Q n x1' x2' x3' x4' μ') k2 Q x1 x2 x3 x4 μ) else (rg x3 ∧ (if x4 = x3 then (wpX2_offerSecondPairs_J62 G (fun x1' x2' x3' x4' μ' => wpX2_offerSecondPairs_L26 G k2 Q n x1' x2' x3' x4' μ') k2 Q x1 x2 x3 x4 μ) else (wpX2_offer G x1 x2 x3 x4 μ (fun v10 μ11 => wpX2_offerSecondPairs_J62 G (fun x1' x2' x3' x4' μ' => wpX2_offerSecondPairs_L26 G k2 Q n x1' x2' x3' x4' μ') k2 Q x1 x2 x3 x4 μ11))))))))))
set_option maxRecDepth 100000 in
set_option maxHeartbeats 4000000 in
theorem wX2_offerSecondPairs_L26 {G : GG} {k2 : Int → Int → Int → MM → Prop} {Q : Int → MM → Prop} (F : CallFix p m c cX2_offerSecondPairs 5 s args uw RX2) (hA : ∀ q : Nat, s.heap.size ≤ q → A q) (hR : 2 ≤ R.frames ∧ 51 ≤ R.locals) (ret : RetV p l e R s m args below meth c cX2_offerSecondPairs Qf (dmC G) (cfC G) tyC (exC G) D cy ad A Q) (hk2 : ∀ (x1' x2' x3' : Int) (μ' : MM) (H : Heap) (locs : List Loc) (ls : Array Slot), k2 x1' x2' x3' μ' → wdC G D cy ad A μ' s H → va_S A s.heap H locs → lv_has ls 5 [(0, .ref (ad 7 0)), (1, .int (iI (x1'))), (2, .int (iI (x2'))), (3, .int (iI (x3')))] → W p l e R s m args below meth c H locs 0 0 Qf (F0 m 2 ls [])) : ∀ (n : Nat) (x1 x2 x3 x4 : Int) (μ : MM) (H : Heap) (locs : List Loc) (ls : Array Slot), wpX2_offerSecondPairs_L26 G k2 Q n x1 x2 x3 x4 μ → wdC G D cy ad A μ s H → va_S A s.heap H locs → lv_has ls 5 [(0, .ref (ad 7 0)), (1, .int (iI x1)), (2, .int (iI x2)), (3, .int (iI x3)), (4, .int (iI x4))] → W p l e R s m args below meth c H locs 0 0 Qf (F0 m 26 ls []) := by
  have hx := F.1
  have hb := F.2.1
  have hown := F.2.2.2.1
  have hts := F.2.2.2.2
  intro n
  induction n with
  | zero =>
    intro x1 x2 x3 x4 μ H locs ls h hw hS hl
    exact h.elim
  | succ n ih =>
    intro x1 x2 x3 x4 μ H locs ls h hw hS hl
    refine lv_iload hx hb dX2_offerSecondPairs_26 (lv_at hl 4 rfl) ?_
    refine lv_aload_n hx hb dX2_offerSecondPairs_28 rfl (lv_at hl 0 rfl) ?_
    refine gC_Q_wheels F hw tw1_85 dX2_offerSecondPairs_29 ?_
    obtain ⟨g1, h⟩ := h
    obtain ⟨g2, h⟩ := h
    refine q_icmp_ge (tgt := 68) hx hb g1 g2 dX2_offerSecondPairs_32 (by decide) (fun c3 => ?_) (fun c3 => ?_)
    · have h := ite_t c3 h
      exact wX2_offerSecondPairs_J68 F hA hR ret hk2 h hw hS (lv_sub hl [0, 1, 2, 3] rfl)
    · have h := ite_f c3 h
      refine lv_iload hx hb dX2_offerSecondPairs_35 (lv_at hl 4 rfl) ?_
      refine lv_iload_n hx hb dX2_offerSecondPairs_37 rfl (lv_at hl 1 rfl) ?_
      obtain ⟨g4, h⟩ := h
      refine q_icmp_eq (tgt := 62) hx hb g1 g4 dX2_offerSecondPairs_38 (by decide) (fun c5 => ?_) (fun c5 => ?_)
      · have h := ite_t c5 h
        exact wX2_offerSecondPairs_J62 F hA hR ret (fun x1 x2 x3 x4 => ih x1 x2 x3 x4) hk2 h hw hS (lv_sub hl [0, 1, 2, 3, 4] rfl)
      · have h := ite_f c5 h
        refine lv_iload hx hb dX2_offerSecondPairs_41 (lv_at hl 4 rfl) ?_
        refine lv_iload_n hx hb dX2_offerSecondPairs_43 rfl (lv_at hl 2 rfl) ?_
        obtain ⟨g6, h⟩ := h
        refine q_icmp_eq (tgt := 62) hx hb g1 g6 dX2_offerSecondPairs_44 (by decide) (fun c7 => ?_) (fun c7 => ?_)
        · have h := ite_t c7 h
          exact wX2_offerSecondPairs_J62 F hA hR ret (fun x1 x2 x3 x4 => ih x1 x2 x3 x4) hk2 h hw hS (lv_sub hl [0, 1, 2, 3, 4] rfl)
        · have h := ite_f c7 h
          refine lv_iload hx hb dX2_offerSecondPairs_47 (lv_at hl 4 rfl) ?_
          refine lv_iload_n hx hb dX2_offerSecondPairs_49 rfl (lv_at hl 3 rfl) ?_
          obtain ⟨g8, h⟩ := h
          refine q_icmp_eq (tgt := 62) hx hb g1 g8 dX2_offerSecondPairs_50 (by decide) (fun c9 => ?_) (fun c9 => ?_)
          · have h := ite_t c9 h
            exact wX2_offerSecondPairs_J62 F hA hR ret (fun x1 x2 x3 x4 => ih x1 x2 x3 x4) hk2 h hw hS (lv_sub hl [0, 1, 2, 3, 4] rfl)
          · have h := ite_f c9 h
            refine lv_aload_n hx hb dX2_offerSecondPairs_53 rfl (lv_at hl 0 rfl) ?_
            refine lv_iload_n hx hb dX2_offerSecondPairs_54 rfl (lv_at hl 1 rfl) ?_
            refine lv_iload_n hx hb dX2_offerSecondPairs_55 rfl (lv_at hl 2 rfl) ?_
            refine lv_iload_n hx hb dX2_offerSecondPairs_56 rfl (lv_at hl 3 rfl) ?_
            refine lv_iload hx hb dX2_offerSecondPairs_57 (lv_at hl 4 rfl) ?_
            refine call_V hexC F (kX2_offer h) 4 tw4_233 tw1_4 tw4_232 tws2_1 tw4_230 hdX2_offer ⟨Nat.le_trans (by decide) hR.1, Nat.le_trans (by decide) hR.2⟩ (hw.recv (k := 7) (i := 0) rfl rfl rfl) hA hw hS rfl hl.1 rfl (Nat.le_of_ble_eq_true rfl) dX2_offerSecondPairs_59 (fun v10 μ11 H locs h hw hS => ?_)
            exact wX2_offerSecondPairs_J62 F hA hR ret (fun x1 x2 x3 x4 => ih x1 x2 x3 x4) hk2 h hw hS (lv_sub hl [0, 1, 2, 3, 4] rfl)
def wpX2_offerSecondPairs_L2 (G : GG) (Q : Int → MM → Prop) : Nat → Int → Int → Int → MM → Prop
  | 0, _, _, _, _ => False
  | n + 1, x1, x2, x3, μ => rg x3 ∧ (rg (μ 7 1 0) ∧ (if (μ 7 1 0) ≤ x3 then (Q 0 μ) else (rg x1 ∧ (if x3 = x1 then (wpX2_offerSecondPairs_J68 G (fun x1' x2' x3' μ' => wpX2_offerSecondPairs_L2 G Q n x1' x2' x3' μ') Q x1 x2 x3 μ) else (rg x2 ∧ (if x3 = x2 then (wpX2_offerSecondPairs_J68 G (fun x1' x2' x3' μ' => wpX2_offerSecondPairs_L2 G Q n x1' x2' x3' μ') Q x1 x2 x3 μ) else (∃ n8 : Nat, wpX2_offerSecondPairs_L26 G (fun x1' x2' x3' μ' => wpX2_offerSecondPairs_L2 G Q n x1' x2' x3' μ') Q n8 x1 x2 x3 0 μ)))))))
set_option maxRecDepth 100000 in
set_option maxHeartbeats 4000000 in
theorem wX2_offerSecondPairs_L2 {G : GG} {Q : Int → MM → Prop} (F : CallFix p m c cX2_offerSecondPairs 5 s args uw RX2) (hA : ∀ q : Nat, s.heap.size ≤ q → A q) (hR : 2 ≤ R.frames ∧ 51 ≤ R.locals) (ret : RetV p l e R s m args below meth c cX2_offerSecondPairs Qf (dmC G) (cfC G) tyC (exC G) D cy ad A Q) : ∀ (n : Nat) (x1 x2 x3 : Int) (μ : MM) (H : Heap) (locs : List Loc) (ls : Array Slot), wpX2_offerSecondPairs_L2 G Q n x1 x2 x3 μ → wdC G D cy ad A μ s H → va_S A s.heap H locs → lv_has ls 5 [(0, .ref (ad 7 0)), (1, .int (iI x1)), (2, .int (iI x2)), (3, .int (iI x3))] → W p l e R s m args below meth c H locs 0 0 Qf (F0 m 2 ls []) := by
  have hx := F.1
  have hb := F.2.1
  have hown := F.2.2.2.1
  have hts := F.2.2.2.2
  intro n
  induction n with
  | zero =>
    intro x1 x2 x3 μ H locs ls h hw hS hl
    exact h.elim
  | succ n ih =>
    intro x1 x2 x3 μ H locs ls h hw hS hl
    refine lv_iload_n hx hb dX2_offerSecondPairs_2 rfl (lv_at hl 3 rfl) ?_
    refine lv_aload_n hx hb dX2_offerSecondPairs_3 rfl (lv_at hl 0 rfl) ?_
    refine gC_Q_wheels F hw tw1_85 dX2_offerSecondPairs_4 ?_
    obtain ⟨g1, h⟩ := h
    obtain ⟨g2, h⟩ := h
    refine q_icmp_ge (tgt := 74) hx hb g1 g2 dX2_offerSecondPairs_7 (by decide) (fun c3 => ?_) (fun c3 => ?_)
    · have h := ite_t c3 h
      exact ret _ _ _ _ _ h hw hS dX2_offerSecondPairs_74
    · have h := ite_f c3 h
      refine lv_iload_n hx hb dX2_offerSecondPairs_10 rfl (lv_at hl 3 rfl) ?_
      refine lv_iload_n hx hb dX2_offerSecondPairs_11 rfl (lv_at hl 1 rfl) ?_
      obtain ⟨g4, h⟩ := h
      refine q_icmp_eq (tgt := 68) hx hb g1 g4 dX2_offerSecondPairs_12 (by decide) (fun c5 => ?_) (fun c5 => ?_)
      · have h := ite_t c5 h
        exact wX2_offerSecondPairs_J68 F hA hR ret (fun x1 x2 x3 => ih x1 x2 x3) h hw hS (lv_sub hl [0, 1, 2, 3] rfl)
      · have h := ite_f c5 h
        refine lv_iload_n hx hb dX2_offerSecondPairs_15 rfl (lv_at hl 3 rfl) ?_
        refine lv_iload_n hx hb dX2_offerSecondPairs_16 rfl (lv_at hl 2 rfl) ?_
        obtain ⟨g6, h⟩ := h
        refine q_icmp_ne (tgt := 23) hx hb g1 g6 dX2_offerSecondPairs_17 (by decide) (fun c7 => ?_) (fun c7 => ?_)
        · have h := ite_f c7 h
          refine q_iconst hx hb dX2_offerSecondPairs_23 ?_
          refine lv_istore (lv' := [(4, .int (iI 0)), (0, .ref (ad 7 0)), (1, .int (iI x1)), (2, .int (iI x2)), (3, .int (iI x3))]) hx hb dX2_offerSecondPairs_24 hl (by decide) rfl (fun ls hl => ?_)
          obtain ⟨n8, h⟩ := h
          exact wX2_offerSecondPairs_L26 F hA hR ret (fun x1 x2 x3 => ih x1 x2 x3) n8 x1 x2 x3 0 _ _ _ _ h hw hS (lv_sub hl [1, 2, 3, 4, 0] rfl)
        · have h := ite_t c7 h
          refine lv_goto (tgt := 68) hx hb dX2_offerSecondPairs_20 (by decide) ?_
          exact wX2_offerSecondPairs_J68 F hA hR ret (fun x1 x2 x3 => ih x1 x2 x3) h hw hS (lv_sub hl [0, 1, 2, 3] rfl)
def wpX2_offerSecondPairs (G : GG) (x1 : Int) (x2 : Int) (μ : MM) (Q : Int → MM → Prop) : Prop := ∃ n1 : Nat, wpX2_offerSecondPairs_L2 G Q n1 x1 x2 0 μ
set_option maxRecDepth 100000 in
set_option maxHeartbeats 4000000 in
theorem wX2_offerSecondPairs {G : GG} {Q : Int → MM → Prop} {x1 : Int} {x2 : Int} {μ : MM} {H : Heap} {locs : List Loc} {ls : Array Slot} (F : CallFix p m c cX2_offerSecondPairs 5 s args uw RX2) (hA : ∀ q : Nat, s.heap.size ≤ q → A q) (hR : 2 ≤ R.frames ∧ 51 ≤ R.locals) (ret : RetV p l e R s m args below meth c cX2_offerSecondPairs Qf (dmC G) (cfC G) tyC (exC G) D cy ad A Q) (h : wpX2_offerSecondPairs G x1 x2 μ Q) (hw : wdC G D cy ad A μ s H) (hS : va_S A s.heap H locs) (hl : lv_has ls 5 [(0, .ref (ad 7 0)), (1, .int (iI x1)), (2, .int (iI x2))]) : W p l e R s m args below meth c H locs 0 0 Qf (F0 m 0 ls []) := by
  have hx := F.1
  have hb := F.2.1
  have hown := F.2.2.2.1
  have hts := F.2.2.2.2
  refine q_iconst hx hb dX2_offerSecondPairs_0 ?_
  refine lv_istore_n (lv' := [(3, .int (iI 0)), (0, .ref (ad 7 0)), (1, .int (iI x1)), (2, .int (iI x2))]) hx hb dX2_offerSecondPairs_1 rfl hl (by decide) rfl (fun ls hl => ?_)
  obtain ⟨n1, h⟩ := h
  exact wX2_offerSecondPairs_L2 F hA hR ret n1 x1 x2 0 _ _ _ _ h hw hS (lv_sub hl [1, 2, 3, 0] rfl)
set_option maxRecDepth 100000 in
set_option maxHeartbeats 4000000 in
theorem kX2_offerSecondPairs {l : Launch} {D : va_G} {cy : Nat → ClassId} {ad : AD} {A : Nat → Prop} {G : GG} {x1 : Int} {x2 : Int} {μ : MM} {Q : Int → MM → Prop} (h : wpX2_offerSecondPairs G x1 x2 μ Q) : Met l yX2_offerSecondPairs (Cond.code yX2_offerSecondPairs cX2_offerSecondPairs 5 none :: uw) (rmm 2 51) (wPc [.ref (ad 7 0), .int (iI x1), .int (iI x2)] (dmC G) (cfC G) tyC (exC G) D cy ad A μ) (wQ vV Q (dmC G) (cfC G) D cy ad A) 0 0 A :=
  met_of (by decide) (Nat.le_of_ble_eq_true rfl) (fun p e R s m args below meth c ls hr hk hRR F hA hw hS hl => wX2_offerSecondPairs F hA (by subst hRR; exact ⟨Nat.le_refl _, Nat.le_refl _⟩) (retV_of F hr hk) h hw hS hl)
theorem hdX2_offerSecondPairs : yX2_offerSecondPairs.cls ≠ "java/lang/invoke/MethodHandle" ∧ yX2_offerSecondPairs.cls ≠ "java/lang/invoke/VarHandle" ∧ (parseMethodDescriptor yX2_offerSecondPairs.desc).map (fun d => d.parameters.length) = some 2 := by decide +kernel
def wpX2_reduce_J42 (G : GG) (Q : Int → MM → Prop) (x1 : Int) (μ : MM) : Prop := rl x1 ∧ (if x1 ≤ 0 then (Q 0 μ) else (rl (μ 7 7 0) ∧ (x1 ≠ 0 ∧ (∀ μ5 : MM, μ5 = ms μ 7 7 0 (Int.tdiv (μ 7 7 0) x1) → (rl (μ5 7 8 0) ∧ (∀ μ7 : MM, μ7 = ms μ5 7 8 0 (Int.tdiv (μ5 7 8 0) x1) → (Q 0 μ7)))))))
set_option maxRecDepth 100000 in
set_option maxHeartbeats 4000000 in
theorem wX2_reduce_J42 {G : GG} {Q : Int → MM → Prop} {x1 : Int} {μ : MM} {H : Heap} {locs : List Loc} {ls : Array Slot} (F : CallFix p m c cX2_reduce 8 s args uw RX2) (hA : ∀ q : Nat, s.heap.size ≤ q → A q) (hR : 0 ≤ R.frames ∧ 0 ≤ R.locals) (ret : RetV p l e R s m args below meth c cX2_reduce Qf (dmC G) (cfC G) tyC (exC G) D cy ad A Q) (h : wpX2_reduce_J42 G Q x1 μ) (hw : wdC G D cy ad A μ s H) (hS : va_S A s.heap H locs) (hl : lv_has ls 8 [(0, .ref (ad 7 0)), (1, .long (lJ x1))]) : W p l e R s m args below meth c H locs 0 0 Qf (F0 m 42 ls []) := by
  have hx := F.1
  have hb := F.2.1
  have hown := F.2.2.2.1
  have hts := F.2.2.2.2
  refine lv_lload_n hx hb dX2_reduce_42 rfl (lv_at hl 1 rfl) ?_
  refine q_lconst (v := 0) hx hb (by decide) dX2_reduce_43 ?_
  obtain ⟨g1, h⟩ := h
  refine q_lcmp_le (tgt := 68) hx hb g1 (by decide) dX2_reduce_44 dX2_reduce_45 (by decide) (fun c2 => ?_) (fun c2 => ?_)
  · have h := ite_t c2 h
    exact ret _ _ _ _ _ h hw hS dX2_reduce_68
  · have h := ite_f c2 h
    refine lv_aload_n hx hb dX2_reduce_48 rfl (lv_at hl 0 rfl) ?_
    refine lv_aload_n hx hb dX2_reduce_49 rfl (lv_at hl 0 rfl) ?_
    refine gC_Q_upper F hw tw1_92 dX2_reduce_50 ?_
    refine lv_lload_n hx hb dX2_reduce_53 rfl (lv_at hl 1 rfl) ?_
    obtain ⟨g3, h⟩ := h
    obtain ⟨g4, h⟩ := h
    refine q_ldiv hx hb g3 g1 g4 dX2_reduce_54 ?_
    obtain ⟨μ5, eμ5⟩ : ∃ z : MM, z = ms μ 7 7 0 (Int.tdiv (μ 7 7 0) x1) := ⟨_, rfl⟩
    have h := h μ5 eμ5
    refine pC_Q_upper F hw hS tw1_92 eμ5 dX2_reduce_55 (fun H locs hw hS => ?_)
    refine lv_aload_n hx hb dX2_reduce_58 rfl (lv_at hl 0 rfl) ?_
    refine lv_aload_n hx hb dX2_reduce_59 rfl (lv_at hl 0 rfl) ?_
    refine gC_Q_lower F hw tw1_94 dX2_reduce_60 ?_
    refine lv_lload_n hx hb dX2_reduce_63 rfl (lv_at hl 1 rfl) ?_
    obtain ⟨g6, h⟩ := h
    refine q_ldiv hx hb g6 g1 g4 dX2_reduce_64 ?_
    obtain ⟨μ7, eμ7⟩ : ∃ z : MM, z = ms μ5 7 8 0 (Int.tdiv (μ5 7 8 0) x1) := ⟨_, rfl⟩
    have h := h μ7 eμ7
    refine pC_Q_lower F hw hS tw1_94 eμ7 dX2_reduce_65 (fun H locs hw hS => ?_)
    exact ret _ _ _ _ _ h hw hS dX2_reduce_68
def wpX2_reduce_L13 (G : GG) (Q : Int → MM → Prop) : Nat → Int → Int → Int → MM → Prop
  | 0, _, _, _, _ => False
  | n + 1, x1, x3, x5, μ => rg x5 ∧ (if 100 ≤ x5 then (wpX2_reduce_J42 G Q x1 μ) else (rl x3 ∧ (if x3 ≤ 0 then (wpX2_reduce_J42 G Q x1 μ) else (rl x1 ∧ (x3 ≠ 0 ∧ (∀ y7 : Int, y7 = Int.tmod x1 x3 → (wpX2_reduce_L13 G Q n x3 y7 (x5 + 1) μ)))))))
set_option maxRecDepth 100000 in
set_option maxHeartbeats 4000000 in
theorem wX2_reduce_L13 {G : GG} {Q : Int → MM → Prop} (F : CallFix p m c cX2_reduce 8 s args uw RX2) (hA : ∀ q : Nat, s.heap.size ≤ q → A q) (hR : 0 ≤ R.frames ∧ 0 ≤ R.locals) (ret : RetV p l e R s m args below meth c cX2_reduce Qf (dmC G) (cfC G) tyC (exC G) D cy ad A Q) : ∀ (n : Nat) (x1 x3 x5 : Int) (μ : MM) (H : Heap) (locs : List Loc) (ls : Array Slot), wpX2_reduce_L13 G Q n x1 x3 x5 μ → wdC G D cy ad A μ s H → va_S A s.heap H locs → lv_has ls 8 [(0, .ref (ad 7 0)), (1, .long (lJ x1)), (3, .long (lJ x3)), (5, .int (iI x5))] → W p l e R s m args below meth c H locs 0 0 Qf (F0 m 13 ls []) := by
  have hx := F.1
  have hb := F.2.1
  have hown := F.2.2.2.1
  have hts := F.2.2.2.2
  intro n
  induction n with
  | zero =>
    intro x1 x3 x5 μ H locs ls h hw hS hl
    exact h.elim
  | succ n ih =>
    intro x1 x3 x5 μ H locs ls h hw hS hl
    refine lv_iload hx hb dX2_reduce_13 (lv_at hl 3 rfl) ?_
    refine q_bipush hx hb (by decide) dX2_reduce_15 ?_
    obtain ⟨g1, h⟩ := h
    refine q_icmp_ge (tgt := 42) hx hb g1 (by decide) dX2_reduce_17 (by decide) (fun c2 => ?_) (fun c2 => ?_)
    · have h := ite_t c2 h
      exact wX2_reduce_J42 F hA hR ret h hw hS (lv_sub hl [0, 1] rfl)
    · have h := ite_f c2 h
      refine lv_lload_n hx hb dX2_reduce_20 rfl (lv_at hl 2 rfl) ?_
      refine q_lconst (v := 0) hx hb (by decide) dX2_reduce_21 ?_
      obtain ⟨g3, h⟩ := h
      refine q_lcmp_le (tgt := 42) hx hb g3 (by decide) dX2_reduce_22 dX2_reduce_23 (by decide) (fun c4 => ?_) (fun c4 => ?_)
      · have h := ite_t c4 h
        exact wX2_reduce_J42 F hA hR ret h hw hS (lv_sub hl [0, 1] rfl)
      · have h := ite_f c4 h
        refine lv_lload_n hx hb dX2_reduce_26 rfl (lv_at hl 1 rfl) ?_
        refine lv_lload_n hx hb dX2_reduce_27 rfl (lv_at hl 2 rfl) ?_
        obtain ⟨g5, h⟩ := h
        obtain ⟨g6, h⟩ := h
        refine q_lrem hx hb g5 g3 g6 dX2_reduce_28 ?_
        obtain ⟨y7, ey7⟩ : ∃ z : Int, z = Int.tmod x1 x3 := ⟨_, rfl⟩
        have h := h y7 ey7
        refine q_nmL ey7 ?_
        refine lv_lstore (lv' := [(6, .long (lJ y7)), (0, .ref (ad 7 0)), (1, .long (lJ x1)), (3, .long (lJ x3)), (5, .int (iI x5))]) hx hb dX2_reduce_29 hl (by decide) rfl (fun ls hl => ?_)
        refine lv_lload_n hx hb dX2_reduce_31 rfl (lv_at hl 3 rfl) ?_
        refine lv_lstore_n (lv' := [(1, .long (lJ x3)), (6, .long (lJ y7)), (0, .ref (ad 7 0)), (3, .long (lJ x3)), (5, .int (iI x5))]) hx hb dX2_reduce_32 rfl hl (by decide) rfl (fun ls hl => ?_)
        refine lv_lload hx hb dX2_reduce_33 (lv_at hl 1 rfl) ?_
        refine lv_lstore_n (lv' := [(3, .long (lJ y7)), (1, .long (lJ x3)), (6, .long (lJ y7)), (0, .ref (ad 7 0)), (5, .int (iI x5))]) hx hb dX2_reduce_35 rfl hl (by decide) rfl (fun ls hl => ?_)
        refine q_iinc (k := 4) (lv' := [(5, .int (iI (x5 + 1))), (3, .long (lJ y7)), (1, .long (lJ x3)), (6, .long (lJ y7)), (0, .ref (ad 7 0))]) hx hb dX2_reduce_36 hl rfl (by decide) rfl (fun ls hl => ?_)
        refine lv_goto (tgt := 13) hx hb dX2_reduce_39 (by decide) ?_
        exact ih x3 y7 (x5 + 1) _ _ _ _ h hw hS (lv_sub hl [4, 2, 1, 0] rfl)
def wpX2_reduce (G : GG) (μ : MM) (Q : Int → MM → Prop) : Prop := ∃ n1 : Nat, wpX2_reduce_L13 G Q n1 (μ 7 7 0) (μ 7 8 0) 0 μ
set_option maxRecDepth 100000 in
set_option maxHeartbeats 4000000 in
theorem wX2_reduce {G : GG} {Q : Int → MM → Prop} {μ : MM} {H : Heap} {locs : List Loc} {ls : Array Slot} (F : CallFix p m c cX2_reduce 8 s args uw RX2) (hA : ∀ q : Nat, s.heap.size ≤ q → A q) (hR : 0 ≤ R.frames ∧ 0 ≤ R.locals) (ret : RetV p l e R s m args below meth c cX2_reduce Qf (dmC G) (cfC G) tyC (exC G) D cy ad A Q) (h : wpX2_reduce G μ Q) (hw : wdC G D cy ad A μ s H) (hS : va_S A s.heap H locs) (hl : lv_has ls 8 [(0, .ref (ad 7 0))]) : W p l e R s m args below meth c H locs 0 0 Qf (F0 m 0 ls []) := by
  have hx := F.1
  have hb := F.2.1
  have hown := F.2.2.2.1
  have hts := F.2.2.2.2
  refine lv_aload_n hx hb dX2_reduce_0 rfl (lv_at hl 0 rfl) ?_
  refine gC_Q_upper F hw tw1_92 dX2_reduce_1 ?_
  refine lv_lstore_n (lv' := [(1, .long (lJ (μ 7 7 0))), (0, .ref (ad 7 0))]) hx hb dX2_reduce_4 rfl hl (by decide) rfl (fun ls hl => ?_)
  refine lv_aload_n hx hb dX2_reduce_5 rfl (lv_at hl 1 rfl) ?_
  refine gC_Q_lower F hw tw1_94 dX2_reduce_6 ?_
  refine lv_lstore_n (lv' := [(3, .long (lJ (μ 7 8 0))), (1, .long (lJ (μ 7 7 0))), (0, .ref (ad 7 0))]) hx hb dX2_reduce_9 rfl hl (by decide) rfl (fun ls hl => ?_)
  refine q_iconst hx hb dX2_reduce_10 ?_
  refine lv_istore (lv' := [(5, .int (iI 0)), (3, .long (lJ (μ 7 8 0))), (1, .long (lJ (μ 7 7 0))), (0, .ref (ad 7 0))]) hx hb dX2_reduce_11 hl (by decide) rfl (fun ls hl => ?_)
  obtain ⟨n1, h⟩ := h
  exact wX2_reduce_L13 F hA hR ret n1 (μ 7 7 0) (μ 7 8 0) 0 _ _ _ _ h hw hS (lv_sub hl [3, 2, 1, 0] rfl)
set_option maxRecDepth 100000 in
set_option maxHeartbeats 4000000 in
theorem kX2_reduce {l : Launch} {D : va_G} {cy : Nat → ClassId} {ad : AD} {A : Nat → Prop} {G : GG} {μ : MM} {Q : Int → MM → Prop} (h : wpX2_reduce G μ Q) : Met l yX2_reduce (Cond.code yX2_reduce cX2_reduce 8 none :: uw) (rmm 0 0) (wPc [.ref (ad 7 0)] (dmC G) (cfC G) tyC (exC G) D cy ad A μ) (wQ vV Q (dmC G) (cfC G) D cy ad A) 0 0 A :=
  met_of (by decide) (Nat.le_of_ble_eq_true rfl) (fun p e R s m args below meth c ls hr hk hRR F hA hw hS hl => wX2_reduce F hA (by subst hRR; exact ⟨Nat.le_refl _, Nat.le_refl _⟩) (retV_of F hr hk) h hw hS hl)
theorem hdX2_reduce : yX2_reduce.cls ≠ "java/lang/invoke/MethodHandle" ∧ yX2_reduce.cls ≠ "java/lang/invoke/VarHandle" ∧ (parseMethodDescriptor yX2_reduce.desc).map (fun d => d.parameters.length) = some 0 := by decide +kernel
def wpX2_search_J83 (G : GG) (k32 : Int → Int → Int → MM → Prop) (k20 : Int → Int → MM → Prop) (Q : Int → MM → Prop) (x3 : Int) (x4 : Int) (x5 : Int) (μ : MM) : Prop := k32 x3 x4 (x5 + 1) μ
set_option maxRecDepth 100000 in
set_option maxHeartbeats 4000000 in
theorem wX2_search_J83 {G : GG} {k32 : Int → Int → Int → MM → Prop} {k20 : Int → Int → MM → Prop} {Q : Int → MM → Prop} {x3 : Int} {x4 : Int} {x5 : Int} {μ : MM} {H : Heap} {locs : List Loc} {ls : Array Slot} (F : CallFix p m c cX2_search 6 s args uw RX2) (hA : ∀ q : Nat, s.heap.size ≤ q → A q) (hR : 3 ≤ R.frames ∧ 75 ≤ R.locals) (ret : RetV p l e R s m args below meth c cX2_search Qf (dmC G) (cfC G) tyC (exC G) D cy ad A Q) (hk32 : ∀ (x3' x4' x5' : Int) (μ' : MM) (H : Heap) (locs : List Loc) (ls : Array Slot), k32 x3' x4' x5' μ' → wdC G D cy ad A μ' s H → va_S A s.heap H locs → lv_has ls 6 [(0, .ref (ad 7 0)), (3, .int (iI (x3'))), (4, .int (iI (x4'))), (5, .int (iI (x5')))] → W p l e R s m args below meth c H locs 0 0 Qf (F0 m 32 ls [])) (hk20 : ∀ (x3' x4' : Int) (μ' : MM) (H : Heap) (locs : List Loc) (ls : Array Slot), k20 x3' x4' μ' → wdC G D cy ad A μ' s H → va_S A s.heap H locs → lv_has ls 6 [(0, .ref (ad 7 0)), (3, .int (iI (x3'))), (4, .int (iI (x4')))] → W p l e R s m args below meth c H locs 0 0 Qf (F0 m 20 ls [])) (h : wpX2_search_J83 G k32 k20 Q x3 x4 x5 μ) (hw : wdC G D cy ad A μ s H) (hS : va_S A s.heap H locs) (hl : lv_has ls 6 [(0, .ref (ad 7 0)), (3, .int (iI x3)), (4, .int (iI x4)), (5, .int (iI x5))]) : W p l e R s m args below meth c H locs 0 0 Qf (F0 m 83 ls []) := by
  have hx := F.1
  have hb := F.2.1
  have hown := F.2.2.2.1
  have hts := F.2.2.2.2
  refine q_iinc (k := 3) (lv' := [(5, .int (iI (x5 + 1))), (0, .ref (ad 7 0)), (3, .int (iI x3)), (4, .int (iI x4))]) hx hb dX2_search_83 hl rfl (by decide) rfl (fun ls hl => ?_)
  refine lv_goto (tgt := 32) hx hb dX2_search_86 (by decide) ?_
  exact hk32 x3 x4 (x5 + 1) _ _ _ _ h hw hS (lv_sub hl [1, 2, 3, 0] rfl)
def wpX2_search_J68 (G : GG) (k32 : Int → Int → Int → MM → Prop) (k20 : Int → Int → MM → Prop) (Q : Int → MM → Prop) (x3 : Int) (x4 : Int) (x5 : Int) (μ : MM) : Prop := rg x4 ∧ (rg x5 ∧ (if x4 = x5 then (wpX2_search_J83 G k32 k20 Q x3 x4 x5 μ) else (wpX2_offerSecondPairs G x4 x5 μ (fun v4 μ5 => wpX2_search_J83 G k32 k20 Q x3 x4 x5 μ5))))
set_option maxRecDepth 100000 in
set_option maxHeartbeats 4000000 in
theorem wX2_search_J68 {G : GG} {k32 : Int → Int → Int → MM → Prop} {k20 : Int → Int → MM → Prop} {Q : Int → MM → Prop} {x3 : Int} {x4 : Int} {x5 : Int} {μ : MM} {H : Heap} {locs : List Loc} {ls : Array Slot} (F : CallFix p m c cX2_search 6 s args uw RX2) (hA : ∀ q : Nat, s.heap.size ≤ q → A q) (hR : 3 ≤ R.frames ∧ 75 ≤ R.locals) (ret : RetV p l e R s m args below meth c cX2_search Qf (dmC G) (cfC G) tyC (exC G) D cy ad A Q) (hk32 : ∀ (x3' x4' x5' : Int) (μ' : MM) (H : Heap) (locs : List Loc) (ls : Array Slot), k32 x3' x4' x5' μ' → wdC G D cy ad A μ' s H → va_S A s.heap H locs → lv_has ls 6 [(0, .ref (ad 7 0)), (3, .int (iI (x3'))), (4, .int (iI (x4'))), (5, .int (iI (x5')))] → W p l e R s m args below meth c H locs 0 0 Qf (F0 m 32 ls [])) (hk20 : ∀ (x3' x4' : Int) (μ' : MM) (H : Heap) (locs : List Loc) (ls : Array Slot), k20 x3' x4' μ' → wdC G D cy ad A μ' s H → va_S A s.heap H locs → lv_has ls 6 [(0, .ref (ad 7 0)), (3, .int (iI (x3'))), (4, .int (iI (x4')))] → W p l e R s m args below meth c H locs 0 0 Qf (F0 m 20 ls [])) (h : wpX2_search_J68 G k32 k20 Q x3 x4 x5 μ) (hw : wdC G D cy ad A μ s H) (hS : va_S A s.heap H locs) (hl : lv_has ls 6 [(0, .ref (ad 7 0)), (3, .int (iI x3)), (4, .int (iI x4)), (5, .int (iI x5))]) : W p l e R s m args below meth c H locs 0 0 Qf (F0 m 68 ls []) := by
  have hx := F.1
  have hb := F.2.1
  have hown := F.2.2.2.1
  have hts := F.2.2.2.2
  refine lv_iload hx hb dX2_search_68 (lv_at hl 2 rfl) ?_
  refine lv_iload hx hb dX2_search_70 (lv_at hl 3 rfl) ?_
  obtain ⟨g1, h⟩ := h
  obtain ⟨g2, h⟩ := h
  refine q_icmp_eq (tgt := 83) hx hb g1 g2 dX2_search_72 (by decide) (fun c3 => ?_) (fun c3 => ?_)
  · have h := ite_t c3 h
    exact wX2_search_J83 F hA hR ret hk32 hk20 h hw hS (lv_sub hl [0, 1, 2, 3] rfl)
  · have h := ite_f c3 h
    refine lv_aload_n hx hb dX2_search_75 rfl (lv_at hl 0 rfl) ?_
    refine lv_iload hx hb dX2_search_76 (lv_at hl 2 rfl) ?_
    refine lv_iload hx hb dX2_search_78 (lv_at hl 3 rfl) ?_
    refine call_V hexC F (kX2_offerSecondPairs h) 2 tw5_4 tw1_4 tw5_3 tws2_3 tw5_1 hdX2_offerSecondPairs ⟨Nat.le_trans (by decide) hR.1, Nat.le_trans (by decide) hR.2⟩ (hw.recv (k := 7) (i := 0) rfl rfl rfl) hA hw hS rfl hl.1 rfl (Nat.le_of_ble_eq_true rfl) dX2_search_80 (fun v4 μ5 H locs h hw hS => ?_)
    exact wX2_search_J83 F hA hR ret hk32 hk20 h hw hS (lv_sub hl [0, 1, 2, 3] rfl)
def wpX2_search_L32 (G : GG) (k20 : Int → Int → MM → Prop) (Q : Int → MM → Prop) : Nat → Int → Int → Int → MM → Prop
  | 0, _, _, _, _ => False
  | n + 1, x3, x4, x5, μ => rg x5 ∧ (rg (μ 7 1 0) ∧ (if (μ 7 1 0) ≤ x5 then (k20 x3 (x4 + 1) μ) else (rg x4 ∧ (if x4 = x5 then (wpX2_search_J68 G (fun x3' x4' x5' μ' => wpX2_search_L32 G k20 Q n x3' x4' x5' μ') k20 Q x3 x4 x5 μ) else (rg x3 ∧ (if x3 = 1 then (wpX2_offer G x4 x5 (-9) (-9) μ (fun v8 μ9 => wpX2_search_J83 G (fun x3' x4' x5' μ' => wpX2_search_L32 G k20 Q n x3' x4' x5' μ') k20 Q x3 x4 x5 μ9)) else (wpX2_search_J68 G (fun x3' x4' x5' μ' => wpX2_search_L32 G k20 Q n x3' x4' x5' μ') k20 Q x3 x4 x5 μ)))))))
set_option maxRecDepth 100000 in
set_option maxHeartbeats 4000000 in
theorem wX2_search_L32 {G : GG} {k20 : Int → Int → MM → Prop} {Q : Int → MM → Prop} (F : CallFix p m c cX2_search 6 s args uw RX2) (hA : ∀ q : Nat, s.heap.size ≤ q → A q) (hR : 3 ≤ R.frames ∧ 75 ≤ R.locals) (ret : RetV p l e R s m args below meth c cX2_search Qf (dmC G) (cfC G) tyC (exC G) D cy ad A Q) (hk20 : ∀ (x3' x4' : Int) (μ' : MM) (H : Heap) (locs : List Loc) (ls : Array Slot), k20 x3' x4' μ' → wdC G D cy ad A μ' s H → va_S A s.heap H locs → lv_has ls 6 [(0, .ref (ad 7 0)), (3, .int (iI (x3'))), (4, .int (iI (x4')))] → W p l e R s m args below meth c H locs 0 0 Qf (F0 m 20 ls [])) : ∀ (n : Nat) (x3 x4 x5 : Int) (μ : MM) (H : Heap) (locs : List Loc) (ls : Array Slot), wpX2_search_L32 G k20 Q n x3 x4 x5 μ → wdC G D cy ad A μ s H → va_S A s.heap H locs → lv_has ls 6 [(0, .ref (ad 7 0)), (3, .int (iI x3)), (4, .int (iI x4)), (5, .int (iI x5))] → W p l e R s m args below meth c H locs 0 0 Qf (F0 m 32 ls []) := by
  have hx := F.1
  have hb := F.2.1
  have hown := F.2.2.2.1
  have hts := F.2.2.2.2
  intro n
  induction n with
  | zero =>
    intro x3 x4 x5 μ H locs ls h hw hS hl
    exact h.elim
  | succ n ih =>
    intro x3 x4 x5 μ H locs ls h hw hS hl
    refine lv_iload hx hb dX2_search_32 (lv_at hl 3 rfl) ?_
    refine lv_aload_n hx hb dX2_search_34 rfl (lv_at hl 0 rfl) ?_
    refine gC_Q_wheels F hw tw1_85 dX2_search_35 ?_
    obtain ⟨g1, h⟩ := h
    obtain ⟨g2, h⟩ := h
    refine q_icmp_ge (tgt := 89) hx hb g1 g2 dX2_search_38 (by decide) (fun c3 => ?_) (fun c3 => ?_)
    · have h := ite_t c3 h
      refine q_iinc (k := 2) (lv' := [(4, .int (iI (x4 + 1))), (0, .ref (ad 7 0)), (3, .int (iI x3)), (5, .int (iI x5))]) hx hb dX2_search_89 hl rfl (by decide) rfl (fun ls hl => ?_)
      refine lv_goto (tgt := 20) hx hb dX2_search_92 (by decide) ?_
      exact hk20 x3 (x4 + 1) _ _ _ _ h hw hS (lv_sub hl [1, 2, 0] rfl)
    · have h := ite_f c3 h
      refine lv_iload hx hb dX2_search_41 (lv_at hl 2 rfl) ?_
      refine lv_iload hx hb dX2_search_43 (lv_at hl 3 rfl) ?_
      obtain ⟨g4, h⟩ := h
      refine q_icmp_eq (tgt := 68) hx hb g4 g1 dX2_search_45 (by decide) (fun c5 => ?_) (fun c5 => ?_)
      · have h := ite_t c5 h
        exact wX2_search_J68 F hA hR ret (fun x3 x4 x5 => ih x3 x4 x5) hk20 h hw hS (lv_sub hl [0, 1, 2, 3] rfl)
      · have h := ite_f c5 h
        refine lv_iload_n hx hb dX2_search_48 rfl (lv_at hl 1 rfl) ?_
        refine q_iconst hx hb dX2_search_49 ?_
        obtain ⟨g6, h⟩ := h
        refine q_icmp_ne (tgt := 68) hx hb g6 (by decide) dX2_search_50 (by decide) (fun c7 => ?_) (fun c7 => ?_)
        · have h := ite_f c7 h
          exact wX2_search_J68 F hA hR ret (fun x3 x4 x5 => ih x3 x4 x5) hk20 h hw hS (lv_sub hl [0, 1, 2, 3] rfl)
        · have h := ite_t c7 h
          refine lv_aload_n hx hb dX2_search_53 rfl (lv_at hl 0 rfl) ?_
          refine lv_iload hx hb dX2_search_54 (lv_at hl 2 rfl) ?_
          refine lv_iload hx hb dX2_search_56 (lv_at hl 3 rfl) ?_
          refine q_bipush hx hb (by decide) dX2_search_58 ?_
          refine q_bipush hx hb (by decide) dX2_search_60 ?_
          refine call_V hexC F (kX2_offer h) 4 tw4_233 tw1_4 tw4_232 tws2_1 tw4_230 hdX2_offer ⟨Nat.le_trans (by decide) hR.1, Nat.le_trans (by decide) hR.2⟩ (hw.recv (k := 7) (i := 0) rfl rfl rfl) hA hw hS rfl hl.1 rfl (Nat.le_of_ble_eq_true rfl) dX2_search_62 (fun v8 μ9 H locs h hw hS => ?_)
          refine lv_goto (tgt := 83) hx hb dX2_search_65 (by decide) ?_
          exact wX2_search_J83 F hA hR ret (fun x3 x4 x5 => ih x3 x4 x5) hk20 h hw hS (lv_sub hl [0, 1, 2, 3] rfl)
def wpX2_search_L20 (G : GG) (Q : Int → MM → Prop) : Nat → Int → Int → MM → Prop
  | 0, _, _, _ => False
  | n + 1, x3, x4, μ => rg x4 ∧ (rg (μ 7 1 0) ∧ (if (μ 7 1 0) ≤ x4 then (wpX2_reduce G μ (fun v4 μ5 => Q 0 μ5)) else (∃ n6 : Nat, wpX2_search_L32 G (fun x3' x4' μ' => wpX2_search_L20 G Q n x3' x4' μ') Q n6 x3 x4 0 μ)))
set_option maxRecDepth 100000 in
set_option maxHeartbeats 4000000 in
theorem wX2_search_L20 {G : GG} {Q : Int → MM → Prop} (F : CallFix p m c cX2_search 6 s args uw RX2) (hA : ∀ q : Nat, s.heap.size ≤ q → A q) (hR : 3 ≤ R.frames ∧ 75 ≤ R.locals) (ret : RetV p l e R s m args below meth c cX2_search Qf (dmC G) (cfC G) tyC (exC G) D cy ad A Q) : ∀ (n : Nat) (x3 x4 : Int) (μ : MM) (H : Heap) (locs : List Loc) (ls : Array Slot), wpX2_search_L20 G Q n x3 x4 μ → wdC G D cy ad A μ s H → va_S A s.heap H locs → lv_has ls 6 [(0, .ref (ad 7 0)), (3, .int (iI x3)), (4, .int (iI x4))] → W p l e R s m args below meth c H locs 0 0 Qf (F0 m 20 ls []) := by
  have hx := F.1
  have hb := F.2.1
  have hown := F.2.2.2.1
  have hts := F.2.2.2.2
  intro n
  induction n with
  | zero =>
    intro x3 x4 μ H locs ls h hw hS hl
    exact h.elim
  | succ n ih =>
    intro x3 x4 μ H locs ls h hw hS hl
    refine lv_iload hx hb dX2_search_20 (lv_at hl 2 rfl) ?_
    refine lv_aload_n hx hb dX2_search_22 rfl (lv_at hl 0 rfl) ?_
    refine gC_Q_wheels F hw tw1_85 dX2_search_23 ?_
    obtain ⟨g1, h⟩ := h
    obtain ⟨g2, h⟩ := h
    refine q_icmp_ge (tgt := 95) hx hb g1 g2 dX2_search_26 (by decide) (fun c3 => ?_) (fun c3 => ?_)
    · have h := ite_t c3 h
      refine lv_aload_n hx hb dX2_search_95 rfl (lv_at hl 0 rfl) ?_
      refine call_V hexC F (kX2_reduce h) 0 tw5_8 tw1_4 tw5_7 tws2_4 tw5_5 hdX2_reduce ⟨Nat.le_trans (by decide) hR.1, Nat.le_trans (by decide) hR.2⟩ (hw.recv (k := 7) (i := 0) rfl rfl rfl) hA hw hS rfl hl.1 rfl (Nat.le_of_ble_eq_true rfl) dX2_search_96 (fun v4 μ5 H locs h hw hS => ?_)
      exact ret _ _ _ _ _ h hw hS dX2_search_99
    · have h := ite_f c3 h
      refine q_iconst hx hb dX2_search_29 ?_
      refine lv_istore (lv' := [(5, .int (iI 0)), (0, .ref (ad 7 0)), (3, .int (iI x3)), (4, .int (iI x4))]) hx hb dX2_search_30 hl (by decide) rfl (fun ls hl => ?_)
      obtain ⟨n6, h⟩ := h
      exact wX2_search_L32 F hA hR ret (fun x3 x4 => ih x3 x4) n6 x3 x4 0 _ _ _ _ h hw hS (lv_sub hl [1, 2, 3, 0] rfl)
def wpX2_search (G : GG) (x1 : Int) (x2 : Int) (x3 : Int) (μ : MM) (Q : Int → MM → Prop) : Prop := rg x1 ∧ (∀ μ2 : MM, μ2 = ms μ 7 4 0 x1 → (rg x2 ∧ (∀ μ4 : MM, μ4 = ms μ2 7 5 0 x2 → (∀ μ5 : MM, μ5 = ms μ4 7 3 0 0 → (∃ n6 : Nat, wpX2_search_L20 G Q n6 x3 0 μ5)))))
set_option maxRecDepth 100000 in
set_option maxHeartbeats 4000000 in
theorem wX2_search {G : GG} {Q : Int → MM → Prop} {x1 : Int} {x2 : Int} {x3 : Int} {μ : MM} {H : Heap} {locs : List Loc} {ls : Array Slot} (F : CallFix p m c cX2_search 6 s args uw RX2) (hA : ∀ q : Nat, s.heap.size ≤ q → A q) (hR : 3 ≤ R.frames ∧ 75 ≤ R.locals) (ret : RetV p l e R s m args below meth c cX2_search Qf (dmC G) (cfC G) tyC (exC G) D cy ad A Q) (h : wpX2_search G x1 x2 x3 μ Q) (hw : wdC G D cy ad A μ s H) (hS : va_S A s.heap H locs) (hl : lv_has ls 6 [(0, .ref (ad 7 0)), (1, .int (iI x1)), (2, .int (iI x2)), (3, .int (iI x3))]) : W p l e R s m args below meth c H locs 0 0 Qf (F0 m 0 ls []) := by
  have hx := F.1
  have hb := F.2.1
  have hown := F.2.2.2.1
  have hts := F.2.2.2.2
  refine lv_aload_n hx hb dX2_search_0 rfl (lv_at hl 0 rfl) ?_
  refine lv_iload_n hx hb dX2_search_1 rfl (lv_at hl 1 rfl) ?_
  obtain ⟨g1, h⟩ := h
  refine q_i2l hx hb g1 dX2_search_2 ?_
  obtain ⟨μ2, eμ2⟩ : ∃ z : MM, z = ms μ 7 4 0 x1 := ⟨_, rfl⟩
  have h := h μ2 eμ2
  refine pC_Q_dueUpper F hw hS tw1_89 eμ2 dX2_search_3 (fun H locs hw hS => ?_)
  refine lv_aload_n hx hb dX2_search_6 rfl (lv_at hl 0 rfl) ?_
  refine lv_iload_n hx hb dX2_search_7 rfl (lv_at hl 2 rfl) ?_
  obtain ⟨g3, h⟩ := h
  refine q_i2l hx hb g3 dX2_search_8 ?_
  obtain ⟨μ4, eμ4⟩ : ∃ z : MM, z = ms μ2 7 5 0 x2 := ⟨_, rfl⟩
  have h := h μ4 eμ4
  refine pC_Q_dueLower F hw hS tw1_90 eμ4 dX2_search_9 (fun H locs hw hS => ?_)
  refine lv_aload_n hx hb dX2_search_12 rfl (lv_at hl 0 rfl) ?_
  refine q_iconst hx hb dX2_search_13 ?_
  obtain ⟨μ5, eμ5⟩ : ∃ z : MM, z = ms μ4 7 3 0 0 := ⟨_, rfl⟩
  have h := h μ5 eμ5
  refine pC_Q_chosenCount F hw hS tw1_88 eμ5 dX2_search_14 (fun H locs hw hS => ?_)
  refine q_iconst hx hb dX2_search_17 ?_
  refine lv_istore (lv' := [(4, .int (iI 0)), (0, .ref (ad 7 0)), (1, .int (iI x1)), (2, .int (iI x2)), (3, .int (iI x3))]) hx hb dX2_search_18 hl (by decide) rfl (fun ls hl => ?_)
  obtain ⟨n6, h⟩ := h
  exact wX2_search_L20 F hA hR ret n6 x3 0 _ _ _ _ h hw hS (lv_sub hl [1, 4, 0] rfl)
set_option maxRecDepth 100000 in
set_option maxHeartbeats 4000000 in
theorem kX2_search {l : Launch} {D : va_G} {cy : Nat → ClassId} {ad : AD} {A : Nat → Prop} {G : GG} {x1 : Int} {x2 : Int} {x3 : Int} {μ : MM} {Q : Int → MM → Prop} (h : wpX2_search G x1 x2 x3 μ Q) : Met l yX2_search (Cond.code yX2_search cX2_search 6 none :: uw) (rmm 3 75) (wPc [.ref (ad 7 0), .int (iI x1), .int (iI x2), .int (iI x3)] (dmC G) (cfC G) tyC (exC G) D cy ad A μ) (wQ vV Q (dmC G) (cfC G) D cy ad A) 0 0 A :=
  met_of (by decide) (Nat.le_of_ble_eq_true rfl) (fun p e R s m args below meth c ls hr hk hRR F hA hw hS hl => wX2_search F hA (by subst hRR; exact ⟨Nat.le_refl _, Nat.le_refl _⟩) (retV_of F hr hk) h hw hS hl)
theorem hdX2_search : yX2_search.cls ≠ "java/lang/invoke/MethodHandle" ∧ yX2_search.cls ≠ "java/lang/invoke/VarHandle" ∧ (parseMethodDescriptor yX2_search.desc).map (fun d => d.parameters.length) = some 3 := by decide +kernel
end
