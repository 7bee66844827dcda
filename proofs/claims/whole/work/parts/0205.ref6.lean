section
variable {p : Program} {l : Launch} {e : Env} {R : Room} {s : State} {m : MethodId} {args : Array Value} {below : List Frame} {meth : Method} {c : Code} {Qf : State → Prop} {D : va_G} {cy : Nat → ClassId} {ad : AD} {A : Nat → Prop}
def wpX11_explained (x1 : Int) (x2 : Int) (μ : MM) (Q : Int → MM → Prop) : Prop := wpX11_in x2 1 12 μ (fun v1 μ2 => if v1 = 0 then (Q (-1) μ2) else (wpX11_looked x1 μ2 (fun v5 μ6 => rg v5 ∧ (if 0 ≤ v5 then (wpX11_tryAll x1 x2 μ6 (fun v9 μ10 => Q (μ10 0 46 0) μ10)) else (Q v5 μ6)))))
set_option maxRecDepth 100000 in
set_option maxHeartbeats 4000000 in
theorem wX11_explained {Q : Int → MM → Prop} {x1 : Int} {x2 : Int} {μ : MM} {H : Heap} {locs : List Loc} {ls : Array Slot} (F : CallFix p m c cX11_explained 4 s args uw RX11) (hA : ∀ q : Nat, s.heap.size ≤ q → A q) (hR : 5 ≤ R.frames ∧ 126 ≤ R.locals) (ret : RetI p l e R s m args below meth c cX11_explained Qf dmR cfR tyR exR D cy ad A Q) (h : wpX11_explained x1 x2 μ Q) (hw : wdR D cy ad A μ s H) (hS : va_S A s.heap H locs) (hl : lv_has ls 4 [(0, .ref (ad 0 0)), (1, .int (iI x1)), (2, .int (iI x2))]) : W p l e R s m args below meth c H locs 0 0 Qf (F0 m 0 ls []) := by
  have hx := F.1
  have hb := F.2.1
  have hown := F.2.2.2.1
  have hts := F.2.2.2.2
  refine lv_iload_n hx hb dX11_explained_0 rfl (lv_at hl 2 rfl) ?_
  refine q_iconst hx hb dX11_explained_1 ?_
  refine q_bipush hx hb (by decide) dX11_explained_2 ?_
  refine call_S hexR F (kX11_in h) 3 tw6_77 tw1_8 tw6_76 tw6_75 hdX11_in ⟨Nat.le_trans (by decide) hR.1, Nat.le_trans (by decide) hR.2⟩ hA hw hS rfl hl.1 rfl (Nat.le_of_ble_eq_true rfl) dX11_explained_4 (fun v1 μ2 H locs h hw hS => ?_)
  obtain ⟨z3, h⟩ := h
  refine q_if_ne (tgt := 12) hx hb (rgB z3) dX11_explained_7 (by decide) (fun c4 => ?_) (fun c4 => ?_)
  · have h := ite_f c4 h
    refine lv_aload_n hx hb dX11_explained_12 rfl (lv_at hl 0 rfl) ?_
    refine lv_iload_n hx hb dX11_explained_13 rfl (lv_at hl 1 rfl) ?_
    refine call_V hexR F (kX11_looked h) 1 tw6_89 tw1_8 tw6_88 tws2_11 tw6_86 hdX11_looked ⟨Nat.le_trans (by decide) hR.1, Nat.le_trans (by decide) hR.2⟩ (hw.recv (k := 0) (i := 0) ⟨rfl, Or.inl rfl⟩ rfl rfl) hA hw hS rfl hl.1 rfl (Nat.le_of_ble_eq_true rfl) dX11_explained_14 (fun v5 μ6 H locs h hw hS => ?_)
    refine lv_istore_n (lv' := [(3, .int (iI v5)), (0, .ref (ad 0 0)), (1, .int (iI x1)), (2, .int (iI x2))]) hx hb dX11_explained_17 rfl hl (by decide) rfl (fun ls hl => ?_)
    refine lv_iload_n hx hb dX11_explained_18 rfl (lv_at hl 0 rfl) ?_
    obtain ⟨g7, h⟩ := h
    refine q_if_ge (tgt := 24) hx hb g7 dX11_explained_19 (by decide) (fun c8 => ?_) (fun c8 => ?_)
    · have h := ite_t c8 h
      refine lv_aload_n hx hb dX11_explained_24 rfl (lv_at hl 1 rfl) ?_
      refine lv_iload_n hx hb dX11_explained_25 rfl (lv_at hl 2 rfl) ?_
      refine lv_iload_n hx hb dX11_explained_26 rfl (lv_at hl 3 rfl) ?_
      refine call_V hexR F (kX11_tryAll h) 2 tw7_150 tw1_8 tw7_149 tws4_8 tw7_147 hdX11_tryAll ⟨Nat.le_trans (by decide) hR.1, Nat.le_trans (by decide) hR.2⟩ (hw.recv (k := 0) (i := 0) ⟨rfl, Or.inl rfl⟩ rfl rfl) hA hw hS rfl hl.1 rfl (Nat.le_of_ble_eq_true rfl) dX11_explained_27 (fun v9 μ10 H locs h hw hS => ?_)
      refine lv_aload_n hx hb dX11_explained_30 rfl (lv_at hl 1 rfl) ?_
      refine gR_without F hw tw5_184 dX11_explained_31 ?_
      exact ret _ _ _ _ _ _ h hw hS dX11_explained_34
    · have h := ite_f c8 h
      refine lv_iload_n hx hb dX11_explained_22 rfl (lv_at hl 0 rfl) ?_
      exact ret _ _ _ _ _ _ h hw hS dX11_explained_23
  · have h := ite_t c4 h
    refine q_iconst hx hb dX11_explained_10 ?_
    exact ret _ _ _ _ _ _ h hw hS dX11_explained_11
set_option maxRecDepth 100000 in
set_option maxHeartbeats 4000000 in
theorem kX11_explained {l : Launch} {D : va_G} {cy : Nat → ClassId} {ad : AD} {A : Nat → Prop} {x1 : Int} {x2 : Int} {μ : MM} {Q : Int → MM → Prop} (h : wpX11_explained x1 x2 μ Q) : Met l yX11_explained (Cond.code yX11_explained cX11_explained 4 (some .int) :: uw) (rmm 5 126) (wPc [.ref (ad 0 0), .int (iI x1), .int (iI x2)] dmR cfR tyR exR D cy ad A μ) (wQ vI Q dmR cfR D cy ad A) 0 0 A :=
  met_of (by decide) (Nat.le_of_ble_eq_true rfl) (fun p e R s m args below meth c ls hr hk hRR F hA hw hS hl => wX11_explained F hA (by subst hRR; exact ⟨Nat.le_refl _, Nat.le_refl _⟩) (retI_of F hr hk) h hw hS hl)
theorem hdX11_explained : yX11_explained.cls ≠ "java/lang/invoke/MethodHandle" ∧ yX11_explained.cls ≠ "java/lang/invoke/VarHandle" ∧ (parseMethodDescriptor yX11_explained.desc).map (fun d => d.parameters.length) = some 2 := by decide +kernel
def wpX11_fault (x1 : Int) (x2 : Int) (μ : MM) (Q : Int → MM → Prop) : Prop := wpX11_in x2 1 12 μ (fun v1 μ2 => if v1 = 0 then (Q (-1) μ2) else (wpX11_looked x1 μ2 (fun v5 μ6 => rg v5 ∧ (if 0 ≤ v5 then (wpX11_tryAll x1 x2 μ6 (fun v9 μ10 => ∀ μ11 : MM, μ11 = ms μ10 0 42 0 (μ10 47 0 0) → (∀ μ12 : MM, μ12 = ms μ11 0 43 0 (μ11 47 0 1) → (∀ μ13 : MM, μ13 = ms μ12 0 44 0 (μ12 47 0 2) → (∀ μ14 : MM, μ14 = ms μ13 0 2 0 (μ13 0 45 0) → (Q (μ14 0 42 0) μ14)))))) else (Q v5 μ6)))))
set_option maxRecDepth 100000 in
set_option maxHeartbeats 4000000 in
theorem wX11_fault {Q : Int → MM → Prop} {x1 : Int} {x2 : Int} {μ : MM} {H : Heap} {locs : List Loc} {ls : Array Slot} (F : CallFix p m c cX11_fault 4 s args uw RX11) (hA : ∀ q : Nat, s.heap.size ≤ q → A q) (hR : 5 ≤ R.frames ∧ 126 ≤ R.locals) (ret : RetI p l e R s m args below meth c cX11_fault Qf dmR cfR tyR exR D cy ad A Q) (h : wpX11_fault x1 x2 μ Q) (hw : wdR D cy ad A μ s H) (hS : va_S A s.heap H locs) (hl : lv_has ls 4 [(0, .ref (ad 0 0)), (1, .int (iI x1)), (2, .int (iI x2))]) : W p l e R s m args below meth c H locs 0 0 Qf (F0 m 0 ls []) := by
  have hx := F.1
  have hb := F.2.1
  have hown := F.2.2.2.1
  have hts := F.2.2.2.2
  refine lv_iload_n hx hb dX11_fault_0 rfl (lv_at hl 2 rfl) ?_
  refine q_iconst hx hb dX11_fault_1 ?_
  refine q_bipush hx hb (by decide) dX11_fault_2 ?_
  refine call_S hexR F (kX11_in h) 3 tw6_77 tw1_8 tw6_76 tw6_75 hdX11_in ⟨Nat.le_trans (by decide) hR.1, Nat.le_trans (by decide) hR.2⟩ hA hw hS rfl hl.1 rfl (Nat.le_of_ble_eq_true rfl) dX11_fault_4 (fun v1 μ2 H locs h hw hS => ?_)
  obtain ⟨z3, h⟩ := h
  refine q_if_ne (tgt := 12) hx hb (rgB z3) dX11_fault_7 (by decide) (fun c4 => ?_) (fun c4 => ?_)
  · have h := ite_f c4 h
    refine lv_aload_n hx hb dX11_fault_12 rfl (lv_at hl 0 rfl) ?_
    refine lv_iload_n hx hb dX11_fault_13 rfl (lv_at hl 1 rfl) ?_
    refine call_V hexR F (kX11_looked h) 1 tw6_89 tw1_8 tw6_88 tws2_11 tw6_86 hdX11_looked ⟨Nat.le_trans (by decide) hR.1, Nat.le_trans (by decide) hR.2⟩ (hw.recv (k := 0) (i := 0) ⟨rfl, Or.inl rfl⟩ rfl rfl) hA hw hS rfl hl.1 rfl (Nat.le_of_ble_eq_true rfl) dX11_fault_14 (fun v5 μ6 H locs h hw hS => ?_)
    refine lv_istore_n (lv' := [(3, .int (iI v5)), (0, .ref (ad 0 0)), (1, .int (iI x1)), (2, .int (iI x2))]) hx hb dX11_fault_17 rfl hl (by decide) rfl (fun ls hl => ?_)
    refine lv_iload_n hx hb dX11_fault_18 rfl (lv_at hl 0 rfl) ?_
    obtain ⟨g7, h⟩ := h
    refine q_if_ge (tgt := 24) hx hb g7 dX11_fault_19 (by decide) (fun c8 => ?_) (fun c8 => ?_)
    · have h := ite_t c8 h
      refine lv_aload_n hx hb dX11_fault_24 rfl (lv_at hl 1 rfl) ?_
      refine lv_iload_n hx hb dX11_fault_25 rfl (lv_at hl 2 rfl) ?_
      refine lv_iload_n hx hb dX11_fault_26 rfl (lv_at hl 3 rfl) ?_
      refine call_V hexR F (kX11_tryAll h) 2 tw7_150 tw1_8 tw7_149 tws4_8 tw7_147 hdX11_tryAll ⟨Nat.le_trans (by decide) hR.1, Nat.le_trans (by decide) hR.2⟩ (hw.recv (k := 0) (i := 0) ⟨rfl, Or.inl rfl⟩ rfl rfl) hA hw hS rfl hl.1 rfl (Nat.le_of_ble_eq_true rfl) dX11_fault_27 (fun v9 μ10 H locs h hw hS => ?_)
      refine lv_aload_n hx hb dX11_fault_30 rfl (lv_at hl 1 rfl) ?_
      refine lv_aload_n hx hb dX11_fault_31 rfl (lv_at hl 1 rfl) ?_
      refine gR_held F hw tw5_185 dX11_fault_32 ?_
      refine q_iconst hx hb dX11_fault_35 ?_
      refine aR_ild (L := 3) hx hb hw 46 rfl rfl (by decide) (by decide) (by decide) dX11_fault_36 ?_
      obtain ⟨μ11, eμ11⟩ : ∃ z : MM, z = ms μ10 0 42 0 (μ10 47 0 0) := ⟨_, rfl⟩
      have h := h μ11 eμ11
      refine pR_faultSort F hw hS tw5_180 eμ11 dX11_fault_37 (fun H locs hw hS => ?_)
      refine lv_aload_n hx hb dX11_fault_40 rfl (lv_at hl 1 rfl) ?_
      refine lv_aload_n hx hb dX11_fault_41 rfl (lv_at hl 1 rfl) ?_
      refine gR_held F hw tw5_185 dX11_fault_42 ?_
      refine q_iconst hx hb dX11_fault_45 ?_
      refine aR_ild (L := 3) hx hb hw 46 rfl rfl (by decide) (by decide) (by decide) dX11_fault_46 ?_
      obtain ⟨μ12, eμ12⟩ : ∃ z : MM, z = ms μ11 0 43 0 (μ11 47 0 1) := ⟨_, rfl⟩
      have h := h μ12 eμ12
      refine pR_faultFirst F hw hS tw5_181 eμ12 dX11_fault_47 (fun H locs hw hS => ?_)
      refine lv_aload_n hx hb dX11_fault_50 rfl (lv_at hl 1 rfl) ?_
      refine lv_aload_n hx hb dX11_fault_51 rfl (lv_at hl 1 rfl) ?_
      refine gR_held F hw tw5_185 dX11_fault_52 ?_
      refine q_iconst hx hb dX11_fault_55 ?_
      refine aR_ild (L := 3) hx hb hw 46 rfl rfl (by decide) (by decide) (by decide) dX11_fault_56 ?_
      obtain ⟨μ13, eμ13⟩ : ∃ z : MM, z = ms μ12 0 44 0 (μ12 47 0 2) := ⟨_, rfl⟩
      have h := h μ13 eμ13
      refine pR_faultSecond F hw hS tw5_182 eμ13 dX11_fault_57 (fun H locs hw hS => ?_)
      refine lv_aload_n hx hb dX11_fault_60 rfl (lv_at hl 1 rfl) ?_
      refine lv_aload_n hx hb dX11_fault_61 rfl (lv_at hl 1 rfl) ?_
      refine gR_fewest F hw tw5_183 dX11_fault_62 ?_
      obtain ⟨μ14, eμ14⟩ : ∃ z : MM, z = ms μ13 0 2 0 (μ13 0 45 0) := ⟨_, rfl⟩
      have h := h μ14 eμ14
      refine pR_asked F hw hS tw5_140 eμ14 dX11_fault_65 (fun H locs hw hS => ?_)
      refine lv_aload_n hx hb dX11_fault_68 rfl (lv_at hl 1 rfl) ?_
      refine gR_faultSort F hw tw5_180 dX11_fault_69 ?_
      exact ret _ _ _ _ _ _ h hw hS dX11_fault_72
    · have h := ite_f c8 h
      refine lv_iload_n hx hb dX11_fault_22 rfl (lv_at hl 0 rfl) ?_
      exact ret _ _ _ _ _ _ h hw hS dX11_fault_23
  · have h := ite_t c4 h
    refine q_iconst hx hb dX11_fault_10 ?_
    exact ret _ _ _ _ _ _ h hw hS dX11_fault_11
set_option maxRecDepth 100000 in
set_option maxHeartbeats 4000000 in
theorem kX11_fault {l : Launch} {D : va_G} {cy : Nat → ClassId} {ad : AD} {A : Nat → Prop} {x1 : Int} {x2 : Int} {μ : MM} {Q : Int → MM → Prop} (h : wpX11_fault x1 x2 μ Q) : Met l yX11_fault (Cond.code yX11_fault cX11_fault 4 (some .int) :: uw) (rmm 5 126) (wPc [.ref (ad 0 0), .int (iI x1), .int (iI x2)] dmR cfR tyR exR D cy ad A μ) (wQ vI Q dmR cfR D cy ad A) 0 0 A :=
  met_of (by decide) (Nat.le_of_ble_eq_true rfl) (fun p e R s m args below meth c ls hr hk hRR F hA hw hS hl => wX11_fault F hA (by subst hRR; exact ⟨Nat.le_refl _, Nat.le_refl _⟩) (retI_of F hr hk) h hw hS hl)
theorem hdX11_fault : yX11_fault.cls ≠ "java/lang/invoke/MethodHandle" ∧ yX11_fault.cls ≠ "java/lang/invoke/VarHandle" ∧ (parseMethodDescriptor yX11_fault.desc).map (fun d => d.parameters.length) = some 2 := by decide +kernel
def wpX11_faultTold (x1 : Int) (μ : MM) (Q : Int → MM → Prop) : Prop := rg x1 ∧ (if x1 = 0 then (Q (μ 0 43 0) μ) else (Q (μ 0 44 0) μ))
set_option maxRecDepth 100000 in
set_option maxHeartbeats 4000000 in
theorem wX11_faultTold {Q : Int → MM → Prop} {x1 : Int} {μ : MM} {H : Heap} {locs : List Loc} {ls : Array Slot} (F : CallFix p m c cX11_faultTold 2 s args uw RX11) (hA : ∀ q : Nat, s.heap.size ≤ q → A q) (hR : 0 ≤ R.frames ∧ 0 ≤ R.locals) (ret : RetI p l e R s m args below meth c cX11_faultTold Qf dmR cfR tyR exR D cy ad A Q) (h : wpX11_faultTold x1 μ Q) (hw : wdR D cy ad A μ s H) (hS : va_S A s.heap H locs) (hl : lv_has ls 2 [(0, .ref (ad 0 0)), (1, .int (iI x1))]) : W p l e R s m args below meth c H locs 0 0 Qf (F0 m 0 ls []) := by
  have hx := F.1
  have hb := F.2.1
  have hown := F.2.2.2.1
  have hts := F.2.2.2.2
  refine lv_iload_n hx hb dX11_faultTold_0 rfl (lv_at hl 1 rfl) ?_
  obtain ⟨g1, h⟩ := h
  refine q_if_eq (tgt := 11) hx hb g1 dX11_faultTold_1 (by decide) (fun c2 => ?_) (fun c2 => ?_)
  · have h := ite_t c2 h
    refine lv_aload_n hx hb dX11_faultTold_11 rfl (lv_at hl 0 rfl) ?_
    refine gR_faultFirst F hw tw5_181 dX11_faultTold_12 ?_
    exact ret _ _ _ _ _ _ h hw hS dX11_faultTold_15
  · have h := ite_f c2 h
    refine lv_aload_n hx hb dX11_faultTold_4 rfl (lv_at hl 0 rfl) ?_
    refine gR_faultSecond F hw tw5_182 dX11_faultTold_5 ?_
    refine lv_goto (tgt := 15) hx hb dX11_faultTold_8 (by decide) ?_
    exact ret _ _ _ _ _ _ h hw hS dX11_faultTold_15
set_option maxRecDepth 100000 in
set_option maxHeartbeats 4000000 in
theorem kX11_faultTold {l : Launch} {D : va_G} {cy : Nat → ClassId} {ad : AD} {A : Nat → Prop} {x1 : Int} {μ : MM} {Q : Int → MM → Prop} (h : wpX11_faultTold x1 μ Q) : Met l yX11_faultTold (Cond.code yX11_faultTold cX11_faultTold 2 (some .int) :: uw) (rmm 0 0) (wPc [.ref (ad 0 0), .int (iI x1)] dmR cfR tyR exR D cy ad A μ) (wQ vI Q dmR cfR D cy ad A) 0 0 A :=
  met_of (by decide) (Nat.le_of_ble_eq_true rfl) (fun p e R s m args below meth c ls hr hk hRR F hA hw hS hl => wX11_faultTold F hA (by subst hRR; exact ⟨Nat.le_refl _, Nat.le_refl _⟩) (retI_of F hr hk) h hw hS hl)
theorem hdX11_faultTold : yX11_faultTold.cls ≠ "java/lang/invoke/MethodHandle" ∧ yX11_faultTold.cls ≠ "java/lang/invoke/VarHandle" ∧ (parseMethodDescriptor yX11_faultTold.desc).map (fun d => d.parameters.length) = some 1 := by decide +kernel
def wpX11_finding (μ : MM) (Q : Int → MM → Prop) : Prop := Q (μ 0 0 0) μ
set_option maxRecDepth 100000 in
set_option maxHeartbeats 4000000 in
theorem wX11_finding {Q : Int → MM → Prop} {μ : MM} {H : Heap} {locs : List Loc} {ls : Array Slot} (F : CallFix p m c cX11_finding 1 s args uw RX11) (hA : ∀ q : Nat, s.heap.size ≤ q → A q) (hR : 0 ≤ R.frames ∧ 0 ≤ R.locals) (ret : RetI p l e R s m args below meth c cX11_finding Qf dmR cfR tyR exR D cy ad A Q) (h : wpX11_finding μ Q) (hw : wdR D cy ad A μ s H) (hS : va_S A s.heap H locs) (hl : lv_has ls 1 [(0, .ref (ad 0 0))]) : W p l e R s m args below meth c H locs 0 0 Qf (F0 m 0 ls []) := by
  have hx := F.1
  have hb := F.2.1
  have hown := F.2.2.2.1
  have hts := F.2.2.2.2
  refine lv_aload_n hx hb dX11_finding_0 rfl (lv_at hl 0 rfl) ?_
  refine gR_finding F hw tw5_138 dX11_finding_1 ?_
  exact ret _ _ _ _ _ _ h hw hS dX11_finding_4
set_option maxRecDepth 100000 in
set_option maxHeartbeats 4000000 in
theorem kX11_finding {l : Launch} {D : va_G} {cy : Nat → ClassId} {ad : AD} {A : Nat → Prop} {μ : MM} {Q : Int → MM → Prop} (h : wpX11_finding μ Q) : Met l yX11_finding (Cond.code yX11_finding cX11_finding 1 (some .int) :: uw) (rmm 0 0) (wPc [.ref (ad 0 0)] dmR cfR tyR exR D cy ad A μ) (wQ vI Q dmR cfR D cy ad A) 0 0 A :=
  met_of (by decide) (Nat.le_of_ble_eq_true rfl) (fun p e R s m args below meth c ls hr hk hRR F hA hw hS hl => wX11_finding F hA (by subst hRR; exact ⟨Nat.le_refl _, Nat.le_refl _⟩) (retI_of F hr hk) h hw hS hl)
theorem hdX11_finding : yX11_finding.cls ≠ "java/lang/invoke/MethodHandle" ∧ yX11_finding.cls ≠ "java/lang/invoke/VarHandle" ∧ (parseMethodDescriptor yX11_finding.desc).map (fun d => d.parameters.length) = some 0 := by decide +kernel
def wpX11_findings (x1 : Int) (μ : MM) (Q : Int → MM → Prop) : Prop := wpX11_in x1 1 5 μ (fun v1 μ2 => if v1 = 0 then (Q (-1) μ2) else (0 ≤ x1 ∧ (x1 < 6 ∧ (Q (μ2 1 0 x1) μ2))))
set_option maxRecDepth 100000 in
set_option maxHeartbeats 4000000 in
theorem wX11_findings {Q : Int → MM → Prop} {x1 : Int} {μ : MM} {H : Heap} {locs : List Loc} {ls : Array Slot} (F : CallFix p m c cX11_findings 2 s args uw RX11) (hA : ∀ q : Nat, s.heap.size ≤ q → A q) (hR : 1 ≤ R.frames ∧ 22 ≤ R.locals) (ret : RetI p l e R s m args below meth c cX11_findings Qf dmR cfR tyR exR D cy ad A Q) (h : wpX11_findings x1 μ Q) (hw : wdR D cy ad A μ s H) (hS : va_S A s.heap H locs) (hl : lv_has ls 2 [(0, .ref (ad 0 0)), (1, .int (iI x1))]) : W p l e R s m args below meth c H locs 0 0 Qf (F0 m 0 ls []) := by
  have hx := F.1
  have hb := F.2.1
  have hown := F.2.2.2.1
  have hts := F.2.2.2.2
  refine lv_iload_n hx hb dX11_findings_0 rfl (lv_at hl 1 rfl) ?_
  refine q_iconst hx hb dX11_findings_1 ?_
  refine q_iconst hx hb dX11_findings_2 ?_
  refine call_S hexR F (kX11_in h) 3 tw6_77 tw1_8 tw6_76 tw6_75 hdX11_in ⟨Nat.le_trans (by decide) hR.1, Nat.le_trans (by decide) hR.2⟩ hA hw hS rfl hl.1 rfl (Nat.le_of_ble_eq_true rfl) dX11_findings_3 (fun v1 μ2 H locs h hw hS => ?_)
  obtain ⟨z3, h⟩ := h
  refine q_if_eq (tgt := 18) hx hb (rgB z3) dX11_findings_6 (by decide) (fun c4 => ?_) (fun c4 => ?_)
  · have h := ite_t c4 h
    refine q_iconst hx hb dX11_findings_18 ?_
    exact ret _ _ _ _ _ _ h hw hS dX11_findings_19
  · have h := ite_f c4 h
    refine lv_aload_n hx hb dX11_findings_9 rfl (lv_at hl 0 rfl) ?_
    refine gR_findings F hw tw5_139 dX11_findings_10 ?_
    refine lv_iload_n hx hb dX11_findings_13 rfl (lv_at hl 1 rfl) ?_
    obtain ⟨g5, h⟩ := h
    obtain ⟨g6, h⟩ := h
    refine aR_ild (L := 6) hx hb hw 0 rfl rfl (by decide) g5 g6 dX11_findings_14 ?_
    refine lv_goto (tgt := 19) hx hb dX11_findings_15 (by decide) ?_
    exact ret _ _ _ _ _ _ h hw hS dX11_findings_19
set_option maxRecDepth 100000 in
set_option maxHeartbeats 4000000 in
theorem kX11_findings {l : Launch} {D : va_G} {cy : Nat → ClassId} {ad : AD} {A : Nat → Prop} {x1 : Int} {μ : MM} {Q : Int → MM → Prop} (h : wpX11_findings x1 μ Q) : Met l yX11_findings (Cond.code yX11_findings cX11_findings 2 (some .int) :: uw) (rmm 1 22) (wPc [.ref (ad 0 0), .int (iI x1)] dmR cfR tyR exR D cy ad A μ) (wQ vI Q dmR cfR D cy ad A) 0 0 A :=
  met_of (by decide) (Nat.le_of_ble_eq_true rfl) (fun p e R s m args below meth c ls hr hk hRR F hA hw hS hl => wX11_findings F hA (by subst hRR; exact ⟨Nat.le_refl _, Nat.le_refl _⟩) (retI_of F hr hk) h hw hS hl)
theorem hdX11_findings : yX11_findings.cls ≠ "java/lang/invoke/MethodHandle" ∧ yX11_findings.cls ≠ "java/lang/invoke/VarHandle" ∧ (parseMethodDescriptor yX11_findings.desc).map (fun d => d.parameters.length) = some 1 := by decide +kernel
def wpX11_hourOf (x0 : Int) (μ : MM) (Q : Int → MM → Prop) : Prop := rg x0 ∧ (rg ((Int.tdiv x0 60) + 11) ∧ (Q ((Int.tmod ((Int.tdiv x0 60) + 11) 12) + 1) μ))
set_option maxRecDepth 100000 in
set_option maxHeartbeats 4000000 in
theorem wX11_hourOf {Q : Int → MM → Prop} {x0 : Int} {μ : MM} {H : Heap} {locs : List Loc} {ls : Array Slot} (F : CallFix p m c cX11_hourOf 1 s args uw RX11) (hA : ∀ q : Nat, s.heap.size ≤ q → A q) (hR : 0 ≤ R.frames ∧ 0 ≤ R.locals) (ret : RetI p l e R s m args below meth c cX11_hourOf Qf dmR cfR tyR exR D cy ad A Q) (h : wpX11_hourOf x0 μ Q) (hw : wdR D cy ad A μ s H) (hS : va_S A s.heap H locs) (hl : lv_has ls 1 [(0, .int (iI x0))]) : W p l e R s m args below meth c H locs 0 0 Qf (F0 m 0 ls []) := by
  have hx := F.1
  have hb := F.2.1
  have hown := F.2.2.2.1
  have hts := F.2.2.2.2
  refine lv_iload_n hx hb dX11_hourOf_0 rfl (lv_at hl 0 rfl) ?_
  refine q_bipush hx hb (by decide) dX11_hourOf_1 ?_
  obtain ⟨g1, h⟩ := h
  refine q_idiv hx hb g1 (by decide) (by decide) dX11_hourOf_3 ?_
  refine q_bipush hx hb (by decide) dX11_hourOf_4 ?_
  refine q_iadd hx hb dX11_hourOf_6 ?_
  refine q_bipush hx hb (by decide) dX11_hourOf_7 ?_
  obtain ⟨g2, h⟩ := h
  refine q_irem hx hb g2 (by decide) (by decide) dX11_hourOf_9 ?_
  refine q_iconst hx hb dX11_hourOf_10 ?_
  refine q_iadd hx hb dX11_hourOf_11 ?_
  exact ret _ _ _ _ _ _ h hw hS dX11_hourOf_12
set_option maxRecDepth 100000 in
set_option maxHeartbeats 4000000 in
theorem kX11_hourOf {l : Launch} {D : va_G} {cy : Nat → ClassId} {ad : AD} {A : Nat → Prop} {x0 : Int} {μ : MM} {Q : Int → MM → Prop} (h : wpX11_hourOf x0 μ Q) : Met l yX11_hourOf (Cond.code yX11_hourOf cX11_hourOf 1 (some .int) :: uw) (rmm 0 0) (wPc [.int (iI x0)] dmR cfR tyR exR D cy ad A μ) (wQ vI Q dmR cfR D cy ad A) 0 0 A :=
  met_of (by decide) (Nat.le_of_ble_eq_true rfl) (fun p e R s m args below meth c ls hr hk hRR F hA hw hS hl => wX11_hourOf F hA (by subst hRR; exact ⟨Nat.le_refl _, Nat.le_refl _⟩) (retI_of F hr hk) h hw hS hl)
theorem hdX11_hourOf : yX11_hourOf.cls ≠ "java/lang/invoke/MethodHandle" ∧ yX11_hourOf.cls ≠ "java/lang/invoke/VarHandle" ∧ (parseMethodDescriptor yX11_hourOf.desc).map (fun d => d.parameters.length) = some 1 := by decide +kernel
def wpX11_hourNow (x1 : Int) (μ : MM) (Q : Int → MM → Prop) : Prop := 0 ≤ x1 ∧ (x1 < 4 ∧ (wpX11_hourOf (μ 27 0 x1) μ (fun v3 μ4 => Q v3 μ4)))
set_option maxRecDepth 100000 in
set_option maxHeartbeats 4000000 in
theorem wX11_hourNow {Q : Int → MM → Prop} {x1 : Int} {μ : MM} {H : Heap} {locs : List Loc} {ls : Array Slot} (F : CallFix p m c cX11_hourNow 2 s args uw RX11) (hA : ∀ q : Nat, s.heap.size ≤ q → A q) (hR : 1 ≤ R.frames ∧ 20 ≤ R.locals) (ret : RetI p l e R s m args below meth c cX11_hourNow Qf dmR cfR tyR exR D cy ad A Q) (h : wpX11_hourNow x1 μ Q) (hw : wdR D cy ad A μ s H) (hS : va_S A s.heap H locs) (hl : lv_has ls 2 [(0, .ref (ad 0 0)), (1, .int (iI x1))]) : W p l e R s m args below meth c H locs 0 0 Qf (F0 m 0 ls []) := by
  have hx := F.1
  have hb := F.2.1
  have hown := F.2.2.2.1
  have hts := F.2.2.2.2
  refine lv_aload_n hx hb dX11_hourNow_0 rfl (lv_at hl 0 rfl) ?_
  refine gR_handsAt F hw tw5_165 dX11_hourNow_1 ?_
  refine lv_iload_n hx hb dX11_hourNow_4 rfl (lv_at hl 1 rfl) ?_
  obtain ⟨g1, h⟩ := h
  obtain ⟨g2, h⟩ := h
  refine aR_ild (L := 4) hx hb hw 26 rfl rfl (by decide) g1 g2 dX11_hourNow_5 ?_
  refine call_S hexR F (kX11_hourOf h) 1 tw7_11 tw1_8 tw7_10 tw7_9 hdX11_hourOf ⟨Nat.le_trans (by decide) hR.1, Nat.le_trans (by decide) hR.2⟩ hA hw hS rfl hl.1 rfl (Nat.le_of_ble_eq_true rfl) dX11_hourNow_6 (fun v3 μ4 H locs h hw hS => ?_)
  exact ret _ _ _ _ _ _ h hw hS dX11_hourNow_9
set_option maxRecDepth 100000 in
set_option maxHeartbeats 4000000 in
theorem kX11_hourNow {l : Launch} {D : va_G} {cy : Nat → ClassId} {ad : AD} {A : Nat → Prop} {x1 : Int} {μ : MM} {Q : Int → MM → Prop} (h : wpX11_hourNow x1 μ Q) : Met l yX11_hourNow (Cond.code yX11_hourNow cX11_hourNow 2 (some .int) :: uw) (rmm 1 20) (wPc [.ref (ad 0 0), .int (iI x1)] dmR cfR tyR exR D cy ad A μ) (wQ vI Q dmR cfR D cy ad A) 0 0 A :=
  met_of (by decide) (Nat.le_of_ble_eq_true rfl) (fun p e R s m args below meth c ls hr hk hRR F hA hw hS hl => wX11_hourNow F hA (by subst hRR; exact ⟨Nat.le_refl _, Nat.le_refl _⟩) (retI_of F hr hk) h hw hS hl)
theorem hdX11_hourNow : yX11_hourNow.cls ≠ "java/lang/invoke/MethodHandle" ∧ yX11_hourNow.cls ≠ "java/lang/invoke/VarHandle" ∧ (parseMethodDescriptor yX11_hourNow.desc).map (fun d => d.parameters.length) = some 1 := by decide +kernel
def wpX11_quarterNow (x1 : Int) (μ : MM) (Q : Int → MM → Prop) : Prop := 0 ≤ x1 ∧ (x1 < 4 ∧ (rg (μ 27 0 x1) ∧ (rg (Int.tmod (μ 27 0 x1) 60) ∧ (∀ y5 : Int, y5 = Int.tdiv (Int.tmod (μ 27 0 x1) 60) 15 → (rg y5 ∧ (if y5 = 0 then (Q 4 μ) else (Q y5 μ)))))))
set_option maxRecDepth 100000 in
set_option maxHeartbeats 4000000 in
theorem wX11_quarterNow {Q : Int → MM → Prop} {x1 : Int} {μ : MM} {H : Heap} {locs : List Loc} {ls : Array Slot} (F : CallFix p m c cX11_quarterNow 3 s args uw RX11) (hA : ∀ q : Nat, s.heap.size ≤ q → A q) (hR : 0 ≤ R.frames ∧ 0 ≤ R.locals) (ret : RetI p l e R s m args below meth c cX11_quarterNow Qf dmR cfR tyR exR D cy ad A Q) (h : wpX11_quarterNow x1 μ Q) (hw : wdR D cy ad A μ s H) (hS : va_S A s.heap H locs) (hl : lv_has ls 3 [(0, .ref (ad 0 0)), (1, .int (iI x1))]) : W p l e R s m args below meth c H locs 0 0 Qf (F0 m 0 ls []) := by
  have hx := F.1
  have hb := F.2.1
  have hown := F.2.2.2.1
  have hts := F.2.2.2.2
  refine lv_aload_n hx hb dX11_quarterNow_0 rfl (lv_at hl 0 rfl) ?_
  refine gR_handsAt F hw tw5_165 dX11_quarterNow_1 ?_
  refine lv_iload_n hx hb dX11_quarterNow_4 rfl (lv_at hl 1 rfl) ?_
  obtain ⟨g1, h⟩ := h
  obtain ⟨g2, h⟩ := h
  refine aR_ild (L := 4) hx hb hw 26 rfl rfl (by decide) g1 g2 dX11_quarterNow_5 ?_
  refine q_bipush hx hb (by decide) dX11_quarterNow_6 ?_
  obtain ⟨g3, h⟩ := h
  refine q_irem hx hb g3 (by decide) (by decide) dX11_quarterNow_8 ?_
  refine q_bipush hx hb (by decide) dX11_quarterNow_9 ?_
  obtain ⟨g4, h⟩ := h
  refine q_idiv hx hb g4 (by decide) (by decide) dX11_quarterNow_11 ?_
  obtain ⟨y5, ey5⟩ : ∃ z : Int, z = Int.tdiv (Int.tmod (μ 27 0 x1) 60) 15 := ⟨_, rfl⟩
  have h := h y5 ey5
  refine q_nmI ey5 ?_
  refine lv_istore_n (lv' := [(2, .int (iI y5)), (0, .ref (ad 0 0)), (1, .int (iI x1))]) hx hb dX11_quarterNow_12 rfl hl (by decide) rfl (fun ls hl => ?_)
  refine lv_iload_n hx hb dX11_quarterNow_13 rfl (lv_at hl 0 rfl) ?_
  obtain ⟨g6, h⟩ := h
  refine q_if_ne (tgt := 21) hx hb g6 dX11_quarterNow_14 (by decide) (fun c7 => ?_) (fun c7 => ?_)
  · have h := ite_f c7 h
    refine lv_iload_n hx hb dX11_quarterNow_21 rfl (lv_at hl 0 rfl) ?_
    exact ret _ _ _ _ _ _ h hw hS dX11_quarterNow_22
  · have h := ite_t c7 h
    refine q_iconst hx hb dX11_quarterNow_17 ?_
    refine lv_goto (tgt := 22) hx hb dX11_quarterNow_18 (by decide) ?_
    exact ret _ _ _ _ _ _ h hw hS dX11_quarterNow_22
set_option maxRecDepth 100000 in
set_option maxHeartbeats 4000000 in
theorem kX11_quarterNow {l : Launch} {D : va_G} {cy : Nat → ClassId} {ad : AD} {A : Nat → Prop} {x1 : Int} {μ : MM} {Q : Int → MM → Prop} (h : wpX11_quarterNow x1 μ Q) : Met l yX11_quarterNow (Cond.code yX11_quarterNow cX11_quarterNow 3 (some .int) :: uw) (rmm 0 0) (wPc [.ref (ad 0 0), .int (iI x1)] dmR cfR tyR exR D cy ad A μ) (wQ vI Q dmR cfR D cy ad A) 0 0 A :=
  met_of (by decide) (Nat.le_of_ble_eq_true rfl) (fun p e R s m args below meth c ls hr hk hRR F hA hw hS hl => wX11_quarterNow F hA (by subst hRR; exact ⟨Nat.le_refl _, Nat.le_refl _⟩) (retI_of F hr hk) h hw hS hl)
theorem hdX11_quarterNow : yX11_quarterNow.cls ≠ "java/lang/invoke/MethodHandle" ∧ yX11_quarterNow.cls ≠ "java/lang/invoke/VarHandle" ∧ (parseMethodDescriptor yX11_quarterNow.desc).map (fun d => d.parameters.length) = some 1 := by decide +kernel
def wpX11_offGoes_J83 (Q : Int → MM → Prop) (x3 : Int) (x4 : Int) (t1 : Int) (t2 : Int) (μ : MM) : Prop := 0 ≤ t1 ∧ (t1 < 16 ∧ ((t2 = 0 ∨ t2 = 1) ∧ (∀ μ4 : MM, μ4 = ms μ 25 0 t1 t2 → (0 ≤ x3 ∧ (x3 < 16 ∧ (rg (μ4 11 0 x3) ∧ (if (μ4 11 0 x3) = 0 then (∀ μ23 : MM, μ23 = ms μ4 21 0 x3 ((μ4 21 0 x3) + 1) → (Q 0 μ23)) else (if (μ4 11 0 x3) = 2 then (rg (x4 - 1) ∧ (rg (μ4 12 0 x3) ∧ ((μ4 12 0 x3) ≠ 0 ∧ (0 ≤ ((24 * x3) + (Int.tmod (x4 - 1) (μ4 12 0 x3))) ∧ ((24 * x3) + (Int.tmod (x4 - 1) (μ4 12 0 x3)) < 384 ∧ (∀ μ22 : MM, μ22 = ms μ4 21 0 x3 (μ4 13 0 ((24 * x3) + (Int.tmod (x4 - 1) (μ4 12 0 x3)))) → (Q 0 μ22))))))) else (0 ≤ ((24 * x3) + (μ4 14 0 x3)) ∧ ((24 * x3) + (μ4 14 0 x3) < 384 ∧ (∀ μ12 : MM, μ12 = ms μ4 21 0 x3 ((μ4 21 0 x3) + (μ4 13 0 ((24 * x3) + (μ4 14 0 x3)))) → (rg ((μ12 14 0 x3) + 1) ∧ (rg (μ12 12 0 x3) ∧ ((μ12 12 0 x3) ≠ 0 ∧ (∀ μ16 : MM, μ16 = ms μ12 14 0 x3 (Int.tmod ((μ12 14 0 x3) + 1) (μ12 12 0 x3)) → (Q 0 μ16))))))))))))))))
set_option maxRecDepth 100000 in
set_option maxHeartbeats 4000000 in
theorem wX11_offGoes_J83 {Q : Int → MM → Prop} {x3 : Int} {x4 : Int} {t1 : Int} {t2 : Int} {μ : MM} {H : Heap} {locs : List Loc} {ls : Array Slot} (F : CallFix p m c cX11_offGoes 5 s args uw RX11) (hA : ∀ q : Nat, s.heap.size ≤ q → A q) (hR : 2 ≤ R.frames ∧ 41 ≤ R.locals) (ret : RetV p l e R s m args below meth c cX11_offGoes Qf dmR cfR tyR exR D cy ad A Q) (h : wpX11_offGoes_J83 Q x3 x4 t1 t2 μ) (hw : wdR D cy ad A μ s H) (hS : va_S A s.heap H locs) (hl : lv_has ls 5 [(0, .ref (ad 0 0)), (3, .int (iI x3)), (4, .int (iI x4))]) : W p l e R s m args below meth c H locs 0 0 Qf (F0 m 83 ls [.int (iI t2), .int (iI t1), .ref (ad 25 0)]) := by
  have hx := F.1
  have hb := F.2.1
  have hown := F.2.2.2.1
  have hts := F.2.2.2.2
  obtain ⟨g1, h⟩ := h
  obtain ⟨g2, h⟩ := h
  obtain ⟨g3, h⟩ := h
  obtain ⟨μ4, eμ4⟩ : ∃ z : MM, z = ms μ 25 0 t1 t2 := ⟨_, rfl⟩
  have h := h μ4 eμ4
  refine aR_zst (L := 16) hx hb hw hS 24 rfl rfl (by decide) g1 g2 g3 eμ4 dX11_offGoes_83 (fun H locs hw hS => ?_)
  refine lv_aload_n hx hb dX11_offGoes_84 rfl (lv_at hl 0 rfl) ?_
  refine gR_kinds F hw tw5_149 dX11_offGoes_85 ?_
  refine lv_iload_n hx hb dX11_offGoes_88 rfl (lv_at hl 1 rfl) ?_
  obtain ⟨g5, h⟩ := h
  obtain ⟨g6, h⟩ := h
  refine aR_ild (L := 16) hx hb hw 10 rfl rfl (by decide) g5 g6 dX11_offGoes_89 ?_
  obtain ⟨g7, h⟩ := h
  refine q_if_ne (tgt := 106) hx hb g7 dX11_offGoes_90 (by decide) (fun c8 => ?_) (fun c8 => ?_)
  · have h := ite_f c8 h
    refine lv_aload_n hx hb dX11_offGoes_106 rfl (lv_at hl 0 rfl) ?_
    refine gR_kinds F hw tw5_149 dX11_offGoes_107 ?_
    refine lv_iload_n hx hb dX11_offGoes_110 rfl (lv_at hl 1 rfl) ?_
    refine aR_ild (L := 16) hx hb hw 10 rfl rfl (by decide) g5 g6 dX11_offGoes_111 ?_
    refine q_iconst hx hb dX11_offGoes_112 ?_
    refine q_icmp_ne (tgt := 146) hx hb g7 (by decide) dX11_offGoes_113 (by decide) (fun c9 => ?_) (fun c9 => ?_)
    · have h := ite_f c9 h
      refine lv_aload_n hx hb dX11_offGoes_146 rfl (lv_at hl 0 rfl) ?_
      refine gR_dues F hw tw5_159 dX11_offGoes_147 ?_
      refine lv_iload_n hx hb dX11_offGoes_150 rfl (lv_at hl 1 rfl) ?_
      refine lv_dup2_11 hx hb dX11_offGoes_151 rfl rfl ?_
      refine aR_ild (L := 16) hx hb hw 20 rfl rfl (by decide) g5 g6 dX11_offGoes_152 ?_
      refine lv_aload_n hx hb dX11_offGoes_153 rfl (lv_at hl 0 rfl) ?_
      refine gR_notches F hw tw5_151 dX11_offGoes_154 ?_
      refine q_bipush hx hb (by decide) dX11_offGoes_157 ?_
      refine lv_iload_n hx hb dX11_offGoes_159 rfl (lv_at hl 1 rfl) ?_
      refine q_imul hx hb dX11_offGoes_160 ?_
      refine lv_aload_n hx hb dX11_offGoes_161 rfl (lv_at hl 0 rfl) ?_
      refine gR_stands F hw tw5_152 dX11_offGoes_162 ?_
      refine lv_iload_n hx hb dX11_offGoes_165 rfl (lv_at hl 1 rfl) ?_
      refine aR_ild (L := 16) hx hb hw 13 rfl rfl (by decide) g5 g6 dX11_offGoes_166 ?_
      refine q_iadd hx hb dX11_offGoes_167 ?_
      obtain ⟨g10, h⟩ := h
      obtain ⟨g11, h⟩ := h
      refine aR_ild (L := 384) hx hb hw 12 rfl rfl (by decide) g10 g11 dX11_offGoes_168 ?_
      refine q_iadd hx hb dX11_offGoes_169 ?_
      obtain ⟨μ12, eμ12⟩ : ∃ z : MM, z = ms μ4 21 0 x3 ((μ4 21 0 x3) + (μ4 13 0 ((24 * x3) + (μ4 14 0 x3)))) := ⟨_, rfl⟩
      have h := h μ12 eμ12
      refine aR_ist (L := 16) hx hb hw hS 20 rfl rfl (by decide) g5 g6 eμ12 dX11_offGoes_170 (fun H locs hw hS => ?_)
      refine lv_aload_n hx hb dX11_offGoes_171 rfl (lv_at hl 0 rfl) ?_
      refine gR_stands F hw tw5_152 dX11_offGoes_172 ?_
      refine lv_iload_n hx hb dX11_offGoes_175 rfl (lv_at hl 1 rfl) ?_
      refine lv_aload_n hx hb dX11_offGoes_176 rfl (lv_at hl 0 rfl) ?_
      refine gR_stands F hw tw5_152 dX11_offGoes_177 ?_
      refine lv_iload_n hx hb dX11_offGoes_180 rfl (lv_at hl 1 rfl) ?_
      refine aR_ild (L := 16) hx hb hw 13 rfl rfl (by decide) g5 g6 dX11_offGoes_181 ?_
      refine q_iconst hx hb dX11_offGoes_182 ?_
      refine q_iadd hx hb dX11_offGoes_183 ?_
      refine lv_aload_n hx hb dX11_offGoes_184 rfl (lv_at hl 0 rfl) ?_
      refine gR_many F hw tw5_150 dX11_offGoes_185 ?_
      refine lv_iload_n hx hb dX11_offGoes_188 rfl (lv_at hl 1 rfl) ?_
      refine aR_ild (L := 16) hx hb hw 11 rfl rfl (by decide) g5 g6 dX11_offGoes_189 ?_
      obtain ⟨g13, h⟩ := h
      obtain ⟨g14, h⟩ := h
      obtain ⟨g15, h⟩ := h
      refine q_irem hx hb g13 g14 g15 dX11_offGoes_190 ?_
      obtain ⟨μ16, eμ16⟩ : ∃ z : MM, z = ms μ12 14 0 x3 (Int.tmod ((μ12 14 0 x3) + 1) (μ12 12 0 x3)) := ⟨_, rfl⟩
      have h := h μ16 eμ16
      refine aR_ist (L := 16) hx hb hw hS 13 rfl rfl (by decide) g5 g6 eμ16 dX11_offGoes_191 (fun H locs hw hS => ?_)
      exact ret _ _ _ _ _ h hw hS dX11_offGoes_192
    · have h := ite_t c9 h
      refine lv_aload_n hx hb dX11_offGoes_116 rfl (lv_at hl 0 rfl) ?_
      refine gR_dues F hw tw5_159 dX11_offGoes_117 ?_
      refine lv_iload_n hx hb dX11_offGoes_120 rfl (lv_at hl 1 rfl) ?_
      refine lv_aload_n hx hb dX11_offGoes_121 rfl (lv_at hl 0 rfl) ?_
      refine gR_notches F hw tw5_151 dX11_offGoes_122 ?_
      refine q_bipush hx hb (by decide) dX11_offGoes_125 ?_
      refine lv_iload_n hx hb dX11_offGoes_127 rfl (lv_at hl 1 rfl) ?_
      refine q_imul hx hb dX11_offGoes_128 ?_
      refine lv_iload hx hb dX11_offGoes_129 (lv_at hl 2 rfl) ?_
      refine q_iconst hx hb dX11_offGoes_131 ?_
      refine q_isub hx hb dX11_offGoes_132 ?_
      refine lv_aload_n hx hb dX11_offGoes_133 rfl (lv_at hl 0 rfl) ?_
      refine gR_many F hw tw5_150 dX11_offGoes_134 ?_
      refine lv_iload_n hx hb dX11_offGoes_137 rfl (lv_at hl 1 rfl) ?_
      refine aR_ild (L := 16) hx hb hw 11 rfl rfl (by decide) g5 g6 dX11_offGoes_138 ?_
      obtain ⟨g17, h⟩ := h
      obtain ⟨g18, h⟩ := h
      obtain ⟨g19, h⟩ := h
      refine q_irem hx hb g17 g18 g19 dX11_offGoes_139 ?_
      refine q_iadd hx hb dX11_offGoes_140 ?_
      obtain ⟨g20, h⟩ := h
      obtain ⟨g21, h⟩ := h
      refine aR_ild (L := 384) hx hb hw 12 rfl rfl (by decide) g20 g21 dX11_offGoes_141 ?_
      obtain ⟨μ22, eμ22⟩ : ∃ z : MM, z = ms μ4 21 0 x3 (μ4 13 0 ((24 * x3) + (Int.tmod (x4 - 1) (μ4 12 0 x3)))) := ⟨_, rfl⟩
      have h := h μ22 eμ22
      refine aR_ist (L := 16) hx hb hw hS 20 rfl rfl (by decide) g5 g6 eμ22 dX11_offGoes_142 (fun H locs hw hS => ?_)
      refine lv_goto (tgt := 192) hx hb dX11_offGoes_143 (by decide) ?_
      exact ret _ _ _ _ _ h hw hS dX11_offGoes_192
  · have h := ite_t c8 h
    refine lv_aload_n hx hb dX11_offGoes_93 rfl (lv_at hl 0 rfl) ?_
    refine gR_dues F hw tw5_159 dX11_offGoes_94 ?_
    refine lv_iload_n hx hb dX11_offGoes_97 rfl (lv_at hl 1 rfl) ?_
    refine lv_dup2_11 hx hb dX11_offGoes_98 rfl rfl ?_
    refine aR_ild (L := 16) hx hb hw 20 rfl rfl (by decide) g5 g6 dX11_offGoes_99 ?_
    refine q_iconst hx hb dX11_offGoes_100 ?_
    refine q_iadd hx hb dX11_offGoes_101 ?_
    obtain ⟨μ23, eμ23⟩ : ∃ z : MM, z = ms μ4 21 0 x3 ((μ4 21 0 x3) + 1) := ⟨_, rfl⟩
    have h := h μ23 eμ23
    refine aR_ist (L := 16) hx hb hw hS 20 rfl rfl (by decide) g5 g6 eμ23 dX11_offGoes_102 (fun H locs hw hS => ?_)
    refine lv_goto (tgt := 192) hx hb dX11_offGoes_103 (by decide) ?_
    exact ret _ _ _ _ _ h hw hS dX11_offGoes_192
def wpX11_offGoes_J82 (Q : Int → MM → Prop) (x3 : Int) (x4 : Int) (t1 : Int) (μ : MM) : Prop := wpX11_offGoes_J83 Q x3 x4 t1 0 μ
set_option maxRecDepth 100000 in
set_option maxHeartbeats 4000000 in
theorem wX11_offGoes_J82 {Q : Int → MM → Prop} {x3 : Int} {x4 : Int} {t1 : Int} {μ : MM} {H : Heap} {locs : List Loc} {ls : Array Slot} (F : CallFix p m c cX11_offGoes 5 s args uw RX11) (hA : ∀ q : Nat, s.heap.size ≤ q → A q) (hR : 2 ≤ R.frames ∧ 41 ≤ R.locals) (ret : RetV p l e R s m args below meth c cX11_offGoes Qf dmR cfR tyR exR D cy ad A Q) (h : wpX11_offGoes_J82 Q x3 x4 t1 μ) (hw : wdR D cy ad A μ s H) (hS : va_S A s.heap H locs) (hl : lv_has ls 5 [(0, .ref (ad 0 0)), (3, .int (iI x3)), (4, .int (iI x4))]) : W p l e R s m args below meth c H locs 0 0 Qf (F0 m 82 ls [.int (iI t1), .ref (ad 25 0)]) := by
  have hx := F.1
  have hb := F.2.1
  have hown := F.2.2.2.1
  have hts := F.2.2.2.2
  refine q_iconst hx hb dX11_offGoes_82 ?_
  exact wX11_offGoes_J83 F hA hR ret h hw hS (lv_sub hl [0, 1, 2] rfl)
def wpX11_offGoes_J28 (Q : Int → MM → Prop) (x2 : Int) (x3 : Int) (t0 : Int) (μ : MM) : Prop := wpX11_isPlate x3 μ (fun v1 μ2 => if v1 = 0 then (rg x2 ∧ (if x2 = 0 then (wpX11_offGoes_J82 Q x3 t0 x3 μ2) else (rg t0 ∧ (if t0 = 4 then (wpX11_offGoes_J83 Q x3 t0 x3 1 μ2) else (wpX11_offGoes_J82 Q x3 t0 x3 μ2))))) else (0 ≤ x3 ∧ (x3 < 16 ∧ (rg (μ2 14 0 x3) ∧ (rg ((μ2 12 0 x3) - 1) ∧ (if (μ2 14 0 x3) = ((μ2 12 0 x3) - 1) then (wpX11_offGoes_J83 Q x3 t0 x3 1 μ2) else (wpX11_offGoes_J83 Q x3 t0 x3 0 μ2)))))))
set_option maxRecDepth 100000 in
set_option maxHeartbeats 4000000 in
theorem wX11_offGoes_J28 {Q : Int → MM → Prop} {x2 : Int} {x3 : Int} {t0 : Int} {μ : MM} {H : Heap} {locs : List Loc} {ls : Array Slot} (F : CallFix p m c cX11_offGoes 5 s args uw RX11) (hA : ∀ q : Nat, s.heap.size ≤ q → A q) (hR : 2 ≤ R.frames ∧ 41 ≤ R.locals) (ret : RetV p l e R s m args below meth c cX11_offGoes Qf dmR cfR tyR exR D cy ad A Q) (h : wpX11_offGoes_J28 Q x2 x3 t0 μ) (hw : wdR D cy ad A μ s H) (hS : va_S A s.heap H locs) (hl : lv_has ls 5 [(0, .ref (ad 0 0)), (2, .int (iI x2)), (3, .int (iI x3))]) : W p l e R s m args below meth c H locs 0 0 Qf (F0 m 28 ls [.int (iI t0)]) := by
  have hx := F.1
  have hb := F.2.1
  have hown := F.2.2.2.1
  have hts := F.2.2.2.2
  refine lv_istore (lv' := [(4, .int (iI t0)), (0, .ref (ad 0 0)), (2, .int (iI x2)), (3, .int (iI x3))]) hx hb dX11_offGoes_28 hl (by decide) rfl (fun ls hl => ?_)
  refine lv_aload_n hx hb dX11_offGoes_30 rfl (lv_at hl 1 rfl) ?_
  refine gR_lifts F hw tw5_163 dX11_offGoes_31 ?_
  refine lv_iload_n hx hb dX11_offGoes_34 rfl (lv_at hl 3 rfl) ?_
  refine lv_aload_n hx hb dX11_offGoes_35 rfl (lv_at hl 1 rfl) ?_
  refine lv_iload_n hx hb dX11_offGoes_36 rfl (lv_at hl 3 rfl) ?_
  refine call_V hexR F (kX11_isPlate h) 1 tw6_158 tw1_8 tw6_157 tws3_2 tw6_155 hdX11_isPlate ⟨Nat.le_trans (by decide) hR.1, Nat.le_trans (by decide) hR.2⟩ (hw.recv (k := 0) (i := 0) ⟨rfl, Or.inl rfl⟩ rfl rfl) hA hw hS rfl hl.1 rfl (Nat.le_of_ble_eq_true rfl) dX11_offGoes_37 (fun v1 μ2 H locs h hw hS => ?_)
  obtain ⟨z3, h⟩ := h
  refine q_if_eq (tgt := 68) hx hb (rgB z3) dX11_offGoes_40 (by decide) (fun c4 => ?_) (fun c4 => ?_)
  · have h := ite_t c4 h
    refine lv_iload_n hx hb dX11_offGoes_68 rfl (lv_at hl 2 rfl) ?_
    obtain ⟨g5, h⟩ := h
    refine q_if_eq (tgt := 82) hx hb g5 dX11_offGoes_69 (by decide) (fun c6 => ?_) (fun c6 => ?_)
    · have h := ite_t c6 h
      exact wX11_offGoes_J82 F hA hR ret h hw hS (lv_sub hl [1, 3, 0] rfl)
    · have h := ite_f c6 h
      refine lv_iload hx hb dX11_offGoes_72 (lv_at hl 0 rfl) ?_
      refine q_iconst hx hb dX11_offGoes_74 ?_
      obtain ⟨g7, h⟩ := h
      refine q_icmp_ne (tgt := 82) hx hb g7 (by decide) dX11_offGoes_75 (by decide) (fun c8 => ?_) (fun c8 => ?_)
      · have h := ite_f c8 h
        exact wX11_offGoes_J82 F hA hR ret h hw hS (lv_sub hl [1, 3, 0] rfl)
      · have h := ite_t c8 h
        refine q_iconst hx hb dX11_offGoes_78 ?_
        refine lv_goto (tgt := 83) hx hb dX11_offGoes_79 (by decide) ?_
        exact wX11_offGoes_J83 F hA hR ret h hw hS (lv_sub hl [1, 3, 0] rfl)
  · have h := ite_f c4 h
    refine lv_aload_n hx hb dX11_offGoes_43 rfl (lv_at hl 1 rfl) ?_
    refine gR_stands F hw tw5_152 dX11_offGoes_44 ?_
    refine lv_iload_n hx hb dX11_offGoes_47 rfl (lv_at hl 3 rfl) ?_
    obtain ⟨g9, h⟩ := h
    obtain ⟨g10, h⟩ := h
    refine aR_ild (L := 16) hx hb hw 13 rfl rfl (by decide) g9 g10 dX11_offGoes_48 ?_
    refine lv_aload_n hx hb dX11_offGoes_49 rfl (lv_at hl 1 rfl) ?_
    refine gR_many F hw tw5_150 dX11_offGoes_50 ?_
    refine lv_iload_n hx hb dX11_offGoes_53 rfl (lv_at hl 3 rfl) ?_
    refine aR_ild (L := 16) hx hb hw 11 rfl rfl (by decide) g9 g10 dX11_offGoes_54 ?_
    refine q_iconst hx hb dX11_offGoes_55 ?_
    refine q_isub hx hb dX11_offGoes_56 ?_
    obtain ⟨g11, h⟩ := h
    obtain ⟨g12, h⟩ := h
    refine q_icmp_ne (tgt := 64) hx hb g11 g12 dX11_offGoes_57 (by decide) (fun c13 => ?_) (fun c13 => ?_)
    · have h := ite_f c13 h
      refine q_iconst hx hb dX11_offGoes_64 ?_
      refine lv_goto (tgt := 83) hx hb dX11_offGoes_65 (by decide) ?_
      exact wX11_offGoes_J83 F hA hR ret h hw hS (lv_sub hl [1, 3, 0] rfl)
    · have h := ite_t c13 h
      refine q_iconst hx hb dX11_offGoes_60 ?_
      refine lv_goto (tgt := 83) hx hb dX11_offGoes_61 (by decide) ?_
      exact wX11_offGoes_J83 F hA hR ret h hw hS (lv_sub hl [1, 3, 0] rfl)
def wpX11_offGoes (x1 : Int) (x2 : Int) (μ : MM) (Q : Int → MM → Prop) : Prop := wpX11_placeOf x1 x2 μ (fun v1 μ2 => 0 ≤ v1 ∧ (v1 < 8 ∧ (rg x2 ∧ (if x2 = 0 then (wpX11_hourNow x1 μ2 (fun v7 μ8 => wpX11_offGoes_J28 Q x2 (μ2 35 0 v1) v7 μ8)) else (wpX11_quarterNow x1 μ2 (fun v9 μ10 => wpX11_offGoes_J28 Q x2 (μ2 35 0 v1) v9 μ10))))))
set_option maxRecDepth 100000 in
set_option maxHeartbeats 4000000 in
theorem wX11_offGoes {Q : Int → MM → Prop} {x1 : Int} {x2 : Int} {μ : MM} {H : Heap} {locs : List Loc} {ls : Array Slot} (F : CallFix p m c cX11_offGoes 5 s args uw RX11) (hA : ∀ q : Nat, s.heap.size ≤ q → A q) (hR : 2 ≤ R.frames ∧ 41 ≤ R.locals) (ret : RetV p l e R s m args below meth c cX11_offGoes Qf dmR cfR tyR exR D cy ad A Q) (h : wpX11_offGoes x1 x2 μ Q) (hw : wdR D cy ad A μ s H) (hS : va_S A s.heap H locs) (hl : lv_has ls 5 [(0, .ref (ad 0 0)), (1, .int (iI x1)), (2, .int (iI x2))]) : W p l e R s m args below meth c H locs 0 0 Qf (F0 m 0 ls []) := by
  have hx := F.1
  have hb := F.2.1
  have hown := F.2.2.2.1
  have hts := F.2.2.2.2
  refine lv_aload_n hx hb dX11_offGoes_0 rfl (lv_at hl 0 rfl) ?_
  refine gR_hung F hw tw5_173 dX11_offGoes_1 ?_
  refine lv_iload_n hx hb dX11_offGoes_4 rfl (lv_at hl 1 rfl) ?_
  refine lv_iload_n hx hb dX11_offGoes_5 rfl (lv_at hl 2 rfl) ?_
  refine call_S hexR F (kX11_placeOf h) 2 tw6_204 tw1_8 tw6_203 tw6_202 hdX11_placeOf ⟨Nat.le_trans (by decide) hR.1, Nat.le_trans (by decide) hR.2⟩ hA hw hS rfl hl.1 rfl (Nat.le_of_ble_eq_true rfl) dX11_offGoes_6 (fun v1 μ2 H locs h hw hS => ?_)
  obtain ⟨g3, h⟩ := h
  obtain ⟨g4, h⟩ := h
  refine aR_ild (L := 8) hx hb hw 34 rfl rfl (by decide) g3 g4 dX11_offGoes_9 ?_
  refine lv_istore_n (lv' := [(3, .int (iI (μ2 35 0 v1))), (0, .ref (ad 0 0)), (1, .int (iI x1)), (2, .int (iI x2))]) hx hb dX11_offGoes_10 rfl hl (by decide) rfl (fun ls hl => ?_)
  refine lv_iload_n hx hb dX11_offGoes_11 rfl (lv_at hl 3 rfl) ?_
  obtain ⟨g5, h⟩ := h
  refine q_if_eq (tgt := 23) hx hb g5 dX11_offGoes_12 (by decide) (fun c6 => ?_) (fun c6 => ?_)
  · have h := ite_t c6 h
    refine lv_aload_n hx hb dX11_offGoes_23 rfl (lv_at hl 1 rfl) ?_
    refine lv_iload_n hx hb dX11_offGoes_24 rfl (lv_at hl 2 rfl) ?_
    refine call_V hexR F (kX11_hourNow h) 1 tw7_8 tw1_8 tw7_7 tws3_13 tw7_5 hdX11_hourNow ⟨Nat.le_trans (by decide) hR.1, Nat.le_trans (by decide) hR.2⟩ (hw.recv (k := 0) (i := 0) ⟨rfl, Or.inl rfl⟩ rfl rfl) hA hw hS rfl hl.1 rfl (Nat.le_of_ble_eq_true rfl) dX11_offGoes_25 (fun v7 μ8 H locs h hw hS => ?_)
    exact wX11_offGoes_J28 F hA hR ret h hw hS (lv_sub hl [1, 3, 0] rfl)
  · have h := ite_f c6 h
    refine lv_aload_n hx hb dX11_offGoes_15 rfl (lv_at hl 1 rfl) ?_
    refine lv_iload_n hx hb dX11_offGoes_16 rfl (lv_at hl 2 rfl) ?_
    refine call_V hexR F (kX11_quarterNow h) 1 tw7_4 tw1_8 tw7_3 tws3_12 tw7_1 hdX11_quarterNow ⟨Nat.le_trans (by decide) hR.1, Nat.le_trans (by decide) hR.2⟩ (hw.recv (k := 0) (i := 0) ⟨rfl, Or.inl rfl⟩ rfl rfl) hA hw hS rfl hl.1 rfl (Nat.le_of_ble_eq_true rfl) dX11_offGoes_17 (fun v9 μ10 H locs h hw hS => ?_)
    refine lv_goto (tgt := 28) hx hb dX11_offGoes_20 (by decide) ?_
    exact wX11_offGoes_J28 F hA hR ret h hw hS (lv_sub hl [1, 3, 0] rfl)
set_option maxRecDepth 100000 in
set_option maxHeartbeats 4000000 in
theorem kX11_offGoes {l : Launch} {D : va_G} {cy : Nat → ClassId} {ad : AD} {A : Nat → Prop} {x1 : Int} {x2 : Int} {μ : MM} {Q : Int → MM → Prop} (h : wpX11_offGoes x1 x2 μ Q) : Met l yX11_offGoes (Cond.code yX11_offGoes cX11_offGoes 5 none :: uw) (rmm 2 41) (wPc [.ref (ad 0 0), .int (iI x1), .int (iI x2)] dmR cfR tyR exR D cy ad A μ) (wQ vV Q dmR cfR D cy ad A) 0 0 A :=
  met_of (by decide) (Nat.le_of_ble_eq_true rfl) (fun p e R s m args below meth c ls hr hk hRR F hA hw hS hl => wX11_offGoes F hA (by subst hRR; exact ⟨Nat.le_refl _, Nat.le_refl _⟩) (retV_of F hr hk) h hw hS hl)
theorem hdX11_offGoes : yX11_offGoes.cls ≠ "java/lang/invoke/MethodHandle" ∧ yX11_offGoes.cls ≠ "java/lang/invoke/VarHandle" ∧ (parseMethodDescriptor yX11_offGoes.desc).map (fun d => d.parameters.length) = some 2 := by decide +kernel
def wpX11_warnedGoes (x1 : Int) (x2 : Int) (μ : MM) (Q : Int → MM → Prop) : Prop := wpX11_placeOf x1 x2 μ (fun v1 μ2 => 0 ≤ v1 ∧ (v1 < 8 ∧ (rg (μ2 36 0 v1) ∧ (if (μ2 36 0 v1) = 0 then (Q 0 μ2) else (wpX11_silenceOf x1 μ2 (fun v7 μ8 => rg v7 ∧ (if v7 = 2 then (Q 0 μ8) else (wpX11_placeOf x1 x2 μ8 (fun v11 μ12 => 0 ≤ v11 ∧ (v11 < 8 ∧ (∀ μ15 : MM, μ15 = ms μ12 36 0 v11 0 → (wpX11_offGoes x1 x2 μ15 (fun v16 μ17 => Q 0 μ17)))))))))))))
set_option maxRecDepth 100000 in
set_option maxHeartbeats 4000000 in
theorem wX11_warnedGoes {Q : Int → MM → Prop} {x1 : Int} {x2 : Int} {μ : MM} {H : Heap} {locs : List Loc} {ls : Array Slot} (F : CallFix p m c cX11_warnedGoes 3 s args uw RX11) (hA : ∀ q : Nat, s.heap.size ≤ q → A q) (hR : 3 ≤ R.frames ∧ 65 ≤ R.locals) (ret : RetV p l e R s m args below meth c cX11_warnedGoes Qf dmR cfR tyR exR D cy ad A Q) (h : wpX11_warnedGoes x1 x2 μ Q) (hw : wdR D cy ad A μ s H) (hS : va_S A s.heap H locs) (hl : lv_has ls 3 [(0, .ref (ad 0 0)), (1, .int (iI x1)), (2, .int (iI x2))]) : W p l e R s m args below meth c H locs 0 0 Qf (F0 m 0 ls []) := by
  have hx := F.1
  have hb := F.2.1
  have hown := F.2.2.2.1
  have hts := F.2.2.2.2
  refine lv_aload_n hx hb dX11_warnedGoes_0 rfl (lv_at hl 0 rfl) ?_
  refine gR_isWarned F hw tw5_174 dX11_warnedGoes_1 ?_
  refine lv_iload_n hx hb dX11_warnedGoes_4 rfl (lv_at hl 1 rfl) ?_
  refine lv_iload_n hx hb dX11_warnedGoes_5 rfl (lv_at hl 2 rfl) ?_
  refine call_S hexR F (kX11_placeOf h) 2 tw6_204 tw1_8 tw6_203 tw6_202 hdX11_placeOf ⟨Nat.le_trans (by decide) hR.1, Nat.le_trans (by decide) hR.2⟩ hA hw hS rfl hl.1 rfl (Nat.le_of_ble_eq_true rfl) dX11_warnedGoes_6 (fun v1 μ2 H locs h hw hS => ?_)
  obtain ⟨g3, h⟩ := h
  obtain ⟨g4, h⟩ := h
  refine aR_zld (L := 8) hx hb hw 35 rfl rfl (by decide) g3 g4 dX11_warnedGoes_9 ?_
  obtain ⟨g5, h⟩ := h
  refine q_if_eq (tgt := 39) hx hb g5 dX11_warnedGoes_10 (by decide) (fun c6 => ?_) (fun c6 => ?_)
  · have h := ite_t c6 h
    exact ret _ _ _ _ _ h hw hS dX11_warnedGoes_39
  · have h := ite_f c6 h
    refine lv_aload_n hx hb dX11_warnedGoes_13 rfl (lv_at hl 0 rfl) ?_
    refine lv_iload_n hx hb dX11_warnedGoes_14 rfl (lv_at hl 1 rfl) ?_
    refine call_V hexR F (kX11_silenceOf h) 1 tw6_236 tw1_8 tw6_235 tws3_10 tw6_233 hdX11_silenceOf ⟨Nat.le_trans (by decide) hR.1, Nat.le_trans (by decide) hR.2⟩ (hw.recv (k := 0) (i := 0) ⟨rfl, Or.inl rfl⟩ rfl rfl) hA hw hS rfl hl.1 rfl (Nat.le_of_ble_eq_true rfl) dX11_warnedGoes_15 (fun v7 μ8 H locs h hw hS => ?_)
    refine q_iconst hx hb dX11_warnedGoes_18 ?_
    obtain ⟨g9, h⟩ := h
    refine q_icmp_eq (tgt := 39) hx hb g9 (by decide) dX11_warnedGoes_19 (by decide) (fun c10 => ?_) (fun c10 => ?_)
    · have h := ite_t c10 h
      exact ret _ _ _ _ _ h hw hS dX11_warnedGoes_39
    · have h := ite_f c10 h
      refine lv_aload_n hx hb dX11_warnedGoes_22 rfl (lv_at hl 0 rfl) ?_
      refine gR_isWarned F hw tw5_174 dX11_warnedGoes_23 ?_
      refine lv_iload_n hx hb dX11_warnedGoes_26 rfl (lv_at hl 1 rfl) ?_
      refine lv_iload_n hx hb dX11_warnedGoes_27 rfl (lv_at hl 2 rfl) ?_
      refine call_S hexR F (kX11_placeOf h) 2 tw6_204 tw1_8 tw6_203 tw6_202 hdX11_placeOf ⟨Nat.le_trans (by decide) hR.1, Nat.le_trans (by decide) hR.2⟩ hA hw hS rfl hl.1 rfl (Nat.le_of_ble_eq_true rfl) dX11_warnedGoes_28 (fun v11 μ12 H locs h hw hS => ?_)
      refine q_iconst hx hb dX11_warnedGoes_31 ?_
      obtain ⟨g13, h⟩ := h
      obtain ⟨g14, h⟩ := h
      obtain ⟨μ15, eμ15⟩ : ∃ z : MM, z = ms μ12 36 0 v11 0 := ⟨_, rfl⟩
      have h := h μ15 eμ15
      refine aR_zst (L := 8) hx hb hw hS 35 rfl rfl (by decide) g13 g14 (Or.inl rfl) eμ15 dX11_warnedGoes_32 (fun H locs hw hS => ?_)
      refine lv_aload_n hx hb dX11_warnedGoes_33 rfl (lv_at hl 0 rfl) ?_
      refine lv_iload_n hx hb dX11_warnedGoes_34 rfl (lv_at hl 1 rfl) ?_
      refine lv_iload_n hx hb dX11_warnedGoes_35 rfl (lv_at hl 2 rfl) ?_
      refine call_V hexR F (kX11_offGoes h) 2 tw7_0 tw1_8 tw6_239 tws3_11 tw6_237 hdX11_offGoes ⟨Nat.le_trans (by decide) hR.1, Nat.le_trans (by decide) hR.2⟩ (hw.recv (k := 0) (i := 0) ⟨rfl, Or.inl rfl⟩ rfl rfl) hA hw hS rfl hl.1 rfl (Nat.le_of_ble_eq_true rfl) dX11_warnedGoes_36 (fun v16 μ17 H locs h hw hS => ?_)
      exact ret _ _ _ _ _ h hw hS dX11_warnedGoes_39
set_option maxRecDepth 100000 in
set_option maxHeartbeats 4000000 in
theorem kX11_warnedGoes {l : Launch} {D : va_G} {cy : Nat → ClassId} {ad : AD} {A : Nat → Prop} {x1 : Int} {x2 : Int} {μ : MM} {Q : Int → MM → Prop} (h : wpX11_warnedGoes x1 x2 μ Q) : Met l yX11_warnedGoes (Cond.code yX11_warnedGoes cX11_warnedGoes 3 none :: uw) (rmm 3 65) (wPc [.ref (ad 0 0), .int (iI x1), .int (iI x2)] dmR cfR tyR exR D cy ad A μ) (wQ vV Q dmR cfR D cy ad A) 0 0 A :=
  met_of (by decide) (Nat.le_of_ble_eq_true rfl) (fun p e R s m args below meth c ls hr hk hRR F hA hw hS hl => wX11_warnedGoes F hA (by subst hRR; exact ⟨Nat.le_refl _, Nat.le_refl _⟩) (retV_of F hr hk) h hw hS hl)
theorem hdX11_warnedGoes : yX11_warnedGoes.cls ≠ "java/lang/invoke/MethodHandle" ∧ yX11_warnedGoes.cls ≠ "java/lang/invoke/VarHandle" ∧ (parseMethodDescriptor yX11_warnedGoes.desc).map (fun d => d.parameters.length) = some 2 := by decide +kernel
def wpX11_stepOn_J162 (Q : Int → MM → Prop) (x1 : Int) (x2 : Int) (x4 : Int) (μ : MM) : Prop := rg x2 ∧ (if x2 = 0 then (rg x4 ∧ (if x4 = 0 then (Q 0 μ) else (wpX11_warnedGoes x1 0 μ (fun v5 μ6 => Q 0 μ6)))) else (Q 0 μ))
set_option maxRecDepth 100000 in
set_option maxHeartbeats 4000000 in
theorem wX11_stepOn_J162 {Q : Int → MM → Prop} {x1 : Int} {x2 : Int} {x4 : Int} {μ : MM} {H : Heap} {locs : List Loc} {ls : Array Slot} (F : CallFix p m c cX11_stepOn 5 s args uw RX11) (hA : ∀ q : Nat, s.heap.size ≤ q → A q) (hR : 4 ≤ R.frames ∧ 87 ≤ R.locals) (ret : RetV p l e R s m args below meth c cX11_stepOn Qf dmR cfR tyR exR D cy ad A Q) (h : wpX11_stepOn_J162 Q x1 x2 x4 μ) (hw : wdR D cy ad A μ s H) (hS : va_S A s.heap H locs) (hl : lv_has ls 5 [(0, .ref (ad 0 0)), (1, .int (iI x1)), (2, .int (iI x2)), (4, .int (iI x4))]) : W p l e R s m args below meth c H locs 0 0 Qf (F0 m 162 ls []) := by
  have hx := F.1
  have hb := F.2.1
  have hown := F.2.2.2.1
  have hts := F.2.2.2.2
  refine lv_iload_n hx hb dX11_stepOn_162 rfl (lv_at hl 2 rfl) ?_
  obtain ⟨g1, h⟩ := h
  refine q_if_ne (tgt := 177) hx hb g1 dX11_stepOn_163 (by decide) (fun c2 => ?_) (fun c2 => ?_)
  · have h := ite_f c2 h
    exact ret _ _ _ _ _ h hw hS dX11_stepOn_177
  · have h := ite_t c2 h
    refine lv_iload hx hb dX11_stepOn_166 (lv_at hl 3 rfl) ?_
    obtain ⟨g3, h⟩ := h
    refine q_if_eq (tgt := 177) hx hb g3 dX11_stepOn_168 (by decide) (fun c4 => ?_) (fun c4 => ?_)
    · have h := ite_t c4 h
      exact ret _ _ _ _ _ h hw hS dX11_stepOn_177
    · have h := ite_f c4 h
      refine lv_aload_n hx hb dX11_stepOn_171 rfl (lv_at hl 0 rfl) ?_
      refine lv_iload_n hx hb dX11_stepOn_172 rfl (lv_at hl 1 rfl) ?_
      refine q_iconst hx hb dX11_stepOn_173 ?_
      refine call_V hexR F (kX11_warnedGoes h) 2 tw6_232 tw1_8 tw6_231 tws3_9 tw6_229 hdX11_warnedGoes ⟨Nat.le_trans (by decide) hR.1, Nat.le_trans (by decide) hR.2⟩ (hw.recv (k := 0) (i := 0) ⟨rfl, Or.inl rfl⟩ rfl rfl) hA hw hS rfl hl.1 rfl (Nat.le_of_ble_eq_true rfl) dX11_stepOn_174 (fun v5 μ6 H locs h hw hS => ?_)
      exact ret _ _ _ _ _ h hw hS dX11_stepOn_177
def wpX11_stepOn_J145 (Q : Int → MM → Prop) (x1 : Int) (x2 : Int) (x3 : Int) (x4 : Int) (μ : MM) : Prop := rg x2 ∧ (rg (Int.tmod x2 15) ∧ (if (Int.tmod x2 15) = 0 then (rg x3 ∧ (if x3 = 0 then (wpX11_stepOn_J162 Q x1 x2 x4 μ) else (wpX11_warnedGoes x1 1 μ (fun v6 μ7 => wpX11_stepOn_J162 Q x1 x2 x4 μ7)))) else (wpX11_stepOn_J162 Q x1 x2 x4 μ)))
set_option maxRecDepth 100000 in
set_option maxHeartbeats 4000000 in
theorem wX11_stepOn_J145 {Q : Int → MM → Prop} {x1 : Int} {x2 : Int} {x3 : Int} {x4 : Int} {μ : MM} {H : Heap} {locs : List Loc} {ls : Array Slot} (F : CallFix p m c cX11_stepOn 5 s args uw RX11) (hA : ∀ q : Nat, s.heap.size ≤ q → A q) (hR : 4 ≤ R.frames ∧ 87 ≤ R.locals) (ret : RetV p l e R s m args below meth c cX11_stepOn Qf dmR cfR tyR exR D cy ad A Q) (h : wpX11_stepOn_J145 Q x1 x2 x3 x4 μ) (hw : wdR D cy ad A μ s H) (hS : va_S A s.heap H locs) (hl : lv_has ls 5 [(0, .ref (ad 0 0)), (1, .int (iI x1)), (2, .int (iI x2)), (3, .int (iI x3)), (4, .int (iI x4))]) : W p l e R s m args below meth c H locs 0 0 Qf (F0 m 145 ls []) := by
  have hx := F.1
  have hb := F.2.1
  have hown := F.2.2.2.1
  have hts := F.2.2.2.2
  refine lv_iload_n hx hb dX11_stepOn_145 rfl (lv_at hl 2 rfl) ?_
  refine q_bipush hx hb (by decide) dX11_stepOn_146 ?_
  obtain ⟨g1, h⟩ := h
  refine q_irem hx hb g1 (by decide) (by decide) dX11_stepOn_148 ?_
  obtain ⟨g2, h⟩ := h
  refine q_if_ne (tgt := 162) hx hb g2 dX11_stepOn_149 (by decide) (fun c3 => ?_) (fun c3 => ?_)
  · have h := ite_f c3 h
    exact wX11_stepOn_J162 F hA hR ret h hw hS (lv_sub hl [0, 1, 2, 4] rfl)
  · have h := ite_t c3 h
    refine lv_iload_n hx hb dX11_stepOn_152 rfl (lv_at hl 3 rfl) ?_
    obtain ⟨g4, h⟩ := h
    refine q_if_eq (tgt := 162) hx hb g4 dX11_stepOn_153 (by decide) (fun c5 => ?_) (fun c5 => ?_)
    · have h := ite_t c5 h
      exact wX11_stepOn_J162 F hA hR ret h hw hS (lv_sub hl [0, 1, 2, 4] rfl)
    · have h := ite_f c5 h
      refine lv_aload_n hx hb dX11_stepOn_156 rfl (lv_at hl 0 rfl) ?_
      refine lv_iload_n hx hb dX11_stepOn_157 rfl (lv_at hl 1 rfl) ?_
      refine q_iconst hx hb dX11_stepOn_158 ?_
      refine call_V hexR F (kX11_warnedGoes h) 2 tw6_232 tw1_8 tw6_231 tws3_9 tw6_229 hdX11_warnedGoes ⟨Nat.le_trans (by decide) hR.1, Nat.le_trans (by decide) hR.2⟩ (hw.recv (k := 0) (i := 0) ⟨rfl, Or.inl rfl⟩ rfl rfl) hA hw hS rfl hl.1 rfl (Nat.le_of_ble_eq_true rfl) dX11_stepOn_159 (fun v6 μ7 H locs h hw hS => ?_)
      exact wX11_stepOn_J162 F hA hR ret h hw hS (lv_sub hl [0, 1, 2, 4] rfl)
def wpX11_stepOn_J144 (Q : Int → MM → Prop) (x1 : Int) (x2 : Int) (x3 : Int) (x4 : Int) (t1 : Int) (t2 : Int) (μ : MM) : Prop := 0 ≤ t1 ∧ (t1 < 8 ∧ ((t2 = 0 ∨ t2 = 1) ∧ (∀ μ4 : MM, μ4 = ms μ 36 0 t1 t2 → (wpX11_stepOn_J145 Q x1 x2 x3 x4 μ4))))
set_option maxRecDepth 100000 in
set_option maxHeartbeats 4000000 in
theorem wX11_stepOn_J144 {Q : Int → MM → Prop} {x1 : Int} {x2 : Int} {x3 : Int} {x4 : Int} {t1 : Int} {t2 : Int} {μ : MM} {H : Heap} {locs : List Loc} {ls : Array Slot} (F : CallFix p m c cX11_stepOn 5 s args uw RX11) (hA : ∀ q : Nat, s.heap.size ≤ q → A q) (hR : 4 ≤ R.frames ∧ 87 ≤ R.locals) (ret : RetV p l e R s m args below meth c cX11_stepOn Qf dmR cfR tyR exR D cy ad A Q) (h : wpX11_stepOn_J144 Q x1 x2 x3 x4 t1 t2 μ) (hw : wdR D cy ad A μ s H) (hS : va_S A s.heap H locs) (hl : lv_has ls 5 [(0, .ref (ad 0 0)), (1, .int (iI x1)), (2, .int (iI x2)), (3, .int (iI x3)), (4, .int (iI x4))]) : W p l e R s m args below meth c H locs 0 0 Qf (F0 m 144 ls [.int (iI t2), .int (iI t1), .ref (ad 36 0)]) := by
  have hx := F.1
  have hb := F.2.1
  have hown := F.2.2.2.1
  have hts := F.2.2.2.2
  obtain ⟨g1, h⟩ := h
  obtain ⟨g2, h⟩ := h
  obtain ⟨g3, h⟩ := h
  obtain ⟨μ4, eμ4⟩ : ∃ z : MM, z = ms μ 36 0 t1 t2 := ⟨_, rfl⟩
  have h := h μ4 eμ4
  refine aR_zst (L := 8) hx hb hw hS 35 rfl rfl (by decide) g1 g2 g3 eμ4 dX11_stepOn_144 (fun H locs hw hS => ?_)
  exact wX11_stepOn_J145 F hA hR ret h hw hS (lv_sub hl [0, 1, 2, 3, 4] rfl)
def wpX11_stepOn_J139 (Q : Int → MM → Prop) (x1 : Int) (x2 : Int) (x3 : Int) (x4 : Int) (t1 : Int) (μ : MM) : Prop := wpX11_stepOn_J144 Q x1 x2 x3 x4 t1 1 μ
set_option maxRecDepth 100000 in
set_option maxHeartbeats 4000000 in
theorem wX11_stepOn_J139 {Q : Int → MM → Prop} {x1 : Int} {x2 : Int} {x3 : Int} {x4 : Int} {t1 : Int} {μ : MM} {H : Heap} {locs : List Loc} {ls : Array Slot} (F : CallFix p m c cX11_stepOn 5 s args uw RX11) (hA : ∀ q : Nat, s.heap.size ≤ q → A q) (hR : 4 ≤ R.frames ∧ 87 ≤ R.locals) (ret : RetV p l e R s m args below meth c cX11_stepOn Qf dmR cfR tyR exR D cy ad A Q) (h : wpX11_stepOn_J139 Q x1 x2 x3 x4 t1 μ) (hw : wdR D cy ad A μ s H) (hS : va_S A s.heap H locs) (hl : lv_has ls 5 [(0, .ref (ad 0 0)), (1, .int (iI x1)), (2, .int (iI x2)), (3, .int (iI x3)), (4, .int (iI x4))]) : W p l e R s m args below meth c H locs 0 0 Qf (F0 m 139 ls [.int (iI t1), .ref (ad 36 0)]) := by
  have hx := F.1
  have hb := F.2.1
  have hown := F.2.2.2.1
  have hts := F.2.2.2.2
  refine q_iconst hx hb dX11_stepOn_139 ?_
  refine lv_goto (tgt := 144) hx hb dX11_stepOn_140 (by decide) ?_
  exact wX11_stepOn_J144 F hA hR ret h hw hS (lv_sub hl [0, 1, 2, 3, 4] rfl)
def wpX11_stepOn_J143 (Q : Int → MM → Prop) (x1 : Int) (x2 : Int) (x3 : Int) (x4 : Int) (t1 : Int) (μ : MM) : Prop := wpX11_stepOn_J144 Q x1 x2 x3 x4 t1 0 μ
set_option maxRecDepth 100000 in
set_option maxHeartbeats 4000000 in
theorem wX11_stepOn_J143 {Q : Int → MM → Prop} {x1 : Int} {x2 : Int} {x3 : Int} {x4 : Int} {t1 : Int} {μ : MM} {H : Heap} {locs : List Loc} {ls : Array Slot} (F : CallFix p m c cX11_stepOn 5 s args uw RX11) (hA : ∀ q : Nat, s.heap.size ≤ q → A q) (hR : 4 ≤ R.frames ∧ 87 ≤ R.locals) (ret : RetV p l e R s m args below meth c cX11_stepOn Qf dmR cfR tyR exR D cy ad A Q) (h : wpX11_stepOn_J143 Q x1 x2 x3 x4 t1 μ) (hw : wdR D cy ad A μ s H) (hS : va_S A s.heap H locs) (hl : lv_has ls 5 [(0, .ref (ad 0 0)), (1, .int (iI x1)), (2, .int (iI x2)), (3, .int (iI x3)), (4, .int (iI x4))]) : W p l e R s m args below meth c H locs 0 0 Qf (F0 m 143 ls [.int (iI t1), .ref (ad 36 0)]) := by
  have hx := F.1
  have hb := F.2.1
  have hown := F.2.2.2.1
  have hts := F.2.2.2.2
  refine q_iconst hx hb dX11_stepOn_143 ?_
  exact wX11_stepOn_J144 F hA hR ret h hw hS (lv_sub hl [0, 1, 2, 3, 4] rfl)
def wpX11_stepOn_J109 (Q : Int → MM → Prop) (x1 : Int) (x2 : Int) (x3 : Int) (x4 : Int) (t1 : Int) (t2 : Int) (μ : MM) : Prop := 0 ≤ t1 ∧ (t1 < 8 ∧ ((t2 = 0 ∨ t2 = 1) ∧ (∀ μ4 : MM, μ4 = ms μ 36 0 t1 t2 → (0 ≤ (2 * x1) ∧ (2 * x1 < 8 ∧ (rg (μ4 36 0 (2 * x1)) ∧ (if (μ4 36 0 (2 * x1)) = 0 then (rg x4 ∧ (if x4 = 0 then (wpX11_stepOn_J143 Q x1 x2 x3 x4 (2 * x1) μ4) else (rg x2 ∧ (if x2 = 55 then (wpX11_stepOn_J139 Q x1 x2 x3 x4 (2 * x1) μ4) else (wpX11_stepOn_J143 Q x1 x2 x3 x4 (2 * x1) μ4))))) else (wpX11_stepOn_J139 Q x1 x2 x3 x4 (2 * x1) μ4))))))))
set_option maxRecDepth 100000 in
set_option maxHeartbeats 4000000 in
theorem wX11_stepOn_J109 {Q : Int → MM → Prop} {x1 : Int} {x2 : Int} {x3 : Int} {x4 : Int} {t1 : Int} {t2 : Int} {μ : MM} {H : Heap} {locs : List Loc} {ls : Array Slot} (F : CallFix p m c cX11_stepOn 5 s args uw RX11) (hA : ∀ q : Nat, s.heap.size ≤ q → A q) (hR : 4 ≤ R.frames ∧ 87 ≤ R.locals) (ret : RetV p l e R s m args below meth c cX11_stepOn Qf dmR cfR tyR exR D cy ad A Q) (h : wpX11_stepOn_J109 Q x1 x2 x3 x4 t1 t2 μ) (hw : wdR D cy ad A μ s H) (hS : va_S A s.heap H locs) (hl : lv_has ls 5 [(0, .ref (ad 0 0)), (1, .int (iI x1)), (2, .int (iI x2)), (3, .int (iI x3)), (4, .int (iI x4))]) : W p l e R s m args below meth c H locs 0 0 Qf (F0 m 109 ls [.int (iI t2), .int (iI t1), .ref (ad 36 0)]) := by
  have hx := F.1
  have hb := F.2.1
  have hown := F.2.2.2.1
  have hts := F.2.2.2.2
  obtain ⟨g1, h⟩ := h
  obtain ⟨g2, h⟩ := h
  obtain ⟨g3, h⟩ := h
  obtain ⟨μ4, eμ4⟩ : ∃ z : MM, z = ms μ 36 0 t1 t2 := ⟨_, rfl⟩
  have h := h μ4 eμ4
  refine aR_zst (L := 8) hx hb hw hS 35 rfl rfl (by decide) g1 g2 g3 eμ4 dX11_stepOn_109 (fun H locs hw hS => ?_)
  refine lv_aload_n hx hb dX11_stepOn_110 rfl (lv_at hl 0 rfl) ?_
  refine gR_isWarned F hw tw5_174 dX11_stepOn_111 ?_
  refine q_iconst hx hb dX11_stepOn_114 ?_
  refine lv_iload_n hx hb dX11_stepOn_115 rfl (lv_at hl 1 rfl) ?_
  refine q_imul hx hb dX11_stepOn_116 ?_
  refine lv_aload_n hx hb dX11_stepOn_117 rfl (lv_at hl 0 rfl) ?_
  refine gR_isWarned F hw tw5_174 dX11_stepOn_118 ?_
  refine q_iconst hx hb dX11_stepOn_121 ?_
  refine lv_iload_n hx hb dX11_stepOn_122 rfl (lv_at hl 1 rfl) ?_
  refine q_imul hx hb dX11_stepOn_123 ?_
  obtain ⟨g5, h⟩ := h
  obtain ⟨g6, h⟩ := h
  refine aR_zld (L := 8) hx hb hw 35 rfl rfl (by decide) g5 g6 dX11_stepOn_124 ?_
  obtain ⟨g7, h⟩ := h
  refine q_if_ne (tgt := 139) hx hb g7 dX11_stepOn_125 (by decide) (fun c8 => ?_) (fun c8 => ?_)
  · have h := ite_f c8 h
    exact wX11_stepOn_J139 F hA hR ret h hw hS (lv_sub hl [0, 1, 2, 3, 4] rfl)
  · have h := ite_t c8 h
    refine lv_iload hx hb dX11_stepOn_128 (lv_at hl 4 rfl) ?_
    obtain ⟨g9, h⟩ := h
    refine q_if_eq (tgt := 143) hx hb g9 dX11_stepOn_130 (by decide) (fun c10 => ?_) (fun c10 => ?_)
    · have h := ite_t c10 h
      exact wX11_stepOn_J143 F hA hR ret h hw hS (lv_sub hl [0, 1, 2, 3, 4] rfl)
    · have h := ite_f c10 h
      refine lv_iload_n hx hb dX11_stepOn_133 rfl (lv_at hl 2 rfl) ?_
      refine q_bipush hx hb (by decide) dX11_stepOn_134 ?_
      obtain ⟨g11, h⟩ := h
      refine q_icmp_ne (tgt := 143) hx hb g11 (by decide) dX11_stepOn_136 (by decide) (fun c12 => ?_) (fun c12 => ?_)
      · have h := ite_f c12 h
        exact wX11_stepOn_J143 F hA hR ret h hw hS (lv_sub hl [0, 1, 2, 3, 4] rfl)
      · have h := ite_t c12 h
        exact wX11_stepOn_J139 F hA hR ret h hw hS (lv_sub hl [0, 1, 2, 3, 4] rfl)
def wpX11_stepOn_J104 (Q : Int → MM → Prop) (x1 : Int) (x2 : Int) (x3 : Int) (x4 : Int) (t1 : Int) (μ : MM) : Prop := wpX11_stepOn_J109 Q x1 x2 x3 x4 t1 1 μ
set_option maxRecDepth 100000 in
set_option maxHeartbeats 4000000 in
theorem wX11_stepOn_J104 {Q : Int → MM → Prop} {x1 : Int} {x2 : Int} {x3 : Int} {x4 : Int} {t1 : Int} {μ : MM} {H : Heap} {locs : List Loc} {ls : Array Slot} (F : CallFix p m c cX11_stepOn 5 s args uw RX11) (hA : ∀ q : Nat, s.heap.size ≤ q → A q) (hR : 4 ≤ R.frames ∧ 87 ≤ R.locals) (ret : RetV p l e R s m args below meth c cX11_stepOn Qf dmR cfR tyR exR D cy ad A Q) (h : wpX11_stepOn_J104 Q x1 x2 x3 x4 t1 μ) (hw : wdR D cy ad A μ s H) (hS : va_S A s.heap H locs) (hl : lv_has ls 5 [(0, .ref (ad 0 0)), (1, .int (iI x1)), (2, .int (iI x2)), (3, .int (iI x3)), (4, .int (iI x4))]) : W p l e R s m args below meth c H locs 0 0 Qf (F0 m 104 ls [.int (iI t1), .ref (ad 36 0)]) := by
  have hx := F.1
  have hb := F.2.1
  have hown := F.2.2.2.1
  have hts := F.2.2.2.2
  refine q_iconst hx hb dX11_stepOn_104 ?_
  refine lv_goto (tgt := 109) hx hb dX11_stepOn_105 (by decide) ?_
  exact wX11_stepOn_J109 F hA hR ret h hw hS (lv_sub hl [0, 1, 2, 3, 4] rfl)
def wpX11_stepOn_J67 (Q : Int → MM → Prop) (x1 : Int) (x2 : Int) (x3 : Int) (t0 : Int) (μ : MM) : Prop := rg x2 ∧ (rg (Int.tmod x2 15) ∧ (if (Int.tmod x2 15) = 10 then (0 ≤ ((2 * x1) + 1) ∧ ((2 * x1) + 1 < 8 ∧ (rg (μ 36 0 ((2 * x1) + 1)) ∧ (if (μ 36 0 ((2 * x1) + 1)) = 0 then (rg x3 ∧ (if x3 = 0 then (wpX11_stepOn_J109 Q x1 x2 x3 t0 ((2 * x1) + 1) 0 μ) else (wpX11_stepOn_J104 Q x1 x2 x3 t0 ((2 * x1) + 1) μ))) else (wpX11_stepOn_J104 Q x1 x2 x3 t0 ((2 * x1) + 1) μ))))) else (wpX11_stepOn_J145 Q x1 x2 x3 t0 μ)))
set_option maxRecDepth 100000 in
set_option maxHeartbeats 4000000 in
theorem wX11_stepOn_J67 {Q : Int → MM → Prop} {x1 : Int} {x2 : Int} {x3 : Int} {t0 : Int} {μ : MM} {H : Heap} {locs : List Loc} {ls : Array Slot} (F : CallFix p m c cX11_stepOn 5 s args uw RX11) (hA : ∀ q : Nat, s.heap.size ≤ q → A q) (hR : 4 ≤ R.frames ∧ 87 ≤ R.locals) (ret : RetV p l e R s m args below meth c cX11_stepOn Qf dmR cfR tyR exR D cy ad A Q) (h : wpX11_stepOn_J67 Q x1 x2 x3 t0 μ) (hw : wdR D cy ad A μ s H) (hS : va_S A s.heap H locs) (hl : lv_has ls 5 [(0, .ref (ad 0 0)), (1, .int (iI x1)), (2, .int (iI x2)), (3, .int (iI x3))]) : W p l e R s m args below meth c H locs 0 0 Qf (F0 m 67 ls [.int (iI t0)]) := by
  have hx := F.1
  have hb := F.2.1
  have hown := F.2.2.2.1
  have hts := F.2.2.2.2
  refine lv_istore (lv' := [(4, .int (iI t0)), (0, .ref (ad 0 0)), (1, .int (iI x1)), (2, .int (iI x2)), (3, .int (iI x3))]) hx hb dX11_stepOn_67 hl (by decide) rfl (fun ls hl => ?_)
  refine lv_iload_n hx hb dX11_stepOn_69 rfl (lv_at hl 3 rfl) ?_
  refine q_bipush hx hb (by decide) dX11_stepOn_70 ?_
  obtain ⟨g1, h⟩ := h
  refine q_irem hx hb g1 (by decide) (by decide) dX11_stepOn_72 ?_
  refine q_bipush hx hb (by decide) dX11_stepOn_73 ?_
  obtain ⟨g2, h⟩ := h
  refine q_icmp_ne (tgt := 145) hx hb g2 (by decide) dX11_stepOn_75 (by decide) (fun c3 => ?_) (fun c3 => ?_)
  · have h := ite_f c3 h
    exact wX11_stepOn_J145 F hA hR ret h hw hS (lv_sub hl [1, 2, 3, 4, 0] rfl)
  · have h := ite_t c3 h
    refine lv_aload_n hx hb dX11_stepOn_78 rfl (lv_at hl 1 rfl) ?_
    refine gR_isWarned F hw tw5_174 dX11_stepOn_79 ?_
    refine q_iconst hx hb dX11_stepOn_82 ?_
    refine lv_iload_n hx hb dX11_stepOn_83 rfl (lv_at hl 2 rfl) ?_
    refine q_imul hx hb dX11_stepOn_84 ?_
    refine q_iconst hx hb dX11_stepOn_85 ?_
    refine q_iadd hx hb dX11_stepOn_86 ?_
    refine lv_aload_n hx hb dX11_stepOn_87 rfl (lv_at hl 1 rfl) ?_
    refine gR_isWarned F hw tw5_174 dX11_stepOn_88 ?_
    refine q_iconst hx hb dX11_stepOn_91 ?_
    refine lv_iload_n hx hb dX11_stepOn_92 rfl (lv_at hl 2 rfl) ?_
    refine q_imul hx hb dX11_stepOn_93 ?_
    refine q_iconst hx hb dX11_stepOn_94 ?_
    refine q_iadd hx hb dX11_stepOn_95 ?_
    obtain ⟨g4, h⟩ := h
    obtain ⟨g5, h⟩ := h
    refine aR_zld (L := 8) hx hb hw 35 rfl rfl (by decide) g4 g5 dX11_stepOn_96 ?_
    obtain ⟨g6, h⟩ := h
    refine q_if_ne (tgt := 104) hx hb g6 dX11_stepOn_97 (by decide) (fun c7 => ?_) (fun c7 => ?_)
    · have h := ite_f c7 h
      exact wX11_stepOn_J104 F hA hR ret h hw hS (lv_sub hl [1, 2, 3, 4, 0] rfl)
    · have h := ite_t c7 h
      refine lv_iload_n hx hb dX11_stepOn_100 rfl (lv_at hl 4 rfl) ?_
      obtain ⟨g8, h⟩ := h
      refine q_if_eq (tgt := 108) hx hb g8 dX11_stepOn_101 (by decide) (fun c9 => ?_) (fun c9 => ?_)
      · have h := ite_t c9 h
        refine q_iconst hx hb dX11_stepOn_108 ?_
        exact wX11_stepOn_J109 F hA hR ret h hw hS (lv_sub hl [1, 2, 3, 4, 0] rfl)
      · have h := ite_f c9 h
        exact wX11_stepOn_J104 F hA hR ret h hw hS (lv_sub hl [1, 2, 3, 4, 0] rfl)
def wpX11_stepOn_J66 (Q : Int → MM → Prop) (x1 : Int) (x2 : Int) (x3 : Int) (μ : MM) : Prop := wpX11_stepOn_J67 Q x1 x2 x3 0 μ
set_option maxRecDepth 100000 in
set_option maxHeartbeats 4000000 in
theorem wX11_stepOn_J66 {Q : Int → MM → Prop} {x1 : Int} {x2 : Int} {x3 : Int} {μ : MM} {H : Heap} {locs : List Loc} {ls : Array Slot} (F : CallFix p m c cX11_stepOn 5 s args uw RX11) (hA : ∀ q : Nat, s.heap.size ≤ q → A q) (hR : 4 ≤ R.frames ∧ 87 ≤ R.locals) (ret : RetV p l e R s m args below meth c cX11_stepOn Qf dmR cfR tyR exR D cy ad A Q) (h : wpX11_stepOn_J66 Q x1 x2 x3 μ) (hw : wdR D cy ad A μ s H) (hS : va_S A s.heap H locs) (hl : lv_has ls 5 [(0, .ref (ad 0 0)), (1, .int (iI x1)), (2, .int (iI x2)), (3, .int (iI x3))]) : W p l e R s m args below meth c H locs 0 0 Qf (F0 m 66 ls []) := by
  have hx := F.1
  have hb := F.2.1
  have hown := F.2.2.2.1
  have hts := F.2.2.2.2
  refine q_iconst hx hb dX11_stepOn_66 ?_
  exact wX11_stepOn_J67 F hA hR ret h hw hS (lv_sub hl [0, 1, 2, 3] rfl)
def wpX11_stepOn_J46 (Q : Int → MM → Prop) (x1 : Int) (x2 : Int) (t0 : Int) (μ : MM) : Prop := 0 ≤ (2 * x1) ∧ (2 * x1 < 8 ∧ (rg (μ 35 0 (2 * x1)) ∧ (if (μ 35 0 (2 * x1)) < 0 then (wpX11_stepOn_J66 Q x1 x2 t0 μ) else (rg t0 ∧ (if t0 = 0 then (wpX11_stepOn_J67 Q x1 x2 t0 1 μ) else (wpX11_stepOn_J66 Q x1 x2 t0 μ))))))
set_option maxRecDepth 100000 in
set_option maxHeartbeats 4000000 in
theorem wX11_stepOn_J46 {Q : Int → MM → Prop} {x1 : Int} {x2 : Int} {t0 : Int} {μ : MM} {H : Heap} {locs : List Loc} {ls : Array Slot} (F : CallFix p m c cX11_stepOn 5 s args uw RX11) (hA : ∀ q : Nat, s.heap.size ≤ q → A q) (hR : 4 ≤ R.frames ∧ 87 ≤ R.locals) (ret : RetV p l e R s m args below meth c cX11_stepOn Qf dmR cfR tyR exR D cy ad A Q) (h : wpX11_stepOn_J46 Q x1 x2 t0 μ) (hw : wdR D cy ad A μ s H) (hS : va_S A s.heap H locs) (hl : lv_has ls 5 [(0, .ref (ad 0 0)), (1, .int (iI x1)), (2, .int (iI x2))]) : W p l e R s m args below meth c H locs 0 0 Qf (F0 m 46 ls [.int (iI t0)]) := by
  have hx := F.1
  have hb := F.2.1
  have hown := F.2.2.2.1
  have hts := F.2.2.2.2
  refine lv_istore_n (lv' := [(3, .int (iI t0)), (0, .ref (ad 0 0)), (1, .int (iI x1)), (2, .int (iI x2))]) hx hb dX11_stepOn_46 rfl hl (by decide) rfl (fun ls hl => ?_)
  refine lv_aload_n hx hb dX11_stepOn_47 rfl (lv_at hl 1 rfl) ?_
  refine gR_hung F hw tw5_173 dX11_stepOn_48 ?_
  refine q_iconst hx hb dX11_stepOn_51 ?_
  refine lv_iload_n hx hb dX11_stepOn_52 rfl (lv_at hl 2 rfl) ?_
  refine q_imul hx hb dX11_stepOn_53 ?_
  obtain ⟨g1, h⟩ := h
  obtain ⟨g2, h⟩ := h
  refine aR_ild (L := 8) hx hb hw 34 rfl rfl (by decide) g1 g2 dX11_stepOn_54 ?_
  obtain ⟨g3, h⟩ := h
  refine q_if_lt (tgt := 66) hx hb g3 dX11_stepOn_55 (by decide) (fun c4 => ?_) (fun c4 => ?_)
  · have h := ite_t c4 h
    exact wX11_stepOn_J66 F hA hR ret h hw hS (lv_sub hl [1, 2, 3, 0] rfl)
  · have h := ite_f c4 h
    refine lv_iload_n hx hb dX11_stepOn_58 rfl (lv_at hl 0 rfl) ?_
    obtain ⟨g5, h⟩ := h
    refine q_if_ne (tgt := 66) hx hb g5 dX11_stepOn_59 (by decide) (fun c6 => ?_) (fun c6 => ?_)
    · have h := ite_f c6 h
      exact wX11_stepOn_J66 F hA hR ret h hw hS (lv_sub hl [1, 2, 3, 0] rfl)
    · have h := ite_t c6 h
      refine q_iconst hx hb dX11_stepOn_62 ?_
      refine lv_goto (tgt := 67) hx hb dX11_stepOn_63 (by decide) ?_
      exact wX11_stepOn_J67 F hA hR ret h hw hS (lv_sub hl [1, 2, 3, 0] rfl)
def wpX11_stepOn (x1 : Int) (μ : MM) (Q : Int → MM → Prop) : Prop := 0 ≤ x1 ∧ (x1 < 4 ∧ (rg ((μ 27 0 x1) + 1) ∧ (∀ μ4 : MM, μ4 = ms μ 27 0 x1 (Int.tmod ((μ 27 0 x1) + 1) 1440) → (rg (μ4 27 0 x1) ∧ (∀ y6 : Int, y6 = Int.tmod (μ4 27 0 x1) 60 → (0 ≤ ((2 * x1) + 1) ∧ ((2 * x1) + 1 < 8 ∧ (rg (μ4 35 0 ((2 * x1) + 1)) ∧ (if (μ4 35 0 ((2 * x1) + 1)) < 0 then (wpX11_stepOn_J46 Q x1 y6 0 μ4) else (wpX11_stepOn_J46 Q x1 y6 1 μ4))))))))))
set_option maxRecDepth 100000 in
set_option maxHeartbeats 4000000 in
theorem wX11_stepOn {Q : Int → MM → Prop} {x1 : Int} {μ : MM} {H : Heap} {locs : List Loc} {ls : Array Slot} (F : CallFix p m c cX11_stepOn 5 s args uw RX11) (hA : ∀ q : Nat, s.heap.size ≤ q → A q) (hR : 4 ≤ R.frames ∧ 87 ≤ R.locals) (ret : RetV p l e R s m args below meth c cX11_stepOn Qf dmR cfR tyR exR D cy ad A Q) (h : wpX11_stepOn x1 μ Q) (hw : wdR D cy ad A μ s H) (hS : va_S A s.heap H locs) (hl : lv_has ls 5 [(0, .ref (ad 0 0)), (1, .int (iI x1))]) : W p l e R s m args below meth c H locs 0 0 Qf (F0 m 0 ls []) := by
  have hx := F.1
  have hb := F.2.1
  have hown := F.2.2.2.1
  have hts := F.2.2.2.2
  refine lv_aload_n hx hb dX11_stepOn_0 rfl (lv_at hl 0 rfl) ?_
  refine gR_handsAt F hw tw5_165 dX11_stepOn_1 ?_
  refine lv_iload_n hx hb dX11_stepOn_4 rfl (lv_at hl 1 rfl) ?_
  refine lv_aload_n hx hb dX11_stepOn_5 rfl (lv_at hl 0 rfl) ?_
  refine gR_handsAt F hw tw5_165 dX11_stepOn_6 ?_
  refine lv_iload_n hx hb dX11_stepOn_9 rfl (lv_at hl 1 rfl) ?_
  obtain ⟨g1, h⟩ := h
  obtain ⟨g2, h⟩ := h
  refine aR_ild (L := 4) hx hb hw 26 rfl rfl (by decide) g1 g2 dX11_stepOn_10 ?_
  refine q_iconst hx hb dX11_stepOn_11 ?_
  refine q_iadd hx hb dX11_stepOn_12 ?_
  refine q_sipush hx hb (by decide) dX11_stepOn_13 ?_
  obtain ⟨g3, h⟩ := h
  refine q_irem hx hb g3 (by decide) (by decide) dX11_stepOn_16 ?_
  obtain ⟨μ4, eμ4⟩ : ∃ z : MM, z = ms μ 27 0 x1 (Int.tmod ((μ 27 0 x1) + 1) 1440) := ⟨_, rfl⟩
  have h := h μ4 eμ4
  refine aR_ist (L := 4) hx hb hw hS 26 rfl rfl (by decide) g1 g2 eμ4 dX11_stepOn_17 (fun H locs hw hS => ?_)
  refine lv_aload_n hx hb dX11_stepOn_18 rfl (lv_at hl 0 rfl) ?_
  refine gR_handsAt F hw tw5_165 dX11_stepOn_19 ?_
  refine lv_iload_n hx hb dX11_stepOn_22 rfl (lv_at hl 1 rfl) ?_
  refine aR_ild (L := 4) hx hb hw 26 rfl rfl (by decide) g1 g2 dX11_stepOn_23 ?_
  refine q_bipush hx hb (by decide) dX11_stepOn_24 ?_
  obtain ⟨g5, h⟩ := h
  refine q_irem hx hb g5 (by decide) (by decide) dX11_stepOn_26 ?_
  obtain ⟨y6, ey6⟩ : ∃ z : Int, z = Int.tmod (μ4 27 0 x1) 60 := ⟨_, rfl⟩
  have h := h y6 ey6
  refine q_nmI ey6 ?_
  refine lv_istore_n (lv' := [(2, .int (iI y6)), (0, .ref (ad 0 0)), (1, .int (iI x1))]) hx hb dX11_stepOn_27 rfl hl (by decide) rfl (fun ls hl => ?_)
  refine lv_aload_n hx hb dX11_stepOn_28 rfl (lv_at hl 1 rfl) ?_
  refine gR_hung F hw tw5_173 dX11_stepOn_29 ?_
  refine q_iconst hx hb dX11_stepOn_32 ?_
  refine lv_iload_n hx hb dX11_stepOn_33 rfl (lv_at hl 2 rfl) ?_
  refine q_imul hx hb dX11_stepOn_34 ?_
  refine q_iconst hx hb dX11_stepOn_35 ?_
  refine q_iadd hx hb dX11_stepOn_36 ?_
  obtain ⟨g7, h⟩ := h
  obtain ⟨g8, h⟩ := h
  refine aR_ild (L := 8) hx hb hw 34 rfl rfl (by decide) g7 g8 dX11_stepOn_37 ?_
  obtain ⟨g9, h⟩ := h
  refine q_if_lt (tgt := 45) hx hb g9 dX11_stepOn_38 (by decide) (fun c10 => ?_) (fun c10 => ?_)
  · have h := ite_t c10 h
    refine q_iconst hx hb dX11_stepOn_45 ?_
    exact wX11_stepOn_J46 F hA hR ret h hw hS (lv_sub hl [1, 2, 0] rfl)
  · have h := ite_f c10 h
    refine q_iconst hx hb dX11_stepOn_41 ?_
    refine lv_goto (tgt := 46) hx hb dX11_stepOn_42 (by decide) ?_
    exact wX11_stepOn_J46 F hA hR ret h hw hS (lv_sub hl [1, 2, 0] rfl)
set_option maxRecDepth 100000 in
set_option maxHeartbeats 4000000 in
theorem kX11_stepOn {l : Launch} {D : va_G} {cy : Nat → ClassId} {ad : AD} {A : Nat → Prop} {x1 : Int} {μ : MM} {Q : Int → MM → Prop} (h : wpX11_stepOn x1 μ Q) : Met l yX11_stepOn (Cond.code yX11_stepOn cX11_stepOn 5 none :: uw) (rmm 4 87) (wPc [.ref (ad 0 0), .int (iI x1)] dmR cfR tyR exR D cy ad A μ) (wQ vV Q dmR cfR D cy ad A) 0 0 A :=
  met_of (by decide) (Nat.le_of_ble_eq_true rfl) (fun p e R s m args below meth c ls hr hk hRR F hA hw hS hl => wX11_stepOn F hA (by subst hRR; exact ⟨Nat.le_refl _, Nat.le_refl _⟩) (retV_of F hr hk) h hw hS hl)
theorem hdX11_stepOn : yX11_stepOn.cls ≠ "java/lang/invoke/MethodHandle" ∧ yX11_stepOn.cls ≠ "java/lang/invoke/VarHandle" ∧ (parseMethodDescriptor yX11_stepOn.desc).map (fun d => d.parameters.length) = some 1 := by decide +kernel
end
