section
variable {p : Program} {l : Launch} {e : Env} {R : Room} {s : State} {m : MethodId} {args : Array Value} {below : List Frame} {meth : Method} {c : Code} {Qf : State → Prop} {D : va_G} {cy : Nat → ClassId} {ad : AD} {A : Nat → Prop}
def wpJ7_fill_031fb_L5 (G : GG) (Q : Int → MM → Prop) : Nat → Int → Int → Int → Int → MM → Prop
  | 0, _, _, _, _, _ => False
  | n + 1, x0, x1, x2, x3, μ => rg x2 ∧ (rg x3 ∧ (if x3 ≤ x2 then (Q 0 μ) else (0 ≤ x2 ∧ (x2 < 48 ∧ (∀ μ6 : MM, μ6 = ms μ 8 0 (48 * x0 + x2) (i2b x1) → (wpJ7_fill_031fb_L5 G Q n x0 x1 (x2 + 1) x3 μ6))))))
set_option maxRecDepth 100000 in
set_option maxHeartbeats 4000000 in
theorem wJ7_fill_031fb_L5 {G : GG} {Q : Int → MM → Prop} (F : CallFix p m c cJ7_fill_031fb 4 s args uw RJ7) (hA : ∀ q : Nat, s.heap.size ≤ q → A q) (hR : 0 ≤ R.frames ∧ 0 ≤ R.locals) (ret : RetV p l e R s m args below meth c cJ7_fill_031fb Qf (dmC G) (cfC G) tyC (exC G) D cy ad A Q) : ∀ (n : Nat) (x0 x1 x2 x3 : Int) (μ : MM) (H : Heap) (locs : List Loc) (ls : Array Slot), wpJ7_fill_031fb_L5 G Q n x0 x1 x2 x3 μ → 0 ≤ x0 ∧ x0 < 8 → wdC G D cy ad A μ s H → va_S A s.heap H locs → lv_has ls 4 [(0, .ref (ad 8 x0)), (1, .int (iI x1)), (2, .int (iI x2)), (3, .int (iI x3))] → W p l e R s m args below meth c H locs 0 0 Qf (F0 m 5 ls []) := by
  have hx := F.1
  have hb := F.2.1
  have hown := F.2.2.2.1
  have hts := F.2.2.2.2
  intro n
  induction n with
  | zero =>
    intro x0 x1 x2 x3 μ H locs ls h hi_x0 hw hS hl
    exact h.elim
  | succ n ih =>
    intro x0 x1 x2 x3 μ H locs ls h hi_x0 hw hS hl
    refine lv_iload_n hx hb dJ7_fill_031fb_5 rfl (lv_at hl 2 rfl) ?_
    refine lv_iload_n hx hb dJ7_fill_031fb_6 rfl (lv_at hl 3 rfl) ?_
    obtain ⟨g1, h⟩ := h
    obtain ⟨g2, h⟩ := h
    refine q_icmp_ge (tgt := 20) hx hb g1 g2 dJ7_fill_031fb_7 (by decide) (fun c3 => ?_) (fun c3 => ?_)
    · have h := ite_t c3 h
      exact ret _ _ _ _ _ h hw hS dJ7_fill_031fb_20
    · have h := ite_f c3 h
      refine lv_aload_n hx hb dJ7_fill_031fb_10 rfl (lv_at hl 0 rfl) ?_
      refine lv_iload_n hx hb dJ7_fill_031fb_11 rfl (lv_at hl 2 rfl) ?_
      refine lv_iload_n hx hb dJ7_fill_031fb_12 rfl (lv_at hl 1 rfl) ?_
      obtain ⟨g4, h⟩ := h
      obtain ⟨g5, h⟩ := h
      obtain ⟨μ6, eμ6⟩ : ∃ z : MM, z = ms μ 8 0 (48 * x0 + x2) (i2b x1) := ⟨_, rfl⟩
      have h := h μ6 eμ6
      refine aC_8_st hx hb hw hS hi_x0 g4 g5 eμ6 dJ7_fill_031fb_13 (fun H locs hw hS => ?_)
      refine q_iinc (k := 2) (lv' := [(2, .int (iI (x2 + 1))), (0, .ref (ad 8 x0)), (1, .int (iI x1)), (3, .int (iI x3))]) hx hb dJ7_fill_031fb_14 hl rfl (by decide) rfl (fun ls hl => ?_)
      refine lv_goto (tgt := 5) hx hb dJ7_fill_031fb_17 (by decide) ?_
      exact ih x0 x1 (x2 + 1) x3 _ _ _ _ h hi_x0 hw hS (lv_sub hl [1, 2, 0, 3] rfl)
def wpJ7_fill_031fb (G : GG) (x0 : Int) (x1 : Int) (μ : MM) (Q : Int → MM → Prop) : Prop := ∃ n1 : Nat, wpJ7_fill_031fb_L5 G Q n1 x0 x1 0 48 μ
set_option maxRecDepth 100000 in
set_option maxHeartbeats 4000000 in
theorem wJ7_fill_031fb {G : GG} {Q : Int → MM → Prop} {x0 : Int} {x1 : Int} {μ : MM} {H : Heap} {locs : List Loc} {ls : Array Slot} (F : CallFix p m c cJ7_fill_031fb 4 s args uw RJ7) (hA : ∀ q : Nat, s.heap.size ≤ q → A q) (hR : 0 ≤ R.frames ∧ 0 ≤ R.locals) (ret : RetV p l e R s m args below meth c cJ7_fill_031fb Qf (dmC G) (cfC G) tyC (exC G) D cy ad A Q) (h : wpJ7_fill_031fb G x0 x1 μ Q) (hi_x0 : 0 ≤ x0 ∧ x0 < 8) (hw : wdC G D cy ad A μ s H) (hS : va_S A s.heap H locs) (hl : lv_has ls 4 [(0, .ref (ad 8 x0)), (1, .int (iI x1))]) : W p l e R s m args below meth c H locs 0 0 Qf (F0 m 0 ls []) := by
  have hx := F.1
  have hb := F.2.1
  have hown := F.2.2.2.1
  have hts := F.2.2.2.2
  refine q_iconst hx hb dJ7_fill_031fb_0 ?_
  refine lv_istore_n (lv' := [(2, .int (iI 0)), (0, .ref (ad 8 x0)), (1, .int (iI x1))]) hx hb dJ7_fill_031fb_1 rfl hl (by decide) rfl (fun ls hl => ?_)
  refine lv_aload_n hx hb dJ7_fill_031fb_2 rfl (lv_at hl 1 rfl) ?_
  refine aC_8_ln hx hb hw hi_x0 dJ7_fill_031fb_3 ?_
  refine lv_istore_n (lv' := [(3, .int (iI 48)), (2, .int (iI 0)), (0, .ref (ad 8 x0)), (1, .int (iI x1))]) hx hb dJ7_fill_031fb_4 rfl hl (by decide) rfl (fun ls hl => ?_)
  obtain ⟨n1, h⟩ := h
  exact wJ7_fill_031fb_L5 F hA hR ret n1 x0 x1 0 48 _ _ _ _ h hi_x0 hw hS (lv_sub hl [2, 3, 1, 0] rfl)
set_option maxRecDepth 100000 in
set_option maxHeartbeats 4000000 in
theorem kJ7_fill_031fb {l : Launch} {D : va_G} {cy : Nat → ClassId} {ad : AD} {A : Nat → Prop} {G : GG} {x0 : Int} {x1 : Int} {μ : MM} {Q : Int → MM → Prop} (h : wpJ7_fill_031fb G x0 x1 μ Q) (hi_x0 : 0 ≤ x0 ∧ x0 < 8) : Met l yJ7_fill_031fb (Cond.code yJ7_fill_031fb cJ7_fill_031fb 4 none :: uw) (rmm 0 0) (wPc [.ref (ad 8 x0), .int (iI x1)] (dmC G) (cfC G) tyC (exC G) D cy ad A μ) (wQ vV Q (dmC G) (cfC G) D cy ad A) 0 0 A :=
  met_ofF (by decide +kernel) (Nat.le_of_ble_eq_true rfl) (fun p e R s m args below meth c ls hr hk hRR F hA hw hS hl => wJ7_fill_031fb F hA (by subst hRR; exact ⟨Nat.le_refl _, Nat.le_refl _⟩) (retV_of F hr hk) h hi_x0 hw hS hl)
theorem hdJ7_fill_031fb : yJ7_fill_031fb.cls ≠ "java/lang/invoke/MethodHandle" ∧ yJ7_fill_031fb.cls ≠ "java/lang/invoke/VarHandle" ∧ (parseMethodDescriptor yJ7_fill_031fb.desc).map (fun d => d.parameters.length) = some 2 := by decide +kernel
def wpJ9_abs_067f4 (G : GG) (x0 : Int) (μ : MM) (Q : Int → MM → Prop) : Prop := rl x0 ∧ (if 0 ≤ x0 then (Q x0 μ) else (Q (-x0) μ))
set_option maxRecDepth 100000 in
set_option maxHeartbeats 4000000 in
theorem wJ9_abs_067f4 {G : GG} {Q : Int → MM → Prop} {x0 : Int} {μ : MM} {H : Heap} {locs : List Loc} {ls : Array Slot} (F : CallFix p m c cJ9_abs_067f4 2 s args uw RJ9) (hA : ∀ q : Nat, s.heap.size ≤ q → A q) (hR : 0 ≤ R.frames ∧ 0 ≤ R.locals) (ret : RetL p l e R s m args below meth c cJ9_abs_067f4 Qf (dmC G) (cfC G) tyC (exC G) D cy ad A Q) (h : wpJ9_abs_067f4 G x0 μ Q) (hw : wdC G D cy ad A μ s H) (hS : va_S A s.heap H locs) (hl : lv_has ls 2 [(0, .long (lJ x0))]) : W p l e R s m args below meth c H locs 0 0 Qf (F0 m 0 ls []) := by
  have hx := F.1
  have hb := F.2.1
  have hown := F.2.2.2.1
  have hts := F.2.2.2.2
  refine lv_lload_n hx hb dJ9_abs_067f4_0 rfl (lv_at hl 0 rfl) ?_
  refine q_lconst (v := 0) hx hb (by decide) dJ9_abs_067f4_1 ?_
  obtain ⟨g1, h⟩ := h
  refine q_lcmp_ge (tgt := 11) hx hb g1 (by decide) dJ9_abs_067f4_2 dJ9_abs_067f4_3 (by decide) (fun c2 => ?_) (fun c2 => ?_)
  · have h := ite_t c2 h
    refine lv_lload_n hx hb dJ9_abs_067f4_11 rfl (lv_at hl 0 rfl) ?_
    exact ret _ _ _ _ _ _ h hw hS dJ9_abs_067f4_12
  · have h := ite_f c2 h
    refine lv_lload_n hx hb dJ9_abs_067f4_6 rfl (lv_at hl 0 rfl) ?_
    refine q_lneg hx hb dJ9_abs_067f4_7 ?_
    refine lv_goto (tgt := 12) hx hb dJ9_abs_067f4_8 (by decide) ?_
    exact ret _ _ _ _ _ _ h hw hS dJ9_abs_067f4_12
set_option maxRecDepth 100000 in
set_option maxHeartbeats 4000000 in
theorem kJ9_abs_067f4 {l : Launch} {D : va_G} {cy : Nat → ClassId} {ad : AD} {A : Nat → Prop} {G : GG} {x0 : Int} {μ : MM} {Q : Int → MM → Prop} (h : wpJ9_abs_067f4 G x0 μ Q) : Met l yJ9_abs_067f4 (Cond.code yJ9_abs_067f4 cJ9_abs_067f4 2 (some .long) :: uw) (rmm 0 0) (wPc [.long (lJ x0)] (dmC G) (cfC G) tyC (exC G) D cy ad A μ) (wQ vL Q (dmC G) (cfC G) D cy ad A) 0 0 A :=
  met_ofF (by decide +kernel) (Nat.le_of_ble_eq_true rfl) (fun p e R s m args below meth c ls hr hk hRR F hA hw hS hl => wJ9_abs_067f4 F hA (by subst hRR; exact ⟨Nat.le_refl _, Nat.le_refl _⟩) (retL_of F hr hk) h hw hS hl)
theorem hdJ9_abs_067f4 : yJ9_abs_067f4.cls ≠ "java/lang/invoke/MethodHandle" ∧ yJ9_abs_067f4.cls ≠ "java/lang/invoke/VarHandle" ∧ (parseMethodDescriptor yJ9_abs_067f4.desc).map (fun d => d.parameters.length) = some 1 := by decide +kernel
def wpJ9_abs_0f7a4 (G : GG) (x0 : Int) (μ : MM) (Q : Int → MM → Prop) : Prop := rg x0 ∧ (if 0 ≤ x0 then (Q x0 μ) else (Q (-x0) μ))
set_option maxRecDepth 100000 in
set_option maxHeartbeats 4000000 in
theorem wJ9_abs_0f7a4 {G : GG} {Q : Int → MM → Prop} {x0 : Int} {μ : MM} {H : Heap} {locs : List Loc} {ls : Array Slot} (F : CallFix p m c cJ9_abs_0f7a4 1 s args uw RJ9) (hA : ∀ q : Nat, s.heap.size ≤ q → A q) (hR : 0 ≤ R.frames ∧ 0 ≤ R.locals) (ret : RetI p l e R s m args below meth c cJ9_abs_0f7a4 Qf (dmC G) (cfC G) tyC (exC G) D cy ad A Q) (h : wpJ9_abs_0f7a4 G x0 μ Q) (hw : wdC G D cy ad A μ s H) (hS : va_S A s.heap H locs) (hl : lv_has ls 1 [(0, .int (iI x0))]) : W p l e R s m args below meth c H locs 0 0 Qf (F0 m 0 ls []) := by
  have hx := F.1
  have hb := F.2.1
  have hown := F.2.2.2.1
  have hts := F.2.2.2.2
  refine lv_iload_n hx hb dJ9_abs_0f7a4_0 rfl (lv_at hl 0 rfl) ?_
  obtain ⟨g1, h⟩ := h
  refine q_if_ge (tgt := 9) hx hb g1 dJ9_abs_0f7a4_1 (by decide) (fun c2 => ?_) (fun c2 => ?_)
  · have h := ite_t c2 h
    refine lv_iload_n hx hb dJ9_abs_0f7a4_9 rfl (lv_at hl 0 rfl) ?_
    exact ret _ _ _ _ _ _ h hw hS dJ9_abs_0f7a4_10
  · have h := ite_f c2 h
    refine lv_iload_n hx hb dJ9_abs_0f7a4_4 rfl (lv_at hl 0 rfl) ?_
    refine q_ineg hx hb dJ9_abs_0f7a4_5 ?_
    refine lv_goto (tgt := 10) hx hb dJ9_abs_0f7a4_6 (by decide) ?_
    exact ret _ _ _ _ _ _ h hw hS dJ9_abs_0f7a4_10
set_option maxRecDepth 100000 in
set_option maxHeartbeats 4000000 in
theorem kJ9_abs_0f7a4 {l : Launch} {D : va_G} {cy : Nat → ClassId} {ad : AD} {A : Nat → Prop} {G : GG} {x0 : Int} {μ : MM} {Q : Int → MM → Prop} (h : wpJ9_abs_0f7a4 G x0 μ Q) : Met l yJ9_abs_0f7a4 (Cond.code yJ9_abs_0f7a4 cJ9_abs_0f7a4 1 (some .int) :: uw) (rmm 0 0) (wPc [.int (iI x0)] (dmC G) (cfC G) tyC (exC G) D cy ad A μ) (wQ vI Q (dmC G) (cfC G) D cy ad A) 0 0 A :=
  met_ofF (by decide +kernel) (Nat.le_of_ble_eq_true rfl) (fun p e R s m args below meth c ls hr hk hRR F hA hw hS hl => wJ9_abs_0f7a4 F hA (by subst hRR; exact ⟨Nat.le_refl _, Nat.le_refl _⟩) (retI_of F hr hk) h hw hS hl)
theorem hdJ9_abs_0f7a4 : yJ9_abs_0f7a4.cls ≠ "java/lang/invoke/MethodHandle" ∧ yJ9_abs_0f7a4.cls ≠ "java/lang/invoke/VarHandle" ∧ (parseMethodDescriptor yJ9_abs_0f7a4.desc).map (fun d => d.parameters.length) = some 1 := by decide +kernel
def wpJ9_floorMod_7cf53 (G : GG) (x0 : Int) (x1 : Int) (μ : MM) (Q : Int → MM → Prop) : Prop := rg x0 ∧ (rg x1 ∧ (x1 ≠ 0 ∧ (∀ y4 : Int, y4 = Int.tmod x0 x1 → (rg (ixor x0 x1) ∧ (if 0 ≤ (ixor x0 x1) then (Q y4 μ) else (rg y4 ∧ (if y4 = 0 then (Q y4 μ) else (Q (y4 + x1) μ))))))))
set_option maxRecDepth 100000 in
set_option maxHeartbeats 4000000 in
theorem wJ9_floorMod_7cf53 {G : GG} {Q : Int → MM → Prop} {x0 : Int} {x1 : Int} {μ : MM} {H : Heap} {locs : List Loc} {ls : Array Slot} (F : CallFix p m c cJ9_floorMod_7cf53 3 s args uw RJ9) (hA : ∀ q : Nat, s.heap.size ≤ q → A q) (hR : 0 ≤ R.frames ∧ 0 ≤ R.locals) (ret : RetI p l e R s m args below meth c cJ9_floorMod_7cf53 Qf (dmC G) (cfC G) tyC (exC G) D cy ad A Q) (h : wpJ9_floorMod_7cf53 G x0 x1 μ Q) (hw : wdC G D cy ad A μ s H) (hS : va_S A s.heap H locs) (hl : lv_has ls 3 [(0, .int (iI x0)), (1, .int (iI x1))]) : W p l e R s m args below meth c H locs 0 0 Qf (F0 m 0 ls []) := by
  have hx := F.1
  have hb := F.2.1
  have hown := F.2.2.2.1
  have hts := F.2.2.2.2
  refine lv_iload_n hx hb dJ9_floorMod_7cf53_0 rfl (lv_at hl 0 rfl) ?_
  refine lv_iload_n hx hb dJ9_floorMod_7cf53_1 rfl (lv_at hl 1 rfl) ?_
  obtain ⟨g1, h⟩ := h
  obtain ⟨g2, h⟩ := h
  obtain ⟨g3, h⟩ := h
  refine q_irem hx hb g1 g2 g3 dJ9_floorMod_7cf53_2 ?_
  obtain ⟨y4, ey4⟩ : ∃ z : Int, z = Int.tmod x0 x1 := ⟨_, rfl⟩
  have h := h y4 ey4
  refine q_nmI ey4 ?_
  refine lv_istore_n (lv' := [(2, .int (iI y4)), (0, .int (iI x0)), (1, .int (iI x1))]) hx hb dJ9_floorMod_7cf53_3 rfl hl (by decide) rfl (fun ls hl => ?_)
  refine lv_iload_n hx hb dJ9_floorMod_7cf53_4 rfl (lv_at hl 1 rfl) ?_
  refine lv_iload_n hx hb dJ9_floorMod_7cf53_5 rfl (lv_at hl 2 rfl) ?_
  refine q_ixor hx hb dJ9_floorMod_7cf53_6 ?_
  obtain ⟨g5, h⟩ := h
  refine q_if_ge (tgt := 18) hx hb g5 dJ9_floorMod_7cf53_7 (by decide) (fun c6 => ?_) (fun c6 => ?_)
  · have h := ite_t c6 h
    refine lv_iload_n hx hb dJ9_floorMod_7cf53_18 rfl (lv_at hl 0 rfl) ?_
    exact ret _ _ _ _ _ _ h hw hS dJ9_floorMod_7cf53_19
  · have h := ite_f c6 h
    refine lv_iload_n hx hb dJ9_floorMod_7cf53_10 rfl (lv_at hl 0 rfl) ?_
    obtain ⟨g7, h⟩ := h
    refine q_if_eq (tgt := 18) hx hb g7 dJ9_floorMod_7cf53_11 (by decide) (fun c8 => ?_) (fun c8 => ?_)
    · have h := ite_t c8 h
      refine lv_iload_n hx hb dJ9_floorMod_7cf53_18 rfl (lv_at hl 0 rfl) ?_
      exact ret _ _ _ _ _ _ h hw hS dJ9_floorMod_7cf53_19
    · have h := ite_f c8 h
      refine lv_iload_n hx hb dJ9_floorMod_7cf53_14 rfl (lv_at hl 0 rfl) ?_
      refine lv_iload_n hx hb dJ9_floorMod_7cf53_15 rfl (lv_at hl 2 rfl) ?_
      refine q_iadd hx hb dJ9_floorMod_7cf53_16 ?_
      exact ret _ _ _ _ _ _ h hw hS dJ9_floorMod_7cf53_17
set_option maxRecDepth 100000 in
set_option maxHeartbeats 4000000 in
theorem kJ9_floorMod_7cf53 {l : Launch} {D : va_G} {cy : Nat → ClassId} {ad : AD} {A : Nat → Prop} {G : GG} {x0 : Int} {x1 : Int} {μ : MM} {Q : Int → MM → Prop} (h : wpJ9_floorMod_7cf53 G x0 x1 μ Q) : Met l yJ9_floorMod_7cf53 (Cond.code yJ9_floorMod_7cf53 cJ9_floorMod_7cf53 3 (some .int) :: uw) (rmm 0 0) (wPc [.int (iI x0), .int (iI x1)] (dmC G) (cfC G) tyC (exC G) D cy ad A μ) (wQ vI Q (dmC G) (cfC G) D cy ad A) 0 0 A :=
  met_ofF (by decide +kernel) (Nat.le_of_ble_eq_true rfl) (fun p e R s m args below meth c ls hr hk hRR F hA hw hS hl => wJ9_floorMod_7cf53 F hA (by subst hRR; exact ⟨Nat.le_refl _, Nat.le_refl _⟩) (retI_of F hr hk) h hw hS hl)
theorem hdJ9_floorMod_7cf53 : yJ9_floorMod_7cf53.cls ≠ "java/lang/invoke/MethodHandle" ∧ yJ9_floorMod_7cf53.cls ≠ "java/lang/invoke/VarHandle" ∧ (parseMethodDescriptor yJ9_floorMod_7cf53.desc).map (fun d => d.parameters.length) = some 2 := by decide +kernel
def wpJ9_floorMod_f86c9 (G : GG) (x0 : Int) (x2 : Int) (μ : MM) (Q : Int → MM → Prop) : Prop := rl x0 ∧ (rl x2 ∧ (x2 ≠ 0 ∧ (∀ y4 : Int, y4 = Int.tmod x0 x2 → (rl (lxor x0 x2) ∧ (if 0 ≤ (lxor x0 x2) then (Q y4 μ) else (rl y4 ∧ (if y4 = 0 then (Q y4 μ) else (Q (y4 + x2) μ))))))))
set_option maxRecDepth 100000 in
set_option maxHeartbeats 4000000 in
theorem wJ9_floorMod_f86c9 {G : GG} {Q : Int → MM → Prop} {x0 : Int} {x2 : Int} {μ : MM} {H : Heap} {locs : List Loc} {ls : Array Slot} (F : CallFix p m c cJ9_floorMod_f86c9 6 s args uw RJ9) (hA : ∀ q : Nat, s.heap.size ≤ q → A q) (hR : 0 ≤ R.frames ∧ 0 ≤ R.locals) (ret : RetL p l e R s m args below meth c cJ9_floorMod_f86c9 Qf (dmC G) (cfC G) tyC (exC G) D cy ad A Q) (h : wpJ9_floorMod_f86c9 G x0 x2 μ Q) (hw : wdC G D cy ad A μ s H) (hS : va_S A s.heap H locs) (hl : lv_has ls 6 [(0, .long (lJ x0)), (2, .long (lJ x2))]) : W p l e R s m args below meth c H locs 0 0 Qf (F0 m 0 ls []) := by
  have hx := F.1
  have hb := F.2.1
  have hown := F.2.2.2.1
  have hts := F.2.2.2.2
  refine lv_lload_n hx hb dJ9_floorMod_f86c9_0 rfl (lv_at hl 0 rfl) ?_
  refine lv_lload_n hx hb dJ9_floorMod_f86c9_1 rfl (lv_at hl 1 rfl) ?_
  obtain ⟨g1, h⟩ := h
  obtain ⟨g2, h⟩ := h
  obtain ⟨g3, h⟩ := h
  refine q_lrem hx hb g1 g2 g3 dJ9_floorMod_f86c9_2 ?_
  obtain ⟨y4, ey4⟩ : ∃ z : Int, z = Int.tmod x0 x2 := ⟨_, rfl⟩
  have h := h y4 ey4
  refine q_nmL ey4 ?_
  refine lv_lstore (lv' := [(4, .long (lJ y4)), (0, .long (lJ x0)), (2, .long (lJ x2))]) hx hb dJ9_floorMod_f86c9_3 hl (by decide) rfl (fun ls hl => ?_)
  refine lv_lload_n hx hb dJ9_floorMod_f86c9_5 rfl (lv_at hl 1 rfl) ?_
  refine lv_lload_n hx hb dJ9_floorMod_f86c9_6 rfl (lv_at hl 2 rfl) ?_
  refine q_lxor hx hb dJ9_floorMod_f86c9_7 ?_
  refine q_lconst (v := 0) hx hb (by decide) dJ9_floorMod_f86c9_8 ?_
  obtain ⟨g5, h⟩ := h
  refine q_lcmp_ge (tgt := 25) hx hb g5 (by decide) dJ9_floorMod_f86c9_9 dJ9_floorMod_f86c9_10 (by decide) (fun c6 => ?_) (fun c6 => ?_)
  · have h := ite_t c6 h
    refine lv_lload hx hb dJ9_floorMod_f86c9_25 (lv_at hl 0 rfl) ?_
    exact ret _ _ _ _ _ _ h hw hS dJ9_floorMod_f86c9_27
  · have h := ite_f c6 h
    refine lv_lload hx hb dJ9_floorMod_f86c9_13 (lv_at hl 0 rfl) ?_
    refine q_lconst (v := 0) hx hb (by decide) dJ9_floorMod_f86c9_15 ?_
    obtain ⟨g7, h⟩ := h
    refine q_lcmp_eq (tgt := 25) hx hb g7 (by decide) dJ9_floorMod_f86c9_16 dJ9_floorMod_f86c9_17 (by decide) (fun c8 => ?_) (fun c8 => ?_)
    · have h := ite_t c8 h
      refine lv_lload hx hb dJ9_floorMod_f86c9_25 (lv_at hl 0 rfl) ?_
      exact ret _ _ _ _ _ _ h hw hS dJ9_floorMod_f86c9_27
    · have h := ite_f c8 h
      refine lv_lload hx hb dJ9_floorMod_f86c9_20 (lv_at hl 0 rfl) ?_
      refine lv_lload_n hx hb dJ9_floorMod_f86c9_22 rfl (lv_at hl 2 rfl) ?_
      refine q_ladd hx hb dJ9_floorMod_f86c9_23 ?_
      exact ret _ _ _ _ _ _ h hw hS dJ9_floorMod_f86c9_24
set_option maxRecDepth 100000 in
set_option maxHeartbeats 4000000 in
theorem kJ9_floorMod_f86c9 {l : Launch} {D : va_G} {cy : Nat → ClassId} {ad : AD} {A : Nat → Prop} {G : GG} {x0 : Int} {x2 : Int} {μ : MM} {Q : Int → MM → Prop} (h : wpJ9_floorMod_f86c9 G x0 x2 μ Q) : Met l yJ9_floorMod_f86c9 (Cond.code yJ9_floorMod_f86c9 cJ9_floorMod_f86c9 6 (some .long) :: uw) (rmm 0 0) (wPc [.long (lJ x0), .long (lJ x2)] (dmC G) (cfC G) tyC (exC G) D cy ad A μ) (wQ vL Q (dmC G) (cfC G) D cy ad A) 0 0 A :=
  met_ofF (by decide +kernel) (Nat.le_of_ble_eq_true rfl) (fun p e R s m args below meth c ls hr hk hRR F hA hw hS hl => wJ9_floorMod_f86c9 F hA (by subst hRR; exact ⟨Nat.le_refl _, Nat.le_refl _⟩) (retL_of F hr hk) h hw hS hl)
theorem hdJ9_floorMod_f86c9 : yJ9_floorMod_f86c9.cls ≠ "java/lang/invoke/MethodHandle" ∧ yJ9_floorMod_f86c9.cls ≠ "java/lang/invoke/VarHandle" ∧ (parseMethodDescriptor yJ9_floorMod_f86c9.desc).map (fun d => d.parameters.length) = some 2 := by decide +kernel
def wpJ9_max_7cf53 (G : GG) (x0 : Int) (x1 : Int) (μ : MM) (Q : Int → MM → Prop) : Prop := rg x0 ∧ (rg x1 ∧ (if x0 < x1 then (Q x1 μ) else (Q x0 μ)))
set_option maxRecDepth 100000 in
set_option maxHeartbeats 4000000 in
theorem wJ9_max_7cf53 {G : GG} {Q : Int → MM → Prop} {x0 : Int} {x1 : Int} {μ : MM} {H : Heap} {locs : List Loc} {ls : Array Slot} (F : CallFix p m c cJ9_max_7cf53 2 s args uw RJ9) (hA : ∀ q : Nat, s.heap.size ≤ q → A q) (hR : 0 ≤ R.frames ∧ 0 ≤ R.locals) (ret : RetI p l e R s m args below meth c cJ9_max_7cf53 Qf (dmC G) (cfC G) tyC (exC G) D cy ad A Q) (h : wpJ9_max_7cf53 G x0 x1 μ Q) (hw : wdC G D cy ad A μ s H) (hS : va_S A s.heap H locs) (hl : lv_has ls 2 [(0, .int (iI x0)), (1, .int (iI x1))]) : W p l e R s m args below meth c H locs 0 0 Qf (F0 m 0 ls []) := by
  have hx := F.1
  have hb := F.2.1
  have hown := F.2.2.2.1
  have hts := F.2.2.2.2
  refine lv_iload_n hx hb dJ9_max_7cf53_0 rfl (lv_at hl 0 rfl) ?_
  refine lv_iload_n hx hb dJ9_max_7cf53_1 rfl (lv_at hl 1 rfl) ?_
  obtain ⟨g1, h⟩ := h
  obtain ⟨g2, h⟩ := h
  refine q_icmp_lt (tgt := 9) hx hb g1 g2 dJ9_max_7cf53_2 (by decide) (fun c3 => ?_) (fun c3 => ?_)
  · have h := ite_t c3 h
    refine lv_iload_n hx hb dJ9_max_7cf53_9 rfl (lv_at hl 1 rfl) ?_
    exact ret _ _ _ _ _ _ h hw hS dJ9_max_7cf53_10
  · have h := ite_f c3 h
    refine lv_iload_n hx hb dJ9_max_7cf53_5 rfl (lv_at hl 0 rfl) ?_
    refine lv_goto (tgt := 10) hx hb dJ9_max_7cf53_6 (by decide) ?_
    exact ret _ _ _ _ _ _ h hw hS dJ9_max_7cf53_10
set_option maxRecDepth 100000 in
set_option maxHeartbeats 4000000 in
theorem kJ9_max_7cf53 {l : Launch} {D : va_G} {cy : Nat → ClassId} {ad : AD} {A : Nat → Prop} {G : GG} {x0 : Int} {x1 : Int} {μ : MM} {Q : Int → MM → Prop} (h : wpJ9_max_7cf53 G x0 x1 μ Q) : Met l yJ9_max_7cf53 (Cond.code yJ9_max_7cf53 cJ9_max_7cf53 2 (some .int) :: uw) (rmm 0 0) (wPc [.int (iI x0), .int (iI x1)] (dmC G) (cfC G) tyC (exC G) D cy ad A μ) (wQ vI Q (dmC G) (cfC G) D cy ad A) 0 0 A :=
  met_ofF (by decide +kernel) (Nat.le_of_ble_eq_true rfl) (fun p e R s m args below meth c ls hr hk hRR F hA hw hS hl => wJ9_max_7cf53 F hA (by subst hRR; exact ⟨Nat.le_refl _, Nat.le_refl _⟩) (retI_of F hr hk) h hw hS hl)
theorem hdJ9_max_7cf53 : yJ9_max_7cf53.cls ≠ "java/lang/invoke/MethodHandle" ∧ yJ9_max_7cf53.cls ≠ "java/lang/invoke/VarHandle" ∧ (parseMethodDescriptor yJ9_max_7cf53.desc).map (fun d => d.parameters.length) = some 2 := by decide +kernel
def wpJ9_max_f86c9 (G : GG) (x0 : Int) (x2 : Int) (μ : MM) (Q : Int → MM → Prop) : Prop := rl x0 ∧ (rl x2 ∧ (if x0 < x2 then (Q x2 μ) else (Q x0 μ)))
set_option maxRecDepth 100000 in
set_option maxHeartbeats 4000000 in
theorem wJ9_max_f86c9 {G : GG} {Q : Int → MM → Prop} {x0 : Int} {x2 : Int} {μ : MM} {H : Heap} {locs : List Loc} {ls : Array Slot} (F : CallFix p m c cJ9_max_f86c9 4 s args uw RJ9) (hA : ∀ q : Nat, s.heap.size ≤ q → A q) (hR : 0 ≤ R.frames ∧ 0 ≤ R.locals) (ret : RetL p l e R s m args below meth c cJ9_max_f86c9 Qf (dmC G) (cfC G) tyC (exC G) D cy ad A Q) (h : wpJ9_max_f86c9 G x0 x2 μ Q) (hw : wdC G D cy ad A μ s H) (hS : va_S A s.heap H locs) (hl : lv_has ls 4 [(0, .long (lJ x0)), (2, .long (lJ x2))]) : W p l e R s m args below meth c H locs 0 0 Qf (F0 m 0 ls []) := by
  have hx := F.1
  have hb := F.2.1
  have hown := F.2.2.2.1
  have hts := F.2.2.2.2
  refine lv_lload_n hx hb dJ9_max_f86c9_0 rfl (lv_at hl 0 rfl) ?_
  refine lv_lload_n hx hb dJ9_max_f86c9_1 rfl (lv_at hl 1 rfl) ?_
  obtain ⟨g1, h⟩ := h
  obtain ⟨g2, h⟩ := h
  refine q_lcmp_lt (tgt := 10) hx hb g1 g2 dJ9_max_f86c9_2 dJ9_max_f86c9_3 (by decide) (fun c3 => ?_) (fun c3 => ?_)
  · have h := ite_t c3 h
    refine lv_lload_n hx hb dJ9_max_f86c9_10 rfl (lv_at hl 1 rfl) ?_
    exact ret _ _ _ _ _ _ h hw hS dJ9_max_f86c9_11
  · have h := ite_f c3 h
    refine lv_lload_n hx hb dJ9_max_f86c9_6 rfl (lv_at hl 0 rfl) ?_
    refine lv_goto (tgt := 11) hx hb dJ9_max_f86c9_7 (by decide) ?_
    exact ret _ _ _ _ _ _ h hw hS dJ9_max_f86c9_11
set_option maxRecDepth 100000 in
set_option maxHeartbeats 4000000 in
theorem kJ9_max_f86c9 {l : Launch} {D : va_G} {cy : Nat → ClassId} {ad : AD} {A : Nat → Prop} {G : GG} {x0 : Int} {x2 : Int} {μ : MM} {Q : Int → MM → Prop} (h : wpJ9_max_f86c9 G x0 x2 μ Q) : Met l yJ9_max_f86c9 (Cond.code yJ9_max_f86c9 cJ9_max_f86c9 4 (some .long) :: uw) (rmm 0 0) (wPc [.long (lJ x0), .long (lJ x2)] (dmC G) (cfC G) tyC (exC G) D cy ad A μ) (wQ vL Q (dmC G) (cfC G) D cy ad A) 0 0 A :=
  met_ofF (by decide +kernel) (Nat.le_of_ble_eq_true rfl) (fun p e R s m args below meth c ls hr hk hRR F hA hw hS hl => wJ9_max_f86c9 F hA (by subst hRR; exact ⟨Nat.le_refl _, Nat.le_refl _⟩) (retL_of F hr hk) h hw hS hl)
theorem hdJ9_max_f86c9 : yJ9_max_f86c9.cls ≠ "java/lang/invoke/MethodHandle" ∧ yJ9_max_f86c9.cls ≠ "java/lang/invoke/VarHandle" ∧ (parseMethodDescriptor yJ9_max_f86c9.desc).map (fun d => d.parameters.length) = some 2 := by decide +kernel
def wpJ9_min_7cf53 (G : GG) (x0 : Int) (x1 : Int) (μ : MM) (Q : Int → MM → Prop) : Prop := rg x0 ∧ (rg x1 ∧ (if x1 < x0 then (Q x1 μ) else (Q x0 μ)))
set_option maxRecDepth 100000 in
set_option maxHeartbeats 4000000 in
theorem wJ9_min_7cf53 {G : GG} {Q : Int → MM → Prop} {x0 : Int} {x1 : Int} {μ : MM} {H : Heap} {locs : List Loc} {ls : Array Slot} (F : CallFix p m c cJ9_min_7cf53 2 s args uw RJ9) (hA : ∀ q : Nat, s.heap.size ≤ q → A q) (hR : 0 ≤ R.frames ∧ 0 ≤ R.locals) (ret : RetI p l e R s m args below meth c cJ9_min_7cf53 Qf (dmC G) (cfC G) tyC (exC G) D cy ad A Q) (h : wpJ9_min_7cf53 G x0 x1 μ Q) (hw : wdC G D cy ad A μ s H) (hS : va_S A s.heap H locs) (hl : lv_has ls 2 [(0, .int (iI x0)), (1, .int (iI x1))]) : W p l e R s m args below meth c H locs 0 0 Qf (F0 m 0 ls []) := by
  have hx := F.1
  have hb := F.2.1
  have hown := F.2.2.2.1
  have hts := F.2.2.2.2
  refine lv_iload_n hx hb dJ9_min_7cf53_0 rfl (lv_at hl 0 rfl) ?_
  refine lv_iload_n hx hb dJ9_min_7cf53_1 rfl (lv_at hl 1 rfl) ?_
  obtain ⟨g1, h⟩ := h
  obtain ⟨g2, h⟩ := h
  refine q_icmp_gt (tgt := 9) hx hb g1 g2 dJ9_min_7cf53_2 (by decide) (fun c3 => ?_) (fun c3 => ?_)
  · have h := ite_t c3 h
    refine lv_iload_n hx hb dJ9_min_7cf53_9 rfl (lv_at hl 1 rfl) ?_
    exact ret _ _ _ _ _ _ h hw hS dJ9_min_7cf53_10
  · have h := ite_f c3 h
    refine lv_iload_n hx hb dJ9_min_7cf53_5 rfl (lv_at hl 0 rfl) ?_
    refine lv_goto (tgt := 10) hx hb dJ9_min_7cf53_6 (by decide) ?_
    exact ret _ _ _ _ _ _ h hw hS dJ9_min_7cf53_10
set_option maxRecDepth 100000 in
set_option maxHeartbeats 4000000 in
theorem kJ9_min_7cf53 {l : Launch} {D : va_G} {cy : Nat → ClassId} {ad : AD} {A : Nat → Prop} {G : GG} {x0 : Int} {x1 : Int} {μ : MM} {Q : Int → MM → Prop} (h : wpJ9_min_7cf53 G x0 x1 μ Q) : Met l yJ9_min_7cf53 (Cond.code yJ9_min_7cf53 cJ9_min_7cf53 2 (some .int) :: uw) (rmm 0 0) (wPc [.int (iI x0), .int (iI x1)] (dmC G) (cfC G) tyC (exC G) D cy ad A μ) (wQ vI Q (dmC G) (cfC G) D cy ad A) 0 0 A :=
  met_ofF (by decide +kernel) (Nat.le_of_ble_eq_true rfl) (fun p e R s m args below meth c ls hr hk hRR F hA hw hS hl => wJ9_min_7cf53 F hA (by subst hRR; exact ⟨Nat.le_refl _, Nat.le_refl _⟩) (retI_of F hr hk) h hw hS hl)
theorem hdJ9_min_7cf53 : yJ9_min_7cf53.cls ≠ "java/lang/invoke/MethodHandle" ∧ yJ9_min_7cf53.cls ≠ "java/lang/invoke/VarHandle" ∧ (parseMethodDescriptor yJ9_min_7cf53.desc).map (fun d => d.parameters.length) = some 2 := by decide +kernel
def wpJ9_min_f86c9 (G : GG) (x0 : Int) (x2 : Int) (μ : MM) (Q : Int → MM → Prop) : Prop := rl x0 ∧ (rl x2 ∧ (if x2 < x0 then (Q x2 μ) else (Q x0 μ)))
set_option maxRecDepth 100000 in
set_option maxHeartbeats 4000000 in
theorem wJ9_min_f86c9 {G : GG} {Q : Int → MM → Prop} {x0 : Int} {x2 : Int} {μ : MM} {H : Heap} {locs : List Loc} {ls : Array Slot} (F : CallFix p m c cJ9_min_f86c9 4 s args uw RJ9) (hA : ∀ q : Nat, s.heap.size ≤ q → A q) (hR : 0 ≤ R.frames ∧ 0 ≤ R.locals) (ret : RetL p l e R s m args below meth c cJ9_min_f86c9 Qf (dmC G) (cfC G) tyC (exC G) D cy ad A Q) (h : wpJ9_min_f86c9 G x0 x2 μ Q) (hw : wdC G D cy ad A μ s H) (hS : va_S A s.heap H locs) (hl : lv_has ls 4 [(0, .long (lJ x0)), (2, .long (lJ x2))]) : W p l e R s m args below meth c H locs 0 0 Qf (F0 m 0 ls []) := by
  have hx := F.1
  have hb := F.2.1
  have hown := F.2.2.2.1
  have hts := F.2.2.2.2
  refine lv_lload_n hx hb dJ9_min_f86c9_0 rfl (lv_at hl 0 rfl) ?_
  refine lv_lload_n hx hb dJ9_min_f86c9_1 rfl (lv_at hl 1 rfl) ?_
  obtain ⟨g1, h⟩ := h
  obtain ⟨g2, h⟩ := h
  refine q_lcmp_gt (tgt := 10) hx hb g1 g2 dJ9_min_f86c9_2 dJ9_min_f86c9_3 (by decide) (fun c3 => ?_) (fun c3 => ?_)
  · have h := ite_t c3 h
    refine lv_lload_n hx hb dJ9_min_f86c9_10 rfl (lv_at hl 1 rfl) ?_
    exact ret _ _ _ _ _ _ h hw hS dJ9_min_f86c9_11
  · have h := ite_f c3 h
    refine lv_lload_n hx hb dJ9_min_f86c9_6 rfl (lv_at hl 0 rfl) ?_
    refine lv_goto (tgt := 11) hx hb dJ9_min_f86c9_7 (by decide) ?_
    exact ret _ _ _ _ _ _ h hw hS dJ9_min_f86c9_11
set_option maxRecDepth 100000 in
set_option maxHeartbeats 4000000 in
theorem kJ9_min_f86c9 {l : Launch} {D : va_G} {cy : Nat → ClassId} {ad : AD} {A : Nat → Prop} {G : GG} {x0 : Int} {x2 : Int} {μ : MM} {Q : Int → MM → Prop} (h : wpJ9_min_f86c9 G x0 x2 μ Q) : Met l yJ9_min_f86c9 (Cond.code yJ9_min_f86c9 cJ9_min_f86c9 4 (some .long) :: uw) (rmm 0 0) (wPc [.long (lJ x0), .long (lJ x2)] (dmC G) (cfC G) tyC (exC G) D cy ad A μ) (wQ vL Q (dmC G) (cfC G) D cy ad A) 0 0 A :=
  met_ofF (by decide +kernel) (Nat.le_of_ble_eq_true rfl) (fun p e R s m args below meth c ls hr hk hRR F hA hw hS hl => wJ9_min_f86c9 F hA (by subst hRR; exact ⟨Nat.le_refl _, Nat.le_refl _⟩) (retL_of F hr hk) h hw hS hl)
theorem hdJ9_min_f86c9 : yJ9_min_f86c9.cls ≠ "java/lang/invoke/MethodHandle" ∧ yJ9_min_f86c9.cls ≠ "java/lang/invoke/VarHandle" ∧ (parseMethodDescriptor yJ9_min_f86c9.desc).map (fun d => d.parameters.length) = some 2 := by decide +kernel
def wpX0_lift (G : GG) (i : Int) (μ : MM) (Q : Int → MM → Prop) : Prop := rg (μ 2 16 i) ∧ (if (μ 2 16 i) < 0 then (Q 0 μ) else (rg (G 3 i) ∧ (if (μ 2 16 i) < (G 3 i) then (0 ≤ (μ 2 16 i) ∧ (μ 2 16 i < G 3 i ∧ (∀ y7 : Int, y7 = μ 10 0 (48 * i + (μ 2 16 i)) → (rg ((μ 2 16 i) + 1) ∧ (if (G 3 i) ≤ ((μ 2 16 i) + 1) then (∀ μ10 : MM, μ10 = ms μ 2 16 i 0 → (Q y7 μ10)) else (∀ μ11 : MM, μ11 = ms μ 2 16 i ((μ 2 16 i) + 1) → (Q y7 μ11))))))) else (Q 0 μ))))
set_option maxRecDepth 100000 in
set_option maxHeartbeats 4000000 in
theorem wX0_lift {G : GG} {Q : Int → MM → Prop} {i : Int} {μ : MM} {H : Heap} {locs : List Loc} {ls : Array Slot} (F : CallFix p m c cX0_lift 2 s args uw RX0) (hA : ∀ q : Nat, s.heap.size ≤ q → A q) (hR : 0 ≤ R.frames ∧ 0 ≤ R.locals) (ret : RetI p l e R s m args below meth c cX0_lift Qf (dmC G) (cfC G) tyC (exC G) D cy ad A Q) (h : wpX0_lift G i μ Q) (hi_i : 0 ≤ i ∧ i < G 0 0) (hc_i : G 1 i = 3) (hw : wdC G D cy ad A μ s H) (hS : va_S A s.heap H locs) (hl : lv_has ls 2 [(0, .ref (ad 2 i))]) : W p l e R s m args below meth c H locs 0 0 Qf (F0 m 0 ls []) := by
  have hx := F.1
  have hb := F.2.1
  have hown := F.2.2.2.1
  have hts := F.2.2.2.2
  refine lv_aload_n hx hb dX0_lift_0 rfl (lv_at hl 0 rfl) ?_
  refine gC_T_pin F hw hi_i hc_i tw2_229 (fun _ h => h) dX0_lift_1 ?_
  obtain ⟨g1, h⟩ := h
  refine q_if_lt (tgt := 19) hx hb g1 dX0_lift_4 (by decide) (fun c2 => ?_) (fun c2 => ?_)
  · have h := ite_t c2 h
    refine q_iconst hx hb dX0_lift_19 ?_
    exact ret _ _ _ _ _ _ h hw hS dX0_lift_20
  · have h := ite_f c2 h
    refine lv_aload_n hx hb dX0_lift_7 rfl (lv_at hl 0 rfl) ?_
    refine gC_T_pin F hw hi_i hc_i tw2_229 (fun _ h => h) dX0_lift_8 ?_
    refine lv_aload_n hx hb dX0_lift_11 rfl (lv_at hl 0 rfl) ?_
    refine gC_T_pins F hw hi_i hc_i tw2_227 (fun _ h => h) dX0_lift_12 ?_
    refine aC_10_ln hx hb hw ((And.intro hi_i hc_i)).1 ((And.intro hi_i hc_i)).2 dX0_lift_15 ?_
    obtain ⟨g3, h⟩ := h
    refine q_icmp_lt (tgt := 21) hx hb g1 g3 dX0_lift_16 (by decide) (fun c4 => ?_) (fun c4 => ?_)
    · have h := ite_t c4 h
      refine lv_aload_n hx hb dX0_lift_21 rfl (lv_at hl 0 rfl) ?_
      refine gC_T_pins F hw hi_i hc_i tw2_227 (fun _ h => h) dX0_lift_22 ?_
      refine lv_aload_n hx hb dX0_lift_25 rfl (lv_at hl 0 rfl) ?_
      refine gC_T_pin F hw hi_i hc_i tw2_229 (fun _ h => h) dX0_lift_26 ?_
      obtain ⟨g5, h⟩ := h
      obtain ⟨g6, h⟩ := h
      refine aC_10_ld hx hb hw ((And.intro hi_i hc_i)).1 ((And.intro hi_i hc_i)).2 g5 g6 dX0_lift_29 ?_
      obtain ⟨y7, ey7⟩ : ∃ z : Int, z = μ 10 0 (48 * i + (μ 2 16 i)) := ⟨_, rfl⟩
      have h := h y7 ey7
      refine q_nmI ey7 ?_
      refine lv_istore_n (lv' := [(1, .int (iI y7)), (0, .ref (ad 2 i))]) hx hb dX0_lift_30 rfl hl (by decide) rfl (fun ls hl => ?_)
      refine lv_aload_n hx hb dX0_lift_31 rfl (lv_at hl 1 rfl) ?_
      refine lv_aload_n hx hb dX0_lift_32 rfl (lv_at hl 1 rfl) ?_
      refine gC_T_pin F hw hi_i hc_i tw2_229 (fun _ h => h) dX0_lift_33 ?_
      refine q_iconst hx hb dX0_lift_36 ?_
      refine q_iadd hx hb dX0_lift_37 ?_
      refine lv_aload_n hx hb dX0_lift_38 rfl (lv_at hl 1 rfl) ?_
      refine gC_T_pins F hw hi_i hc_i tw2_227 (fun _ h => h) dX0_lift_39 ?_
      refine aC_10_ln hx hb hw ((And.intro hi_i hc_i)).1 ((And.intro hi_i hc_i)).2 dX0_lift_42 ?_
      obtain ⟨g8, h⟩ := h
      refine q_icmp_ge (tgt := 55) hx hb g8 g3 dX0_lift_43 (by decide) (fun c9 => ?_) (fun c9 => ?_)
      · have h := ite_t c9 h
        refine q_iconst hx hb dX0_lift_55 ?_
        obtain ⟨μ10, eμ10⟩ : ∃ z : MM, z = ms μ 2 16 i 0 := ⟨_, rfl⟩
        have h := h μ10 eμ10
        refine pC_T_pin F hw hS hi_i hc_i tw2_229 (fun _ h => h) eμ10 dX0_lift_56 (fun H locs hw hS => ?_)
        refine lv_iload_n hx hb dX0_lift_59 rfl (lv_at hl 0 rfl) ?_
        exact ret _ _ _ _ _ _ h hw hS dX0_lift_60
      · have h := ite_f c9 h
        refine lv_aload_n hx hb dX0_lift_46 rfl (lv_at hl 1 rfl) ?_
        refine gC_T_pin F hw hi_i hc_i tw2_229 (fun _ h => h) dX0_lift_47 ?_
        refine q_iconst hx hb dX0_lift_50 ?_
        refine q_iadd hx hb dX0_lift_51 ?_
        refine lv_goto (tgt := 56) hx hb dX0_lift_52 (by decide) ?_
        obtain ⟨μ11, eμ11⟩ : ∃ z : MM, z = ms μ 2 16 i ((μ 2 16 i) + 1) := ⟨_, rfl⟩
        have h := h μ11 eμ11
        refine pC_T_pin F hw hS hi_i hc_i tw2_229 (fun _ h => h) eμ11 dX0_lift_56 (fun H locs hw hS => ?_)
        refine lv_iload_n hx hb dX0_lift_59 rfl (lv_at hl 0 rfl) ?_
        exact ret _ _ _ _ _ _ h hw hS dX0_lift_60
    · have h := ite_f c4 h
      refine q_iconst hx hb dX0_lift_19 ?_
      exact ret _ _ _ _ _ _ h hw hS dX0_lift_20
set_option maxRecDepth 100000 in
set_option maxHeartbeats 4000000 in
theorem kX0_lift {l : Launch} {D : va_G} {cy : Nat → ClassId} {ad : AD} {A : Nat → Prop} {G : GG} {i : Int} {μ : MM} {Q : Int → MM → Prop} (h : wpX0_lift G i μ Q) (hi_i : 0 ≤ i ∧ i < G 0 0) (hc_i : G 1 i = 3) : Met l yX0_lift (Cond.code yX0_lift cX0_lift 2 (some .int) :: uw) (rmm 0 0) (wPc [.ref (ad 2 i)] (dmC G) (cfC G) tyC (exC G) D cy ad A μ) (wQ vI Q (dmC G) (cfC G) D cy ad A) 0 0 A :=
  met_of (by decide) (Nat.le_of_ble_eq_true rfl) (fun p e R s m args below meth c ls hr hk hRR F hA hw hS hl => wX0_lift F hA (by subst hRR; exact ⟨Nat.le_refl _, Nat.le_refl _⟩) (retI_of F hr hk) h hi_i hc_i hw hS hl)
theorem hdX0_lift : yX0_lift.cls ≠ "java/lang/invoke/MethodHandle" ∧ yX0_lift.cls ≠ "java/lang/invoke/VarHandle" ∧ (parseMethodDescriptor yX0_lift.desc).map (fun d => d.parameters.length) = some 0 := by decide +kernel
def wpX5_actAt (G : GG) (x1 : Int) (μ : MM) (Q : Int → MM → Prop) : Prop := rg x1 ∧ (if x1 < 0 then (Q (-9) μ) else (rg (μ 5 1 0) ∧ (if (μ 5 1 0) ≤ x1 then (Q (-9) μ) else (if 12 ≤ x1 then (Q (-9) μ) else (0 ≤ x1 ∧ (x1 < 12 ∧ (Q (μ 15 0 x1) μ)))))))
set_option maxRecDepth 100000 in
set_option maxHeartbeats 4000000 in
theorem wX5_actAt {G : GG} {Q : Int → MM → Prop} {x1 : Int} {μ : MM} {H : Heap} {locs : List Loc} {ls : Array Slot} (F : CallFix p m c cX5_actAt 2 s args uw RX5) (hA : ∀ q : Nat, s.heap.size ≤ q → A q) (hR : 0 ≤ R.frames ∧ 0 ≤ R.locals) (ret : RetI p l e R s m args below meth c cX5_actAt Qf (dmC G) (cfC G) tyC (exC G) D cy ad A Q) (h : wpX5_actAt G x1 μ Q) (hw : wdC G D cy ad A μ s H) (hS : va_S A s.heap H locs) (hl : lv_has ls 2 [(0, .ref (ad 5 0)), (1, .int (iI x1))]) : W p l e R s m args below meth c H locs 0 0 Qf (F0 m 0 ls []) := by
  have hx := F.1
  have hb := F.2.1
  have hown := F.2.2.2.1
  have hts := F.2.2.2.2
  refine lv_iload_n hx hb dX5_actAt_0 rfl (lv_at hl 1 rfl) ?_
  obtain ⟨g1, h⟩ := h
  refine q_if_lt (tgt := 30) hx hb g1 dX5_actAt_1 (by decide) (fun c2 => ?_) (fun c2 => ?_)
  · have h := ite_t c2 h
    refine q_bipush hx hb (by decide) dX5_actAt_30 ?_
    exact ret _ _ _ _ _ _ h hw hS dX5_actAt_32
  · have h := ite_f c2 h
    refine lv_iload_n hx hb dX5_actAt_4 rfl (lv_at hl 1 rfl) ?_
    refine lv_aload_n hx hb dX5_actAt_5 rfl (lv_at hl 0 rfl) ?_
    refine gC_A_count F hw tw1_37 dX5_actAt_6 ?_
    obtain ⟨g3, h⟩ := h
    refine q_icmp_ge (tgt := 30) hx hb g1 g3 dX5_actAt_9 (by decide) (fun c4 => ?_) (fun c4 => ?_)
    · have h := ite_t c4 h
      refine q_bipush hx hb (by decide) dX5_actAt_30 ?_
      exact ret _ _ _ _ _ _ h hw hS dX5_actAt_32
    · have h := ite_f c4 h
      refine lv_iload_n hx hb dX5_actAt_12 rfl (lv_at hl 1 rfl) ?_
      refine lv_aload_n hx hb dX5_actAt_13 rfl (lv_at hl 0 rfl) ?_
      refine gC_A_acts F hw tw1_36 dX5_actAt_14 ?_
      refine aC_15_ln hx hb hw dX5_actAt_17 ?_
      refine q_icmp_ge (tgt := 30) hx hb g1 (by decide) dX5_actAt_18 (by decide) (fun c5 => ?_) (fun c5 => ?_)
      · have h := ite_t c5 h
        refine q_bipush hx hb (by decide) dX5_actAt_30 ?_
        exact ret _ _ _ _ _ _ h hw hS dX5_actAt_32
      · have h := ite_f c5 h
        refine lv_aload_n hx hb dX5_actAt_21 rfl (lv_at hl 0 rfl) ?_
        refine gC_A_acts F hw tw1_36 dX5_actAt_22 ?_
        refine lv_iload_n hx hb dX5_actAt_25 rfl (lv_at hl 1 rfl) ?_
        obtain ⟨g6, h⟩ := h
        obtain ⟨g7, h⟩ := h
        refine aC_15_ld hx hb hw g6 g7 dX5_actAt_26 ?_
        refine lv_goto (tgt := 32) hx hb dX5_actAt_27 (by decide) ?_
        exact ret _ _ _ _ _ _ h hw hS dX5_actAt_32
set_option maxRecDepth 100000 in
set_option maxHeartbeats 4000000 in
theorem kX5_actAt {l : Launch} {D : va_G} {cy : Nat → ClassId} {ad : AD} {A : Nat → Prop} {G : GG} {x1 : Int} {μ : MM} {Q : Int → MM → Prop} (h : wpX5_actAt G x1 μ Q) : Met l yX5_actAt (Cond.code yX5_actAt cX5_actAt 2 (some .int) :: uw) (rmm 0 0) (wPc [.ref (ad 5 0), .int (iI x1)] (dmC G) (cfC G) tyC (exC G) D cy ad A μ) (wQ vI Q (dmC G) (cfC G) D cy ad A) 0 0 A :=
  met_of (by decide) (Nat.le_of_ble_eq_true rfl) (fun p e R s m args below meth c ls hr hk hRR F hA hw hS hl => wX5_actAt F hA (by subst hRR; exact ⟨Nat.le_refl _, Nat.le_refl _⟩) (retI_of F hr hk) h hw hS hl)
theorem hdX5_actAt : yX5_actAt.cls ≠ "java/lang/invoke/MethodHandle" ∧ yX5_actAt.cls ≠ "java/lang/invoke/VarHandle" ∧ (parseMethodDescriptor yX5_actAt.desc).map (fun d => d.parameters.length) = some 1 := by decide +kernel
def wpX10_act (G : GG) (x1 : Int) (μ : MM) (Q : Int → MM → Prop) : Prop := wpX5_actAt G x1 μ (fun v1 μ2 => Q v1 μ2)
set_option maxRecDepth 100000 in
set_option maxHeartbeats 4000000 in
theorem wX10_act {G : GG} {Q : Int → MM → Prop} {x1 : Int} {μ : MM} {H : Heap} {locs : List Loc} {ls : Array Slot} (F : CallFix p m c cX10_act 2 s args uw RX10) (hA : ∀ q : Nat, s.heap.size ≤ q → A q) (hR : 1 ≤ R.frames ∧ 21 ≤ R.locals) (ret : RetI p l e R s m args below meth c cX10_act Qf (dmC G) (cfC G) tyC (exC G) D cy ad A Q) (h : wpX10_act G x1 μ Q) (hw : wdC G D cy ad A μ s H) (hS : va_S A s.heap H locs) (hl : lv_has ls 2 [(0, .ref (ad 0 0)), (1, .int (iI x1))]) : W p l e R s m args below meth c H locs 0 0 Qf (F0 m 0 ls []) := by
  have hx := F.1
  have hb := F.2.1
  have hown := F.2.2.2.1
  have hts := F.2.2.2.2
  refine lv_aload_n hx hb dX10_act_0 rfl (lv_at hl 0 rfl) ?_
  refine gC_H_righting F hw tw1_211 dX10_act_1 ?_
  refine lv_iload_n hx hb dX10_act_4 rfl (lv_at hl 1 rfl) ?_
  refine call_V hexC F (kX5_actAt h) 1 tw4_129 tw1_2 tw4_127 tw4_128 tw4_126 hdX5_actAt ⟨Nat.le_trans (by decide) hR.1, Nat.le_trans (by decide) hR.2⟩ (hw.recv (k := 5) (i := 0) rfl rfl rfl) hA hw hS rfl hl.1 rfl (Nat.le_of_ble_eq_true rfl) dX10_act_5 (fun v1 μ2 H locs h hw hS => ?_)
  exact ret _ _ _ _ _ _ h hw hS dX10_act_8
set_option maxRecDepth 100000 in
set_option maxHeartbeats 4000000 in
theorem kX10_act {l : Launch} {D : va_G} {cy : Nat → ClassId} {ad : AD} {A : Nat → Prop} {G : GG} {x1 : Int} {μ : MM} {Q : Int → MM → Prop} (h : wpX10_act G x1 μ Q) : Met l yX10_act (Cond.code yX10_act cX10_act 2 (some .int) :: uw) (rmm 1 21) (wPc [.ref (ad 0 0), .int (iI x1)] (dmC G) (cfC G) tyC (exC G) D cy ad A μ) (wQ vI Q (dmC G) (cfC G) D cy ad A) 0 0 A :=
  met_of (by decide) (Nat.le_of_ble_eq_true rfl) (fun p e R s m args below meth c ls hr hk hRR F hA hw hS hl => wX10_act F hA (by subst hRR; exact ⟨Nat.le_refl _, Nat.le_refl _⟩) (retI_of F hr hk) h hw hS hl)
theorem hdX10_act : yX10_act.cls ≠ "java/lang/invoke/MethodHandle" ∧ yX10_act.cls ≠ "java/lang/invoke/VarHandle" ∧ (parseMethodDescriptor yX10_act.desc).map (fun d => d.parameters.length) = some 1 := by decide +kernel
def wpX10_found (G : GG) (x1 : Int) (μ : MM) (Q : Int → MM → Prop) : Prop := ∀ μ1 : MM, μ1 = ms μ 0 12 0 x1 → (rg x1 ∧ (if x1 < 0 then (Q (-3) μ1) else (if 6 ≤ x1 then (Q (-3) μ1) else (0 ≤ x1 ∧ (x1 < 6 ∧ (∀ μ7 : MM, μ7 = ms μ1 19 0 x1 ((μ1 19 0 x1) + 1) → (Q (-3) μ7)))))))
set_option maxRecDepth 100000 in
set_option maxHeartbeats 4000000 in
theorem wX10_found {G : GG} {Q : Int → MM → Prop} {x1 : Int} {μ : MM} {H : Heap} {locs : List Loc} {ls : Array Slot} (F : CallFix p m c cX10_found 2 s args uw RX10) (hA : ∀ q : Nat, s.heap.size ≤ q → A q) (hR : 0 ≤ R.frames ∧ 0 ≤ R.locals) (ret : RetI p l e R s m args below meth c cX10_found Qf (dmC G) (cfC G) tyC (exC G) D cy ad A Q) (h : wpX10_found G x1 μ Q) (hw : wdC G D cy ad A μ s H) (hS : va_S A s.heap H locs) (hl : lv_has ls 2 [(0, .ref (ad 0 0)), (1, .int (iI x1))]) : W p l e R s m args below meth c H locs 0 0 Qf (F0 m 0 ls []) := by
  have hx := F.1
  have hb := F.2.1
  have hown := F.2.2.2.1
  have hts := F.2.2.2.2
  refine lv_aload_n hx hb dX10_found_0 rfl (lv_at hl 0 rfl) ?_
  refine lv_iload_n hx hb dX10_found_1 rfl (lv_at hl 1 rfl) ?_
  obtain ⟨μ1, eμ1⟩ : ∃ z : MM, z = ms μ 0 12 0 x1 := ⟨_, rfl⟩
  have h := h μ1 eμ1
  refine pC_H_finding F hw hS tw1_218 eμ1 dX10_found_2 (fun H locs hw hS => ?_)
  refine lv_iload_n hx hb dX10_found_5 rfl (lv_at hl 1 rfl) ?_
  obtain ⟨g2, h⟩ := h
  refine q_if_lt (tgt := 28) hx hb g2 dX10_found_6 (by decide) (fun c3 => ?_) (fun c3 => ?_)
  · have h := ite_t c3 h
    refine q_bipush hx hb (by decide) dX10_found_28 ?_
    exact ret _ _ _ _ _ _ h hw hS dX10_found_30
  · have h := ite_f c3 h
    refine lv_iload_n hx hb dX10_found_9 rfl (lv_at hl 1 rfl) ?_
    refine lv_aload_n hx hb dX10_found_10 rfl (lv_at hl 0 rfl) ?_
    refine gC_H_findingCounts F hw tw1_219 dX10_found_11 ?_
    refine aC_19_ln hx hb hw dX10_found_14 ?_
    refine q_icmp_ge (tgt := 28) hx hb g2 (by decide) dX10_found_15 (by decide) (fun c4 => ?_) (fun c4 => ?_)
    · have h := ite_t c4 h
      refine q_bipush hx hb (by decide) dX10_found_28 ?_
      exact ret _ _ _ _ _ _ h hw hS dX10_found_30
    · have h := ite_f c4 h
      refine lv_aload_n hx hb dX10_found_18 rfl (lv_at hl 0 rfl) ?_
      refine gC_H_findingCounts F hw tw1_219 dX10_found_19 ?_
      refine lv_iload_n hx hb dX10_found_22 rfl (lv_at hl 1 rfl) ?_
      refine lv_dup2_11 hx hb dX10_found_23 rfl rfl ?_
      obtain ⟨g5, h⟩ := h
      obtain ⟨g6, h⟩ := h
      refine aC_19_ld hx hb hw g5 g6 dX10_found_24 ?_
      refine q_iconst hx hb dX10_found_25 ?_
      refine q_iadd hx hb dX10_found_26 ?_
      obtain ⟨μ7, eμ7⟩ : ∃ z : MM, z = ms μ1 19 0 x1 ((μ1 19 0 x1) + 1) := ⟨_, rfl⟩
      have h := h μ7 eμ7
      refine aC_19_st hx hb hw hS g5 g6 eμ7 dX10_found_27 (fun H locs hw hS => ?_)
      refine q_bipush hx hb (by decide) dX10_found_28 ?_
      exact ret _ _ _ _ _ _ h hw hS dX10_found_30
set_option maxRecDepth 100000 in
set_option maxHeartbeats 4000000 in
theorem kX10_found {l : Launch} {D : va_G} {cy : Nat → ClassId} {ad : AD} {A : Nat → Prop} {G : GG} {x1 : Int} {μ : MM} {Q : Int → MM → Prop} (h : wpX10_found G x1 μ Q) : Met l yX10_found (Cond.code yX10_found cX10_found 2 (some .int) :: uw) (rmm 0 0) (wPc [.ref (ad 0 0), .int (iI x1)] (dmC G) (cfC G) tyC (exC G) D cy ad A μ) (wQ vI Q (dmC G) (cfC G) D cy ad A) 0 0 A :=
  met_of (by decide) (Nat.le_of_ble_eq_true rfl) (fun p e R s m args below meth c ls hr hk hRR F hA hw hS hl => wX10_found F hA (by subst hRR; exact ⟨Nat.le_refl _, Nat.le_refl _⟩) (retI_of F hr hk) h hw hS hl)
theorem hdX10_found : yX10_found.cls ≠ "java/lang/invoke/MethodHandle" ∧ yX10_found.cls ≠ "java/lang/invoke/VarHandle" ∧ (parseMethodDescriptor yX10_found.desc).map (fun d => d.parameters.length) = some 1 := by decide +kernel
def wpX10_towerOf (G : GG) (x1 : Int) (μ : MM) (Q : Int → MM → Prop) : Prop := rg x1 ∧ (if x1 < 0 then (Q (-1) μ) else (if 4 ≤ x1 then (Q (-1) μ) else (0 ≤ x1 ∧ (x1 < 4 ∧ (Q x1 μ)))))
set_option maxRecDepth 100000 in
set_option maxHeartbeats 4000000 in
theorem wX10_towerOf {G : GG} {Q : Int → MM → Prop} {x1 : Int} {μ : MM} {H : Heap} {locs : List Loc} {ls : Array Slot} (F : CallFix p m c cX10_towerOf 2 s args uw RX10) (hA : ∀ q : Nat, s.heap.size ≤ q → A q) (hR : 0 ≤ R.frames ∧ 0 ≤ R.locals) (ret : RetR 3 p l e R s m args below meth c cX10_towerOf Qf (dmC G) (cfC G) tyC (exC G) D cy ad A Q) (h : wpX10_towerOf G x1 μ Q) (hw : wdC G D cy ad A μ s H) (hS : va_S A s.heap H locs) (hl : lv_has ls 2 [(0, .ref (ad 0 0)), (1, .int (iI x1))]) : W p l e R s m args below meth c H locs 0 0 Qf (F0 m 0 ls []) := by
  have hx := F.1
  have hb := F.2.1
  have hown := F.2.2.2.1
  have hts := F.2.2.2.2
  refine lv_iload_n hx hb dX10_towerOf_0 rfl (lv_at hl 1 rfl) ?_
  obtain ⟨g1, h⟩ := h
  refine q_if_lt (tgt := 22) hx hb g1 dX10_towerOf_1 (by decide) (fun c2 => ?_) (fun c2 => ?_)
  · have h := ite_t c2 h
    refine lv_null hx hb dX10_towerOf_22 ?_
    exact (rf_neg (ad := ad) (k := 3) (x := -1) (by decide)) ▸ ret (-1) _ _ _ _ _ h hw hS dX10_towerOf_23
  · have h := ite_f c2 h
    refine lv_iload_n hx hb dX10_towerOf_4 rfl (lv_at hl 1 rfl) ?_
    refine lv_aload_n hx hb dX10_towerOf_5 rfl (lv_at hl 0 rfl) ?_
    refine gC_H_towers F hw tw1_209 dX10_towerOf_6 ?_
    refine aC_22_ln hx hb hw dX10_towerOf_9 ?_
    refine q_icmp_ge (tgt := 22) hx hb g1 (by decide) dX10_towerOf_10 (by decide) (fun c3 => ?_) (fun c3 => ?_)
    · have h := ite_t c3 h
      refine lv_null hx hb dX10_towerOf_22 ?_
      exact (rf_neg (ad := ad) (k := 3) (x := -1) (by decide)) ▸ ret (-1) _ _ _ _ _ h hw hS dX10_towerOf_23
    · have h := ite_f c3 h
      refine lv_aload_n hx hb dX10_towerOf_13 rfl (lv_at hl 0 rfl) ?_
      refine gC_H_towers F hw tw1_209 dX10_towerOf_14 ?_
      refine lv_iload_n hx hb dX10_towerOf_17 rfl (lv_at hl 1 rfl) ?_
      obtain ⟨g4, h⟩ := h
      obtain ⟨g5, h⟩ := h
      refine aC_22_ld hx hb hw g4 g5 dX10_towerOf_18 ?_
      refine lv_goto (tgt := 23) hx hb dX10_towerOf_19 (by decide) ?_
      exact (rf_pos (ad := ad) (k := 3) ((And.intro g4 g5)).1) ▸ ret _ _ _ _ _ _ h hw hS dX10_towerOf_23
set_option maxRecDepth 100000 in
set_option maxHeartbeats 4000000 in
theorem kX10_towerOf {l : Launch} {D : va_G} {cy : Nat → ClassId} {ad : AD} {A : Nat → Prop} {G : GG} {x1 : Int} {μ : MM} {Q : Int → MM → Prop} (h : wpX10_towerOf G x1 μ Q) : Met l yX10_towerOf (Cond.code yX10_towerOf cX10_towerOf 2 (some (.object "HammerTowers$Tower")) :: uw) (rmm 0 0) (wPc [.ref (ad 0 0), .int (iI x1)] (dmC G) (cfC G) tyC (exC G) D cy ad A μ) (wQ (vR ad 3) Q (dmC G) (cfC G) D cy ad A) 0 0 A :=
  met_of (by decide) (Nat.le_of_ble_eq_true rfl) (fun p e R s m args below meth c ls hr hk hRR F hA hw hS hl => wX10_towerOf F hA (by subst hRR; exact ⟨Nat.le_refl _, Nat.le_refl _⟩) (retR_of F hr hk) h hw hS hl)
theorem hdX10_towerOf : yX10_towerOf.cls ≠ "java/lang/invoke/MethodHandle" ∧ yX10_towerOf.cls ≠ "java/lang/invoke/VarHandle" ∧ (parseMethodDescriptor yX10_towerOf.desc).map (fun d => d.parameters.length) = some 1 := by decide +kernel
def wpX10_ahead_J39 (G : GG) (Q : Int → MM → Prop) (μ : MM) : Prop := wpX10_found G 1 μ (fun v1 μ2 => Q v1 μ2)
set_option maxRecDepth 100000 in
set_option maxHeartbeats 4000000 in
theorem wX10_ahead_J39 {G : GG} {Q : Int → MM → Prop} {μ : MM} {H : Heap} {locs : List Loc} {ls : Array Slot} (F : CallFix p m c cX10_ahead 6 s args uw RX10) (hA : ∀ q : Nat, s.heap.size ≤ q → A q) (hR : 1 ≤ R.frames ∧ 22 ≤ R.locals) (ret : RetI p l e R s m args below meth c cX10_ahead Qf (dmC G) (cfC G) tyC (exC G) D cy ad A Q) (h : wpX10_ahead_J39 G Q μ) (hw : wdC G D cy ad A μ s H) (hS : va_S A s.heap H locs) (hl : lv_has ls 6 [(0, .ref (ad 0 0))]) : W p l e R s m args below meth c H locs 0 0 Qf (F0 m 39 ls []) := by
  have hx := F.1
  have hb := F.2.1
  have hown := F.2.2.2.1
  have hts := F.2.2.2.2
  refine lv_aload_n hx hb dX10_ahead_39 rfl (lv_at hl 0 rfl) ?_
  refine q_iconst hx hb dX10_ahead_40 ?_
  refine call_V hexC F (kX10_found h) 1 tw2_20 tw1_1 tw2_19 tws1_1 tw2_17 hdX10_found ⟨Nat.le_trans (by decide) hR.1, Nat.le_trans (by decide) hR.2⟩ (hw.recv (k := 0) (i := 0) rfl rfl rfl) hA hw hS rfl hl.1 rfl (Nat.le_of_ble_eq_true rfl) dX10_ahead_41 (fun v1 μ2 H locs h hw hS => ?_)
  exact ret _ _ _ _ _ _ h hw hS dX10_ahead_44
def wpX10_ahead (G : GG) (x1 : Int) (x2 : Int) (μ : MM) (Q : Int → MM → Prop) : Prop := wpX10_towerOf G x1 μ (fun v1 μ2 => wpX10_towerOf G x2 μ2 (fun v3 μ4 => if v1 < 0 then (Q (-1) μ4) else (v1 < 4 ∧ (if v3 < 0 then (Q (-1) μ4) else (v3 < 4 ∧ (rg (μ4 3 0 v1) ∧ (if (μ4 3 0 v1) = 0 then (wpX10_ahead_J39 G Q  μ4) else (rg (μ4 3 0 v3) ∧ (if (μ4 3 0 v3) = 0 then (wpX10_ahead_J39 G Q  μ4) else (wpJ9_floorMod_7cf53 G ((μ4 3 1 v1) - (μ4 3 1 v3)) 1440 μ4 (fun v15 μ16 => rg v15 ∧ (if v15 ≤ 720 then (Q v15 μ16) else (Q (v15 - 1440) μ16)))))))))))))
set_option maxRecDepth 100000 in
set_option maxHeartbeats 4000000 in
theorem wX10_ahead {G : GG} {Q : Int → MM → Prop} {x1 : Int} {x2 : Int} {μ : MM} {H : Heap} {locs : List Loc} {ls : Array Slot} (F : CallFix p m c cX10_ahead 6 s args uw RX10) (hA : ∀ q : Nat, s.heap.size ≤ q → A q) (hR : 1 ≤ R.frames ∧ 22 ≤ R.locals) (ret : RetI p l e R s m args below meth c cX10_ahead Qf (dmC G) (cfC G) tyC (exC G) D cy ad A Q) (h : wpX10_ahead G x1 x2 μ Q) (hw : wdC G D cy ad A μ s H) (hS : va_S A s.heap H locs) (hl : lv_has ls 6 [(0, .ref (ad 0 0)), (1, .int (iI x1)), (2, .int (iI x2))]) : W p l e R s m args below meth c H locs 0 0 Qf (F0 m 0 ls []) := by
  have hx := F.1
  have hb := F.2.1
  have hown := F.2.2.2.1
  have hts := F.2.2.2.2
  refine lv_aload_n hx hb dX10_ahead_0 rfl (lv_at hl 0 rfl) ?_
  refine lv_iload_n hx hb dX10_ahead_1 rfl (lv_at hl 1 rfl) ?_
  refine call_V hexC F (kX10_towerOf h) 1 tw3_99 tw1_1 tw3_98 tws1_5 tw3_96 hdX10_towerOf ⟨Nat.le_trans (by decide) hR.1, Nat.le_trans (by decide) hR.2⟩ (hw.recv (k := 0) (i := 0) rfl rfl rfl) hA hw hS rfl hl.1 rfl (Nat.le_of_ble_eq_true rfl) dX10_ahead_2 (fun v1 μ2 H locs h hw hS => ?_)
  refine q_astore_n (lv' := [(3, rf ad 3 v1), (0, .ref (ad 0 0)), (1, .int (iI x1)), (2, .int (iI x2))]) hx hb dX10_ahead_5 rfl hl (by decide) rfl (fun ls hl => ?_)
  refine lv_aload_n hx hb dX10_ahead_6 rfl (lv_at hl 1 rfl) ?_
  refine lv_iload_n hx hb dX10_ahead_7 rfl (lv_at hl 3 rfl) ?_
  refine call_V hexC F (kX10_towerOf h) 1 tw3_99 tw1_1 tw3_98 tws1_5 tw3_96 hdX10_towerOf ⟨Nat.le_trans (by decide) hR.1, Nat.le_trans (by decide) hR.2⟩ (hw.recv (k := 0) (i := 0) rfl rfl rfl) hA hw hS rfl hl.1 rfl (Nat.le_of_ble_eq_true rfl) dX10_ahead_8 (fun v3 μ4 H locs h hw hS => ?_)
  refine q_astore (lv' := [(4, rf ad 3 v3), (3, rf ad 3 v1), (0, .ref (ad 0 0)), (1, .int (iI x1)), (2, .int (iI x2))]) hx hb dX10_ahead_11 hl (by decide) (by simp [rf_cat]) (fun ls hl => ?_)
  refine q_aload_n hx hb dX10_ahead_13 rfl (lv_at hl 1 rfl) ?_
  refine q_ifnull (tgt := 22) hx hb dX10_ahead_14 (by decide) (fun c5 => ?_) (fun c5 => ?_)
  · have h := ite_t c5 h
    refine q_iconst hx hb dX10_ahead_22 ?_
    exact ret _ _ _ _ _ _ h hw hS dX10_ahead_23
  · have h := ite_f c5 h
    obtain ⟨g6, h⟩ := h
    have hi7 : 0 ≤ v1 ∧ v1 < 4 := ⟨by omega, g6⟩
    have hl : lv_has ls 6 [(4, rf ad 3 v3), (3, .ref (ad 3 v1)), (0, .ref (ad 0 0)), (1, .int (iI x1)), (2, .int (iI x2))] := by rw [← rf_pos (ad := ad) (k := 3) hi7.1]; exact hl
    refine q_aload hx hb dX10_ahead_17 (lv_at hl 0 rfl) ?_
    refine q_ifnonnull (tgt := 24) hx hb dX10_ahead_19 (by decide) (fun c8 => ?_) (fun c8 => ?_)
    · have h := ite_t c8 h
      refine q_iconst hx hb dX10_ahead_22 ?_
      exact ret _ _ _ _ _ _ h hw hS dX10_ahead_23
    · have h := ite_f c8 h
      obtain ⟨g9, h⟩ := h
      have hi10 : 0 ≤ v3 ∧ v3 < 4 := ⟨by omega, g9⟩
      have hl : lv_has ls 6 [(4, .ref (ad 3 v3)), (3, .ref (ad 3 v1)), (0, .ref (ad 0 0)), (1, .int (iI x1)), (2, .int (iI x2))] := by rw [← rf_pos (ad := ad) (k := 3) hi10.1]; exact hl
      refine lv_aload_n hx hb dX10_ahead_24 rfl (lv_at hl 1 rfl) ?_
      refine gC_W_there F hw hi7 tw1_163 dX10_ahead_25 ?_
      obtain ⟨g11, h⟩ := h
      refine q_if_eq (tgt := 39) hx hb g11 dX10_ahead_28 (by decide) (fun c12 => ?_) (fun c12 => ?_)
      · have h := ite_t c12 h
        exact wX10_ahead_J39 F hA hR ret h hw hS (lv_sub hl [2] rfl)
      · have h := ite_f c12 h
        refine lv_aload hx hb dX10_ahead_31 (lv_at hl 0 rfl) ?_
        refine gC_W_there F hw hi10 tw1_163 dX10_ahead_33 ?_
        obtain ⟨g13, h⟩ := h
        refine q_if_ne (tgt := 45) hx hb g13 dX10_ahead_36 (by decide) (fun c14 => ?_) (fun c14 => ?_)
        · have h := ite_f c14 h
          refine lv_aload_n hx hb dX10_ahead_45 rfl (lv_at hl 1 rfl) ?_
          refine gC_W_hands F hw hi7 tw1_165 dX10_ahead_46 ?_
          refine lv_aload hx hb dX10_ahead_49 (lv_at hl 0 rfl) ?_
          refine gC_W_hands F hw hi10 tw1_165 dX10_ahead_51 ?_
          refine q_isub hx hb dX10_ahead_54 ?_
          refine q_sipush hx hb (by decide) dX10_ahead_55 ?_
          refine call_S hexC F (kJ9_floorMod_7cf53 h) 2 tw3_165 tw1_13 tw3_164 tw3_200 hdJ9_floorMod_7cf53 ⟨Nat.le_trans (by decide) hR.1, Nat.le_trans (by decide) hR.2⟩ hA hw hS rfl hl.1 rfl (Nat.le_of_ble_eq_true rfl) dX10_ahead_58 (fun v15 μ16 H locs h hw hS => ?_)
          refine lv_istore (lv' := [(5, .int (iI v15)), (4, .ref (ad 3 v3)), (3, .ref (ad 3 v1)), (0, .ref (ad 0 0)), (1, .int (iI x1)), (2, .int (iI x2))]) hx hb dX10_ahead_61 hl (by decide) rfl (fun ls hl => ?_)
          refine lv_iload hx hb dX10_ahead_63 (lv_at hl 0 rfl) ?_
          refine q_sipush hx hb (by decide) dX10_ahead_65 ?_
          obtain ⟨g17, h⟩ := h
          refine q_icmp_le (tgt := 80) hx hb g17 (by decide) dX10_ahead_68 (by decide) (fun c18 => ?_) (fun c18 => ?_)
          · have h := ite_t c18 h
            refine lv_iload hx hb dX10_ahead_80 (lv_at hl 0 rfl) ?_
            exact ret _ _ _ _ _ _ h hw hS dX10_ahead_82
          · have h := ite_f c18 h
            refine lv_iload hx hb dX10_ahead_71 (lv_at hl 0 rfl) ?_
            refine q_sipush hx hb (by decide) dX10_ahead_73 ?_
            refine q_isub hx hb dX10_ahead_76 ?_
            refine lv_goto (tgt := 82) hx hb dX10_ahead_77 (by decide) ?_
            exact ret _ _ _ _ _ _ h hw hS dX10_ahead_82
        · have h := ite_t c14 h
          exact wX10_ahead_J39 F hA hR ret h hw hS (lv_sub hl [2] rfl)
set_option maxRecDepth 100000 in
set_option maxHeartbeats 4000000 in
theorem kX10_ahead {l : Launch} {D : va_G} {cy : Nat → ClassId} {ad : AD} {A : Nat → Prop} {G : GG} {x1 : Int} {x2 : Int} {μ : MM} {Q : Int → MM → Prop} (h : wpX10_ahead G x1 x2 μ Q) : Met l yX10_ahead (Cond.code yX10_ahead cX10_ahead 6 (some .int) :: uw) (rmm 1 22) (wPc [.ref (ad 0 0), .int (iI x1), .int (iI x2)] (dmC G) (cfC G) tyC (exC G) D cy ad A μ) (wQ vI Q (dmC G) (cfC G) D cy ad A) 0 0 A :=
  met_of (by decide) (Nat.le_of_ble_eq_true rfl) (fun p e R s m args below meth c ls hr hk hRR F hA hw hS hl => wX10_ahead F hA (by subst hRR; exact ⟨Nat.le_refl _, Nat.le_refl _⟩) (retI_of F hr hk) h hw hS hl)
theorem hdX10_ahead : yX10_ahead.cls ≠ "java/lang/invoke/MethodHandle" ∧ yX10_ahead.cls ≠ "java/lang/invoke/VarHandle" ∧ (parseMethodDescriptor yX10_ahead.desc).map (fun d => d.parameters.length) = some 2 := by decide +kernel
def wpX10_asked (G : GG) (μ : MM) (Q : Int → MM → Prop) : Prop := Q (μ 0 11 0) μ
set_option maxRecDepth 100000 in
set_option maxHeartbeats 4000000 in
theorem wX10_asked {G : GG} {Q : Int → MM → Prop} {μ : MM} {H : Heap} {locs : List Loc} {ls : Array Slot} (F : CallFix p m c cX10_asked 1 s args uw RX10) (hA : ∀ q : Nat, s.heap.size ≤ q → A q) (hR : 0 ≤ R.frames ∧ 0 ≤ R.locals) (ret : RetI p l e R s m args below meth c cX10_asked Qf (dmC G) (cfC G) tyC (exC G) D cy ad A Q) (h : wpX10_asked G μ Q) (hw : wdC G D cy ad A μ s H) (hS : va_S A s.heap H locs) (hl : lv_has ls 1 [(0, .ref (ad 0 0))]) : W p l e R s m args below meth c H locs 0 0 Qf (F0 m 0 ls []) := by
  have hx := F.1
  have hb := F.2.1
  have hown := F.2.2.2.1
  have hts := F.2.2.2.2
  refine lv_aload_n hx hb dX10_asked_0 rfl (lv_at hl 0 rfl) ?_
  refine gC_H_asked F hw tw1_217 dX10_asked_1 ?_
  exact ret _ _ _ _ _ _ h hw hS dX10_asked_4
set_option maxRecDepth 100000 in
set_option maxHeartbeats 4000000 in
theorem kX10_asked {l : Launch} {D : va_G} {cy : Nat → ClassId} {ad : AD} {A : Nat → Prop} {G : GG} {μ : MM} {Q : Int → MM → Prop} (h : wpX10_asked G μ Q) : Met l yX10_asked (Cond.code yX10_asked cX10_asked 1 (some .int) :: uw) (rmm 0 0) (wPc [.ref (ad 0 0)] (dmC G) (cfC G) tyC (exC G) D cy ad A μ) (wQ vI Q (dmC G) (cfC G) D cy ad A) 0 0 A :=
  met_of (by decide) (Nat.le_of_ble_eq_true rfl) (fun p e R s m args below meth c ls hr hk hRR F hA hw hS hl => wX10_asked F hA (by subst hRR; exact ⟨Nat.le_refl _, Nat.le_refl _⟩) (retI_of F hr hk) h hw hS hl)
theorem hdX10_asked : yX10_asked.cls ≠ "java/lang/invoke/MethodHandle" ∧ yX10_asked.cls ≠ "java/lang/invoke/VarHandle" ∧ (parseMethodDescriptor yX10_asked.desc).map (fun d => d.parameters.length) = some 0 := by decide +kernel
def wpX10_back (G : GG) (x1 : Int) (x2 : Int) (μ : MM) (Q : Int → MM → Prop) : Prop := wpX10_towerOf G x1 μ (fun v1 μ2 => if v1 < 0 then (Q (-1) μ2) else (v1 < 4 ∧ (rg x2 ∧ (if x2 < 0 then (Q (-1) μ2) else (if x2 ≤ 1500 then (rg (μ2 3 0 v1) ∧ (if (μ2 3 0 v1) = 0 then (wpX10_found G 1 μ2 (fun v14 μ15 => Q v14 μ15)) else (wpJ9_floorMod_7cf53 G ((μ2 3 1 v1) - x2) 1440 μ2 (fun v11 μ12 => ∀ μ13 : MM, μ13 = ms μ12 3 1 v1 v11 → (Q (μ13 3 1 v1) μ13))))) else (Q (-1) μ2))))))
set_option maxRecDepth 100000 in
set_option maxHeartbeats 4000000 in
theorem wX10_back {G : GG} {Q : Int → MM → Prop} {x1 : Int} {x2 : Int} {μ : MM} {H : Heap} {locs : List Loc} {ls : Array Slot} (F : CallFix p m c cX10_back 4 s args uw RX10) (hA : ∀ q : Nat, s.heap.size ≤ q → A q) (hR : 1 ≤ R.frames ∧ 22 ≤ R.locals) (ret : RetI p l e R s m args below meth c cX10_back Qf (dmC G) (cfC G) tyC (exC G) D cy ad A Q) (h : wpX10_back G x1 x2 μ Q) (hw : wdC G D cy ad A μ s H) (hS : va_S A s.heap H locs) (hl : lv_has ls 4 [(0, .ref (ad 0 0)), (1, .int (iI x1)), (2, .int (iI x2))]) : W p l e R s m args below meth c H locs 0 0 Qf (F0 m 0 ls []) := by
  have hx := F.1
  have hb := F.2.1
  have hown := F.2.2.2.1
  have hts := F.2.2.2.2
  refine lv_aload_n hx hb dX10_back_0 rfl (lv_at hl 0 rfl) ?_
  refine lv_iload_n hx hb dX10_back_1 rfl (lv_at hl 1 rfl) ?_
  refine call_V hexC F (kX10_towerOf h) 1 tw3_99 tw1_1 tw3_98 tws1_5 tw3_96 hdX10_towerOf ⟨Nat.le_trans (by decide) hR.1, Nat.le_trans (by decide) hR.2⟩ (hw.recv (k := 0) (i := 0) rfl rfl rfl) hA hw hS rfl hl.1 rfl (Nat.le_of_ble_eq_true rfl) dX10_back_2 (fun v1 μ2 H locs h hw hS => ?_)
  refine q_astore_n (lv' := [(3, rf ad 3 v1), (0, .ref (ad 0 0)), (1, .int (iI x1)), (2, .int (iI x2))]) hx hb dX10_back_5 rfl hl (by decide) rfl (fun ls hl => ?_)
  refine q_aload_n hx hb dX10_back_6 rfl (lv_at hl 0 rfl) ?_
  refine q_ifnull (tgt := 21) hx hb dX10_back_7 (by decide) (fun c3 => ?_) (fun c3 => ?_)
  · have h := ite_t c3 h
    refine q_iconst hx hb dX10_back_21 ?_
    exact ret _ _ _ _ _ _ h hw hS dX10_back_22
  · have h := ite_f c3 h
    obtain ⟨g4, h⟩ := h
    have hi5 : 0 ≤ v1 ∧ v1 < 4 := ⟨by omega, g4⟩
    have hl : lv_has ls 4 [(3, .ref (ad 3 v1)), (0, .ref (ad 0 0)), (1, .int (iI x1)), (2, .int (iI x2))] := by rw [← rf_pos (ad := ad) (k := 3) hi5.1]; exact hl
    refine lv_iload_n hx hb dX10_back_10 rfl (lv_at hl 3 rfl) ?_
    obtain ⟨g6, h⟩ := h
    refine q_if_lt (tgt := 21) hx hb g6 dX10_back_11 (by decide) (fun c7 => ?_) (fun c7 => ?_)
    · have h := ite_t c7 h
      refine q_iconst hx hb dX10_back_21 ?_
      exact ret _ _ _ _ _ _ h hw hS dX10_back_22
    · have h := ite_f c7 h
      refine lv_iload_n hx hb dX10_back_14 rfl (lv_at hl 3 rfl) ?_
      refine q_sipush hx hb (by decide) dX10_back_15 ?_
      refine q_icmp_le (tgt := 23) hx hb g6 (by decide) dX10_back_18 (by decide) (fun c8 => ?_) (fun c8 => ?_)
      · have h := ite_t c8 h
        refine lv_aload_n hx hb dX10_back_23 rfl (lv_at hl 0 rfl) ?_
        refine gC_W_there F hw hi5 tw1_163 dX10_back_24 ?_
        obtain ⟨g9, h⟩ := h
        refine q_if_ne (tgt := 36) hx hb g9 dX10_back_27 (by decide) (fun c10 => ?_) (fun c10 => ?_)
        · have h := ite_f c10 h
          refine lv_aload_n hx hb dX10_back_36 rfl (lv_at hl 0 rfl) ?_
          refine lv_aload_n hx hb dX10_back_37 rfl (lv_at hl 0 rfl) ?_
          refine gC_W_hands F hw hi5 tw1_165 dX10_back_38 ?_
          refine lv_iload_n hx hb dX10_back_41 rfl (lv_at hl 3 rfl) ?_
          refine q_isub hx hb dX10_back_42 ?_
          refine q_sipush hx hb (by decide) dX10_back_43 ?_
          refine call_S hexC F (kJ9_floorMod_7cf53 h) 2 tw3_165 tw1_13 tw3_164 tw3_200 hdJ9_floorMod_7cf53 ⟨Nat.le_trans (by decide) hR.1, Nat.le_trans (by decide) hR.2⟩ hA hw hS rfl hl.1 rfl (Nat.le_of_ble_eq_true rfl) dX10_back_46 (fun v11 μ12 H locs h hw hS => ?_)
          obtain ⟨μ13, eμ13⟩ : ∃ z : MM, z = ms μ12 3 1 v1 v11 := ⟨_, rfl⟩
          have h := h μ13 eμ13
          refine pC_W_hands F hw hS hi5 tw1_165 eμ13 dX10_back_49 (fun H locs hw hS => ?_)
          refine lv_aload_n hx hb dX10_back_52 rfl (lv_at hl 0 rfl) ?_
          refine gC_W_hands F hw hi5 tw1_165 dX10_back_53 ?_
          exact ret _ _ _ _ _ _ h hw hS dX10_back_56
        · have h := ite_t c10 h
          refine lv_aload_n hx hb dX10_back_30 rfl (lv_at hl 1 rfl) ?_
          refine q_iconst hx hb dX10_back_31 ?_
          refine call_V hexC F (kX10_found h) 1 tw2_20 tw1_1 tw2_19 tws1_1 tw2_17 hdX10_found ⟨Nat.le_trans (by decide) hR.1, Nat.le_trans (by decide) hR.2⟩ (hw.recv (k := 0) (i := 0) rfl rfl rfl) hA hw hS rfl hl.1 rfl (Nat.le_of_ble_eq_true rfl) dX10_back_32 (fun v14 μ15 H locs h hw hS => ?_)
          exact ret _ _ _ _ _ _ h hw hS dX10_back_35
      · have h := ite_f c8 h
        refine q_iconst hx hb dX10_back_21 ?_
        exact ret _ _ _ _ _ _ h hw hS dX10_back_22
set_option maxRecDepth 100000 in
set_option maxHeartbeats 4000000 in
theorem kX10_back {l : Launch} {D : va_G} {cy : Nat → ClassId} {ad : AD} {A : Nat → Prop} {G : GG} {x1 : Int} {x2 : Int} {μ : MM} {Q : Int → MM → Prop} (h : wpX10_back G x1 x2 μ Q) : Met l yX10_back (Cond.code yX10_back cX10_back 4 (some .int) :: uw) (rmm 1 22) (wPc [.ref (ad 0 0), .int (iI x1), .int (iI x2)] (dmC G) (cfC G) tyC (exC G) D cy ad A μ) (wQ vI Q (dmC G) (cfC G) D cy ad A) 0 0 A :=
  met_of (by decide) (Nat.le_of_ble_eq_true rfl) (fun p e R s m args below meth c ls hr hk hRR F hA hw hS hl => wX10_back F hA (by subst hRR; exact ⟨Nat.le_refl _, Nat.le_refl _⟩) (retI_of F hr hk) h hw hS hl)
theorem hdX10_back : yX10_back.cls ≠ "java/lang/invoke/MethodHandle" ∧ yX10_back.cls ≠ "java/lang/invoke/VarHandle" ∧ (parseMethodDescriptor yX10_back.desc).map (fun d => d.parameters.length) = some 2 := by decide +kernel
end
