section
variable {p : Program} {l : Launch} {e : Env} {R : Room} {s : State} {m : MethodId} {args : Array Value} {below : List Frame} {meth : Method} {c : Code} {Qf : State → Prop} {D : va_G} {cy : Nat → ClassId} {ad : AD} {A : Nat → Prop}
def wpX1_misfitsAtHour_L15 (G : GG) (Q : Int → MM → Prop) : Nat → Int → Int → Int → MM → Prop
  | 0, _, _, _, _ => False
  | n + 1, x2, x3, x4, μ => rg x4 ∧ (if 48 ≤ x4 then (Q x3 μ) else (wpX1_misfit G x4 x2 μ (fun v3 μ4 => wpX1_misfitsAtHour_L15 G Q n x2 (x3 + v3) (x4 + 12) μ4)))
set_option maxRecDepth 100000 in
set_option maxHeartbeats 4000000 in
theorem wX1_misfitsAtHour_L15 {G : GG} {Q : Int → MM → Prop} (F : CallFix p m c cX1_misfitsAtHour 5 s args uw RX1) (hA : ∀ q : Nat, s.heap.size ≤ q → A q) (hR : 1 ≤ R.frames ∧ 22 ≤ R.locals) (ret : RetI p l e R s m args below meth c cX1_misfitsAtHour Qf (dmC G) (cfC G) tyC (exC G) D cy ad A Q) : ∀ (n : Nat) (x2 x3 x4 : Int) (μ : MM) (H : Heap) (locs : List Loc) (ls : Array Slot), wpX1_misfitsAtHour_L15 G Q n x2 x3 x4 μ → wdC G D cy ad A μ s H → va_S A s.heap H locs → lv_has ls 5 [(0, .ref (ad 6 0)), (2, .int (iI x2)), (3, .int (iI x3)), (4, .int (iI x4))] → W p l e R s m args below meth c H locs 0 0 Qf (F0 m 15 ls []) := by
  have hx := F.1
  have hb := F.2.1
  have hown := F.2.2.2.1
  have hts := F.2.2.2.2
  intro n
  induction n with
  | zero =>
    intro x2 x3 x4 μ H locs ls h hw hS hl
    exact h.elim
  | succ n ih =>
    intro x2 x3 x4 μ H locs ls h hw hS hl
    refine lv_iload hx hb dX1_misfitsAtHour_15 (lv_at hl 3 rfl) ?_
    refine lv_aload_n hx hb dX1_misfitsAtHour_17 rfl (lv_at hl 0 rfl) ?_
    refine gC_U_heard F hw tw1_51 dX1_misfitsAtHour_18 ?_
    refine aC_16_ln hx hb hw dX1_misfitsAtHour_21 ?_
    obtain ⟨g1, h⟩ := h
    refine q_icmp_ge (tgt := 41) hx hb g1 (by decide) dX1_misfitsAtHour_22 (by decide) (fun c2 => ?_) (fun c2 => ?_)
    · have h := ite_t c2 h
      refine lv_iload_n hx hb dX1_misfitsAtHour_41 rfl (lv_at hl 2 rfl) ?_
      exact ret _ _ _ _ _ _ h hw hS dX1_misfitsAtHour_42
    · have h := ite_f c2 h
      refine lv_iload_n hx hb dX1_misfitsAtHour_25 rfl (lv_at hl 2 rfl) ?_
      refine lv_aload_n hx hb dX1_misfitsAtHour_26 rfl (lv_at hl 0 rfl) ?_
      refine lv_iload hx hb dX1_misfitsAtHour_27 (lv_at hl 3 rfl) ?_
      refine lv_iload_n hx hb dX1_misfitsAtHour_29 rfl (lv_at hl 1 rfl) ?_
      refine call_V hexC F (kX1_misfit h) 2 tw4_163 tw1_3 tw4_162 tws1_10 tw4_160 hdX1_misfit ⟨Nat.le_trans (by decide) hR.1, Nat.le_trans (by decide) hR.2⟩ (hw.recv (k := 6) (i := 0) rfl rfl rfl) hA hw hS rfl hl.1 rfl (Nat.le_of_ble_eq_true rfl) dX1_misfitsAtHour_30 (fun v3 μ4 H locs h hw hS => ?_)
      refine q_iadd hx hb dX1_misfitsAtHour_33 ?_
      refine lv_istore_n (lv' := [(3, .int (iI (x3 + v3))), (0, .ref (ad 6 0)), (2, .int (iI x2)), (4, .int (iI x4))]) hx hb dX1_misfitsAtHour_34 rfl hl (by decide) rfl (fun ls hl => ?_)
      refine q_iinc (k := 3) (lv' := [(4, .int (iI (x4 + 12))), (3, .int (iI (x3 + v3))), (0, .ref (ad 6 0)), (2, .int (iI x2))]) hx hb dX1_misfitsAtHour_35 hl rfl (by decide) rfl (fun ls hl => ?_)
      refine lv_goto (tgt := 15) hx hb dX1_misfitsAtHour_38 (by decide) ?_
      exact ih x2 (x3 + v3) (x4 + 12) _ _ _ _ h hw hS (lv_sub hl [2, 3, 1, 0] rfl)
def wpX1_misfitsAtHour (G : GG) (x1 : Int) (x2 : Int) (μ : MM) (Q : Int → MM → Prop) : Prop := wpJ9_floorMod_7cf53 G (x1 - (μ 6 1 0)) 12 μ (fun v1 μ2 => ∃ n3 : Nat, wpX1_misfitsAtHour_L15 G Q n3 x2 0 v1 μ2)
set_option maxRecDepth 100000 in
set_option maxHeartbeats 4000000 in
theorem wX1_misfitsAtHour {G : GG} {Q : Int → MM → Prop} {x1 : Int} {x2 : Int} {μ : MM} {H : Heap} {locs : List Loc} {ls : Array Slot} (F : CallFix p m c cX1_misfitsAtHour 5 s args uw RX1) (hA : ∀ q : Nat, s.heap.size ≤ q → A q) (hR : 1 ≤ R.frames ∧ 22 ≤ R.locals) (ret : RetI p l e R s m args below meth c cX1_misfitsAtHour Qf (dmC G) (cfC G) tyC (exC G) D cy ad A Q) (h : wpX1_misfitsAtHour G x1 x2 μ Q) (hw : wdC G D cy ad A μ s H) (hS : va_S A s.heap H locs) (hl : lv_has ls 5 [(0, .ref (ad 6 0)), (1, .int (iI x1)), (2, .int (iI x2))]) : W p l e R s m args below meth c H locs 0 0 Qf (F0 m 0 ls []) := by
  have hx := F.1
  have hb := F.2.1
  have hown := F.2.2.2.1
  have hts := F.2.2.2.2
  refine q_iconst hx hb dX1_misfitsAtHour_0 ?_
  refine lv_istore_n (lv' := [(3, .int (iI 0)), (0, .ref (ad 6 0)), (1, .int (iI x1)), (2, .int (iI x2))]) hx hb dX1_misfitsAtHour_1 rfl hl (by decide) rfl (fun ls hl => ?_)
  refine lv_iload_n hx hb dX1_misfitsAtHour_2 rfl (lv_at hl 2 rfl) ?_
  refine lv_aload_n hx hb dX1_misfitsAtHour_3 rfl (lv_at hl 1 rfl) ?_
  refine gC_U_hour F hw tw1_52 dX1_misfitsAtHour_4 ?_
  refine q_isub hx hb dX1_misfitsAtHour_7 ?_
  refine q_bipush hx hb (by decide) dX1_misfitsAtHour_8 ?_
  refine call_S hexC F (kJ9_floorMod_7cf53 h) 2 tw3_165 tw1_13 tw3_164 tw4_193 hdJ9_floorMod_7cf53 ⟨Nat.le_trans (by decide) hR.1, Nat.le_trans (by decide) hR.2⟩ hA hw hS rfl hl.1 rfl (Nat.le_of_ble_eq_true rfl) dX1_misfitsAtHour_10 (fun v1 μ2 H locs h hw hS => ?_)
  refine lv_istore (lv' := [(4, .int (iI v1)), (3, .int (iI 0)), (0, .ref (ad 6 0)), (1, .int (iI x1)), (2, .int (iI x2))]) hx hb dX1_misfitsAtHour_13 hl (by decide) rfl (fun ls hl => ?_)
  obtain ⟨n3, h⟩ := h
  exact wX1_misfitsAtHour_L15 F hA hR ret n3 x2 0 v1 _ _ _ _ h hw hS (lv_sub hl [2, 4, 1, 0] rfl)
set_option maxRecDepth 100000 in
set_option maxHeartbeats 4000000 in
theorem kX1_misfitsAtHour {l : Launch} {D : va_G} {cy : Nat → ClassId} {ad : AD} {A : Nat → Prop} {G : GG} {x1 : Int} {x2 : Int} {μ : MM} {Q : Int → MM → Prop} (h : wpX1_misfitsAtHour G x1 x2 μ Q) : Met l yX1_misfitsAtHour (Cond.code yX1_misfitsAtHour cX1_misfitsAtHour 5 (some .int) :: uw) (rmm 1 22) (wPc [.ref (ad 6 0), .int (iI x1), .int (iI x2)] (dmC G) (cfC G) tyC (exC G) D cy ad A μ) (wQ vI Q (dmC G) (cfC G) D cy ad A) 0 0 A :=
  met_of (by decide) (Nat.le_of_ble_eq_true rfl) (fun p e R s m args below meth c ls hr hk hRR F hA hw hS hl => wX1_misfitsAtHour F hA (by subst hRR; exact ⟨Nat.le_refl _, Nat.le_refl _⟩) (retI_of F hr hk) h hw hS hl)
theorem hdX1_misfitsAtHour : yX1_misfitsAtHour.cls ≠ "java/lang/invoke/MethodHandle" ∧ yX1_misfitsAtHour.cls ≠ "java/lang/invoke/VarHandle" ∧ (parseMethodDescriptor yX1_misfitsAtHour.desc).map (fun d => d.parameters.length) = some 2 := by decide +kernel
def wpX1_offerNotches_L20 (G : GG) (k2 : Int → Int → MM → Prop) (Q : Int → MM → Prop) : Nat → Int → Int → Int → Int → MM → Prop
  | 0, _, _, _, _, _ => False
  | n + 1, x1, x2, x3, x4, μ => rg x4 ∧ (if 24 < x4 then (k2 x1 (x2 + 1) μ) else (wpX1_misfitsAtHour G x2 x4 μ (fun v3 μ4 => wpX1_offer G 2 x2 x4 (x3 + v3) μ4 (fun v5 μ6 => wpX1_offerNotches_L20 G k2 Q n x1 x2 x3 (x4 + 1) μ6))))
set_option maxRecDepth 100000 in
set_option maxHeartbeats 4000000 in
theorem wX1_offerNotches_L20 {G : GG} {k2 : Int → Int → MM → Prop} {Q : Int → MM → Prop} (F : CallFix p m c cX1_offerNotches 5 s args uw RX1) (hA : ∀ q : Nat, s.heap.size ≤ q → A q) (hR : 2 ≤ R.frames ∧ 46 ≤ R.locals) (ret : RetV p l e R s m args below meth c cX1_offerNotches Qf (dmC G) (cfC G) tyC (exC G) D cy ad A Q) (hk2 : ∀ (x1' x2' : Int) (μ' : MM) (H : Heap) (locs : List Loc) (ls : Array Slot), k2 x1' x2' μ' → wdC G D cy ad A μ' s H → va_S A s.heap H locs → lv_has ls 5 [(0, .ref (ad 6 0)), (1, .int (iI (x1'))), (2, .int (iI (x2')))] → W p l e R s m args below meth c H locs 0 0 Qf (F0 m 2 ls [])) : ∀ (n : Nat) (x1 x2 x3 x4 : Int) (μ : MM) (H : Heap) (locs : List Loc) (ls : Array Slot), wpX1_offerNotches_L20 G k2 Q n x1 x2 x3 x4 μ → wdC G D cy ad A μ s H → va_S A s.heap H locs → lv_has ls 5 [(0, .ref (ad 6 0)), (1, .int (iI x1)), (2, .int (iI x2)), (3, .int (iI x3)), (4, .int (iI x4))] → W p l e R s m args below meth c H locs 0 0 Qf (F0 m 20 ls []) := by
  have hx := F.1
  have hb := F.2.1
  have hown := F.2.2.2.1
  have hts := F.2.2.2.2
  intro n
  induction n with
  | zero =>
    intro x1 x2 x3 x4 μ H locs ls h hw hS hl
    exact h.elim
  | succ n ih =>
    intro x1 x2 x3 x4 μ H locs ls h hw hS hl
    refine lv_iload hx hb dX1_offerNotches_20 (lv_at hl 4 rfl) ?_
    refine q_bipush hx hb (by decide) dX1_offerNotches_22 ?_
    obtain ⟨g1, h⟩ := h
    refine q_icmp_gt (tgt := 50) hx hb g1 (by decide) dX1_offerNotches_24 (by decide) (fun c2 => ?_) (fun c2 => ?_)
    · have h := ite_t c2 h
      refine q_iinc (k := 2) (lv' := [(2, .int (iI (x2 + 1))), (0, .ref (ad 6 0)), (1, .int (iI x1)), (3, .int (iI x3)), (4, .int (iI x4))]) hx hb dX1_offerNotches_50 hl rfl (by decide) rfl (fun ls hl => ?_)
      refine lv_goto (tgt := 2) hx hb dX1_offerNotches_53 (by decide) ?_
      exact hk2 x1 (x2 + 1) _ _ _ _ h hw hS (lv_sub hl [1, 2, 0] rfl)
    · have h := ite_f c2 h
      refine lv_aload_n hx hb dX1_offerNotches_27 rfl (lv_at hl 0 rfl) ?_
      refine q_iconst hx hb dX1_offerNotches_28 ?_
      refine lv_iload_n hx hb dX1_offerNotches_29 rfl (lv_at hl 2 rfl) ?_
      refine lv_iload hx hb dX1_offerNotches_30 (lv_at hl 4 rfl) ?_
      refine lv_iload_n hx hb dX1_offerNotches_32 rfl (lv_at hl 3 rfl) ?_
      refine lv_aload_n hx hb dX1_offerNotches_33 rfl (lv_at hl 0 rfl) ?_
      refine lv_iload_n hx hb dX1_offerNotches_34 rfl (lv_at hl 2 rfl) ?_
      refine lv_iload hx hb dX1_offerNotches_35 (lv_at hl 4 rfl) ?_
      refine call_V hexC F (kX1_misfitsAtHour h) 2 tw4_192 tw1_3 tw4_191 tws1_15 tw4_189 hdX1_misfitsAtHour ⟨Nat.le_trans (by decide) hR.1, Nat.le_trans (by decide) hR.2⟩ (hw.recv (k := 6) (i := 0) rfl rfl rfl) hA hw hS rfl hl.1 rfl (Nat.le_of_ble_eq_true rfl) dX1_offerNotches_37 (fun v3 μ4 H locs h hw hS => ?_)
      refine q_iadd hx hb dX1_offerNotches_40 ?_
      refine call_V hexC F (kX1_offer h) 4 tw4_176 tw1_3 tw4_175 tws1_11 tw4_173 hdX1_offer ⟨Nat.le_trans (by decide) hR.1, Nat.le_trans (by decide) hR.2⟩ (hw.recv (k := 6) (i := 0) rfl rfl rfl) hA hw hS rfl hl.1 rfl (Nat.le_of_ble_eq_true rfl) dX1_offerNotches_41 (fun v5 μ6 H locs h hw hS => ?_)
      refine q_iinc (k := 4) (lv' := [(4, .int (iI (x4 + 1))), (0, .ref (ad 6 0)), (1, .int (iI x1)), (2, .int (iI x2)), (3, .int (iI x3))]) hx hb dX1_offerNotches_44 hl rfl (by decide) rfl (fun ls hl => ?_)
      refine lv_goto (tgt := 20) hx hb dX1_offerNotches_47 (by decide) ?_
      exact ih x1 x2 x3 (x4 + 1) _ _ _ _ h hw hS (lv_sub hl [1, 2, 3, 4, 0] rfl)
def wpX1_offerNotches_L2 (G : GG) (Q : Int → MM → Prop) : Nat → Int → Int → MM → Prop
  | 0, _, _, _ => False
  | n + 1, x1, x2, μ => rg x2 ∧ (if 12 < x2 then (Q 0 μ) else (wpX1_misfitsAtHour G x2 x2 μ (fun v3 μ4 => ∃ n5 : Nat, wpX1_offerNotches_L20 G (fun x1' x2' μ' => wpX1_offerNotches_L2 G Q n x1' x2' μ') Q n5 x1 x2 (x1 - v3) 0 μ4)))
set_option maxRecDepth 100000 in
set_option maxHeartbeats 4000000 in
theorem wX1_offerNotches_L2 {G : GG} {Q : Int → MM → Prop} (F : CallFix p m c cX1_offerNotches 5 s args uw RX1) (hA : ∀ q : Nat, s.heap.size ≤ q → A q) (hR : 2 ≤ R.frames ∧ 46 ≤ R.locals) (ret : RetV p l e R s m args below meth c cX1_offerNotches Qf (dmC G) (cfC G) tyC (exC G) D cy ad A Q) : ∀ (n : Nat) (x1 x2 : Int) (μ : MM) (H : Heap) (locs : List Loc) (ls : Array Slot), wpX1_offerNotches_L2 G Q n x1 x2 μ → wdC G D cy ad A μ s H → va_S A s.heap H locs → lv_has ls 5 [(0, .ref (ad 6 0)), (1, .int (iI x1)), (2, .int (iI x2))] → W p l e R s m args below meth c H locs 0 0 Qf (F0 m 2 ls []) := by
  have hx := F.1
  have hb := F.2.1
  have hown := F.2.2.2.1
  have hts := F.2.2.2.2
  intro n
  induction n with
  | zero =>
    intro x1 x2 μ H locs ls h hw hS hl
    exact h.elim
  | succ n ih =>
    intro x1 x2 μ H locs ls h hw hS hl
    refine lv_iload_n hx hb dX1_offerNotches_2 rfl (lv_at hl 2 rfl) ?_
    refine q_bipush hx hb (by decide) dX1_offerNotches_3 ?_
    obtain ⟨g1, h⟩ := h
    refine q_icmp_gt (tgt := 56) hx hb g1 (by decide) dX1_offerNotches_5 (by decide) (fun c2 => ?_) (fun c2 => ?_)
    · have h := ite_t c2 h
      exact ret _ _ _ _ _ h hw hS dX1_offerNotches_56
    · have h := ite_f c2 h
      refine lv_iload_n hx hb dX1_offerNotches_8 rfl (lv_at hl 1 rfl) ?_
      refine lv_aload_n hx hb dX1_offerNotches_9 rfl (lv_at hl 0 rfl) ?_
      refine lv_iload_n hx hb dX1_offerNotches_10 rfl (lv_at hl 2 rfl) ?_
      refine lv_iload_n hx hb dX1_offerNotches_11 rfl (lv_at hl 2 rfl) ?_
      refine call_V hexC F (kX1_misfitsAtHour h) 2 tw4_192 tw1_3 tw4_191 tws1_15 tw4_189 hdX1_misfitsAtHour ⟨Nat.le_trans (by decide) hR.1, Nat.le_trans (by decide) hR.2⟩ (hw.recv (k := 6) (i := 0) rfl rfl rfl) hA hw hS rfl hl.1 rfl (Nat.le_of_ble_eq_true rfl) dX1_offerNotches_12 (fun v3 μ4 H locs h hw hS => ?_)
      refine q_isub hx hb dX1_offerNotches_15 ?_
      refine lv_istore_n (lv' := [(3, .int (iI (x1 - v3))), (0, .ref (ad 6 0)), (1, .int (iI x1)), (2, .int (iI x2))]) hx hb dX1_offerNotches_16 rfl hl (by decide) rfl (fun ls hl => ?_)
      refine q_iconst hx hb dX1_offerNotches_17 ?_
      refine lv_istore (lv' := [(4, .int (iI 0)), (3, .int (iI (x1 - v3))), (0, .ref (ad 6 0)), (1, .int (iI x1)), (2, .int (iI x2))]) hx hb dX1_offerNotches_18 hl (by decide) rfl (fun ls hl => ?_)
      obtain ⟨n5, h⟩ := h
      exact wX1_offerNotches_L20 F hA hR ret (fun x1 x2 => ih x1 x2) n5 x1 x2 (x1 - v3) 0 _ _ _ _ h hw hS (lv_sub hl [2, 3, 4, 1, 0] rfl)
def wpX1_offerNotches (G : GG) (x1 : Int) (μ : MM) (Q : Int → MM → Prop) : Prop := ∃ n1 : Nat, wpX1_offerNotches_L2 G Q n1 x1 1 μ
set_option maxRecDepth 100000 in
set_option maxHeartbeats 4000000 in
theorem wX1_offerNotches {G : GG} {Q : Int → MM → Prop} {x1 : Int} {μ : MM} {H : Heap} {locs : List Loc} {ls : Array Slot} (F : CallFix p m c cX1_offerNotches 5 s args uw RX1) (hA : ∀ q : Nat, s.heap.size ≤ q → A q) (hR : 2 ≤ R.frames ∧ 46 ≤ R.locals) (ret : RetV p l e R s m args below meth c cX1_offerNotches Qf (dmC G) (cfC G) tyC (exC G) D cy ad A Q) (h : wpX1_offerNotches G x1 μ Q) (hw : wdC G D cy ad A μ s H) (hS : va_S A s.heap H locs) (hl : lv_has ls 5 [(0, .ref (ad 6 0)), (1, .int (iI x1))]) : W p l e R s m args below meth c H locs 0 0 Qf (F0 m 0 ls []) := by
  have hx := F.1
  have hb := F.2.1
  have hown := F.2.2.2.1
  have hts := F.2.2.2.2
  refine q_iconst hx hb dX1_offerNotches_0 ?_
  refine lv_istore_n (lv' := [(2, .int (iI 1)), (0, .ref (ad 6 0)), (1, .int (iI x1))]) hx hb dX1_offerNotches_1 rfl hl (by decide) rfl (fun ls hl => ?_)
  obtain ⟨n1, h⟩ := h
  exact wX1_offerNotches_L2 F hA hR ret n1 x1 1 _ _ _ _ h hw hS (lv_sub hl [1, 2, 0] rfl)
set_option maxRecDepth 100000 in
set_option maxHeartbeats 4000000 in
theorem kX1_offerNotches {l : Launch} {D : va_G} {cy : Nat → ClassId} {ad : AD} {A : Nat → Prop} {G : GG} {x1 : Int} {μ : MM} {Q : Int → MM → Prop} (h : wpX1_offerNotches G x1 μ Q) : Met l yX1_offerNotches (Cond.code yX1_offerNotches cX1_offerNotches 5 none :: uw) (rmm 2 46) (wPc [.ref (ad 6 0), .int (iI x1)] (dmC G) (cfC G) tyC (exC G) D cy ad A μ) (wQ vV Q (dmC G) (cfC G) D cy ad A) 0 0 A :=
  met_of (by decide) (Nat.le_of_ble_eq_true rfl) (fun p e R s m args below meth c ls hr hk hRR F hA hw hS hl => wX1_offerNotches F hA (by subst hRR; exact ⟨Nat.le_refl _, Nat.le_refl _⟩) (retV_of F hr hk) h hw hS hl)
theorem hdX1_offerNotches : yX1_offerNotches.cls ≠ "java/lang/invoke/MethodHandle" ∧ yX1_offerNotches.cls ≠ "java/lang/invoke/VarHandle" ∧ (parseMethodDescriptor yX1_offerNotches.desc).map (fun d => d.parameters.length) = some 1 := by decide +kernel
def wpX1_offerOut_L18 (G : GG) (k2 : Int → MM → Prop) (Q : Int → MM → Prop) : Nat → Int → Int → Int → MM → Prop
  | 0, _, _, _, _ => False
  | n + 1, x1, x2, x3, μ => rg x3 ∧ (if 48 ≤ x3 then (k2 (x1 + 1) μ) else (wpX1_offer G 1 x1 x3 x2 μ (fun v3 μ4 => wpX1_misfitOfNone G x3 μ4 (fun v5 μ6 => wpX1_dueAt G (μ6 6 1 0) x3 1 x1 0 μ6 (fun v7 μ8 => wpX1_misfit G x3 v7 μ8 (fun v9 μ10 => ∀ y11 : Int, y11 = x2 + (v5 - v9) → (wpX1_offerOut_L18 G k2 Q n x1 y11 (x3 + 1) μ10)))))))
set_option maxRecDepth 100000 in
set_option maxHeartbeats 4000000 in
theorem wX1_offerOut_L18 {G : GG} {k2 : Int → MM → Prop} {Q : Int → MM → Prop} (F : CallFix p m c cX1_offerOut 4 s args uw RX1) (hA : ∀ q : Nat, s.heap.size ≤ q → A q) (hR : 3 ≤ R.frames ∧ 71 ≤ R.locals) (ret : RetV p l e R s m args below meth c cX1_offerOut Qf (dmC G) (cfC G) tyC (exC G) D cy ad A Q) (hk2 : ∀ (x1' : Int) (μ' : MM) (H : Heap) (locs : List Loc) (ls : Array Slot), k2 x1' μ' → wdC G D cy ad A μ' s H → va_S A s.heap H locs → lv_has ls 4 [(0, .ref (ad 6 0)), (1, .int (iI (x1')))] → W p l e R s m args below meth c H locs 0 0 Qf (F0 m 2 ls [])) : ∀ (n : Nat) (x1 x2 x3 : Int) (μ : MM) (H : Heap) (locs : List Loc) (ls : Array Slot), wpX1_offerOut_L18 G k2 Q n x1 x2 x3 μ → wdC G D cy ad A μ s H → va_S A s.heap H locs → lv_has ls 4 [(0, .ref (ad 6 0)), (1, .int (iI x1)), (2, .int (iI x2)), (3, .int (iI x3))] → W p l e R s m args below meth c H locs 0 0 Qf (F0 m 18 ls []) := by
  have hx := F.1
  have hb := F.2.1
  have hown := F.2.2.2.1
  have hts := F.2.2.2.2
  intro n
  induction n with
  | zero =>
    intro x1 x2 x3 μ H locs ls h hw hS hl
    exact h.elim
  | succ n ih =>
    intro x1 x2 x3 μ H locs ls h hw hS hl
    refine lv_iload_n hx hb dX1_offerOut_18 rfl (lv_at hl 3 rfl) ?_
    refine lv_aload_n hx hb dX1_offerOut_19 rfl (lv_at hl 0 rfl) ?_
    refine gC_U_heard F hw tw1_51 dX1_offerOut_20 ?_
    refine aC_16_ln hx hb hw dX1_offerOut_23 ?_
    obtain ⟨g1, h⟩ := h
    refine q_icmp_ge (tgt := 66) hx hb g1 (by decide) dX1_offerOut_24 (by decide) (fun c2 => ?_) (fun c2 => ?_)
    · have h := ite_t c2 h
      refine q_iinc (k := 1) (lv' := [(1, .int (iI (x1 + 1))), (0, .ref (ad 6 0)), (2, .int (iI x2)), (3, .int (iI x3))]) hx hb dX1_offerOut_66 hl rfl (by decide) rfl (fun ls hl => ?_)
      refine lv_goto (tgt := 2) hx hb dX1_offerOut_69 (by decide) ?_
      exact hk2 (x1 + 1) _ _ _ _ h hw hS (lv_sub hl [1, 0] rfl)
    · have h := ite_f c2 h
      refine lv_aload_n hx hb dX1_offerOut_27 rfl (lv_at hl 0 rfl) ?_
      refine q_iconst hx hb dX1_offerOut_28 ?_
      refine lv_iload_n hx hb dX1_offerOut_29 rfl (lv_at hl 1 rfl) ?_
      refine lv_iload_n hx hb dX1_offerOut_30 rfl (lv_at hl 3 rfl) ?_
      refine lv_iload_n hx hb dX1_offerOut_31 rfl (lv_at hl 2 rfl) ?_
      refine call_V hexC F (kX1_offer h) 4 tw4_176 tw1_3 tw4_175 tws1_11 tw4_173 hdX1_offer ⟨Nat.le_trans (by decide) hR.1, Nat.le_trans (by decide) hR.2⟩ (hw.recv (k := 6) (i := 0) rfl rfl rfl) hA hw hS rfl hl.1 rfl (Nat.le_of_ble_eq_true rfl) dX1_offerOut_32 (fun v3 μ4 H locs h hw hS => ?_)
      refine lv_iload_n hx hb dX1_offerOut_35 rfl (lv_at hl 2 rfl) ?_
      refine lv_aload_n hx hb dX1_offerOut_36 rfl (lv_at hl 0 rfl) ?_
      refine lv_iload_n hx hb dX1_offerOut_37 rfl (lv_at hl 3 rfl) ?_
      refine call_V hexC F (kX1_misfitOfNone h) 1 tw4_184 tw1_3 tw4_183 tws1_13 tw4_181 hdX1_misfitOfNone ⟨Nat.le_trans (by decide) hR.1, Nat.le_trans (by decide) hR.2⟩ (hw.recv (k := 6) (i := 0) rfl rfl rfl) hA hw hS rfl hl.1 rfl (Nat.le_of_ble_eq_true rfl) dX1_offerOut_38 (fun v5 μ6 H locs h hw hS => ?_)
      refine lv_aload_n hx hb dX1_offerOut_41 rfl (lv_at hl 0 rfl) ?_
      refine lv_iload_n hx hb dX1_offerOut_42 rfl (lv_at hl 3 rfl) ?_
      refine lv_aload_n hx hb dX1_offerOut_43 rfl (lv_at hl 0 rfl) ?_
      refine gC_U_hour F hw tw1_52 dX1_offerOut_44 ?_
      refine lv_iload_n hx hb dX1_offerOut_47 rfl (lv_at hl 3 rfl) ?_
      refine q_iconst hx hb dX1_offerOut_48 ?_
      refine lv_iload_n hx hb dX1_offerOut_49 rfl (lv_at hl 1 rfl) ?_
      refine q_iconst hx hb dX1_offerOut_50 ?_
      refine call_S hexC F (kX1_dueAt h) 5 tw4_140 tw1_3 tw4_139 tw4_159 hdX1_dueAt ⟨Nat.le_trans (by decide) hR.1, Nat.le_trans (by decide) hR.2⟩ hA hw hS rfl hl.1 rfl (Nat.le_of_ble_eq_true rfl) dX1_offerOut_51 (fun v7 μ8 H locs h hw hS => ?_)
      refine call_V hexC F (kX1_misfit h) 2 tw4_163 tw1_3 tw4_162 tws1_10 tw4_160 hdX1_misfit ⟨Nat.le_trans (by decide) hR.1, Nat.le_trans (by decide) hR.2⟩ (hw.recv (k := 6) (i := 0) rfl rfl rfl) hA hw hS rfl hl.1 rfl (Nat.le_of_ble_eq_true rfl) dX1_offerOut_54 (fun v9 μ10 H locs h hw hS => ?_)
      refine q_isub hx hb dX1_offerOut_57 ?_
      refine q_iadd hx hb dX1_offerOut_58 ?_
      obtain ⟨y11, ey11⟩ : ∃ z : Int, z = x2 + (v5 - v9) := ⟨_, rfl⟩
      have h := h y11 ey11
      refine q_nmI ey11 ?_
      refine lv_istore_n (lv' := [(2, .int (iI y11)), (0, .ref (ad 6 0)), (1, .int (iI x1)), (3, .int (iI x3))]) hx hb dX1_offerOut_59 rfl hl (by decide) rfl (fun ls hl => ?_)
      refine q_iinc (k := 3) (lv' := [(3, .int (iI (x3 + 1))), (2, .int (iI y11)), (0, .ref (ad 6 0)), (1, .int (iI x1))]) hx hb dX1_offerOut_60 hl rfl (by decide) rfl (fun ls hl => ?_)
      refine lv_goto (tgt := 18) hx hb dX1_offerOut_63 (by decide) ?_
      exact ih x1 y11 (x3 + 1) _ _ _ _ h hw hS (lv_sub hl [2, 3, 1, 0] rfl)
def wpX1_offerOut_L2 (G : GG) (Q : Int → MM → Prop) : Nat → Int → MM → Prop
  | 0, _, _ => False
  | n + 1, x1, μ => rg x1 ∧ (if 12 ≤ x1 then (Q 0 μ) else (wpX1_misfitsOf G 1 x1 0 μ (fun v3 μ4 => ∃ n5 : Nat, wpX1_offerOut_L18 G (fun x1' μ' => wpX1_offerOut_L2 G Q n x1' μ') Q n5 x1 v3 0 μ4)))
set_option maxRecDepth 100000 in
set_option maxHeartbeats 4000000 in
theorem wX1_offerOut_L2 {G : GG} {Q : Int → MM → Prop} (F : CallFix p m c cX1_offerOut 4 s args uw RX1) (hA : ∀ q : Nat, s.heap.size ≤ q → A q) (hR : 3 ≤ R.frames ∧ 71 ≤ R.locals) (ret : RetV p l e R s m args below meth c cX1_offerOut Qf (dmC G) (cfC G) tyC (exC G) D cy ad A Q) : ∀ (n : Nat) (x1 : Int) (μ : MM) (H : Heap) (locs : List Loc) (ls : Array Slot), wpX1_offerOut_L2 G Q n x1 μ → wdC G D cy ad A μ s H → va_S A s.heap H locs → lv_has ls 4 [(0, .ref (ad 6 0)), (1, .int (iI x1))] → W p l e R s m args below meth c H locs 0 0 Qf (F0 m 2 ls []) := by
  have hx := F.1
  have hb := F.2.1
  have hown := F.2.2.2.1
  have hts := F.2.2.2.2
  intro n
  induction n with
  | zero =>
    intro x1 μ H locs ls h hw hS hl
    exact h.elim
  | succ n ih =>
    intro x1 μ H locs ls h hw hS hl
    refine lv_iload_n hx hb dX1_offerOut_2 rfl (lv_at hl 1 rfl) ?_
    refine q_bipush hx hb (by decide) dX1_offerOut_3 ?_
    obtain ⟨g1, h⟩ := h
    refine q_icmp_ge (tgt := 72) hx hb g1 (by decide) dX1_offerOut_5 (by decide) (fun c2 => ?_) (fun c2 => ?_)
    · have h := ite_t c2 h
      exact ret _ _ _ _ _ h hw hS dX1_offerOut_72
    · have h := ite_f c2 h
      refine lv_aload_n hx hb dX1_offerOut_8 rfl (lv_at hl 0 rfl) ?_
      refine q_iconst hx hb dX1_offerOut_9 ?_
      refine lv_iload_n hx hb dX1_offerOut_10 rfl (lv_at hl 1 rfl) ?_
      refine q_iconst hx hb dX1_offerOut_11 ?_
      refine call_V hexC F (kX1_misfitsOf h) 3 tw4_158 tw1_3 tw4_156 tw4_157 tw4_172 hdX1_misfitsOf ⟨Nat.le_trans (by decide) hR.1, Nat.le_trans (by decide) hR.2⟩ (hw.recv (k := 6) (i := 0) rfl rfl rfl) hA hw hS rfl hl.1 rfl (Nat.le_of_ble_eq_true rfl) dX1_offerOut_12 (fun v3 μ4 H locs h hw hS => ?_)
      refine lv_istore_n (lv' := [(2, .int (iI v3)), (0, .ref (ad 6 0)), (1, .int (iI x1))]) hx hb dX1_offerOut_15 rfl hl (by decide) rfl (fun ls hl => ?_)
      refine q_iconst hx hb dX1_offerOut_16 ?_
      refine lv_istore_n (lv' := [(3, .int (iI 0)), (2, .int (iI v3)), (0, .ref (ad 6 0)), (1, .int (iI x1))]) hx hb dX1_offerOut_17 rfl hl (by decide) rfl (fun ls hl => ?_)
      obtain ⟨n5, h⟩ := h
      exact wX1_offerOut_L18 F hA hR ret (fun x1 => ih x1) n5 x1 v3 0 _ _ _ _ h hw hS (lv_sub hl [2, 3, 1, 0] rfl)
def wpX1_offerOut (G : GG) (μ : MM) (Q : Int → MM → Prop) : Prop := ∃ n1 : Nat, wpX1_offerOut_L2 G Q n1 1 μ
set_option maxRecDepth 100000 in
set_option maxHeartbeats 4000000 in
theorem wX1_offerOut {G : GG} {Q : Int → MM → Prop} {μ : MM} {H : Heap} {locs : List Loc} {ls : Array Slot} (F : CallFix p m c cX1_offerOut 4 s args uw RX1) (hA : ∀ q : Nat, s.heap.size ≤ q → A q) (hR : 3 ≤ R.frames ∧ 71 ≤ R.locals) (ret : RetV p l e R s m args below meth c cX1_offerOut Qf (dmC G) (cfC G) tyC (exC G) D cy ad A Q) (h : wpX1_offerOut G μ Q) (hw : wdC G D cy ad A μ s H) (hS : va_S A s.heap H locs) (hl : lv_has ls 4 [(0, .ref (ad 6 0))]) : W p l e R s m args below meth c H locs 0 0 Qf (F0 m 0 ls []) := by
  have hx := F.1
  have hb := F.2.1
  have hown := F.2.2.2.1
  have hts := F.2.2.2.2
  refine q_iconst hx hb dX1_offerOut_0 ?_
  refine lv_istore_n (lv' := [(1, .int (iI 1)), (0, .ref (ad 6 0))]) hx hb dX1_offerOut_1 rfl hl (by decide) rfl (fun ls hl => ?_)
  obtain ⟨n1, h⟩ := h
  exact wX1_offerOut_L2 F hA hR ret n1 1 _ _ _ _ h hw hS (lv_sub hl [1, 0] rfl)
set_option maxRecDepth 100000 in
set_option maxHeartbeats 4000000 in
theorem kX1_offerOut {l : Launch} {D : va_G} {cy : Nat → ClassId} {ad : AD} {A : Nat → Prop} {G : GG} {μ : MM} {Q : Int → MM → Prop} (h : wpX1_offerOut G μ Q) : Met l yX1_offerOut (Cond.code yX1_offerOut cX1_offerOut 4 none :: uw) (rmm 3 71) (wPc [.ref (ad 6 0)] (dmC G) (cfC G) tyC (exC G) D cy ad A μ) (wQ vV Q (dmC G) (cfC G) D cy ad A) 0 0 A :=
  met_of (by decide) (Nat.le_of_ble_eq_true rfl) (fun p e R s m args below meth c ls hr hk hRR F hA hw hS hl => wX1_offerOut F hA (by subst hRR; exact ⟨Nat.le_refl _, Nat.le_refl _⟩) (retV_of F hr hk) h hw hS hl)
theorem hdX1_offerOut : yX1_offerOut.cls ≠ "java/lang/invoke/MethodHandle" ∧ yX1_offerOut.cls ≠ "java/lang/invoke/VarHandle" ∧ (parseMethodDescriptor yX1_offerOut.desc).map (fun d => d.parameters.length) = some 0 := by decide +kernel
def wpX1_search_L38 (G : GG) (Q : Int → MM → Prop) : Nat → Int → Int → MM → Prop
  | 0, _, _, _ => False
  | n + 1, x1, x2, μ => rg x2 ∧ (if 12 ≤ x2 then (wpX1_offerDeaf G x1 μ (fun v3 μ4 => Q 0 μ4)) else (wpX1_misfitsOf G 3 x2 0 μ (fun v5 μ6 => wpX1_offer G 3 x2 0 v5 μ6 (fun v7 μ8 => wpX1_search_L38 G Q n x1 (x2 + 1) μ8))))
set_option maxRecDepth 100000 in
set_option maxHeartbeats 4000000 in
theorem wX1_search_L38 {G : GG} {Q : Int → MM → Prop} (F : CallFix p m c cX1_search 3 s args uw RX1) (hA : ∀ q : Nat, s.heap.size ≤ q → A q) (hR : 4 ≤ R.frames ∧ 94 ≤ R.locals) (ret : RetV p l e R s m args below meth c cX1_search Qf (dmC G) (cfC G) tyC (exC G) D cy ad A Q) : ∀ (n : Nat) (x1 x2 : Int) (μ : MM) (H : Heap) (locs : List Loc) (ls : Array Slot), wpX1_search_L38 G Q n x1 x2 μ → wdC G D cy ad A μ s H → va_S A s.heap H locs → lv_has ls 3 [(0, .ref (ad 6 0)), (1, .int (iI x1)), (2, .int (iI x2))] → W p l e R s m args below meth c H locs 0 0 Qf (F0 m 38 ls []) := by
  have hx := F.1
  have hb := F.2.1
  have hown := F.2.2.2.1
  have hts := F.2.2.2.2
  intro n
  induction n with
  | zero =>
    intro x1 x2 μ H locs ls h hw hS hl
    exact h.elim
  | succ n ih =>
    intro x1 x2 μ H locs ls h hw hS hl
    refine lv_iload_n hx hb dX1_search_38 rfl (lv_at hl 2 rfl) ?_
    refine q_bipush hx hb (by decide) dX1_search_39 ?_
    obtain ⟨g1, h⟩ := h
    refine q_icmp_ge (tgt := 64) hx hb g1 (by decide) dX1_search_41 (by decide) (fun c2 => ?_) (fun c2 => ?_)
    · have h := ite_t c2 h
      refine lv_aload_n hx hb dX1_search_64 rfl (lv_at hl 0 rfl) ?_
      refine lv_iload_n hx hb dX1_search_65 rfl (lv_at hl 1 rfl) ?_
      refine call_V hexC F (kX1_offerDeaf h) 1 tw4_197 tw1_3 tw4_196 tws2_0 tw4_194 hdX1_offerDeaf ⟨Nat.le_trans (by decide) hR.1, Nat.le_trans (by decide) hR.2⟩ (hw.recv (k := 6) (i := 0) rfl rfl rfl) hA hw hS rfl hl.1 rfl (Nat.le_of_ble_eq_true rfl) dX1_search_66 (fun v3 μ4 H locs h hw hS => ?_)
      exact ret _ _ _ _ _ h hw hS dX1_search_69
    · have h := ite_f c2 h
      refine lv_aload_n hx hb dX1_search_44 rfl (lv_at hl 0 rfl) ?_
      refine q_iconst hx hb dX1_search_45 ?_
      refine lv_iload_n hx hb dX1_search_46 rfl (lv_at hl 2 rfl) ?_
      refine q_iconst hx hb dX1_search_47 ?_
      refine lv_aload_n hx hb dX1_search_48 rfl (lv_at hl 0 rfl) ?_
      refine q_iconst hx hb dX1_search_49 ?_
      refine lv_iload_n hx hb dX1_search_50 rfl (lv_at hl 2 rfl) ?_
      refine q_iconst hx hb dX1_search_51 ?_
      refine call_V hexC F (kX1_misfitsOf h) 3 tw4_158 tw1_3 tw4_156 tw4_157 tw4_172 hdX1_misfitsOf ⟨Nat.le_trans (by decide) hR.1, Nat.le_trans (by decide) hR.2⟩ (hw.recv (k := 6) (i := 0) rfl rfl rfl) hA hw hS rfl hl.1 rfl (Nat.le_of_ble_eq_true rfl) dX1_search_52 (fun v5 μ6 H locs h hw hS => ?_)
      refine call_V hexC F (kX1_offer h) 4 tw4_176 tw1_3 tw4_175 tws1_11 tw4_173 hdX1_offer ⟨Nat.le_trans (by decide) hR.1, Nat.le_trans (by decide) hR.2⟩ (hw.recv (k := 6) (i := 0) rfl rfl rfl) hA hw hS rfl hl.1 rfl (Nat.le_of_ble_eq_true rfl) dX1_search_55 (fun v7 μ8 H locs h hw hS => ?_)
      refine q_iinc (k := 2) (lv' := [(2, .int (iI (x2 + 1))), (0, .ref (ad 6 0)), (1, .int (iI x1))]) hx hb dX1_search_58 hl rfl (by decide) rfl (fun ls hl => ?_)
      refine lv_goto (tgt := 38) hx hb dX1_search_61 (by decide) ?_
      exact ih x1 (x2 + 1) _ _ _ _ h hw hS (lv_sub hl [1, 2, 0] rfl)
def wpX1_search (G : GG) (μ : MM) (Q : Int → MM → Prop) : Prop := ∀ μ1 : MM, μ1 = ms μ 6 6 0 0 → (∀ μ2 : MM, μ2 = ms μ1 6 5 0 49 → (wpX1_misfitsOf G 0 0 0 μ2 (fun v3 μ4 => wpX1_offer G 0 0 0 v3 μ4 (fun v5 μ6 => wpX1_offerOut G μ6 (fun v7 μ8 => wpX1_offerNotches G v3 μ8 (fun v9 μ10 => ∃ n11 : Nat, wpX1_search_L38 G Q n11 v3 1 μ10))))))
set_option maxRecDepth 100000 in
set_option maxHeartbeats 4000000 in
theorem wX1_search {G : GG} {Q : Int → MM → Prop} {μ : MM} {H : Heap} {locs : List Loc} {ls : Array Slot} (F : CallFix p m c cX1_search 3 s args uw RX1) (hA : ∀ q : Nat, s.heap.size ≤ q → A q) (hR : 4 ≤ R.frames ∧ 94 ≤ R.locals) (ret : RetV p l e R s m args below meth c cX1_search Qf (dmC G) (cfC G) tyC (exC G) D cy ad A Q) (h : wpX1_search G μ Q) (hw : wdC G D cy ad A μ s H) (hS : va_S A s.heap H locs) (hl : lv_has ls 3 [(0, .ref (ad 6 0))]) : W p l e R s m args below meth c H locs 0 0 Qf (F0 m 0 ls []) := by
  have hx := F.1
  have hb := F.2.1
  have hown := F.2.2.2.1
  have hts := F.2.2.2.2
  refine lv_aload_n hx hb dX1_search_0 rfl (lv_at hl 0 rfl) ?_
  refine q_iconst hx hb dX1_search_1 ?_
  obtain ⟨μ1, eμ1⟩ : ∃ z : MM, z = ms μ 6 6 0 0 := ⟨_, rfl⟩
  have h := h μ1 eμ1
  refine pC_U_fitting F hw hS tw1_61 eμ1 dX1_search_2 (fun H locs hw hS => ?_)
  refine lv_aload_n hx hb dX1_search_5 rfl (lv_at hl 0 rfl) ?_
  refine q_bipush hx hb (by decide) dX1_search_6 ?_
  obtain ⟨μ2, eμ2⟩ : ∃ z : MM, z = ms μ1 6 5 0 49 := ⟨_, rfl⟩
  have h := h μ2 eμ2
  refine pC_U_fewest F hw hS tw1_59 eμ2 dX1_search_8 (fun H locs hw hS => ?_)
  refine lv_aload_n hx hb dX1_search_11 rfl (lv_at hl 0 rfl) ?_
  refine q_iconst hx hb dX1_search_12 ?_
  refine q_iconst hx hb dX1_search_13 ?_
  refine q_iconst hx hb dX1_search_14 ?_
  refine call_V hexC F (kX1_misfitsOf h) 3 tw4_158 tw1_3 tw4_156 tw4_157 tw4_172 hdX1_misfitsOf ⟨Nat.le_trans (by decide) hR.1, Nat.le_trans (by decide) hR.2⟩ (hw.recv (k := 6) (i := 0) rfl rfl rfl) hA hw hS rfl hl.1 rfl (Nat.le_of_ble_eq_true rfl) dX1_search_15 (fun v3 μ4 H locs h hw hS => ?_)
  refine lv_istore_n (lv' := [(1, .int (iI v3)), (0, .ref (ad 6 0))]) hx hb dX1_search_18 rfl hl (by decide) rfl (fun ls hl => ?_)
  refine lv_aload_n hx hb dX1_search_19 rfl (lv_at hl 1 rfl) ?_
  refine q_iconst hx hb dX1_search_20 ?_
  refine q_iconst hx hb dX1_search_21 ?_
  refine q_iconst hx hb dX1_search_22 ?_
  refine lv_iload_n hx hb dX1_search_23 rfl (lv_at hl 0 rfl) ?_
  refine call_V hexC F (kX1_offer h) 4 tw4_176 tw1_3 tw4_175 tws1_11 tw4_173 hdX1_offer ⟨Nat.le_trans (by decide) hR.1, Nat.le_trans (by decide) hR.2⟩ (hw.recv (k := 6) (i := 0) rfl rfl rfl) hA hw hS rfl hl.1 rfl (Nat.le_of_ble_eq_true rfl) dX1_search_24 (fun v5 μ6 H locs h hw hS => ?_)
  refine lv_aload_n hx hb dX1_search_27 rfl (lv_at hl 1 rfl) ?_
  refine call_V hexC F (kX1_offerOut h) 0 tw4_180 tw1_3 tw4_179 tws1_12 tw4_177 hdX1_offerOut ⟨Nat.le_trans (by decide) hR.1, Nat.le_trans (by decide) hR.2⟩ (hw.recv (k := 6) (i := 0) rfl rfl rfl) hA hw hS rfl hl.1 rfl (Nat.le_of_ble_eq_true rfl) dX1_search_28 (fun v7 μ8 H locs h hw hS => ?_)
  refine lv_aload_n hx hb dX1_search_31 rfl (lv_at hl 1 rfl) ?_
  refine lv_iload_n hx hb dX1_search_32 rfl (lv_at hl 0 rfl) ?_
  refine call_V hexC F (kX1_offerNotches h) 1 tw4_188 tw1_3 tw4_187 tws1_14 tw4_185 hdX1_offerNotches ⟨Nat.le_trans (by decide) hR.1, Nat.le_trans (by decide) hR.2⟩ (hw.recv (k := 6) (i := 0) rfl rfl rfl) hA hw hS rfl hl.1 rfl (Nat.le_of_ble_eq_true rfl) dX1_search_33 (fun v9 μ10 H locs h hw hS => ?_)
  refine q_iconst hx hb dX1_search_36 ?_
  refine lv_istore_n (lv' := [(2, .int (iI 1)), (1, .int (iI v3)), (0, .ref (ad 6 0))]) hx hb dX1_search_37 rfl hl (by decide) rfl (fun ls hl => ?_)
  obtain ⟨n11, h⟩ := h
  exact wX1_search_L38 F hA hR ret n11 v3 1 _ _ _ _ h hw hS (lv_sub hl [2, 1, 0] rfl)
set_option maxRecDepth 100000 in
set_option maxHeartbeats 4000000 in
theorem kX1_search {l : Launch} {D : va_G} {cy : Nat → ClassId} {ad : AD} {A : Nat → Prop} {G : GG} {μ : MM} {Q : Int → MM → Prop} (h : wpX1_search G μ Q) : Met l yX1_search (Cond.code yX1_search cX1_search 3 none :: uw) (rmm 4 94) (wPc [.ref (ad 6 0)] (dmC G) (cfC G) tyC (exC G) D cy ad A μ) (wQ vV Q (dmC G) (cfC G) D cy ad A) 0 0 A :=
  met_of (by decide) (Nat.le_of_ble_eq_true rfl) (fun p e R s m args below meth c ls hr hk hRR F hA hw hS hl => wX1_search F hA (by subst hRR; exact ⟨Nat.le_refl _, Nat.le_refl _⟩) (retV_of F hr hk) h hw hS hl)
theorem hdX1_search : yX1_search.cls ≠ "java/lang/invoke/MethodHandle" ∧ yX1_search.cls ≠ "java/lang/invoke/VarHandle" ∧ (parseMethodDescriptor yX1_search.desc).map (fun d => d.parameters.length) = some 0 := by decide +kernel
def wpX10_explained (G : GG) (x1 : Int) (x2 : Int) (μ : MM) (Q : Int → MM → Prop) : Prop := wpX10_refusalOfHeard G x1 x2 1 μ (fun v1 μ2 => rg v1 ∧ (if v1 = 0 then (wpX10_rowOf G x1 μ2 (fun v5 μ6 => wpX1_listen G v5 x2 μ6 (fun v7 μ8 => wpX1_search G μ8 (fun v9 μ10 => Q (μ10 6 6 0) μ10)))) else (Q v1 μ2)))
set_option maxRecDepth 100000 in
set_option maxHeartbeats 4000000 in
theorem wX10_explained {G : GG} {Q : Int → MM → Prop} {x1 : Int} {x2 : Int} {μ : MM} {H : Heap} {locs : List Loc} {ls : Array Slot} (F : CallFix p m c cX10_explained 4 s args uw RX10) (hA : ∀ q : Nat, s.heap.size ≤ q → A q) (hR : 5 ≤ R.frames ∧ 116 ≤ R.locals) (ret : RetI p l e R s m args below meth c cX10_explained Qf (dmC G) (cfC G) tyC (exC G) D cy ad A Q) (h : wpX10_explained G x1 x2 μ Q) (hw : wdC G D cy ad A μ s H) (hS : va_S A s.heap H locs) (hl : lv_has ls 4 [(0, .ref (ad 0 0)), (1, .int (iI x1)), (2, .int (iI x2))]) : W p l e R s m args below meth c H locs 0 0 Qf (F0 m 0 ls []) := by
  have hx := F.1
  have hb := F.2.1
  have hown := F.2.2.2.1
  have hts := F.2.2.2.2
  refine lv_aload_n hx hb dX10_explained_0 rfl (lv_at hl 0 rfl) ?_
  refine lv_iload_n hx hb dX10_explained_1 rfl (lv_at hl 1 rfl) ?_
  refine lv_iload_n hx hb dX10_explained_2 rfl (lv_at hl 2 rfl) ?_
  refine q_iconst hx hb dX10_explained_3 ?_
  refine call_V hexC F (kX10_refusalOfHeard h) 3 tw4_149 tw1_1 tw4_148 tws1_9 tw4_146 hdX10_refusalOfHeard ⟨Nat.le_trans (by decide) hR.1, Nat.le_trans (by decide) hR.2⟩ (hw.recv (k := 0) (i := 0) rfl rfl rfl) hA hw hS rfl hl.1 rfl (Nat.le_of_ble_eq_true rfl) dX10_explained_4 (fun v1 μ2 H locs h hw hS => ?_)
  refine lv_istore_n (lv' := [(3, .int (iI v1)), (0, .ref (ad 0 0)), (1, .int (iI x1)), (2, .int (iI x2))]) hx hb dX10_explained_7 rfl hl (by decide) rfl (fun ls hl => ?_)
  refine lv_iload_n hx hb dX10_explained_8 rfl (lv_at hl 0 rfl) ?_
  obtain ⟨g3, h⟩ := h
  refine q_if_eq (tgt := 14) hx hb g3 dX10_explained_9 (by decide) (fun c4 => ?_) (fun c4 => ?_)
  · have h := ite_t c4 h
    refine lv_aload_n hx hb dX10_explained_14 rfl (lv_at hl 1 rfl) ?_
    refine gC_H_faults F hw tw1_212 dX10_explained_15 ?_
    refine lv_aload_n hx hb dX10_explained_18 rfl (lv_at hl 1 rfl) ?_
    refine lv_iload_n hx hb dX10_explained_19 rfl (lv_at hl 2 rfl) ?_
    refine call_V hexC F (kX10_rowOf h) 1 tw2_16 tw1_1 tw2_15 tws1_0 tw2_13 hdX10_rowOf ⟨Nat.le_trans (by decide) hR.1, Nat.le_trans (by decide) hR.2⟩ (hw.recv (k := 0) (i := 0) rfl rfl rfl) hA hw hS rfl hl.1 rfl (Nat.le_of_ble_eq_true rfl) dX10_explained_20 (fun v5 μ6 H locs h hw hS => ?_)
    refine lv_iload_n hx hb dX10_explained_23 rfl (lv_at hl 3 rfl) ?_
    refine call_V hexC F (kX1_listen h) 2 tw4_153 tw1_3 tw4_151 tw4_152 tw4_150 hdX1_listen ⟨Nat.le_trans (by decide) hR.1, Nat.le_trans (by decide) hR.2⟩ (hw.recv (k := 6) (i := 0) rfl rfl rfl) hA hw hS rfl hl.1 rfl (Nat.le_of_ble_eq_true rfl) dX10_explained_24 (fun v7 μ8 H locs h hw hS => ?_)
    refine lv_aload_n hx hb dX10_explained_27 rfl (lv_at hl 1 rfl) ?_
    refine gC_H_faults F hw tw1_212 dX10_explained_28 ?_
    refine call_V hexC F (kX1_search h) 0 tw4_171 tw1_3 tw4_169 tw4_170 tw4_168 hdX1_search ⟨Nat.le_trans (by decide) hR.1, Nat.le_trans (by decide) hR.2⟩ (hw.recv (k := 6) (i := 0) rfl rfl rfl) hA hw hS rfl hl.1 rfl (Nat.le_of_ble_eq_true rfl) dX10_explained_31 (fun v9 μ10 H locs h hw hS => ?_)
    refine lv_aload_n hx hb dX10_explained_34 rfl (lv_at hl 1 rfl) ?_
    refine gC_H_faults F hw tw1_212 dX10_explained_35 ?_
    refine gC_U_fitting F hw tw1_62 dX10_explained_38 ?_
    exact ret _ _ _ _ _ _ h hw hS dX10_explained_41
  · have h := ite_f c4 h
    refine lv_iload_n hx hb dX10_explained_12 rfl (lv_at hl 0 rfl) ?_
    exact ret _ _ _ _ _ _ h hw hS dX10_explained_13
set_option maxRecDepth 100000 in
set_option maxHeartbeats 4000000 in
theorem kX10_explained {l : Launch} {D : va_G} {cy : Nat → ClassId} {ad : AD} {A : Nat → Prop} {G : GG} {x1 : Int} {x2 : Int} {μ : MM} {Q : Int → MM → Prop} (h : wpX10_explained G x1 x2 μ Q) : Met l yX10_explained (Cond.code yX10_explained cX10_explained 4 (some .int) :: uw) (rmm 5 116) (wPc [.ref (ad 0 0), .int (iI x1), .int (iI x2)] (dmC G) (cfC G) tyC (exC G) D cy ad A μ) (wQ vI Q (dmC G) (cfC G) D cy ad A) 0 0 A :=
  met_of (by decide) (Nat.le_of_ble_eq_true rfl) (fun p e R s m args below meth c ls hr hk hRR F hA hw hS hl => wX10_explained F hA (by subst hRR; exact ⟨Nat.le_refl _, Nat.le_refl _⟩) (retI_of F hr hk) h hw hS hl)
theorem hdX10_explained : yX10_explained.cls ≠ "java/lang/invoke/MethodHandle" ∧ yX10_explained.cls ≠ "java/lang/invoke/VarHandle" ∧ (parseMethodDescriptor yX10_explained.desc).map (fun d => d.parameters.length) = some 2 := by decide +kernel
def wpX10_fault (G : GG) (x1 : Int) (x2 : Int) (μ : MM) (Q : Int → MM → Prop) : Prop := wpX10_refusalOfHeard G x1 x2 1 μ (fun v1 μ2 => rg v1 ∧ (if v1 = 0 then (wpX10_rowOf G x1 μ2 (fun v5 μ6 => wpX1_listen G v5 x2 μ6 (fun v7 μ8 => wpX1_search G μ8 (fun v9 μ10 => ∀ μ11 : MM, μ11 = ms μ10 0 7 0 (μ10 6 2 0) → (∀ μ12 : MM, μ12 = ms μ11 0 8 0 (μ11 6 3 0) → (∀ μ13 : MM, μ13 = ms μ12 0 9 0 (μ12 6 4 0) → (∀ μ14 : MM, μ14 = ms μ13 0 11 0 (μ13 6 5 0) → (Q (μ14 0 7 0) μ14)))))))) else (Q v1 μ2)))
set_option maxRecDepth 100000 in
set_option maxHeartbeats 4000000 in
theorem wX10_fault {G : GG} {Q : Int → MM → Prop} {x1 : Int} {x2 : Int} {μ : MM} {H : Heap} {locs : List Loc} {ls : Array Slot} (F : CallFix p m c cX10_fault 4 s args uw RX10) (hA : ∀ q : Nat, s.heap.size ≤ q → A q) (hR : 5 ≤ R.frames ∧ 116 ≤ R.locals) (ret : RetI p l e R s m args below meth c cX10_fault Qf (dmC G) (cfC G) tyC (exC G) D cy ad A Q) (h : wpX10_fault G x1 x2 μ Q) (hw : wdC G D cy ad A μ s H) (hS : va_S A s.heap H locs) (hl : lv_has ls 4 [(0, .ref (ad 0 0)), (1, .int (iI x1)), (2, .int (iI x2))]) : W p l e R s m args below meth c H locs 0 0 Qf (F0 m 0 ls []) := by
  have hx := F.1
  have hb := F.2.1
  have hown := F.2.2.2.1
  have hts := F.2.2.2.2
  refine lv_aload_n hx hb dX10_fault_0 rfl (lv_at hl 0 rfl) ?_
  refine lv_iload_n hx hb dX10_fault_1 rfl (lv_at hl 1 rfl) ?_
  refine lv_iload_n hx hb dX10_fault_2 rfl (lv_at hl 2 rfl) ?_
  refine q_iconst hx hb dX10_fault_3 ?_
  refine call_V hexC F (kX10_refusalOfHeard h) 3 tw4_149 tw1_1 tw4_148 tws1_9 tw4_146 hdX10_refusalOfHeard ⟨Nat.le_trans (by decide) hR.1, Nat.le_trans (by decide) hR.2⟩ (hw.recv (k := 0) (i := 0) rfl rfl rfl) hA hw hS rfl hl.1 rfl (Nat.le_of_ble_eq_true rfl) dX10_fault_4 (fun v1 μ2 H locs h hw hS => ?_)
  refine lv_istore_n (lv' := [(3, .int (iI v1)), (0, .ref (ad 0 0)), (1, .int (iI x1)), (2, .int (iI x2))]) hx hb dX10_fault_7 rfl hl (by decide) rfl (fun ls hl => ?_)
  refine lv_iload_n hx hb dX10_fault_8 rfl (lv_at hl 0 rfl) ?_
  obtain ⟨g3, h⟩ := h
  refine q_if_eq (tgt := 14) hx hb g3 dX10_fault_9 (by decide) (fun c4 => ?_) (fun c4 => ?_)
  · have h := ite_t c4 h
    refine lv_aload_n hx hb dX10_fault_14 rfl (lv_at hl 1 rfl) ?_
    refine gC_H_faults F hw tw1_212 dX10_fault_15 ?_
    refine lv_aload_n hx hb dX10_fault_18 rfl (lv_at hl 1 rfl) ?_
    refine lv_iload_n hx hb dX10_fault_19 rfl (lv_at hl 2 rfl) ?_
    refine call_V hexC F (kX10_rowOf h) 1 tw2_16 tw1_1 tw2_15 tws1_0 tw2_13 hdX10_rowOf ⟨Nat.le_trans (by decide) hR.1, Nat.le_trans (by decide) hR.2⟩ (hw.recv (k := 0) (i := 0) rfl rfl rfl) hA hw hS rfl hl.1 rfl (Nat.le_of_ble_eq_true rfl) dX10_fault_20 (fun v5 μ6 H locs h hw hS => ?_)
    refine lv_iload_n hx hb dX10_fault_23 rfl (lv_at hl 3 rfl) ?_
    refine call_V hexC F (kX1_listen h) 2 tw4_153 tw1_3 tw4_151 tw4_152 tw4_150 hdX1_listen ⟨Nat.le_trans (by decide) hR.1, Nat.le_trans (by decide) hR.2⟩ (hw.recv (k := 6) (i := 0) rfl rfl rfl) hA hw hS rfl hl.1 rfl (Nat.le_of_ble_eq_true rfl) dX10_fault_24 (fun v7 μ8 H locs h hw hS => ?_)
    refine lv_aload_n hx hb dX10_fault_27 rfl (lv_at hl 1 rfl) ?_
    refine gC_H_faults F hw tw1_212 dX10_fault_28 ?_
    refine call_V hexC F (kX1_search h) 0 tw4_171 tw1_3 tw4_169 tw4_170 tw4_168 hdX1_search ⟨Nat.le_trans (by decide) hR.1, Nat.le_trans (by decide) hR.2⟩ (hw.recv (k := 6) (i := 0) rfl rfl rfl) hA hw hS rfl hl.1 rfl (Nat.le_of_ble_eq_true rfl) dX10_fault_31 (fun v9 μ10 H locs h hw hS => ?_)
    refine lv_aload_n hx hb dX10_fault_34 rfl (lv_at hl 1 rfl) ?_
    refine lv_aload_n hx hb dX10_fault_35 rfl (lv_at hl 1 rfl) ?_
    refine gC_H_faults F hw tw1_212 dX10_fault_36 ?_
    refine gC_U_sort F hw tw1_54 dX10_fault_39 ?_
    obtain ⟨μ11, eμ11⟩ : ∃ z : MM, z = ms μ10 0 7 0 (μ10 6 2 0) := ⟨_, rfl⟩
    have h := h μ11 eμ11
    refine pC_H_faultSort F hw hS tw1_213 eμ11 dX10_fault_42 (fun H locs hw hS => ?_)
    refine lv_aload_n hx hb dX10_fault_45 rfl (lv_at hl 1 rfl) ?_
    refine lv_aload_n hx hb dX10_fault_46 rfl (lv_at hl 1 rfl) ?_
    refine gC_H_faults F hw tw1_212 dX10_fault_47 ?_
    refine gC_U_first F hw tw1_56 dX10_fault_50 ?_
    obtain ⟨μ12, eμ12⟩ : ∃ z : MM, z = ms μ11 0 8 0 (μ11 6 3 0) := ⟨_, rfl⟩
    have h := h μ12 eμ12
    refine pC_H_faultFirst F hw hS tw1_214 eμ12 dX10_fault_53 (fun H locs hw hS => ?_)
    refine lv_aload_n hx hb dX10_fault_56 rfl (lv_at hl 1 rfl) ?_
    refine lv_aload_n hx hb dX10_fault_57 rfl (lv_at hl 1 rfl) ?_
    refine gC_H_faults F hw tw1_212 dX10_fault_58 ?_
    refine gC_U_second F hw tw1_58 dX10_fault_61 ?_
    obtain ⟨μ13, eμ13⟩ : ∃ z : MM, z = ms μ12 0 9 0 (μ12 6 4 0) := ⟨_, rfl⟩
    have h := h μ13 eμ13
    refine pC_H_faultSecond F hw hS tw1_215 eμ13 dX10_fault_64 (fun H locs hw hS => ?_)
    refine lv_aload_n hx hb dX10_fault_67 rfl (lv_at hl 1 rfl) ?_
    refine lv_aload_n hx hb dX10_fault_68 rfl (lv_at hl 1 rfl) ?_
    refine gC_H_faults F hw tw1_212 dX10_fault_69 ?_
    refine gC_U_fewest F hw tw1_60 dX10_fault_72 ?_
    obtain ⟨μ14, eμ14⟩ : ∃ z : MM, z = ms μ13 0 11 0 (μ13 6 5 0) := ⟨_, rfl⟩
    have h := h μ14 eμ14
    refine pC_H_asked F hw hS tw1_217 eμ14 dX10_fault_75 (fun H locs hw hS => ?_)
    refine lv_aload_n hx hb dX10_fault_78 rfl (lv_at hl 1 rfl) ?_
    refine gC_H_faultSort F hw tw1_213 dX10_fault_79 ?_
    exact ret _ _ _ _ _ _ h hw hS dX10_fault_82
  · have h := ite_f c4 h
    refine lv_iload_n hx hb dX10_fault_12 rfl (lv_at hl 0 rfl) ?_
    exact ret _ _ _ _ _ _ h hw hS dX10_fault_13
set_option maxRecDepth 100000 in
set_option maxHeartbeats 4000000 in
theorem kX10_fault {l : Launch} {D : va_G} {cy : Nat → ClassId} {ad : AD} {A : Nat → Prop} {G : GG} {x1 : Int} {x2 : Int} {μ : MM} {Q : Int → MM → Prop} (h : wpX10_fault G x1 x2 μ Q) : Met l yX10_fault (Cond.code yX10_fault cX10_fault 4 (some .int) :: uw) (rmm 5 116) (wPc [.ref (ad 0 0), .int (iI x1), .int (iI x2)] (dmC G) (cfC G) tyC (exC G) D cy ad A μ) (wQ vI Q (dmC G) (cfC G) D cy ad A) 0 0 A :=
  met_of (by decide) (Nat.le_of_ble_eq_true rfl) (fun p e R s m args below meth c ls hr hk hRR F hA hw hS hl => wX10_fault F hA (by subst hRR; exact ⟨Nat.le_refl _, Nat.le_refl _⟩) (retI_of F hr hk) h hw hS hl)
theorem hdX10_fault : yX10_fault.cls ≠ "java/lang/invoke/MethodHandle" ∧ yX10_fault.cls ≠ "java/lang/invoke/VarHandle" ∧ (parseMethodDescriptor yX10_fault.desc).map (fun d => d.parameters.length) = some 2 := by decide +kernel
def wpX10_faultTold (G : GG) (x1 : Int) (μ : MM) (Q : Int → MM → Prop) : Prop := rg (μ 0 7 0) ∧ (if (μ 0 7 0) = (-9) then (Q (-9) μ) else (if (μ 0 7 0) = 0 then (Q (-9) μ) else (rg x1 ∧ (if x1 = 0 then (Q (μ 0 8 0) μ) else (if (μ 0 7 0) = 3 then (Q (-9) μ) else (Q (μ 0 9 0) μ))))))
set_option maxRecDepth 100000 in
set_option maxHeartbeats 4000000 in
theorem wX10_faultTold {G : GG} {Q : Int → MM → Prop} {x1 : Int} {μ : MM} {H : Heap} {locs : List Loc} {ls : Array Slot} (F : CallFix p m c cX10_faultTold 2 s args uw RX10) (hA : ∀ q : Nat, s.heap.size ≤ q → A q) (hR : 0 ≤ R.frames ∧ 0 ≤ R.locals) (ret : RetI p l e R s m args below meth c cX10_faultTold Qf (dmC G) (cfC G) tyC (exC G) D cy ad A Q) (h : wpX10_faultTold G x1 μ Q) (hw : wdC G D cy ad A μ s H) (hS : va_S A s.heap H locs) (hl : lv_has ls 2 [(0, .ref (ad 0 0)), (1, .int (iI x1))]) : W p l e R s m args below meth c H locs 0 0 Qf (F0 m 0 ls []) := by
  have hx := F.1
  have hb := F.2.1
  have hown := F.2.2.2.1
  have hts := F.2.2.2.2
  refine lv_aload_n hx hb dX10_faultTold_0 rfl (lv_at hl 0 rfl) ?_
  refine gC_H_faultSort F hw tw1_213 dX10_faultTold_1 ?_
  refine q_bipush hx hb (by decide) dX10_faultTold_4 ?_
  obtain ⟨g1, h⟩ := h
  refine q_icmp_eq (tgt := 16) hx hb g1 (by decide) dX10_faultTold_6 (by decide) (fun c2 => ?_) (fun c2 => ?_)
  · have h := ite_t c2 h
    refine q_bipush hx hb (by decide) dX10_faultTold_16 ?_
    exact ret _ _ _ _ _ _ h hw hS dX10_faultTold_18
  · have h := ite_f c2 h
    refine lv_aload_n hx hb dX10_faultTold_9 rfl (lv_at hl 0 rfl) ?_
    refine gC_H_faultSort F hw tw1_213 dX10_faultTold_10 ?_
    refine q_if_ne (tgt := 19) hx hb g1 dX10_faultTold_13 (by decide) (fun c3 => ?_) (fun c3 => ?_)
    · have h := ite_f c3 h
      refine lv_iload_n hx hb dX10_faultTold_19 rfl (lv_at hl 1 rfl) ?_
      obtain ⟨g4, h⟩ := h
      refine q_if_ne (tgt := 28) hx hb g4 dX10_faultTold_20 (by decide) (fun c5 => ?_) (fun c5 => ?_)
      · have h := ite_f c5 h
        refine lv_aload_n hx hb dX10_faultTold_28 rfl (lv_at hl 0 rfl) ?_
        refine gC_H_faultSort F hw tw1_213 dX10_faultTold_29 ?_
        refine q_iconst hx hb dX10_faultTold_32 ?_
        refine q_icmp_ne (tgt := 41) hx hb g1 (by decide) dX10_faultTold_33 (by decide) (fun c6 => ?_) (fun c6 => ?_)
        · have h := ite_f c6 h
          refine lv_aload_n hx hb dX10_faultTold_41 rfl (lv_at hl 0 rfl) ?_
          refine gC_H_faultSecond F hw tw1_215 dX10_faultTold_42 ?_
          exact ret _ _ _ _ _ _ h hw hS dX10_faultTold_45
        · have h := ite_t c6 h
          refine q_bipush hx hb (by decide) dX10_faultTold_36 ?_
          refine lv_goto (tgt := 45) hx hb dX10_faultTold_38 (by decide) ?_
          exact ret _ _ _ _ _ _ h hw hS dX10_faultTold_45
      · have h := ite_t c5 h
        refine lv_aload_n hx hb dX10_faultTold_23 rfl (lv_at hl 0 rfl) ?_
        refine gC_H_faultFirst F hw tw1_214 dX10_faultTold_24 ?_
        exact ret _ _ _ _ _ _ h hw hS dX10_faultTold_27
    · have h := ite_t c3 h
      refine q_bipush hx hb (by decide) dX10_faultTold_16 ?_
      exact ret _ _ _ _ _ _ h hw hS dX10_faultTold_18
set_option maxRecDepth 100000 in
set_option maxHeartbeats 4000000 in
theorem kX10_faultTold {l : Launch} {D : va_G} {cy : Nat → ClassId} {ad : AD} {A : Nat → Prop} {G : GG} {x1 : Int} {μ : MM} {Q : Int → MM → Prop} (h : wpX10_faultTold G x1 μ Q) : Met l yX10_faultTold (Cond.code yX10_faultTold cX10_faultTold 2 (some .int) :: uw) (rmm 0 0) (wPc [.ref (ad 0 0), .int (iI x1)] (dmC G) (cfC G) tyC (exC G) D cy ad A μ) (wQ vI Q (dmC G) (cfC G) D cy ad A) 0 0 A :=
  met_of (by decide) (Nat.le_of_ble_eq_true rfl) (fun p e R s m args below meth c ls hr hk hRR F hA hw hS hl => wX10_faultTold F hA (by subst hRR; exact ⟨Nat.le_refl _, Nat.le_refl _⟩) (retI_of F hr hk) h hw hS hl)
theorem hdX10_faultTold : yX10_faultTold.cls ≠ "java/lang/invoke/MethodHandle" ∧ yX10_faultTold.cls ≠ "java/lang/invoke/VarHandle" ∧ (parseMethodDescriptor yX10_faultTold.desc).map (fun d => d.parameters.length) = some 1 := by decide +kernel
def wpX10_finding (G : GG) (μ : MM) (Q : Int → MM → Prop) : Prop := Q (μ 0 12 0) μ
set_option maxRecDepth 100000 in
set_option maxHeartbeats 4000000 in
theorem wX10_finding {G : GG} {Q : Int → MM → Prop} {μ : MM} {H : Heap} {locs : List Loc} {ls : Array Slot} (F : CallFix p m c cX10_finding 1 s args uw RX10) (hA : ∀ q : Nat, s.heap.size ≤ q → A q) (hR : 0 ≤ R.frames ∧ 0 ≤ R.locals) (ret : RetI p l e R s m args below meth c cX10_finding Qf (dmC G) (cfC G) tyC (exC G) D cy ad A Q) (h : wpX10_finding G μ Q) (hw : wdC G D cy ad A μ s H) (hS : va_S A s.heap H locs) (hl : lv_has ls 1 [(0, .ref (ad 0 0))]) : W p l e R s m args below meth c H locs 0 0 Qf (F0 m 0 ls []) := by
  have hx := F.1
  have hb := F.2.1
  have hown := F.2.2.2.1
  have hts := F.2.2.2.2
  refine lv_aload_n hx hb dX10_finding_0 rfl (lv_at hl 0 rfl) ?_
  refine gC_H_finding F hw tw1_218 dX10_finding_1 ?_
  exact ret _ _ _ _ _ _ h hw hS dX10_finding_4
set_option maxRecDepth 100000 in
set_option maxHeartbeats 4000000 in
theorem kX10_finding {l : Launch} {D : va_G} {cy : Nat → ClassId} {ad : AD} {A : Nat → Prop} {G : GG} {μ : MM} {Q : Int → MM → Prop} (h : wpX10_finding G μ Q) : Met l yX10_finding (Cond.code yX10_finding cX10_finding 1 (some .int) :: uw) (rmm 0 0) (wPc [.ref (ad 0 0)] (dmC G) (cfC G) tyC (exC G) D cy ad A μ) (wQ vI Q (dmC G) (cfC G) D cy ad A) 0 0 A :=
  met_of (by decide) (Nat.le_of_ble_eq_true rfl) (fun p e R s m args below meth c ls hr hk hRR F hA hw hS hl => wX10_finding F hA (by subst hRR; exact ⟨Nat.le_refl _, Nat.le_refl _⟩) (retI_of F hr hk) h hw hS hl)
theorem hdX10_finding : yX10_finding.cls ≠ "java/lang/invoke/MethodHandle" ∧ yX10_finding.cls ≠ "java/lang/invoke/VarHandle" ∧ (parseMethodDescriptor yX10_finding.desc).map (fun d => d.parameters.length) = some 0 := by decide +kernel
def wpX10_findings (G : GG) (x1 : Int) (μ : MM) (Q : Int → MM → Prop) : Prop := rg x1 ∧ (if x1 < 1 then (Q (-1) μ) else (if 6 ≤ x1 then (Q (-1) μ) else (0 ≤ x1 ∧ (x1 < 6 ∧ (Q (μ 19 0 x1) μ)))))
set_option maxRecDepth 100000 in
set_option maxHeartbeats 4000000 in
theorem wX10_findings {G : GG} {Q : Int → MM → Prop} {x1 : Int} {μ : MM} {H : Heap} {locs : List Loc} {ls : Array Slot} (F : CallFix p m c cX10_findings 2 s args uw RX10) (hA : ∀ q : Nat, s.heap.size ≤ q → A q) (hR : 0 ≤ R.frames ∧ 0 ≤ R.locals) (ret : RetI p l e R s m args below meth c cX10_findings Qf (dmC G) (cfC G) tyC (exC G) D cy ad A Q) (h : wpX10_findings G x1 μ Q) (hw : wdC G D cy ad A μ s H) (hS : va_S A s.heap H locs) (hl : lv_has ls 2 [(0, .ref (ad 0 0)), (1, .int (iI x1))]) : W p l e R s m args below meth c H locs 0 0 Qf (F0 m 0 ls []) := by
  have hx := F.1
  have hb := F.2.1
  have hown := F.2.2.2.1
  have hts := F.2.2.2.2
  refine lv_iload_n hx hb dX10_findings_0 rfl (lv_at hl 1 rfl) ?_
  refine q_iconst hx hb dX10_findings_1 ?_
  obtain ⟨g1, h⟩ := h
  refine q_icmp_lt (tgt := 23) hx hb g1 (by decide) dX10_findings_2 (by decide) (fun c2 => ?_) (fun c2 => ?_)
  · have h := ite_t c2 h
    refine q_iconst hx hb dX10_findings_23 ?_
    exact ret _ _ _ _ _ _ h hw hS dX10_findings_24
  · have h := ite_f c2 h
    refine lv_iload_n hx hb dX10_findings_5 rfl (lv_at hl 1 rfl) ?_
    refine lv_aload_n hx hb dX10_findings_6 rfl (lv_at hl 0 rfl) ?_
    refine gC_H_findingCounts F hw tw1_219 dX10_findings_7 ?_
    refine aC_19_ln hx hb hw dX10_findings_10 ?_
    refine q_icmp_ge (tgt := 23) hx hb g1 (by decide) dX10_findings_11 (by decide) (fun c3 => ?_) (fun c3 => ?_)
    · have h := ite_t c3 h
      refine q_iconst hx hb dX10_findings_23 ?_
      exact ret _ _ _ _ _ _ h hw hS dX10_findings_24
    · have h := ite_f c3 h
      refine lv_aload_n hx hb dX10_findings_14 rfl (lv_at hl 0 rfl) ?_
      refine gC_H_findingCounts F hw tw1_219 dX10_findings_15 ?_
      refine lv_iload_n hx hb dX10_findings_18 rfl (lv_at hl 1 rfl) ?_
      obtain ⟨g4, h⟩ := h
      obtain ⟨g5, h⟩ := h
      refine aC_19_ld hx hb hw g4 g5 dX10_findings_19 ?_
      refine lv_goto (tgt := 24) hx hb dX10_findings_20 (by decide) ?_
      exact ret _ _ _ _ _ _ h hw hS dX10_findings_24
set_option maxRecDepth 100000 in
set_option maxHeartbeats 4000000 in
theorem kX10_findings {l : Launch} {D : va_G} {cy : Nat → ClassId} {ad : AD} {A : Nat → Prop} {G : GG} {x1 : Int} {μ : MM} {Q : Int → MM → Prop} (h : wpX10_findings G x1 μ Q) : Met l yX10_findings (Cond.code yX10_findings cX10_findings 2 (some .int) :: uw) (rmm 0 0) (wPc [.ref (ad 0 0), .int (iI x1)] (dmC G) (cfC G) tyC (exC G) D cy ad A μ) (wQ vI Q (dmC G) (cfC G) D cy ad A) 0 0 A :=
  met_of (by decide) (Nat.le_of_ble_eq_true rfl) (fun p e R s m args below meth c ls hr hk hRR F hA hw hS hl => wX10_findings F hA (by subst hRR; exact ⟨Nat.le_refl _, Nat.le_refl _⟩) (retI_of F hr hk) h hw hS hl)
theorem hdX10_findings : yX10_findings.cls ≠ "java/lang/invoke/MethodHandle" ∧ yX10_findings.cls ≠ "java/lang/invoke/VarHandle" ∧ (parseMethodDescriptor yX10_findings.desc).map (fun d => d.parameters.length) = some 1 := by decide +kernel
def wpX4_letGo_J19 (G : GG) (Q : Int → MM → Prop) (i : Int) (t0 : Int) (μ : MM) : Prop := wpX9_strokesRound G i (μ 2 14 i) μ (fun v1 μ2 => ∀ μ3 : MM, μ3 = ms μ2 2 7 i ((μ 2 7 i) + v1) → ((t0 = 0 ∨ t0 = 1) ∧ (∀ μ5 : MM, μ5 = ms μ3 2 11 i t0 → (rg t0 ∧ (if t0 = 0 then (∀ μ8 : MM, μ8 = ms μ5 2 14 i ((μ5 2 14 i) + 1) → (Q 0 μ8)) else (∀ μ9 : MM, μ9 = ms μ5 2 14 i 0 → (Q 0 μ9)))))))
set_option maxRecDepth 100000 in
set_option maxHeartbeats 4000000 in
theorem wX4_letGo_J19 {G : GG} {Q : Int → MM → Prop} {i : Int} {t0 : Int} {μ : MM} {H : Heap} {locs : List Loc} {ls : Array Slot} (F : CallFix p m c cX4_letGo 4 s args uw RX4) (hA : ∀ q : Nat, s.heap.size ≤ q → A q) (hR : 1 ≤ R.frames ∧ 22 ≤ R.locals) (ret : RetV p l e R s m args below meth c cX4_letGo Qf (dmC G) (cfC G) tyC (exC G) D cy ad A Q) (h : wpX4_letGo_J19 G Q i t0 μ) (hi_i : 0 ≤ i ∧ i < G 0 0) (hc_i : G 1 i = 1 ∨ G 1 i = 3) (hw : wdC G D cy ad A μ s H) (hS : va_S A s.heap H locs) (hl : lv_has ls 4 [(0, .ref (ad 2 i))]) : W p l e R s m args below meth c H locs 0 0 Qf (F0 m 19 ls [.int (iI t0)]) := by
  have hx := F.1
  have hb := F.2.1
  have hown := F.2.2.2.1
  have hts := F.2.2.2.2
  refine lv_istore_n (lv' := [(3, .int (iI t0)), (0, .ref (ad 2 i))]) hx hb dX4_letGo_19 rfl hl (by decide) rfl (fun ls hl => ?_)
  refine lv_aload_n hx hb dX4_letGo_20 rfl (lv_at hl 1 rfl) ?_
  refine lv_dup hx hb dX4_letGo_21 rfl ?_
  refine gC_T_due F hw hi_i tw2_91 (u_same (hts _ tw2_92)) dX4_letGo_22 ?_
  refine lv_aload_n hx hb dX4_letGo_25 rfl (lv_at hl 1 rfl) ?_
  refine lv_aload_n hx hb dX4_letGo_26 rfl (lv_at hl 1 rfl) ?_
  refine gC_T_at F hw hi_i hc_i tw2_172 (fun _ h => h) dX4_letGo_27 ?_
  refine dc_Plate_strokesRound F tw3_181 h hi_i hc_i ⟨Nat.le_trans (by decide) hR.1, Nat.le_trans (by decide) hR.2⟩ hA hw hS hl.1 rfl (Nat.le_of_ble_eq_true rfl) dX4_letGo_30 (fun v1 μ2 H locs h hw hS => ?_)
  refine q_iadd hx hb dX4_letGo_33 ?_
  obtain ⟨μ3, eμ3⟩ : ∃ z : MM, z = ms μ2 2 7 i ((μ 2 7 i) + v1) := ⟨_, rfl⟩
  have h := h μ3 eμ3
  refine pC_T_due F hw hS hi_i tw2_91 (u_same (hts _ tw2_92)) eμ3 dX4_letGo_34 (fun H locs hw hS => ?_)
  refine lv_aload_n hx hb dX4_letGo_37 rfl (lv_at hl 1 rfl) ?_
  refine lv_iload_n hx hb dX4_letGo_38 rfl (lv_at hl 0 rfl) ?_
  obtain ⟨g4, h⟩ := h
  obtain ⟨μ5, eμ5⟩ : ∃ z : MM, z = ms μ3 2 11 i t0 := ⟨_, rfl⟩
  have h := h μ5 eμ5
  refine pC_T_lifts F hw hS hi_i tw2_105 (u_same (hts _ tw2_106)) g4 eμ5 dX4_letGo_39 (fun H locs hw hS => ?_)
  refine lv_aload_n hx hb dX4_letGo_42 rfl (lv_at hl 1 rfl) ?_
  refine lv_iload_n hx hb dX4_letGo_43 rfl (lv_at hl 0 rfl) ?_
  obtain ⟨g6, h⟩ := h
  refine q_if_eq (tgt := 51) hx hb g6 dX4_letGo_44 (by decide) (fun c7 => ?_) (fun c7 => ?_)
  · have h := ite_t c7 h
    refine lv_aload_n hx hb dX4_letGo_51 rfl (lv_at hl 1 rfl) ?_
    refine gC_T_at F hw hi_i hc_i tw2_172 (fun _ h => h) dX4_letGo_52 ?_
    refine q_iconst hx hb dX4_letGo_55 ?_
    refine q_iadd hx hb dX4_letGo_56 ?_
    obtain ⟨μ8, eμ8⟩ : ∃ z : MM, z = ms μ5 2 14 i ((μ5 2 14 i) + 1) := ⟨_, rfl⟩
    have h := h μ8 eμ8
    refine pC_T_at F hw hS hi_i hc_i tw2_172 (fun _ h => h) eμ8 dX4_letGo_57 (fun H locs hw hS => ?_)
    exact ret _ _ _ _ _ h hw hS dX4_letGo_60
  · have h := ite_f c7 h
    refine q_iconst hx hb dX4_letGo_47 ?_
    refine lv_goto (tgt := 57) hx hb dX4_letGo_48 (by decide) ?_
    obtain ⟨μ9, eμ9⟩ : ∃ z : MM, z = ms μ5 2 14 i 0 := ⟨_, rfl⟩
    have h := h μ9 eμ9
    refine pC_T_at F hw hS hi_i hc_i tw2_172 (fun _ h => h) eμ9 dX4_letGo_57 (fun H locs hw hS => ?_)
    exact ret _ _ _ _ _ h hw hS dX4_letGo_60
def wpX4_letGo (G : GG) (i : Int) (x1 : Int) (x2 : Int) (μ : MM) (Q : Int → MM → Prop) : Prop := rg ((μ 2 14 i) + 1) ∧ (rg (G 2 i) ∧ (if ((μ 2 14 i) + 1) < (G 2 i) then (wpX4_letGo_J19 G Q i 0 μ) else (wpX4_letGo_J19 G Q i 1 μ)))
set_option maxRecDepth 100000 in
set_option maxHeartbeats 4000000 in
theorem wX4_letGo {G : GG} {Q : Int → MM → Prop} {i : Int} {x1 : Int} {x2 : Int} {μ : MM} {H : Heap} {locs : List Loc} {ls : Array Slot} (F : CallFix p m c cX4_letGo 4 s args uw RX4) (hA : ∀ q : Nat, s.heap.size ≤ q → A q) (hR : 1 ≤ R.frames ∧ 22 ≤ R.locals) (ret : RetV p l e R s m args below meth c cX4_letGo Qf (dmC G) (cfC G) tyC (exC G) D cy ad A Q) (h : wpX4_letGo G i x1 x2 μ Q) (hi_i : 0 ≤ i ∧ i < G 0 0) (hc_i : G 1 i = 1 ∨ G 1 i = 3) (hw : wdC G D cy ad A μ s H) (hS : va_S A s.heap H locs) (hl : lv_has ls 4 [(0, .ref (ad 2 i)), (1, .int (iI x1)), (2, .int (iI x2))]) : W p l e R s m args below meth c H locs 0 0 Qf (F0 m 0 ls []) := by
  have hx := F.1
  have hb := F.2.1
  have hown := F.2.2.2.1
  have hts := F.2.2.2.2
  refine lv_aload_n hx hb dX4_letGo_0 rfl (lv_at hl 0 rfl) ?_
  refine gC_T_at F hw hi_i hc_i tw2_172 (fun _ h => h) dX4_letGo_1 ?_
  refine q_iconst hx hb dX4_letGo_4 ?_
  refine q_iadd hx hb dX4_letGo_5 ?_
  refine lv_aload_n hx hb dX4_letGo_6 rfl (lv_at hl 0 rfl) ?_
  refine gC_T_strokes F hw hi_i tw2_75 (u_same (hts _ tw2_76)) dX4_letGo_7 ?_
  refine aC_9_ln hx hb hw hi_i dX4_letGo_10 ?_
  obtain ⟨g1, h⟩ := h
  obtain ⟨g2, h⟩ := h
  refine q_icmp_lt (tgt := 18) hx hb g1 g2 dX4_letGo_11 (by decide) (fun c3 => ?_) (fun c3 => ?_)
  · have h := ite_t c3 h
    refine q_iconst hx hb dX4_letGo_18 ?_
    exact wX4_letGo_J19 F hA hR ret h hi_i hc_i hw hS (lv_sub hl [0] rfl)
  · have h := ite_f c3 h
    refine q_iconst hx hb dX4_letGo_14 ?_
    refine lv_goto (tgt := 19) hx hb dX4_letGo_15 (by decide) ?_
    exact wX4_letGo_J19 F hA hR ret h hi_i hc_i hw hS (lv_sub hl [0] rfl)
set_option maxRecDepth 100000 in
set_option maxHeartbeats 4000000 in
theorem kX4_letGo {l : Launch} {D : va_G} {cy : Nat → ClassId} {ad : AD} {A : Nat → Prop} {G : GG} {i : Int} {x1 : Int} {x2 : Int} {μ : MM} {Q : Int → MM → Prop} (h : wpX4_letGo G i x1 x2 μ Q) (hi_i : 0 ≤ i ∧ i < G 0 0) (hc_i : G 1 i = 1 ∨ G 1 i = 3) : Met l yX4_letGo (Cond.code yX4_letGo cX4_letGo 4 none :: uw) (rmm 1 22) (wPc [.ref (ad 2 i), .int (iI x1), .int (iI x2)] (dmC G) (cfC G) tyC (exC G) D cy ad A μ) (wQ vV Q (dmC G) (cfC G) D cy ad A) 0 0 A :=
  met_of (by decide) (Nat.le_of_ble_eq_true rfl) (fun p e R s m args below meth c ls hr hk hRR F hA hw hS hl => wX4_letGo F hA (by subst hRR; exact ⟨Nat.le_refl _, Nat.le_refl _⟩) (retV_of F hr hk) h hi_i hc_i hw hS hl)
theorem hdX4_letGo : yX4_letGo.cls ≠ "java/lang/invoke/MethodHandle" ∧ yX4_letGo.cls ≠ "java/lang/invoke/VarHandle" ∧ (parseMethodDescriptor yX4_letGo.desc).map (fun d => d.parameters.length) = some 2 := by decide +kernel
def wpX7_letGo (G : GG) (i : Int) (x1 : Int) (x2 : Int) (μ : MM) (Q : Int → MM → Prop) : Prop := wpX9_strokesRound G i x1 μ (fun v1 μ2 => ∀ μ3 : MM, μ3 = ms μ2 2 7 i v1 → ((x2 = 0 ∨ x2 = 1) ∧ (∀ μ5 : MM, μ5 = ms μ3 2 11 i x2 → (Q 0 μ5))))
set_option maxRecDepth 100000 in
set_option maxHeartbeats 4000000 in
theorem wX7_letGo {G : GG} {Q : Int → MM → Prop} {i : Int} {x1 : Int} {x2 : Int} {μ : MM} {H : Heap} {locs : List Loc} {ls : Array Slot} (F : CallFix p m c cX7_letGo 3 s args uw RX7) (hA : ∀ q : Nat, s.heap.size ≤ q → A q) (hR : 1 ≤ R.frames ∧ 22 ≤ R.locals) (ret : RetV p l e R s m args below meth c cX7_letGo Qf (dmC G) (cfC G) tyC (exC G) D cy ad A Q) (h : wpX7_letGo G i x1 x2 μ Q) (hi_i : 0 ≤ i ∧ i < G 0 0) (hc_i : G 1 i = 2) (hw : wdC G D cy ad A μ s H) (hS : va_S A s.heap H locs) (hl : lv_has ls 3 [(0, .ref (ad 2 i)), (1, .int (iI x1)), (2, .int (iI x2))]) : W p l e R s m args below meth c H locs 0 0 Qf (F0 m 0 ls []) := by
  have hx := F.1
  have hb := F.2.1
  have hown := F.2.2.2.1
  have hts := F.2.2.2.2
  refine lv_aload_n hx hb dX7_letGo_0 rfl (lv_at hl 0 rfl) ?_
  refine lv_aload_n hx hb dX7_letGo_1 rfl (lv_at hl 0 rfl) ?_
  refine lv_iload_n hx hb dX7_letGo_2 rfl (lv_at hl 1 rfl) ?_
  refine dc_Snail_strokesRound F tw3_192 h hi_i hc_i ⟨Nat.le_trans (by decide) hR.1, Nat.le_trans (by decide) hR.2⟩ hA hw hS hl.1 rfl (Nat.le_of_ble_eq_true rfl) dX7_letGo_3 (fun v1 μ2 H locs h hw hS => ?_)
  obtain ⟨μ3, eμ3⟩ : ∃ z : MM, z = ms μ2 2 7 i v1 := ⟨_, rfl⟩
  have h := h μ3 eμ3
  refine pC_T_due F hw hS hi_i tw2_88 (u_same (hts _ tw2_89)) eμ3 dX7_letGo_6 (fun H locs hw hS => ?_)
  refine lv_aload_n hx hb dX7_letGo_9 rfl (lv_at hl 0 rfl) ?_
  refine lv_iload_n hx hb dX7_letGo_10 rfl (lv_at hl 2 rfl) ?_
  obtain ⟨g4, h⟩ := h
  obtain ⟨μ5, eμ5⟩ : ∃ z : MM, z = ms μ3 2 11 i x2 := ⟨_, rfl⟩
  have h := h μ5 eμ5
  refine pC_T_lifts F hw hS hi_i tw2_102 (u_same (hts _ tw2_103)) g4 eμ5 dX7_letGo_11 (fun H locs hw hS => ?_)
  exact ret _ _ _ _ _ h hw hS dX7_letGo_14
set_option maxRecDepth 100000 in
set_option maxHeartbeats 4000000 in
theorem kX7_letGo {l : Launch} {D : va_G} {cy : Nat → ClassId} {ad : AD} {A : Nat → Prop} {G : GG} {i : Int} {x1 : Int} {x2 : Int} {μ : MM} {Q : Int → MM → Prop} (h : wpX7_letGo G i x1 x2 μ Q) (hi_i : 0 ≤ i ∧ i < G 0 0) (hc_i : G 1 i = 2) : Met l yX7_letGo (Cond.code yX7_letGo cX7_letGo 3 none :: uw) (rmm 1 22) (wPc [.ref (ad 2 i), .int (iI x1), .int (iI x2)] (dmC G) (cfC G) tyC (exC G) D cy ad A μ) (wQ vV Q (dmC G) (cfC G) D cy ad A) 0 0 A :=
  met_of (by decide) (Nat.le_of_ble_eq_true rfl) (fun p e R s m args below meth c ls hr hk hRR F hA hw hS hl => wX7_letGo F hA (by subst hRR; exact ⟨Nat.le_refl _, Nat.le_refl _⟩) (retV_of F hr hk) h hi_i hc_i hw hS hl)
theorem hdX7_letGo : yX7_letGo.cls ≠ "java/lang/invoke/MethodHandle" ∧ yX7_letGo.cls ≠ "java/lang/invoke/VarHandle" ∧ (parseMethodDescriptor yX7_letGo.desc).map (fun d => d.parameters.length) = some 2 := by decide +kernel
end
