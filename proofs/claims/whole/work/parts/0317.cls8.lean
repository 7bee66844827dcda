section
variable {p : Program} {l : Launch} {e : Env} {R : Room} {s : State} {m : MethodId} {args : Array Value} {below : List Frame} {meth : Method} {c : Code} {Qf : State → Prop} {D : va_G} {cy : Nat → ClassId} {ad : AD} {A : Nat → Prop}
def wpX8_take (G : GG) (i : Int) (x1 : Int) (x2 : Int) (μ : MM) (Q : Int → MM → Prop) : Prop := rg x2 ∧ (if x2 = 0 then (∀ μ3 : MM, μ3 = ms μ 3 6 i x1 → (Q 0 μ3)) else (∀ μ4 : MM, μ4 = ms μ 3 7 i x1 → (Q 0 μ4)))
set_option maxRecDepth 100000 in
set_option maxHeartbeats 4000000 in
theorem wX8_take {G : GG} {Q : Int → MM → Prop} {i : Int} {x1 : Int} {x2 : Int} {μ : MM} {H : Heap} {locs : List Loc} {ls : Array Slot} (F : CallFix p m c cX8_take 3 s args uw RX8) (hA : ∀ q : Nat, s.heap.size ≤ q → A q) (hR : 0 ≤ R.frames ∧ 0 ≤ R.locals) (ret : RetV p l e R s m args below meth c cX8_take Qf (dmC G) (cfC G) tyC (exC G) D cy ad A Q) (h : wpX8_take G i x1 x2 μ Q) (hi_i : 0 ≤ i ∧ i < 4) (hw : wdC G D cy ad A μ s H) (hS : va_S A s.heap H locs) (hl : lv_has ls 3 [(0, .ref (ad 3 i)), (1, rf ad 2 x1), (2, .int (iI x2))]) : W p l e R s m args below meth c H locs 0 0 Qf (F0 m 0 ls []) := by
  have hx := F.1
  have hb := F.2.1
  have hown := F.2.2.2.1
  have hts := F.2.2.2.2
  refine lv_iload_n hx hb dX8_take_0 rfl (lv_at hl 2 rfl) ?_
  obtain ⟨g1, h⟩ := h
  refine q_if_eq (tgt := 12) hx hb g1 dX8_take_1 (by decide) (fun c2 => ?_) (fun c2 => ?_)
  · have h := ite_t c2 h
    refine lv_aload_n hx hb dX8_take_12 rfl (lv_at hl 0 rfl) ?_
    refine q_aload_n hx hb dX8_take_13 rfl (lv_at hl 1 rfl) ?_
    obtain ⟨μ3, eμ3⟩ : ∃ z : MM, z = ms μ 3 6 i x1 := ⟨_, rfl⟩
    have h := h μ3 eμ3
    refine pC_W_hourTrain F hw hS hi_i tw1_174 eμ3 dX8_take_14 (fun H locs hw hS => ?_)
    exact ret _ _ _ _ _ h hw hS dX8_take_17
  · have h := ite_f c2 h
    refine lv_aload_n hx hb dX8_take_4 rfl (lv_at hl 0 rfl) ?_
    refine q_aload_n hx hb dX8_take_5 rfl (lv_at hl 1 rfl) ?_
    obtain ⟨μ4, eμ4⟩ : ∃ z : MM, z = ms μ 3 7 i x1 := ⟨_, rfl⟩
    have h := h μ4 eμ4
    refine pC_W_quarterTrain F hw hS hi_i tw1_175 eμ4 dX8_take_6 (fun H locs hw hS => ?_)
    refine lv_goto (tgt := 17) hx hb dX8_take_9 (by decide) ?_
    exact ret _ _ _ _ _ h hw hS dX8_take_17
set_option maxRecDepth 100000 in
set_option maxHeartbeats 4000000 in
theorem kX8_take {l : Launch} {D : va_G} {cy : Nat → ClassId} {ad : AD} {A : Nat → Prop} {G : GG} {i : Int} {x1 : Int} {x2 : Int} {μ : MM} {Q : Int → MM → Prop} (h : wpX8_take G i x1 x2 μ Q) (hi_i : 0 ≤ i ∧ i < 4) : Met l yX8_take (Cond.code yX8_take cX8_take 3 none :: uw) (rmm 0 0) (wPc [.ref (ad 3 i), rf ad 2 x1, .int (iI x2)] (dmC G) (cfC G) tyC (exC G) D cy ad A μ) (wQ vV Q (dmC G) (cfC G) D cy ad A) 0 0 A :=
  met_of (by decide) (by simp [lg_sl, rf_cat, cat_i, cat_l, cat_r]) (fun p e R s m args below meth c ls hr hk hRR F hA hw hS hl => wX8_take F hA (by subst hRR; exact ⟨Nat.le_refl _, Nat.le_refl _⟩) (retV_of F hr hk) h hi_i hw hS (by simpa [lv_args, rf_cat, cat_i, cat_l, cat_r] using hl))
theorem hdX8_take : yX8_take.cls ≠ "java/lang/invoke/MethodHandle" ∧ yX8_take.cls ≠ "java/lang/invoke/VarHandle" ∧ (parseMethodDescriptor yX8_take.desc).map (fun d => d.parameters.length) = some 2 := by decide +kernel
def wpX8_release (G : GG) (i : Int) (x1 : Int) (μ : MM) (Q : Int → MM → Prop) : Prop := wpX8_trainIn G i x1 μ (fun v1 μ2 => if v1 < 0 then (Q (-9) μ2) else (v1 < G 0 0 ∧ (∀ μ6 : MM, μ6 = ms μ2 2 9 v1 (-9) → (wpX8_take G i (-1) x1 μ6 (fun v7 μ8 => Q v1 μ8)))))
set_option maxRecDepth 100000 in
set_option maxHeartbeats 4000000 in
theorem wX8_release {G : GG} {Q : Int → MM → Prop} {i : Int} {x1 : Int} {μ : MM} {H : Heap} {locs : List Loc} {ls : Array Slot} (F : CallFix p m c cX8_release 3 s args uw RX8) (hA : ∀ q : Nat, s.heap.size ≤ q → A q) (hR : 1 ≤ R.frames ∧ 22 ≤ R.locals) (ret : RetI p l e R s m args below meth c cX8_release Qf (dmC G) (cfC G) tyC (exC G) D cy ad A Q) (h : wpX8_release G i x1 μ Q) (hi_i : 0 ≤ i ∧ i < 4) (hw : wdC G D cy ad A μ s H) (hS : va_S A s.heap H locs) (hl : lv_has ls 3 [(0, .ref (ad 3 i)), (1, .int (iI x1))]) : W p l e R s m args below meth c H locs 0 0 Qf (F0 m 0 ls []) := by
  have hx := F.1
  have hb := F.2.1
  have hown := F.2.2.2.1
  have hts := F.2.2.2.2
  refine lv_aload_n hx hb dX8_release_0 rfl (lv_at hl 0 rfl) ?_
  refine lv_iload_n hx hb dX8_release_1 rfl (lv_at hl 1 rfl) ?_
  refine call_V hexC F (kX8_trainIn h hi_i) 1 tw3_111 tw1_6 tw3_109 tw3_110 tw3_108 hdX8_trainIn ⟨Nat.le_trans (by decide) hR.1, Nat.le_trans (by decide) hR.2⟩ (hw.recv (k := 3) (i := i) hi_i rfl rfl) hA hw hS rfl hl.1 rfl (Nat.le_of_ble_eq_true rfl) dX8_release_2 (fun v1 μ2 H locs h hw hS => ?_)
  refine q_astore_n (lv' := [(2, rf ad 2 v1), (0, .ref (ad 3 i)), (1, .int (iI x1))]) hx hb dX8_release_5 rfl hl (by decide) rfl (fun ls hl => ?_)
  refine q_aload_n hx hb dX8_release_6 rfl (lv_at hl 0 rfl) ?_
  refine q_ifnonnull (tgt := 13) hx hb dX8_release_7 (by decide) (fun c3 => ?_) (fun c3 => ?_)
  · have h := ite_t c3 h
    refine q_bipush hx hb (by decide) dX8_release_10 ?_
    exact ret _ _ _ _ _ _ h hw hS dX8_release_12
  · have h := ite_f c3 h
    obtain ⟨g4, h⟩ := h
    have hi5 : 0 ≤ v1 ∧ v1 < G 0 0 := ⟨by omega, g4⟩
    have hl : lv_has ls 3 [(2, .ref (ad 2 v1)), (0, .ref (ad 3 i)), (1, .int (iI x1))] := by rw [← rf_pos (ad := ad) (k := 2) hi5.1]; exact hl
    refine lv_aload_n hx hb dX8_release_13 rfl (lv_at hl 0 rfl) ?_
    refine q_bipush hx hb (by decide) dX8_release_14 ?_
    obtain ⟨μ6, eμ6⟩ : ∃ z : MM, z = ms μ2 2 9 v1 (-9) := ⟨_, rfl⟩
    have h := h μ6 eμ6
    refine pC_T_tower F hw hS hi5 tw2_98 (fun _ h => h) eμ6 dX8_release_16 (fun H locs hw hS => ?_)
    refine lv_aload_n hx hb dX8_release_19 rfl (lv_at hl 1 rfl) ?_
    refine lv_null hx hb dX8_release_20 ?_
    refine lv_iload_n hx hb dX8_release_21 rfl (lv_at hl 2 rfl) ?_
    refine call_V hexC F (kX8_take h hi_i) 2 tw3_115 tw1_6 tw3_113 tw3_114 tw3_112 hdX8_take ⟨Nat.le_trans (by decide) hR.1, Nat.le_trans (by decide) hR.2⟩ (hw.recv (k := 3) (i := i) hi_i rfl rfl) hA hw hS rfl hl.1 (by first | (rw [← rf_neg (ad := ad) (k := 2) (x := -1) (by decide)]; rfl) | (simp only [← rf_neg (ad := ad) (k := 2) (x := -1) (by decide)]; rfl)) (Nat.le_of_ble_eq_true rfl) dX8_release_22 (fun v7 μ8 H locs h hw hS => ?_)
    refine lv_aload_n hx hb dX8_release_25 rfl (lv_at hl 0 rfl) ?_
    refine gC_T_number F hw hi5 tw2_70 (fun _ h => h) dX8_release_26 ?_
    exact ret _ _ _ _ _ _ h hw hS dX8_release_29
set_option maxRecDepth 100000 in
set_option maxHeartbeats 4000000 in
theorem kX8_release {l : Launch} {D : va_G} {cy : Nat → ClassId} {ad : AD} {A : Nat → Prop} {G : GG} {i : Int} {x1 : Int} {μ : MM} {Q : Int → MM → Prop} (h : wpX8_release G i x1 μ Q) (hi_i : 0 ≤ i ∧ i < 4) : Met l yX8_release (Cond.code yX8_release cX8_release 3 (some .int) :: uw) (rmm 1 22) (wPc [.ref (ad 3 i), .int (iI x1)] (dmC G) (cfC G) tyC (exC G) D cy ad A μ) (wQ vI Q (dmC G) (cfC G) D cy ad A) 0 0 A :=
  met_of (by decide) (Nat.le_of_ble_eq_true rfl) (fun p e R s m args below meth c ls hr hk hRR F hA hw hS hl => wX8_release F hA (by subst hRR; exact ⟨Nat.le_refl _, Nat.le_refl _⟩) (retI_of F hr hk) h hi_i hw hS hl)
theorem hdX8_release : yX8_release.cls ≠ "java/lang/invoke/MethodHandle" ∧ yX8_release.cls ≠ "java/lang/invoke/VarHandle" ∧ (parseMethodDescriptor yX8_release.desc).map (fun d => d.parameters.length) = some 1 := by decide +kernel
def wpX9_comeTo (G : GG) (i : Int) (x1 : Int) (μ : MM) (Q : Int → MM → Prop) : Prop := ∀ μ1 : MM, μ1 = ms μ 2 9 i x1 → (∀ μ2 : MM, μ2 = ms μ1 2 10 i 0 → (∀ μ3 : MM, μ3 = ms μ2 2 7 i 0 → (Q 0 μ3)))
set_option maxRecDepth 100000 in
set_option maxHeartbeats 4000000 in
theorem wX9_comeTo {G : GG} {Q : Int → MM → Prop} {i : Int} {x1 : Int} {μ : MM} {H : Heap} {locs : List Loc} {ls : Array Slot} (F : CallFix p m c cX9_comeTo 2 s args uw RX9) (hA : ∀ q : Nat, s.heap.size ≤ q → A q) (hR : 0 ≤ R.frames ∧ 0 ≤ R.locals) (ret : RetV p l e R s m args below meth c cX9_comeTo Qf (dmC G) (cfC G) tyC (exC G) D cy ad A Q) (h : wpX9_comeTo G i x1 μ Q) (hi_i : 0 ≤ i ∧ i < G 0 0) (hw : wdC G D cy ad A μ s H) (hS : va_S A s.heap H locs) (hl : lv_has ls 2 [(0, .ref (ad 2 i)), (1, .int (iI x1))]) : W p l e R s m args below meth c H locs 0 0 Qf (F0 m 0 ls []) := by
  have hx := F.1
  have hb := F.2.1
  have hown := F.2.2.2.1
  have hts := F.2.2.2.2
  refine lv_aload_n hx hb dX9_comeTo_0 rfl (lv_at hl 0 rfl) ?_
  refine lv_iload_n hx hb dX9_comeTo_1 rfl (lv_at hl 1 rfl) ?_
  obtain ⟨μ1, eμ1⟩ : ∃ z : MM, z = ms μ 2 9 i x1 := ⟨_, rfl⟩
  have h := h μ1 eμ1
  refine pC_T_tower F hw hS hi_i tw2_97 (fun _ h => h) eμ1 dX9_comeTo_2 (fun H locs hw hS => ?_)
  refine lv_aload_n hx hb dX9_comeTo_5 rfl (lv_at hl 0 rfl) ?_
  refine q_iconst hx hb dX9_comeTo_6 ?_
  obtain ⟨μ2, eμ2⟩ : ∃ z : MM, z = ms μ1 2 10 i 0 := ⟨_, rfl⟩
  have h := h μ2 eμ2
  refine pC_T_warned F hw hS hi_i tw2_101 (fun _ h => h) (Or.inl rfl) eμ2 dX9_comeTo_7 (fun H locs hw hS => ?_)
  refine lv_aload_n hx hb dX9_comeTo_10 rfl (lv_at hl 0 rfl) ?_
  refine q_iconst hx hb dX9_comeTo_11 ?_
  obtain ⟨μ3, eμ3⟩ : ∃ z : MM, z = ms μ2 2 7 i 0 := ⟨_, rfl⟩
  have h := h μ3 eμ3
  refine pC_T_due F hw hS hi_i tw2_90 (fun _ h => h) eμ3 dX9_comeTo_12 (fun H locs hw hS => ?_)
  exact ret _ _ _ _ _ h hw hS dX9_comeTo_15
set_option maxRecDepth 100000 in
set_option maxHeartbeats 4000000 in
theorem kX9_comeTo {l : Launch} {D : va_G} {cy : Nat → ClassId} {ad : AD} {A : Nat → Prop} {G : GG} {i : Int} {x1 : Int} {μ : MM} {Q : Int → MM → Prop} (h : wpX9_comeTo G i x1 μ Q) (hi_i : 0 ≤ i ∧ i < G 0 0) : Met l yX9_comeTo (Cond.code yX9_comeTo cX9_comeTo 2 none :: uw) (rmm 0 0) (wPc [.ref (ad 2 i), .int (iI x1)] (dmC G) (cfC G) tyC (exC G) D cy ad A μ) (wQ vV Q (dmC G) (cfC G) D cy ad A) 0 0 A :=
  met_of (by decide) (Nat.le_of_ble_eq_true rfl) (fun p e R s m args below meth c ls hr hk hRR F hA hw hS hl => wX9_comeTo F hA (by subst hRR; exact ⟨Nat.le_refl _, Nat.le_refl _⟩) (retV_of F hr hk) h hi_i hw hS hl)
theorem hdX9_comeTo : yX9_comeTo.cls ≠ "java/lang/invoke/MethodHandle" ∧ yX9_comeTo.cls ≠ "java/lang/invoke/VarHandle" ∧ (parseMethodDescriptor yX9_comeTo.desc).map (fun d => d.parameters.length) = some 1 := by decide +kernel
set_option maxRecDepth 100000 in
set_option maxHeartbeats 4000000 in
theorem dc_Train_comeTo {G : GG} {i x1 : Int} {μ : MM} {Q : Int → MM → Prop} {H : Heap} {locs : List Loc} {cc : ByteArray} {pc nL idx : Nat} {ls : Array Slot} {rest st0 : List Value} {own : String} (F : CallFix p m c cc nL s args uw own) (hl : Cond.methodLink own idx yX9_comeTo ∈ uw) (h : wpX9_comeTo G i x1 μ Q) (hi : 0 ≤ i ∧ i < G 0 0) (hR : 1 ≤ R.frames ∧ 21 ≤ R.locals) (hA : ∀ q : Nat, s.heap.size ≤ q → A q) (hw : wdC G D cy ad A μ s H) (hS : va_S A s.heap H locs) (hsz : ls.size = nL) (hst0 : st0 = ([.int (iI x1)] : List Value).reverse ++ .ref (ad 2 i) :: rest) (hrm : (rest.map fun v => v.category).sum ≤ 8) (hdg : decode cc pc = .ok (.invokevirtual idx, 3)) (kk : ∀ (v : Int) (u : MM) (H1 : Heap) (locs1 : List Loc), Q v u → wdC G D cy ad A u s H1 → va_S A s.heap H1 locs1 → W p l e R s m args below meth c H1 locs1 0 0 Qf (F0 m (pc + 3) ls ((vV v).toList ++ rest))) : W p l e R s m args below meth c H locs 0 0 Qf (F0 m pc ls st0) := by
  have hG := (hw.2.1.2.1 i hi.1 hi.2).1
  rcases (show G 1 i = 0 ∨ G 1 i = 1 ∨ G 1 i = 2 ∨ G 1 i = 3 by omega) with q | q | q | q
  · exact call_V hexC F (kX9_comeTo h hi) 1 tw3_136 tw1_11 tw3_130 tw3_131 hl hdX9_comeTo ⟨Nat.le_trans (by decide) hR.1, Nat.le_trans (by decide) hR.2⟩ (recvT hw hi (C := RX9) (Or.inl ⟨q, rfl⟩)) hA hw hS rfl hsz hst0 hrm hdg kk
  · exact call_U (owner := "HammerTowers$Train") (x := yX9_comeTo) hexC F (kX9_comeTo h hi) 1 tw3_136 tw1_11 tw3_130 tw3_134 hl tw3_132 tw3_130 tw3_136 (by decide +kernel) ⟨Nat.le_trans (by decide) hR.1, Nat.le_trans (by decide) hR.2⟩ (recvT hw hi (C := RX4) (Or.inr (Or.inl ⟨q, rfl⟩))) hA hw hS rfl hsz hst0 hrm hdg kk
  · exact call_U (owner := "HammerTowers$Train") (x := yX9_comeTo) hexC F (kX9_comeTo h hi) 1 tw3_136 tw1_11 tw3_130 tw3_135 hl tw3_132 tw3_130 tw3_136 (by decide +kernel) ⟨Nat.le_trans (by decide) hR.1, Nat.le_trans (by decide) hR.2⟩ (recvT hw hi (C := RX7) (Or.inr (Or.inr (Or.inl ⟨q, rfl⟩)))) hA hw hS rfl hsz hst0 hrm hdg kk
  · exact call_U (owner := "HammerTowers$Train") (x := yX9_comeTo) hexC F (kX9_comeTo h hi) 1 tw3_136 tw1_11 tw3_130 tw3_133 hl tw3_132 tw3_130 tw3_136 (by decide +kernel) ⟨Nat.le_trans (by decide) hR.1, Nat.le_trans (by decide) hR.2⟩ (recvT hw hi (C := RX0) (Or.inr (Or.inr (Or.inr ⟨q, rfl⟩)))) hA hw hS rfl hsz hst0 hrm hdg kk
def wpX10_hang (G : GG) (x1 : Int) (x2 : Int) (x3 : Int) (μ : MM) (Q : Int → MM → Prop) : Prop := wpX10_towerOf G x1 μ (fun v1 μ2 => wpX10_trainOf G x2 μ2 (fun v3 μ4 => if v1 < 0 then (Q (-1) μ4) else (v1 < 4 ∧ (if v3 < 0 then (Q (-1) μ4) else (v3 < G 0 0 ∧ (rg (μ4 3 0 v1) ∧ (if (μ4 3 0 v1) = 0 then (wpX10_found G 1 μ4 (fun v21 μ22 => Q v21 μ22)) else (rg (μ4 2 9 v3) ∧ (if (μ4 2 9 v3) = (-9) then (wpX8_release G v1 x3 μ4 (fun v15 μ16 => wpX9_comeTo G v3 x1 μ16 (fun v17 μ18 => wpX8_take G v1 v3 x3 μ18 (fun v19 μ20 => Q v15 μ20)))) else (Q (-4) μ4))))))))))
set_option maxRecDepth 100000 in
set_option maxHeartbeats 4000000 in
theorem wX10_hang {G : GG} {Q : Int → MM → Prop} {x1 : Int} {x2 : Int} {x3 : Int} {μ : MM} {H : Heap} {locs : List Loc} {ls : Array Slot} (F : CallFix p m c cX10_hang 7 s args uw RX10) (hA : ∀ q : Nat, s.heap.size ≤ q → A q) (hR : 2 ≤ R.frames ∧ 44 ≤ R.locals) (ret : RetI p l e R s m args below meth c cX10_hang Qf (dmC G) (cfC G) tyC (exC G) D cy ad A Q) (h : wpX10_hang G x1 x2 x3 μ Q) (hw : wdC G D cy ad A μ s H) (hS : va_S A s.heap H locs) (hl : lv_has ls 7 [(0, .ref (ad 0 0)), (1, .int (iI x1)), (2, .int (iI x2)), (3, .int (iI x3))]) : W p l e R s m args below meth c H locs 0 0 Qf (F0 m 0 ls []) := by
  have hx := F.1
  have hb := F.2.1
  have hown := F.2.2.2.1
  have hts := F.2.2.2.2
  refine lv_aload_n hx hb dX10_hang_0 rfl (lv_at hl 0 rfl) ?_
  refine lv_iload_n hx hb dX10_hang_1 rfl (lv_at hl 1 rfl) ?_
  refine call_V hexC F (kX10_towerOf h) 1 tw3_99 tw1_1 tw3_98 tws1_5 tw3_96 hdX10_towerOf ⟨Nat.le_trans (by decide) hR.1, Nat.le_trans (by decide) hR.2⟩ (hw.recv (k := 0) (i := 0) rfl rfl rfl) hA hw hS rfl hl.1 rfl (Nat.le_of_ble_eq_true rfl) dX10_hang_2 (fun v1 μ2 H locs h hw hS => ?_)
  refine q_astore (lv' := [(4, rf ad 3 v1), (0, .ref (ad 0 0)), (1, .int (iI x1)), (2, .int (iI x2)), (3, .int (iI x3))]) hx hb dX10_hang_5 hl (by decide) rfl (fun ls hl => ?_)
  refine lv_aload_n hx hb dX10_hang_7 rfl (lv_at hl 1 rfl) ?_
  refine lv_iload_n hx hb dX10_hang_8 rfl (lv_at hl 3 rfl) ?_
  refine call_V hexC F (kX10_trainOf h) 1 tw3_18 tw1_1 tw3_17 tws1_4 tw3_15 hdX10_trainOf ⟨Nat.le_trans (by decide) hR.1, Nat.le_trans (by decide) hR.2⟩ (hw.recv (k := 0) (i := 0) rfl rfl rfl) hA hw hS rfl hl.1 rfl (Nat.le_of_ble_eq_true rfl) dX10_hang_9 (fun v3 μ4 H locs h hw hS => ?_)
  refine q_astore (lv' := [(5, rf ad 2 v3), (4, rf ad 3 v1), (0, .ref (ad 0 0)), (1, .int (iI x1)), (2, .int (iI x2)), (3, .int (iI x3))]) hx hb dX10_hang_12 hl (by decide) (by simp [rf_cat]) (fun ls hl => ?_)
  refine q_aload hx hb dX10_hang_14 (lv_at hl 1 rfl) ?_
  refine q_ifnull (tgt := 24) hx hb dX10_hang_16 (by decide) (fun c5 => ?_) (fun c5 => ?_)
  · have h := ite_t c5 h
    refine q_iconst hx hb dX10_hang_24 ?_
    exact ret _ _ _ _ _ _ h hw hS dX10_hang_25
  · have h := ite_f c5 h
    obtain ⟨g6, h⟩ := h
    have hi7 : 0 ≤ v1 ∧ v1 < 4 := ⟨by omega, g6⟩
    have hl : lv_has ls 7 [(5, rf ad 2 v3), (4, .ref (ad 3 v1)), (0, .ref (ad 0 0)), (1, .int (iI x1)), (2, .int (iI x2)), (3, .int (iI x3))] := by rw [← rf_pos (ad := ad) (k := 3) hi7.1]; exact hl
    refine q_aload hx hb dX10_hang_19 (lv_at hl 0 rfl) ?_
    refine q_ifnonnull (tgt := 26) hx hb dX10_hang_21 (by decide) (fun c8 => ?_) (fun c8 => ?_)
    · have h := ite_t c8 h
      refine q_iconst hx hb dX10_hang_24 ?_
      exact ret _ _ _ _ _ _ h hw hS dX10_hang_25
    · have h := ite_f c8 h
      obtain ⟨g9, h⟩ := h
      have hi10 : 0 ≤ v3 ∧ v3 < G 0 0 := ⟨by omega, g9⟩
      have hl : lv_has ls 7 [(5, .ref (ad 2 v3)), (4, .ref (ad 3 v1)), (0, .ref (ad 0 0)), (1, .int (iI x1)), (2, .int (iI x2)), (3, .int (iI x3))] := by rw [← rf_pos (ad := ad) (k := 2) hi10.1]; exact hl
      refine lv_aload hx hb dX10_hang_26 (lv_at hl 1 rfl) ?_
      refine gC_W_there F hw hi7 tw1_163 dX10_hang_28 ?_
      obtain ⟨g11, h⟩ := h
      refine q_if_ne (tgt := 40) hx hb g11 dX10_hang_31 (by decide) (fun c12 => ?_) (fun c12 => ?_)
      · have h := ite_f c12 h
        refine lv_aload hx hb dX10_hang_40 (lv_at hl 0 rfl) ?_
        refine gC_T_tower F hw hi10 tw2_99 (fun _ h => h) dX10_hang_42 ?_
        refine q_bipush hx hb (by decide) dX10_hang_45 ?_
        obtain ⟨g13, h⟩ := h
        refine q_icmp_eq (tgt := 53) hx hb g13 (by decide) dX10_hang_47 (by decide) (fun c14 => ?_) (fun c14 => ?_)
        · have h := ite_t c14 h
          refine lv_aload hx hb dX10_hang_53 (lv_at hl 1 rfl) ?_
          refine lv_iload_n hx hb dX10_hang_55 rfl (lv_at hl 5 rfl) ?_
          refine call_V hexC F (kX8_release h hi7) 1 tw3_107 tw1_6 tw3_105 tw3_106 tw3_128 hdX8_release ⟨Nat.le_trans (by decide) hR.1, Nat.le_trans (by decide) hR.2⟩ (hw.recv (k := 3) (i := v1) hi7 rfl rfl) hA hw hS rfl hl.1 rfl (Nat.le_of_ble_eq_true rfl) dX10_hang_56 (fun v15 μ16 H locs h hw hS => ?_)
          refine lv_istore (lv' := [(6, .int (iI v15)), (5, .ref (ad 2 v3)), (4, .ref (ad 3 v1)), (0, .ref (ad 0 0)), (1, .int (iI x1)), (2, .int (iI x2)), (3, .int (iI x3))]) hx hb dX10_hang_59 hl (by decide) rfl (fun ls hl => ?_)
          refine lv_aload hx hb dX10_hang_61 (lv_at hl 1 rfl) ?_
          refine lv_iload_n hx hb dX10_hang_63 rfl (lv_at hl 4 rfl) ?_
          refine dc_Train_comeTo F tw3_129 h hi10 ⟨Nat.le_trans (by decide) hR.1, Nat.le_trans (by decide) hR.2⟩ hA hw hS hl.1 rfl (Nat.le_of_ble_eq_true rfl) dX10_hang_64 (fun v17 μ18 H locs h hw hS => ?_)
          refine lv_aload hx hb dX10_hang_67 (lv_at hl 2 rfl) ?_
          refine lv_aload hx hb dX10_hang_69 (lv_at hl 1 rfl) ?_
          refine lv_iload_n hx hb dX10_hang_71 rfl (lv_at hl 6 rfl) ?_
          refine call_V hexC F (kX8_take h hi7) 2 tw3_115 tw1_6 tw3_113 tw3_114 tw3_137 hdX8_take ⟨Nat.le_trans (by decide) hR.1, Nat.le_trans (by decide) hR.2⟩ (hw.recv (k := 3) (i := v1) hi7 rfl rfl) hA hw hS rfl hl.1 (by first | (rw [← rf_pos (ad := ad) (k := 2) (hi10).1]; rfl) | (simp only [← rf_pos (ad := ad) (k := 2) (hi10).1]; rfl)) (Nat.le_of_ble_eq_true rfl) dX10_hang_72 (fun v19 μ20 H locs h hw hS => ?_)
          refine lv_iload hx hb dX10_hang_75 (lv_at hl 0 rfl) ?_
          exact ret _ _ _ _ _ _ h hw hS dX10_hang_77
        · have h := ite_f c14 h
          refine q_bipush hx hb (by decide) dX10_hang_50 ?_
          exact ret _ _ _ _ _ _ h hw hS dX10_hang_52
      · have h := ite_t c12 h
        refine lv_aload_n hx hb dX10_hang_34 rfl (lv_at hl 2 rfl) ?_
        refine q_iconst hx hb dX10_hang_35 ?_
        refine call_V hexC F (kX10_found h) 1 tw2_20 tw1_1 tw2_19 tws1_1 tw2_17 hdX10_found ⟨Nat.le_trans (by decide) hR.1, Nat.le_trans (by decide) hR.2⟩ (hw.recv (k := 0) (i := 0) rfl rfl rfl) hA hw hS rfl hl.1 rfl (Nat.le_of_ble_eq_true rfl) dX10_hang_36 (fun v21 μ22 H locs h hw hS => ?_)
        exact ret _ _ _ _ _ _ h hw hS dX10_hang_39
set_option maxRecDepth 100000 in
set_option maxHeartbeats 4000000 in
theorem kX10_hang {l : Launch} {D : va_G} {cy : Nat → ClassId} {ad : AD} {A : Nat → Prop} {G : GG} {x1 : Int} {x2 : Int} {x3 : Int} {μ : MM} {Q : Int → MM → Prop} (h : wpX10_hang G x1 x2 x3 μ Q) : Met l yX10_hang (Cond.code yX10_hang cX10_hang 7 (some .int) :: uw) (rmm 2 44) (wPc [.ref (ad 0 0), .int (iI x1), .int (iI x2), .int (iI x3)] (dmC G) (cfC G) tyC (exC G) D cy ad A μ) (wQ vI Q (dmC G) (cfC G) D cy ad A) 0 0 A :=
  met_of (by decide) (Nat.le_of_ble_eq_true rfl) (fun p e R s m args below meth c ls hr hk hRR F hA hw hS hl => wX10_hang F hA (by subst hRR; exact ⟨Nat.le_refl _, Nat.le_refl _⟩) (retI_of F hr hk) h hw hS hl)
theorem hdX10_hang : yX10_hang.cls ≠ "java/lang/invoke/MethodHandle" ∧ yX10_hang.cls ≠ "java/lang/invoke/VarHandle" ∧ (parseMethodDescriptor yX10_hang.desc).map (fun d => d.parameters.length) = some 3 := by decide +kernel
def wpX3_strokesBetween_J53 (G : GG) (k5 : Int → Int → Int → Int → Int → MM → Prop) (Q : Int → MM → Prop) (i : Int) (x1 : Int) (x2 : Int) (x3 : Int) (x4 : Int) (μ : MM) : Prop := k5 i x1 x2 x3 (x4 + 1) μ
set_option maxRecDepth 100000 in
set_option maxHeartbeats 4000000 in
theorem wX3_strokesBetween_J53 {G : GG} {k5 : Int → Int → Int → Int → Int → MM → Prop} {Q : Int → MM → Prop} {i : Int} {x1 : Int} {x2 : Int} {x3 : Int} {x4 : Int} {μ : MM} {H : Heap} {locs : List Loc} {ls : Array Slot} (F : CallFix p m c cX3_strokesBetween 5 s args uw RX3) (hA : ∀ q : Nat, s.heap.size ≤ q → A q) (hR : 0 ≤ R.frames ∧ 0 ≤ R.locals) (ret : RetI p l e R s m args below meth c cX3_strokesBetween Qf (dmC G) (cfC G) tyC (exC G) D cy ad A Q) (hk5 : ∀ (i' x1' x2' x3' x4' : Int) (μ' : MM) (H : Heap) (locs : List Loc) (ls : Array Slot), k5 i' x1' x2' x3' x4' μ' → 0 ≤ i' ∧ i' < 4 → wdC G D cy ad A μ' s H → va_S A s.heap H locs → lv_has ls 5 [(0, .ref (ad 4 (i'))), (1, .int (iI (x1'))), (2, .int (iI (x2'))), (3, .int (iI (x3'))), (4, .int (iI (x4')))] → W p l e R s m args below meth c H locs 0 0 Qf (F0 m 5 ls [])) (h : wpX3_strokesBetween_J53 G k5 Q i x1 x2 x3 x4 μ) (hi_i : 0 ≤ i ∧ i < 4) (hw : wdC G D cy ad A μ s H) (hS : va_S A s.heap H locs) (hl : lv_has ls 5 [(0, .ref (ad 4 i)), (1, .int (iI x1)), (2, .int (iI x2)), (3, .int (iI x3)), (4, .int (iI x4))]) : W p l e R s m args below meth c H locs 0 0 Qf (F0 m 53 ls []) := by
  have hx := F.1
  have hb := F.2.1
  have hown := F.2.2.2.1
  have hts := F.2.2.2.2
  refine q_iinc (k := 4) (lv' := [(4, .int (iI (x4 + 1))), (0, .ref (ad 4 i)), (1, .int (iI x1)), (2, .int (iI x2)), (3, .int (iI x3))]) hx hb dX3_strokesBetween_53 hl rfl (by decide) rfl (fun ls hl => ?_)
  refine lv_goto (tgt := 5) hx hb dX3_strokesBetween_56 (by decide) ?_
  exact hk5 i x1 x2 x3 (x4 + 1) _ _ _ _ h hi_i hw hS (lv_sub hl [1, 2, 3, 4, 0] rfl)
def wpX3_strokesBetween_L5 (G : GG) (Q : Int → MM → Prop) : Nat → Int → Int → Int → Int → Int → MM → Prop
  | 0, _, _, _, _, _, _ => False
  | n + 1, i, x1, x2, x3, x4, μ => rg x4 ∧ (rg (μ 4 5 i) ∧ (if (μ 4 5 i) ≤ x4 then (Q x3 μ) else (if 60 ≤ x4 then (Q x3 μ) else (0 ≤ x4 ∧ (x4 < 60 ∧ (rg (μ 11 0 (60 * i + x4)) ∧ (rg x1 ∧ (if (μ 11 0 (60 * i + x4)) < x1 then (wpX3_strokesBetween_J53 G (fun i' x1' x2' x3' x4' μ' => wpX3_strokesBetween_L5 G Q n i' x1' x2' x3' x4' μ') Q i x1 x2 x3 x4 μ) else (rg x2 ∧ (if x2 < (μ 11 0 (60 * i + x4)) then (wpX3_strokesBetween_J53 G (fun i' x1' x2' x3' x4' μ' => wpX3_strokesBetween_L5 G Q n i' x1' x2' x3' x4' μ') Q i x1 x2 x3 x4 μ) else (∀ y12 : Int, y12 = x3 + (μ 13 0 (60 * i + x4)) → (wpX3_strokesBetween_J53 G (fun i' x1' x2' x3' x4' μ' => wpX3_strokesBetween_L5 G Q n i' x1' x2' x3' x4' μ') Q i x1 x2 y12 x4 μ))))))))))))
set_option maxRecDepth 100000 in
set_option maxHeartbeats 4000000 in
theorem wX3_strokesBetween_L5 {G : GG} {Q : Int → MM → Prop} (F : CallFix p m c cX3_strokesBetween 5 s args uw RX3) (hA : ∀ q : Nat, s.heap.size ≤ q → A q) (hR : 0 ≤ R.frames ∧ 0 ≤ R.locals) (ret : RetI p l e R s m args below meth c cX3_strokesBetween Qf (dmC G) (cfC G) tyC (exC G) D cy ad A Q) : ∀ (n : Nat) (i x1 x2 x3 x4 : Int) (μ : MM) (H : Heap) (locs : List Loc) (ls : Array Slot), wpX3_strokesBetween_L5 G Q n i x1 x2 x3 x4 μ → 0 ≤ i ∧ i < 4 → wdC G D cy ad A μ s H → va_S A s.heap H locs → lv_has ls 5 [(0, .ref (ad 4 i)), (1, .int (iI x1)), (2, .int (iI x2)), (3, .int (iI x3)), (4, .int (iI x4))] → W p l e R s m args below meth c H locs 0 0 Qf (F0 m 5 ls []) := by
  have hx := F.1
  have hb := F.2.1
  have hown := F.2.2.2.1
  have hts := F.2.2.2.2
  intro n
  induction n with
  | zero =>
    intro i x1 x2 x3 x4 μ H locs ls h hi_i hw hS hl
    exact h.elim
  | succ n ih =>
    intro i x1 x2 x3 x4 μ H locs ls h hi_i hw hS hl
    refine lv_iload hx hb dX3_strokesBetween_5 (lv_at hl 4 rfl) ?_
    refine lv_aload_n hx hb dX3_strokesBetween_7 rfl (lv_at hl 0 rfl) ?_
    refine gC_L_size F hw hi_i tw1_147 dX3_strokesBetween_8 ?_
    obtain ⟨g1, h⟩ := h
    obtain ⟨g2, h⟩ := h
    refine q_icmp_ge (tgt := 59) hx hb g1 g2 dX3_strokesBetween_11 (by decide) (fun c3 => ?_) (fun c3 => ?_)
    · have h := ite_t c3 h
      refine lv_iload_n hx hb dX3_strokesBetween_59 rfl (lv_at hl 3 rfl) ?_
      exact ret _ _ _ _ _ _ h hw hS dX3_strokesBetween_60
    · have h := ite_f c3 h
      refine lv_iload hx hb dX3_strokesBetween_14 (lv_at hl 4 rfl) ?_
      refine q_bipush hx hb (by decide) dX3_strokesBetween_16 ?_
      refine q_icmp_ge (tgt := 59) hx hb g1 (by decide) dX3_strokesBetween_18 (by decide) (fun c4 => ?_) (fun c4 => ?_)
      · have h := ite_t c4 h
        refine lv_iload_n hx hb dX3_strokesBetween_59 rfl (lv_at hl 3 rfl) ?_
        exact ret _ _ _ _ _ _ h hw hS dX3_strokesBetween_60
      · have h := ite_f c4 h
        refine lv_aload_n hx hb dX3_strokesBetween_21 rfl (lv_at hl 0 rfl) ?_
        refine gC_L_when F hw hi_i tw1_142 dX3_strokesBetween_22 ?_
        refine lv_iload hx hb dX3_strokesBetween_25 (lv_at hl 4 rfl) ?_
        obtain ⟨g5, h⟩ := h
        obtain ⟨g6, h⟩ := h
        refine aC_11_ld hx hb hw hi_i g5 g6 dX3_strokesBetween_27 ?_
        refine lv_iload_n hx hb dX3_strokesBetween_28 rfl (lv_at hl 1 rfl) ?_
        obtain ⟨g7, h⟩ := h
        obtain ⟨g8, h⟩ := h
        refine q_icmp_lt (tgt := 53) hx hb g7 g8 dX3_strokesBetween_29 (by decide) (fun c9 => ?_) (fun c9 => ?_)
        · have h := ite_t c9 h
          exact wX3_strokesBetween_J53 F hA hR ret (fun i x1 x2 x3 x4 => ih i x1 x2 x3 x4) h hi_i hw hS (lv_sub hl [0, 1, 2, 3, 4] rfl)
        · have h := ite_f c9 h
          refine lv_aload_n hx hb dX3_strokesBetween_32 rfl (lv_at hl 0 rfl) ?_
          refine gC_L_when F hw hi_i tw1_142 dX3_strokesBetween_33 ?_
          refine lv_iload hx hb dX3_strokesBetween_36 (lv_at hl 4 rfl) ?_
          refine aC_11_ld hx hb hw hi_i g5 g6 dX3_strokesBetween_38 ?_
          refine lv_iload_n hx hb dX3_strokesBetween_39 rfl (lv_at hl 2 rfl) ?_
          obtain ⟨g10, h⟩ := h
          refine q_icmp_gt (tgt := 53) hx hb g7 g10 dX3_strokesBetween_40 (by decide) (fun c11 => ?_) (fun c11 => ?_)
          · have h := ite_t c11 h
            exact wX3_strokesBetween_J53 F hA hR ret (fun i x1 x2 x3 x4 => ih i x1 x2 x3 x4) h hi_i hw hS (lv_sub hl [0, 1, 2, 3, 4] rfl)
          · have h := ite_f c11 h
            refine lv_iload_n hx hb dX3_strokesBetween_43 rfl (lv_at hl 3 rfl) ?_
            refine lv_aload_n hx hb dX3_strokesBetween_44 rfl (lv_at hl 0 rfl) ?_
            refine gC_L_strokes F hw hi_i tw1_144 dX3_strokesBetween_45 ?_
            refine lv_iload hx hb dX3_strokesBetween_48 (lv_at hl 4 rfl) ?_
            refine aC_13_ld hx hb hw hi_i g5 g6 dX3_strokesBetween_50 ?_
            refine q_iadd hx hb dX3_strokesBetween_51 ?_
            obtain ⟨y12, ey12⟩ : ∃ z : Int, z = x3 + (μ 13 0 (60 * i + x4)) := ⟨_, rfl⟩
            have h := h y12 ey12
            refine q_nmI ey12 ?_
            refine lv_istore_n (lv' := [(3, .int (iI y12)), (0, .ref (ad 4 i)), (1, .int (iI x1)), (2, .int (iI x2)), (4, .int (iI x4))]) hx hb dX3_strokesBetween_52 rfl hl (by decide) rfl (fun ls hl => ?_)
            exact wX3_strokesBetween_J53 F hA hR ret (fun i x1 x2 x3 x4 => ih i x1 x2 x3 x4) h hi_i hw hS (lv_sub hl [1, 2, 3, 0, 4] rfl)
def wpX3_strokesBetween (G : GG) (i : Int) (x1 : Int) (x2 : Int) (μ : MM) (Q : Int → MM → Prop) : Prop := ∃ n1 : Nat, wpX3_strokesBetween_L5 G Q n1 i x1 x2 0 0 μ
set_option maxRecDepth 100000 in
set_option maxHeartbeats 4000000 in
theorem wX3_strokesBetween {G : GG} {Q : Int → MM → Prop} {i : Int} {x1 : Int} {x2 : Int} {μ : MM} {H : Heap} {locs : List Loc} {ls : Array Slot} (F : CallFix p m c cX3_strokesBetween 5 s args uw RX3) (hA : ∀ q : Nat, s.heap.size ≤ q → A q) (hR : 0 ≤ R.frames ∧ 0 ≤ R.locals) (ret : RetI p l e R s m args below meth c cX3_strokesBetween Qf (dmC G) (cfC G) tyC (exC G) D cy ad A Q) (h : wpX3_strokesBetween G i x1 x2 μ Q) (hi_i : 0 ≤ i ∧ i < 4) (hw : wdC G D cy ad A μ s H) (hS : va_S A s.heap H locs) (hl : lv_has ls 5 [(0, .ref (ad 4 i)), (1, .int (iI x1)), (2, .int (iI x2))]) : W p l e R s m args below meth c H locs 0 0 Qf (F0 m 0 ls []) := by
  have hx := F.1
  have hb := F.2.1
  have hown := F.2.2.2.1
  have hts := F.2.2.2.2
  refine q_iconst hx hb dX3_strokesBetween_0 ?_
  refine lv_istore_n (lv' := [(3, .int (iI 0)), (0, .ref (ad 4 i)), (1, .int (iI x1)), (2, .int (iI x2))]) hx hb dX3_strokesBetween_1 rfl hl (by decide) rfl (fun ls hl => ?_)
  refine q_iconst hx hb dX3_strokesBetween_2 ?_
  refine lv_istore (lv' := [(4, .int (iI 0)), (3, .int (iI 0)), (0, .ref (ad 4 i)), (1, .int (iI x1)), (2, .int (iI x2))]) hx hb dX3_strokesBetween_3 hl (by decide) rfl (fun ls hl => ?_)
  obtain ⟨n1, h⟩ := h
  exact wX3_strokesBetween_L5 F hA hR ret n1 i x1 x2 0 0 _ _ _ _ h hi_i hw hS (lv_sub hl [2, 3, 4, 1, 0] rfl)
set_option maxRecDepth 100000 in
set_option maxHeartbeats 4000000 in
theorem kX3_strokesBetween {l : Launch} {D : va_G} {cy : Nat → ClassId} {ad : AD} {A : Nat → Prop} {G : GG} {i : Int} {x1 : Int} {x2 : Int} {μ : MM} {Q : Int → MM → Prop} (h : wpX3_strokesBetween G i x1 x2 μ Q) (hi_i : 0 ≤ i ∧ i < 4) : Met l yX3_strokesBetween (Cond.code yX3_strokesBetween cX3_strokesBetween 5 (some .int) :: uw) (rmm 0 0) (wPc [.ref (ad 4 i), .int (iI x1), .int (iI x2)] (dmC G) (cfC G) tyC (exC G) D cy ad A μ) (wQ vI Q (dmC G) (cfC G) D cy ad A) 0 0 A :=
  met_of (by decide) (Nat.le_of_ble_eq_true rfl) (fun p e R s m args below meth c ls hr hk hRR F hA hw hS hl => wX3_strokesBetween F hA (by subst hRR; exact ⟨Nat.le_refl _, Nat.le_refl _⟩) (retI_of F hr hk) h hi_i hw hS hl)
theorem hdX3_strokesBetween : yX3_strokesBetween.cls ≠ "java/lang/invoke/MethodHandle" ∧ yX3_strokesBetween.cls ≠ "java/lang/invoke/VarHandle" ∧ (parseMethodDescriptor yX3_strokesBetween.desc).map (fun d => d.parameters.length) = some 2 := by decide +kernel
def wpX10_heard (G : GG) (x1 : Int) (x2 : Int) (x3 : Int) (μ : MM) (Q : Int → MM → Prop) : Prop := wpX10_towerOf G x1 μ (fun v1 μ2 => if v1 < 0 then (Q (-1) μ2) else (v1 < 4 ∧ (rg x2 ∧ (if x2 < 0 then (Q (-1) μ2) else (rg x3 ∧ (if x2 ≤ x3 then (rg (μ2 3 0 v1) ∧ (if (μ2 3 0 v1) = 0 then (wpX10_found G 1 μ2 (fun v14 μ15 => Q v14 μ15)) else (wpX3_strokesBetween G v1 x2 x3 μ2 (fun v12 μ13 => Q v12 μ13)))) else (Q (-1) μ2)))))))
set_option maxRecDepth 100000 in
set_option maxHeartbeats 4000000 in
theorem wX10_heard {G : GG} {Q : Int → MM → Prop} {x1 : Int} {x2 : Int} {x3 : Int} {μ : MM} {H : Heap} {locs : List Loc} {ls : Array Slot} (F : CallFix p m c cX10_heard 5 s args uw RX10) (hA : ∀ q : Nat, s.heap.size ≤ q → A q) (hR : 1 ≤ R.frames ∧ 24 ≤ R.locals) (ret : RetI p l e R s m args below meth c cX10_heard Qf (dmC G) (cfC G) tyC (exC G) D cy ad A Q) (h : wpX10_heard G x1 x2 x3 μ Q) (hw : wdC G D cy ad A μ s H) (hS : va_S A s.heap H locs) (hl : lv_has ls 5 [(0, .ref (ad 0 0)), (1, .int (iI x1)), (2, .int (iI x2)), (3, .int (iI x3))]) : W p l e R s m args below meth c H locs 0 0 Qf (F0 m 0 ls []) := by
  have hx := F.1
  have hb := F.2.1
  have hown := F.2.2.2.1
  have hts := F.2.2.2.2
  refine lv_aload_n hx hb dX10_heard_0 rfl (lv_at hl 0 rfl) ?_
  refine lv_iload_n hx hb dX10_heard_1 rfl (lv_at hl 1 rfl) ?_
  refine call_V hexC F (kX10_towerOf h) 1 tw3_99 tw1_1 tw3_98 tws1_5 tw3_96 hdX10_towerOf ⟨Nat.le_trans (by decide) hR.1, Nat.le_trans (by decide) hR.2⟩ (hw.recv (k := 0) (i := 0) rfl rfl rfl) hA hw hS rfl hl.1 rfl (Nat.le_of_ble_eq_true rfl) dX10_heard_2 (fun v1 μ2 H locs h hw hS => ?_)
  refine q_astore (lv' := [(4, rf ad 3 v1), (0, .ref (ad 0 0)), (1, .int (iI x1)), (2, .int (iI x2)), (3, .int (iI x3))]) hx hb dX10_heard_5 hl (by decide) rfl (fun ls hl => ?_)
  refine q_aload hx hb dX10_heard_7 (lv_at hl 0 rfl) ?_
  refine q_ifnull (tgt := 21) hx hb dX10_heard_9 (by decide) (fun c3 => ?_) (fun c3 => ?_)
  · have h := ite_t c3 h
    refine q_iconst hx hb dX10_heard_21 ?_
    exact ret _ _ _ _ _ _ h hw hS dX10_heard_22
  · have h := ite_f c3 h
    obtain ⟨g4, h⟩ := h
    have hi5 : 0 ≤ v1 ∧ v1 < 4 := ⟨by omega, g4⟩
    have hl : lv_has ls 5 [(4, .ref (ad 3 v1)), (0, .ref (ad 0 0)), (1, .int (iI x1)), (2, .int (iI x2)), (3, .int (iI x3))] := by rw [← rf_pos (ad := ad) (k := 3) hi5.1]; exact hl
    refine lv_iload_n hx hb dX10_heard_12 rfl (lv_at hl 3 rfl) ?_
    obtain ⟨g6, h⟩ := h
    refine q_if_lt (tgt := 21) hx hb g6 dX10_heard_13 (by decide) (fun c7 => ?_) (fun c7 => ?_)
    · have h := ite_t c7 h
      refine q_iconst hx hb dX10_heard_21 ?_
      exact ret _ _ _ _ _ _ h hw hS dX10_heard_22
    · have h := ite_f c7 h
      refine lv_iload_n hx hb dX10_heard_16 rfl (lv_at hl 3 rfl) ?_
      refine lv_iload_n hx hb dX10_heard_17 rfl (lv_at hl 4 rfl) ?_
      obtain ⟨g8, h⟩ := h
      refine q_icmp_le (tgt := 23) hx hb g6 g8 dX10_heard_18 (by decide) (fun c9 => ?_) (fun c9 => ?_)
      · have h := ite_t c9 h
        refine lv_aload hx hb dX10_heard_23 (lv_at hl 0 rfl) ?_
        refine gC_W_there F hw hi5 tw1_163 dX10_heard_25 ?_
        obtain ⟨g10, h⟩ := h
        refine q_if_ne (tgt := 37) hx hb g10 dX10_heard_28 (by decide) (fun c11 => ?_) (fun c11 => ?_)
        · have h := ite_f c11 h
          refine lv_aload hx hb dX10_heard_37 (lv_at hl 0 rfl) ?_
          refine gC_W_log F hw hi5 tw1_180 dX10_heard_39 ?_
          refine lv_iload_n hx hb dX10_heard_42 rfl (lv_at hl 3 rfl) ?_
          refine lv_iload_n hx hb dX10_heard_43 rfl (lv_at hl 4 rfl) ?_
          refine call_V hexC F (kX3_strokesBetween h hi5) 2 tw4_64 tw1_7 tw4_62 tw4_63 tw4_61 hdX3_strokesBetween ⟨Nat.le_trans (by decide) hR.1, Nat.le_trans (by decide) hR.2⟩ (hw.recv (k := 4) (i := v1) hi5 rfl rfl) hA hw hS rfl hl.1 rfl (Nat.le_of_ble_eq_true rfl) dX10_heard_44 (fun v12 μ13 H locs h hw hS => ?_)
          exact ret _ _ _ _ _ _ h hw hS dX10_heard_47
        · have h := ite_t c11 h
          refine lv_aload_n hx hb dX10_heard_31 rfl (lv_at hl 1 rfl) ?_
          refine q_iconst hx hb dX10_heard_32 ?_
          refine call_V hexC F (kX10_found h) 1 tw2_20 tw1_1 tw2_19 tws1_1 tw2_17 hdX10_found ⟨Nat.le_trans (by decide) hR.1, Nat.le_trans (by decide) hR.2⟩ (hw.recv (k := 0) (i := 0) rfl rfl rfl) hA hw hS rfl hl.1 rfl (Nat.le_of_ble_eq_true rfl) dX10_heard_33 (fun v14 μ15 H locs h hw hS => ?_)
          exact ret _ _ _ _ _ _ h hw hS dX10_heard_36
      · have h := ite_f c9 h
        refine q_iconst hx hb dX10_heard_21 ?_
        exact ret _ _ _ _ _ _ h hw hS dX10_heard_22
set_option maxRecDepth 100000 in
set_option maxHeartbeats 4000000 in
theorem kX10_heard {l : Launch} {D : va_G} {cy : Nat → ClassId} {ad : AD} {A : Nat → Prop} {G : GG} {x1 : Int} {x2 : Int} {x3 : Int} {μ : MM} {Q : Int → MM → Prop} (h : wpX10_heard G x1 x2 x3 μ Q) : Met l yX10_heard (Cond.code yX10_heard cX10_heard 5 (some .int) :: uw) (rmm 1 24) (wPc [.ref (ad 0 0), .int (iI x1), .int (iI x2), .int (iI x3)] (dmC G) (cfC G) tyC (exC G) D cy ad A μ) (wQ vI Q (dmC G) (cfC G) D cy ad A) 0 0 A :=
  met_of (by decide) (Nat.le_of_ble_eq_true rfl) (fun p e R s m args below meth c ls hr hk hRR F hA hw hS hl => wX10_heard F hA (by subst hRR; exact ⟨Nat.le_refl _, Nat.le_refl _⟩) (retI_of F hr hk) h hw hS hl)
theorem hdX10_heard : yX10_heard.cls ≠ "java/lang/invoke/MethodHandle" ∧ yX10_heard.cls ≠ "java/lang/invoke/VarHandle" ∧ (parseMethodDescriptor yX10_heard.desc).map (fun d => d.parameters.length) = some 3 := by decide +kernel
def wpX10_isDayHour (G : GG) (x0 : Int) (μ : MM) (Q : Int → MM → Prop) : Prop := rg x0 ∧ (if x0 < 0 then (Q 0 μ) else (if 24 ≤ x0 then (Q 0 μ) else (Q 1 μ)))
set_option maxRecDepth 100000 in
set_option maxHeartbeats 4000000 in
theorem wX10_isDayHour {G : GG} {Q : Int → MM → Prop} {x0 : Int} {μ : MM} {H : Heap} {locs : List Loc} {ls : Array Slot} (F : CallFix p m c cX10_isDayHour 1 s args uw RX10) (hA : ∀ q : Nat, s.heap.size ≤ q → A q) (hR : 0 ≤ R.frames ∧ 0 ≤ R.locals) (ret : RetZ p l e R s m args below meth c cX10_isDayHour Qf (dmC G) (cfC G) tyC (exC G) D cy ad A Q) (h : wpX10_isDayHour G x0 μ Q) (hw : wdC G D cy ad A μ s H) (hS : va_S A s.heap H locs) (hl : lv_has ls 1 [(0, .int (iI x0))]) : W p l e R s m args below meth c H locs 0 0 Qf (F0 m 0 ls []) := by
  have hx := F.1
  have hb := F.2.1
  have hown := F.2.2.2.1
  have hts := F.2.2.2.2
  refine lv_iload_n hx hb dX10_isDayHour_0 rfl (lv_at hl 0 rfl) ?_
  obtain ⟨g1, h⟩ := h
  refine q_if_lt (tgt := 14) hx hb g1 dX10_isDayHour_1 (by decide) (fun c2 => ?_) (fun c2 => ?_)
  · have h := ite_t c2 h
    refine q_iconst hx hb dX10_isDayHour_14 ?_
    exact ret _ _ _ _ _ _ (Or.inl rfl) h hw hS dX10_isDayHour_15
  · have h := ite_f c2 h
    refine lv_iload_n hx hb dX10_isDayHour_4 rfl (lv_at hl 0 rfl) ?_
    refine q_bipush hx hb (by decide) dX10_isDayHour_5 ?_
    refine q_icmp_ge (tgt := 14) hx hb g1 (by decide) dX10_isDayHour_7 (by decide) (fun c3 => ?_) (fun c3 => ?_)
    · have h := ite_t c3 h
      refine q_iconst hx hb dX10_isDayHour_14 ?_
      exact ret _ _ _ _ _ _ (Or.inl rfl) h hw hS dX10_isDayHour_15
    · have h := ite_f c3 h
      refine q_iconst hx hb dX10_isDayHour_10 ?_
      refine lv_goto (tgt := 15) hx hb dX10_isDayHour_11 (by decide) ?_
      exact ret _ _ _ _ _ _ (Or.inr rfl) h hw hS dX10_isDayHour_15
set_option maxRecDepth 100000 in
set_option maxHeartbeats 4000000 in
theorem kX10_isDayHour {l : Launch} {D : va_G} {cy : Nat → ClassId} {ad : AD} {A : Nat → Prop} {G : GG} {x0 : Int} {μ : MM} {Q : Int → MM → Prop} (h : wpX10_isDayHour G x0 μ Q) : Met l yX10_isDayHour (Cond.code yX10_isDayHour cX10_isDayHour 1 (some .boolean) :: uw) (rmm 0 0) (wPc [.int (iI x0)] (dmC G) (cfC G) tyC (exC G) D cy ad A μ) (wQ vI (fun v u => (v = 0 ∨ v = 1) ∧ Q v u) (dmC G) (cfC G) D cy ad A) 0 0 A :=
  met_of (by decide) (Nat.le_of_ble_eq_true rfl) (fun p e R s m args below meth c ls hr hk hRR F hA hw hS hl => wX10_isDayHour F hA (by subst hRR; exact ⟨Nat.le_refl _, Nat.le_refl _⟩) (retZ2_of F hr hk) h hw hS hl)
theorem hdX10_isDayHour : yX10_isDayHour.cls ≠ "java/lang/invoke/MethodHandle" ∧ yX10_isDayHour.cls ≠ "java/lang/invoke/VarHandle" ∧ (parseMethodDescriptor yX10_isDayHour.desc).map (fun d => d.parameters.length) = some 1 := by decide +kernel
def wpX8_minutesLeft (G : GG) (i : Int) (μ : MM) (Q : Int → MM → Prop) : Prop := rg (μ 3 5 i) ∧ (if (μ 3 5 i) = 0 then (Q (-9) μ) else (rg (μ 3 4 i) ∧ (if (μ 3 4 i) = 0 then (Q 0 μ) else (rg (86400 + (μ 3 2 i)) ∧ (∀ y6 : Int, y6 = 86400 + (μ 3 2 i) → (rl y6 ∧ (if 0 < y6 then (rg (μ 3 3 i) ∧ (∀ y10 : Int, y10 = ((μ 3 4 i) * 86400) - (μ 3 3 i) → (rl ((y10 + y6) - 1) ∧ (y6 ≠ 0 ∧ (wpJ9_max_f86c9 G 1 (Int.tdiv ((y10 + y6) - 1) y6) μ (fun v13 μ14 => wpJ9_min_f86c9 G v13 1000001 μ14 (fun v15 μ16 => Q v15 μ16))))))) else (Q 1000001 μ))))))))
set_option maxRecDepth 100000 in
set_option maxHeartbeats 4000000 in
theorem wX8_minutesLeft {G : GG} {Q : Int → MM → Prop} {i : Int} {μ : MM} {H : Heap} {locs : List Loc} {ls : Array Slot} (F : CallFix p m c cX8_minutesLeft 7 s args uw RX8) (hA : ∀ q : Nat, s.heap.size ≤ q → A q) (hR : 1 ≤ R.frames ∧ 23 ≤ R.locals) (ret : RetI p l e R s m args below meth c cX8_minutesLeft Qf (dmC G) (cfC G) tyC (exC G) D cy ad A Q) (h : wpX8_minutesLeft G i μ Q) (hi_i : 0 ≤ i ∧ i < 4) (hw : wdC G D cy ad A μ s H) (hS : va_S A s.heap H locs) (hl : lv_has ls 7 [(0, .ref (ad 3 i))]) : W p l e R s m args below meth c H locs 0 0 Qf (F0 m 0 ls []) := by
  have hx := F.1
  have hb := F.2.1
  have hown := F.2.2.2.1
  have hts := F.2.2.2.2
  refine lv_aload_n hx hb dX8_minutesLeft_0 rfl (lv_at hl 0 rfl) ?_
  refine gC_W_goes F hw hi_i tw1_172 dX8_minutesLeft_1 ?_
  obtain ⟨g1, h⟩ := h
  refine q_if_ne (tgt := 10) hx hb g1 dX8_minutesLeft_4 (by decide) (fun c2 => ?_) (fun c2 => ?_)
  · have h := ite_f c2 h
    refine lv_aload_n hx hb dX8_minutesLeft_10 rfl (lv_at hl 0 rfl) ?_
    refine gC_W_going F hw hi_i tw1_170 dX8_minutesLeft_11 ?_
    obtain ⟨g3, h⟩ := h
    refine q_if_ne (tgt := 19) hx hb g3 dX8_minutesLeft_14 (by decide) (fun c4 => ?_) (fun c4 => ?_)
    · have h := ite_f c4 h
      refine q_ldc (n := 86400) hx hb hown (hts _ tw4_32) (by decide) dX8_minutesLeft_19 ?_
      refine lv_aload_n hx hb dX8_minutesLeft_21 rfl (lv_at hl 0 rfl) ?_
      refine gC_W_rate F hw hi_i tw1_166 dX8_minutesLeft_22 ?_
      refine q_iadd hx hb dX8_minutesLeft_25 ?_
      obtain ⟨g5, h⟩ := h
      refine q_i2l hx hb g5 dX8_minutesLeft_26 ?_
      obtain ⟨y6, ey6⟩ : ∃ z : Int, z = 86400 + (μ 3 2 i) := ⟨_, rfl⟩
      have h := h y6 ey6
      refine q_nmL ey6 ?_
      refine lv_lstore_n (lv' := [(1, .long (lJ y6)), (0, .ref (ad 3 i))]) hx hb dX8_minutesLeft_27 rfl hl (by decide) rfl (fun ls hl => ?_)
      refine lv_lload_n hx hb dX8_minutesLeft_28 rfl (lv_at hl 0 rfl) ?_
      refine q_lconst (v := 0) hx hb (by decide) dX8_minutesLeft_29 ?_
      obtain ⟨g7, h⟩ := h
      refine q_lcmp_gt (tgt := 37) hx hb g7 (by decide) dX8_minutesLeft_30 dX8_minutesLeft_31 (by decide) (fun c8 => ?_) (fun c8 => ?_)
      · have h := ite_t c8 h
        refine lv_aload_n hx hb dX8_minutesLeft_37 rfl (lv_at hl 1 rfl) ?_
        refine gC_W_going F hw hi_i tw1_170 dX8_minutesLeft_38 ?_
        refine q_i2l hx hb g3 dX8_minutesLeft_41 ?_
        refine q_ldc2 (n := 86400) hx hb hown (hts _ tw4_81) (by decide) dX8_minutesLeft_42 ?_
        refine q_lmul hx hb dX8_minutesLeft_45 ?_
        refine lv_aload_n hx hb dX8_minutesLeft_46 rfl (lv_at hl 1 rfl) ?_
        refine gC_W_sum F hw hi_i tw1_168 dX8_minutesLeft_47 ?_
        obtain ⟨g9, h⟩ := h
        refine q_i2l hx hb g9 dX8_minutesLeft_50 ?_
        refine q_lsub hx hb dX8_minutesLeft_51 ?_
        obtain ⟨y10, ey10⟩ : ∃ z : Int, z = ((μ 3 4 i) * 86400) - (μ 3 3 i) := ⟨_, rfl⟩
        have h := h y10 ey10
        refine q_nmL ey10 ?_
        refine lv_lstore_n (lv' := [(3, .long (lJ y10)), (1, .long (lJ y6)), (0, .ref (ad 3 i))]) hx hb dX8_minutesLeft_52 rfl hl (by decide) rfl (fun ls hl => ?_)
        refine q_lconst (v := 1) hx hb (by decide) dX8_minutesLeft_53 ?_
        refine lv_lload_n hx hb dX8_minutesLeft_54 rfl (lv_at hl 0 rfl) ?_
        refine lv_lload_n hx hb dX8_minutesLeft_55 rfl (lv_at hl 1 rfl) ?_
        refine q_ladd hx hb dX8_minutesLeft_56 ?_
        refine q_lconst (v := 1) hx hb (by decide) dX8_minutesLeft_57 ?_
        refine q_lsub hx hb dX8_minutesLeft_58 ?_
        refine lv_lload_n hx hb dX8_minutesLeft_59 rfl (lv_at hl 1 rfl) ?_
        obtain ⟨g11, h⟩ := h
        obtain ⟨g12, h⟩ := h
        refine q_ldiv hx hb g11 g7 g12 dX8_minutesLeft_60 ?_
        refine call_S hexC F (kJ9_max_f86c9 h) 2 tw5_52 tw1_13 tw5_51 tw5_50 hdJ9_max_f86c9 ⟨Nat.le_trans (by decide) hR.1, Nat.le_trans (by decide) hR.2⟩ hA hw hS rfl hl.1 rfl (Nat.le_of_ble_eq_true rfl) dX8_minutesLeft_61 (fun v13 μ14 H locs h hw hS => ?_)
        refine lv_lstore (lv' := [(5, .long (lJ v13)), (3, .long (lJ y10)), (1, .long (lJ y6)), (0, .ref (ad 3 i))]) hx hb dX8_minutesLeft_64 hl (by decide) rfl (fun ls hl => ?_)
        refine lv_lload hx hb dX8_minutesLeft_66 (lv_at hl 0 rfl) ?_
        refine q_ldc2 (n := 1000001) hx hb hown (hts _ tw5_53) (by decide) dX8_minutesLeft_68 ?_
        refine call_S hexC F (kJ9_min_f86c9 h) 2 tw5_56 tw1_13 tw5_55 tw5_54 hdJ9_min_f86c9 ⟨Nat.le_trans (by decide) hR.1, Nat.le_trans (by decide) hR.2⟩ hA hw hS rfl hl.1 rfl (Nat.le_of_ble_eq_true rfl) dX8_minutesLeft_71 (fun v15 μ16 H locs h hw hS => ?_)
        refine q_l2i hx hb dX8_minutesLeft_74 ?_
        exact ret _ _ _ _ _ _ h hw hS dX8_minutesLeft_75
      · have h := ite_f c8 h
        refine q_ldc (n := 1000001) hx hb hown (hts _ tw5_49) (by decide) dX8_minutesLeft_34 ?_
        exact ret _ _ _ _ _ _ h hw hS dX8_minutesLeft_36
    · have h := ite_t c4 h
      refine q_iconst hx hb dX8_minutesLeft_17 ?_
      exact ret _ _ _ _ _ _ h hw hS dX8_minutesLeft_18
  · have h := ite_t c2 h
    refine q_bipush hx hb (by decide) dX8_minutesLeft_7 ?_
    exact ret _ _ _ _ _ _ h hw hS dX8_minutesLeft_9
set_option maxRecDepth 100000 in
set_option maxHeartbeats 4000000 in
theorem kX8_minutesLeft {l : Launch} {D : va_G} {cy : Nat → ClassId} {ad : AD} {A : Nat → Prop} {G : GG} {i : Int} {μ : MM} {Q : Int → MM → Prop} (h : wpX8_minutesLeft G i μ Q) (hi_i : 0 ≤ i ∧ i < 4) : Met l yX8_minutesLeft (Cond.code yX8_minutesLeft cX8_minutesLeft 7 (some .int) :: uw) (rmm 1 23) (wPc [.ref (ad 3 i)] (dmC G) (cfC G) tyC (exC G) D cy ad A μ) (wQ vI Q (dmC G) (cfC G) D cy ad A) 0 0 A :=
  met_of (by decide) (Nat.le_of_ble_eq_true rfl) (fun p e R s m args below meth c ls hr hk hRR F hA hw hS hl => wX8_minutesLeft F hA (by subst hRR; exact ⟨Nat.le_refl _, Nat.le_refl _⟩) (retI_of F hr hk) h hi_i hw hS hl)
theorem hdX8_minutesLeft : yX8_minutesLeft.cls ≠ "java/lang/invoke/MethodHandle" ∧ yX8_minutesLeft.cls ≠ "java/lang/invoke/VarHandle" ∧ (parseMethodDescriptor yX8_minutesLeft.desc).map (fun d => d.parameters.length) = some 0 := by decide +kernel
def wpX10_lasting (G : GG) (x1 : Int) (μ : MM) (Q : Int → MM → Prop) : Prop := wpX10_towerOf G x1 μ (fun v1 μ2 => if v1 < 0 then (Q (-1) μ2) else (v1 < 4 ∧ (rg (μ2 3 0 v1) ∧ (if (μ2 3 0 v1) = 0 then (wpX10_found G 1 μ2 (fun v10 μ11 => Q v10 μ11)) else (wpX8_minutesLeft G v1 μ2 (fun v8 μ9 => Q v8 μ9))))))
set_option maxRecDepth 100000 in
set_option maxHeartbeats 4000000 in
theorem wX10_lasting {G : GG} {Q : Int → MM → Prop} {x1 : Int} {μ : MM} {H : Heap} {locs : List Loc} {ls : Array Slot} (F : CallFix p m c cX10_lasting 3 s args uw RX10) (hA : ∀ q : Nat, s.heap.size ≤ q → A q) (hR : 2 ≤ R.frames ∧ 49 ≤ R.locals) (ret : RetI p l e R s m args below meth c cX10_lasting Qf (dmC G) (cfC G) tyC (exC G) D cy ad A Q) (h : wpX10_lasting G x1 μ Q) (hw : wdC G D cy ad A μ s H) (hS : va_S A s.heap H locs) (hl : lv_has ls 3 [(0, .ref (ad 0 0)), (1, .int (iI x1))]) : W p l e R s m args below meth c H locs 0 0 Qf (F0 m 0 ls []) := by
  have hx := F.1
  have hb := F.2.1
  have hown := F.2.2.2.1
  have hts := F.2.2.2.2
  refine lv_aload_n hx hb dX10_lasting_0 rfl (lv_at hl 0 rfl) ?_
  refine lv_iload_n hx hb dX10_lasting_1 rfl (lv_at hl 1 rfl) ?_
  refine call_V hexC F (kX10_towerOf h) 1 tw3_99 tw1_1 tw3_98 tws1_5 tw3_96 hdX10_towerOf ⟨Nat.le_trans (by decide) hR.1, Nat.le_trans (by decide) hR.2⟩ (hw.recv (k := 0) (i := 0) rfl rfl rfl) hA hw hS rfl hl.1 rfl (Nat.le_of_ble_eq_true rfl) dX10_lasting_2 (fun v1 μ2 H locs h hw hS => ?_)
  refine q_astore_n (lv' := [(2, rf ad 3 v1), (0, .ref (ad 0 0)), (1, .int (iI x1))]) hx hb dX10_lasting_5 rfl hl (by decide) rfl (fun ls hl => ?_)
  refine q_aload_n hx hb dX10_lasting_6 rfl (lv_at hl 0 rfl) ?_
  refine q_ifnonnull (tgt := 12) hx hb dX10_lasting_7 (by decide) (fun c3 => ?_) (fun c3 => ?_)
  · have h := ite_t c3 h
    refine q_iconst hx hb dX10_lasting_10 ?_
    exact ret _ _ _ _ _ _ h hw hS dX10_lasting_11
  · have h := ite_f c3 h
    obtain ⟨g4, h⟩ := h
    have hi5 : 0 ≤ v1 ∧ v1 < 4 := ⟨by omega, g4⟩
    have hl : lv_has ls 3 [(2, .ref (ad 3 v1)), (0, .ref (ad 0 0)), (1, .int (iI x1))] := by rw [← rf_pos (ad := ad) (k := 3) hi5.1]; exact hl
    refine lv_aload_n hx hb dX10_lasting_12 rfl (lv_at hl 0 rfl) ?_
    refine gC_W_there F hw hi5 tw1_163 dX10_lasting_13 ?_
    obtain ⟨g6, h⟩ := h
    refine q_if_ne (tgt := 25) hx hb g6 dX10_lasting_16 (by decide) (fun c7 => ?_) (fun c7 => ?_)
    · have h := ite_f c7 h
      refine lv_aload_n hx hb dX10_lasting_25 rfl (lv_at hl 0 rfl) ?_
      refine call_V hexC F (kX8_minutesLeft h hi5) 0 tw5_48 tw1_6 tw5_46 tw5_47 tw5_45 hdX8_minutesLeft ⟨Nat.le_trans (by decide) hR.1, Nat.le_trans (by decide) hR.2⟩ (hw.recv (k := 3) (i := v1) hi5 rfl rfl) hA hw hS rfl hl.1 rfl (Nat.le_of_ble_eq_true rfl) dX10_lasting_26 (fun v8 μ9 H locs h hw hS => ?_)
      exact ret _ _ _ _ _ _ h hw hS dX10_lasting_29
    · have h := ite_t c7 h
      refine lv_aload_n hx hb dX10_lasting_19 rfl (lv_at hl 1 rfl) ?_
      refine q_iconst hx hb dX10_lasting_20 ?_
      refine call_V hexC F (kX10_found h) 1 tw2_20 tw1_1 tw2_19 tws1_1 tw2_17 hdX10_found ⟨Nat.le_trans (by decide) hR.1, Nat.le_trans (by decide) hR.2⟩ (hw.recv (k := 0) (i := 0) rfl rfl rfl) hA hw hS rfl hl.1 rfl (Nat.le_of_ble_eq_true rfl) dX10_lasting_21 (fun v10 μ11 H locs h hw hS => ?_)
      exact ret _ _ _ _ _ _ h hw hS dX10_lasting_24
set_option maxRecDepth 100000 in
set_option maxHeartbeats 4000000 in
theorem kX10_lasting {l : Launch} {D : va_G} {cy : Nat → ClassId} {ad : AD} {A : Nat → Prop} {G : GG} {x1 : Int} {μ : MM} {Q : Int → MM → Prop} (h : wpX10_lasting G x1 μ Q) : Met l yX10_lasting (Cond.code yX10_lasting cX10_lasting 3 (some .int) :: uw) (rmm 2 49) (wPc [.ref (ad 0 0), .int (iI x1)] (dmC G) (cfC G) tyC (exC G) D cy ad A μ) (wQ vI Q (dmC G) (cfC G) D cy ad A) 0 0 A :=
  met_of (by decide) (Nat.le_of_ble_eq_true rfl) (fun p e R s m args below meth c ls hr hk hRR F hA hw hS hl => wX10_lasting F hA (by subst hRR; exact ⟨Nat.le_refl _, Nat.le_refl _⟩) (retI_of F hr hk) h hw hS hl)
theorem hdX10_lasting : yX10_lasting.cls ≠ "java/lang/invoke/MethodHandle" ∧ yX10_lasting.cls ≠ "java/lang/invoke/VarHandle" ∧ (parseMethodDescriptor yX10_lasting.desc).map (fun d => d.parameters.length) = some 1 := by decide +kernel
def wpX9_wholeDays_L20 (G : GG) (Q : Int → MM → Prop) : Nat → Int → Int → Int → Int → Int → MM → Prop
  | 0, _, _, _, _, _, _ => False
  | n + 1, i, x1, x2, x3, x4, μ => rg x4 ∧ (if 100000 < x4 then (rg x2 ∧ (x2 ≠ 0 ∧ (Q (Int.tdiv 100000 x2) μ))) else (wpD_strokesAhead G i x4 x1 μ (fun v5 μ6 => rg (x3 - v5) ∧ (if 0 ≤ (x3 - v5) then (wpX9_wholeDays_L20 G Q n i x1 x2 (x3 - v5) (x4 + 1) μ6) else (rg x2 ∧ (x2 ≠ 0 ∧ (Q (Int.tdiv x4 x2) μ6)))))))
set_option maxRecDepth 100000 in
set_option maxHeartbeats 4000000 in
theorem wX9_wholeDays_L20 {G : GG} {Q : Int → MM → Prop} (F : CallFix p m c cX9_wholeDays 5 s args uw RX9) (hA : ∀ q : Nat, s.heap.size ≤ q → A q) (hR : 2 ≤ R.frames ∧ 44 ≤ R.locals) (ret : RetI p l e R s m args below meth c cX9_wholeDays Qf (dmC G) (cfC G) tyC (exC G) D cy ad A Q) : ∀ (n : Nat) (i x1 x2 x3 x4 : Int) (μ : MM) (H : Heap) (locs : List Loc) (ls : Array Slot), wpX9_wholeDays_L20 G Q n i x1 x2 x3 x4 μ → 0 ≤ i ∧ i < G 0 0 → wdC G D cy ad A μ s H → va_S A s.heap H locs → lv_has ls 5 [(0, .ref (ad 2 i)), (1, .int (iI x1)), (2, .int (iI x2)), (3, .int (iI x3)), (4, .int (iI x4))] → W p l e R s m args below meth c H locs 0 0 Qf (F0 m 20 ls []) := by
  have hx := F.1
  have hb := F.2.1
  have hown := F.2.2.2.1
  have hts := F.2.2.2.2
  intro n
  induction n with
  | zero =>
    intro i x1 x2 x3 x4 μ H locs ls h hi_i hw hS hl
    exact h.elim
  | succ n ih =>
    intro i x1 x2 x3 x4 μ H locs ls h hi_i hw hS hl
    refine lv_iload hx hb dX9_wholeDays_20 (lv_at hl 4 rfl) ?_
    refine q_ldc (n := 100000) hx hb hown (hts _ tw5_69) (by decide) dX9_wholeDays_22 ?_
    obtain ⟨g1, h⟩ := h
    refine q_icmp_gt (tgt := 52) hx hb g1 (by decide) dX9_wholeDays_24 (by decide) (fun c2 => ?_) (fun c2 => ?_)
    · have h := ite_t c2 h
      refine q_ldc (n := 100000) hx hb hown (hts _ tw5_69) (by decide) dX9_wholeDays_52 ?_
      refine lv_iload_n hx hb dX9_wholeDays_54 rfl (lv_at hl 2 rfl) ?_
      obtain ⟨g3, h⟩ := h
      obtain ⟨g4, h⟩ := h
      refine q_idiv hx hb (by decide) g3 g4 dX9_wholeDays_55 ?_
      exact ret _ _ _ _ _ _ h hw hS dX9_wholeDays_56
    · have h := ite_f c2 h
      refine lv_iload_n hx hb dX9_wholeDays_27 rfl (lv_at hl 3 rfl) ?_
      refine lv_aload_n hx hb dX9_wholeDays_28 rfl (lv_at hl 0 rfl) ?_
      refine lv_iload hx hb dX9_wholeDays_29 (lv_at hl 4 rfl) ?_
      refine lv_iload_n hx hb dX9_wholeDays_31 rfl (lv_at hl 1 rfl) ?_
      refine dc_Train_strokesAhead F tw5_29 h hi_i ⟨Nat.le_trans (by decide) hR.1, Nat.le_trans (by decide) hR.2⟩ hA hw hS hl.1 rfl (Nat.le_of_ble_eq_true rfl) dX9_wholeDays_32 (fun v5 μ6 H locs h hw hS => ?_)
      refine q_isub hx hb dX9_wholeDays_35 ?_
      refine lv_istore_n (lv' := [(3, .int (iI (x3 - v5))), (0, .ref (ad 2 i)), (1, .int (iI x1)), (2, .int (iI x2)), (4, .int (iI x4))]) hx hb dX9_wholeDays_36 rfl hl (by decide) rfl (fun ls hl => ?_)
      refine lv_iload_n hx hb dX9_wholeDays_37 rfl (lv_at hl 0 rfl) ?_
      obtain ⟨g7, h⟩ := h
      refine q_if_ge (tgt := 46) hx hb g7 dX9_wholeDays_38 (by decide) (fun c8 => ?_) (fun c8 => ?_)
      · have h := ite_t c8 h
        refine q_iinc (k := 4) (lv' := [(4, .int (iI (x4 + 1))), (3, .int (iI (x3 - v5))), (0, .ref (ad 2 i)), (1, .int (iI x1)), (2, .int (iI x2))]) hx hb dX9_wholeDays_46 hl rfl (by decide) rfl (fun ls hl => ?_)
        refine lv_goto (tgt := 20) hx hb dX9_wholeDays_49 (by decide) ?_
        exact ih i x1 x2 (x3 - v5) (x4 + 1) _ _ _ _ h hi_i hw hS (lv_sub hl [2, 3, 4, 1, 0] rfl)
      · have h := ite_f c8 h
        refine lv_iload hx hb dX9_wholeDays_41 (lv_at hl 4 rfl) ?_
        refine lv_iload_n hx hb dX9_wholeDays_43 rfl (lv_at hl 3 rfl) ?_
        obtain ⟨g9, h⟩ := h
        obtain ⟨g10, h⟩ := h
        refine q_idiv hx hb g1 g9 g10 dX9_wholeDays_44 ?_
        exact ret _ _ _ _ _ _ h hw hS dX9_wholeDays_45
def wpX9_wholeDays_J11 (G : GG) (Q : Int → MM → Prop) (i : Int) (x1 : Int) (t0 : Int) (μ : MM) : Prop := ∃ n1 : Nat, wpX9_wholeDays_L20 G Q n1 i x1 t0 (μ 2 5 i) 0 μ
set_option maxRecDepth 100000 in
set_option maxHeartbeats 4000000 in
theorem wX9_wholeDays_J11 {G : GG} {Q : Int → MM → Prop} {i : Int} {x1 : Int} {t0 : Int} {μ : MM} {H : Heap} {locs : List Loc} {ls : Array Slot} (F : CallFix p m c cX9_wholeDays 5 s args uw RX9) (hA : ∀ q : Nat, s.heap.size ≤ q → A q) (hR : 2 ≤ R.frames ∧ 44 ≤ R.locals) (ret : RetI p l e R s m args below meth c cX9_wholeDays Qf (dmC G) (cfC G) tyC (exC G) D cy ad A Q) (h : wpX9_wholeDays_J11 G Q i x1 t0 μ) (hi_i : 0 ≤ i ∧ i < G 0 0) (hw : wdC G D cy ad A μ s H) (hS : va_S A s.heap H locs) (hl : lv_has ls 5 [(0, .ref (ad 2 i)), (1, .int (iI x1))]) : W p l e R s m args below meth c H locs 0 0 Qf (F0 m 11 ls [.int (iI t0)]) := by
  have hx := F.1
  have hb := F.2.1
  have hown := F.2.2.2.1
  have hts := F.2.2.2.2
  refine lv_istore_n (lv' := [(2, .int (iI t0)), (0, .ref (ad 2 i)), (1, .int (iI x1))]) hx hb dX9_wholeDays_11 rfl hl (by decide) rfl (fun ls hl => ?_)
  refine lv_aload_n hx hb dX9_wholeDays_12 rfl (lv_at hl 1 rfl) ?_
  refine gC_T_weight F hw hi_i tw2_84 (fun _ h => h) dX9_wholeDays_13 ?_
  refine lv_istore_n (lv' := [(3, .int (iI (μ 2 5 i))), (2, .int (iI t0)), (0, .ref (ad 2 i)), (1, .int (iI x1))]) hx hb dX9_wholeDays_16 rfl hl (by decide) rfl (fun ls hl => ?_)
  refine q_iconst hx hb dX9_wholeDays_17 ?_
  refine lv_istore (lv' := [(4, .int (iI 0)), (3, .int (iI (μ 2 5 i))), (2, .int (iI t0)), (0, .ref (ad 2 i)), (1, .int (iI x1))]) hx hb dX9_wholeDays_18 hl (by decide) rfl (fun ls hl => ?_)
  obtain ⟨n1, h⟩ := h
  exact wX9_wholeDays_L20 F hA hR ret n1 i x1 t0 (μ 2 5 i) 0 _ _ _ _ h hi_i hw hS (lv_sub hl [3, 4, 2, 1, 0] rfl)
def wpX9_wholeDays (G : GG) (i : Int) (x1 : Int) (μ : MM) (Q : Int → MM → Prop) : Prop := rg x1 ∧ (if x1 = 0 then (wpX9_wholeDays_J11 G Q i x1 24 μ) else (wpX9_wholeDays_J11 G Q i x1 96 μ))
set_option maxRecDepth 100000 in
set_option maxHeartbeats 4000000 in
theorem wX9_wholeDays {G : GG} {Q : Int → MM → Prop} {i : Int} {x1 : Int} {μ : MM} {H : Heap} {locs : List Loc} {ls : Array Slot} (F : CallFix p m c cX9_wholeDays 5 s args uw RX9) (hA : ∀ q : Nat, s.heap.size ≤ q → A q) (hR : 2 ≤ R.frames ∧ 44 ≤ R.locals) (ret : RetI p l e R s m args below meth c cX9_wholeDays Qf (dmC G) (cfC G) tyC (exC G) D cy ad A Q) (h : wpX9_wholeDays G i x1 μ Q) (hi_i : 0 ≤ i ∧ i < G 0 0) (hw : wdC G D cy ad A μ s H) (hS : va_S A s.heap H locs) (hl : lv_has ls 5 [(0, .ref (ad 2 i)), (1, .int (iI x1))]) : W p l e R s m args below meth c H locs 0 0 Qf (F0 m 0 ls []) := by
  have hx := F.1
  have hb := F.2.1
  have hown := F.2.2.2.1
  have hts := F.2.2.2.2
  refine lv_iload_n hx hb dX9_wholeDays_0 rfl (lv_at hl 1 rfl) ?_
  obtain ⟨g1, h⟩ := h
  refine q_if_eq (tgt := 9) hx hb g1 dX9_wholeDays_1 (by decide) (fun c2 => ?_) (fun c2 => ?_)
  · have h := ite_t c2 h
    refine q_bipush hx hb (by decide) dX9_wholeDays_9 ?_
    exact wX9_wholeDays_J11 F hA hR ret h hi_i hw hS (lv_sub hl [0, 1] rfl)
  · have h := ite_f c2 h
    refine q_bipush hx hb (by decide) dX9_wholeDays_4 ?_
    refine lv_goto (tgt := 11) hx hb dX9_wholeDays_6 (by decide) ?_
    exact wX9_wholeDays_J11 F hA hR ret h hi_i hw hS (lv_sub hl [0, 1] rfl)
set_option maxRecDepth 100000 in
set_option maxHeartbeats 4000000 in
theorem kX9_wholeDays {l : Launch} {D : va_G} {cy : Nat → ClassId} {ad : AD} {A : Nat → Prop} {G : GG} {i : Int} {x1 : Int} {μ : MM} {Q : Int → MM → Prop} (h : wpX9_wholeDays G i x1 μ Q) (hi_i : 0 ≤ i ∧ i < G 0 0) : Met l yX9_wholeDays (Cond.code yX9_wholeDays cX9_wholeDays 5 (some .int) :: uw) (rmm 2 44) (wPc [.ref (ad 2 i), .int (iI x1)] (dmC G) (cfC G) tyC (exC G) D cy ad A μ) (wQ vI Q (dmC G) (cfC G) D cy ad A) 0 0 A :=
  met_of (by decide) (Nat.le_of_ble_eq_true rfl) (fun p e R s m args below meth c ls hr hk hRR F hA hw hS hl => wX9_wholeDays F hA (by subst hRR; exact ⟨Nat.le_refl _, Nat.le_refl _⟩) (retI_of F hr hk) h hi_i hw hS hl)
theorem hdX9_wholeDays : yX9_wholeDays.cls ≠ "java/lang/invoke/MethodHandle" ∧ yX9_wholeDays.cls ≠ "java/lang/invoke/VarHandle" ∧ (parseMethodDescriptor yX9_wholeDays.desc).map (fun d => d.parameters.length) = some 1 := by decide +kernel
set_option maxRecDepth 100000 in
set_option maxHeartbeats 4000000 in
theorem dc_Train_wholeDays {G : GG} {i x1 : Int} {μ : MM} {Q : Int → MM → Prop} {H : Heap} {locs : List Loc} {cc : ByteArray} {pc nL idx : Nat} {ls : Array Slot} {rest st0 : List Value} {own : String} (F : CallFix p m c cc nL s args uw own) (hl : Cond.methodLink own idx yX9_wholeDays ∈ uw) (h : wpX9_wholeDays G i x1 μ Q) (hi : 0 ≤ i ∧ i < G 0 0) (hR : 3 ≤ R.frames ∧ 68 ≤ R.locals) (hA : ∀ q : Nat, s.heap.size ≤ q → A q) (hw : wdC G D cy ad A μ s H) (hS : va_S A s.heap H locs) (hsz : ls.size = nL) (hst0 : st0 = ([.int (iI x1)] : List Value).reverse ++ .ref (ad 2 i) :: rest) (hrm : (rest.map fun v => v.category).sum ≤ 8) (hdg : decode cc pc = .ok (.invokevirtual idx, 3)) (kk : ∀ (v : Int) (u : MM) (H1 : Heap) (locs1 : List Loc), Q v u → wdC G D cy ad A u s H1 → va_S A s.heap H1 locs1 → W p l e R s m args below meth c H1 locs1 0 0 Qf (F0 m (pc + 3) ls ((vI v).toList ++ rest))) : W p l e R s m args below meth c H locs 0 0 Qf (F0 m pc ls st0) := by
  have hG := (hw.2.1.2.1 i hi.1 hi.2).1
  rcases (show G 1 i = 0 ∨ G 1 i = 1 ∨ G 1 i = 2 ∨ G 1 i = 3 by omega) with q | q | q | q
  · exact call_V hexC F (kX9_wholeDays h hi) 1 tw5_68 tw1_11 tw5_62 tw5_63 hl hdX9_wholeDays ⟨Nat.le_trans (by decide) hR.1, Nat.le_trans (by decide) hR.2⟩ (recvT hw hi (C := RX9) (Or.inl ⟨q, rfl⟩)) hA hw hS rfl hsz hst0 hrm hdg kk
  · exact call_U (owner := "HammerTowers$Train") (x := yX9_wholeDays) hexC F (kX9_wholeDays h hi) 1 tw5_68 tw1_11 tw5_62 tw5_66 hl tw5_64 tw5_62 tw5_68 (by decide +kernel) ⟨Nat.le_trans (by decide) hR.1, Nat.le_trans (by decide) hR.2⟩ (recvT hw hi (C := RX4) (Or.inr (Or.inl ⟨q, rfl⟩))) hA hw hS rfl hsz hst0 hrm hdg kk
  · exact call_U (owner := "HammerTowers$Train") (x := yX9_wholeDays) hexC F (kX9_wholeDays h hi) 1 tw5_68 tw1_11 tw5_62 tw5_67 hl tw5_64 tw5_62 tw5_68 (by decide +kernel) ⟨Nat.le_trans (by decide) hR.1, Nat.le_trans (by decide) hR.2⟩ (recvT hw hi (C := RX7) (Or.inr (Or.inr (Or.inl ⟨q, rfl⟩)))) hA hw hS rfl hsz hst0 hrm hdg kk
  · exact call_U (owner := "HammerTowers$Train") (x := yX9_wholeDays) hexC F (kX9_wholeDays h hi) 1 tw5_68 tw1_11 tw5_62 tw5_65 hl tw5_64 tw5_62 tw5_68 (by decide +kernel) ⟨Nat.le_trans (by decide) hR.1, Nat.le_trans (by decide) hR.2⟩ (recvT hw hi (C := RX0) (Or.inr (Or.inr (Or.inr ⟨q, rfl⟩)))) hA hw hS rfl hsz hst0 hrm hdg kk
def wpX10_lastingDays (G : GG) (x1 : Int) (x2 : Int) (μ : MM) (Q : Int → MM → Prop) : Prop := wpX10_trainOf G x1 μ (fun v1 μ2 => if v1 < 0 then (Q (-1) μ2) else (v1 < G 0 0 ∧ (wpX9_wholeDays G v1 x2 μ2 (fun v6 μ7 => Q v6 μ7))))
set_option maxRecDepth 100000 in
set_option maxHeartbeats 4000000 in
theorem wX10_lastingDays {G : GG} {Q : Int → MM → Prop} {x1 : Int} {x2 : Int} {μ : MM} {H : Heap} {locs : List Loc} {ls : Array Slot} (F : CallFix p m c cX10_lastingDays 4 s args uw RX10) (hA : ∀ q : Nat, s.heap.size ≤ q → A q) (hR : 3 ≤ R.frames ∧ 68 ≤ R.locals) (ret : RetI p l e R s m args below meth c cX10_lastingDays Qf (dmC G) (cfC G) tyC (exC G) D cy ad A Q) (h : wpX10_lastingDays G x1 x2 μ Q) (hw : wdC G D cy ad A μ s H) (hS : va_S A s.heap H locs) (hl : lv_has ls 4 [(0, .ref (ad 0 0)), (1, .int (iI x1)), (2, .int (iI x2))]) : W p l e R s m args below meth c H locs 0 0 Qf (F0 m 0 ls []) := by
  have hx := F.1
  have hb := F.2.1
  have hown := F.2.2.2.1
  have hts := F.2.2.2.2
  refine lv_aload_n hx hb dX10_lastingDays_0 rfl (lv_at hl 0 rfl) ?_
  refine lv_iload_n hx hb dX10_lastingDays_1 rfl (lv_at hl 1 rfl) ?_
  refine call_V hexC F (kX10_trainOf h) 1 tw3_18 tw1_1 tw3_17 tws1_4 tw3_15 hdX10_trainOf ⟨Nat.le_trans (by decide) hR.1, Nat.le_trans (by decide) hR.2⟩ (hw.recv (k := 0) (i := 0) rfl rfl rfl) hA hw hS rfl hl.1 rfl (Nat.le_of_ble_eq_true rfl) dX10_lastingDays_2 (fun v1 μ2 H locs h hw hS => ?_)
  refine q_astore_n (lv' := [(3, rf ad 2 v1), (0, .ref (ad 0 0)), (1, .int (iI x1)), (2, .int (iI x2))]) hx hb dX10_lastingDays_5 rfl hl (by decide) rfl (fun ls hl => ?_)
  refine q_aload_n hx hb dX10_lastingDays_6 rfl (lv_at hl 0 rfl) ?_
  refine q_ifnonnull (tgt := 14) hx hb dX10_lastingDays_7 (by decide) (fun c3 => ?_) (fun c3 => ?_)
  · have h := ite_t c3 h
    refine q_iconst hx hb dX10_lastingDays_10 ?_
    refine lv_goto (tgt := 19) hx hb dX10_lastingDays_11 (by decide) ?_
    exact ret _ _ _ _ _ _ h hw hS dX10_lastingDays_19
  · have h := ite_f c3 h
    obtain ⟨g4, h⟩ := h
    have hi5 : 0 ≤ v1 ∧ v1 < G 0 0 := ⟨by omega, g4⟩
    have hl : lv_has ls 4 [(3, .ref (ad 2 v1)), (0, .ref (ad 0 0)), (1, .int (iI x1)), (2, .int (iI x2))] := by rw [← rf_pos (ad := ad) (k := 2) hi5.1]; exact hl
    refine lv_aload_n hx hb dX10_lastingDays_14 rfl (lv_at hl 0 rfl) ?_
    refine lv_iload_n hx hb dX10_lastingDays_15 rfl (lv_at hl 3 rfl) ?_
    refine dc_Train_wholeDays F tw5_61 h hi5 ⟨Nat.le_trans (by decide) hR.1, Nat.le_trans (by decide) hR.2⟩ hA hw hS hl.1 rfl (Nat.le_of_ble_eq_true rfl) dX10_lastingDays_16 (fun v6 μ7 H locs h hw hS => ?_)
    exact ret _ _ _ _ _ _ h hw hS dX10_lastingDays_19
set_option maxRecDepth 100000 in
set_option maxHeartbeats 4000000 in
theorem kX10_lastingDays {l : Launch} {D : va_G} {cy : Nat → ClassId} {ad : AD} {A : Nat → Prop} {G : GG} {x1 : Int} {x2 : Int} {μ : MM} {Q : Int → MM → Prop} (h : wpX10_lastingDays G x1 x2 μ Q) : Met l yX10_lastingDays (Cond.code yX10_lastingDays cX10_lastingDays 4 (some .int) :: uw) (rmm 3 68) (wPc [.ref (ad 0 0), .int (iI x1), .int (iI x2)] (dmC G) (cfC G) tyC (exC G) D cy ad A μ) (wQ vI Q (dmC G) (cfC G) D cy ad A) 0 0 A :=
  met_of (by decide) (Nat.le_of_ble_eq_true rfl) (fun p e R s m args below meth c ls hr hk hRR F hA hw hS hl => wX10_lastingDays F hA (by subst hRR; exact ⟨Nat.le_refl _, Nat.le_refl _⟩) (retI_of F hr hk) h hw hS hl)
theorem hdX10_lastingDays : yX10_lastingDays.cls ≠ "java/lang/invoke/MethodHandle" ∧ yX10_lastingDays.cls ≠ "java/lang/invoke/VarHandle" ∧ (parseMethodDescriptor yX10_lastingDays.desc).map (fun d => d.parameters.length) = some 2 := by decide +kernel
end
