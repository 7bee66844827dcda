section
variable {p : Program} {l : Launch} {e : Env} {R : Room} {s : State} {m : MethodId} {args : Array Value} {below : List Frame} {meth : Method} {c : Code} {Qf : State → Prop} {D : va_G} {cy : Nat → ClassId} {ad : AD} {A : Nat → Prop}
def wpX11_runs_J172 (k37 : Int → Int → Int → Int → Int → Int → Int → Int → MM → Prop) (Q : Int → MM → Prop) (x1 : Int) (x2 : Int) (x3 : Int) (x4 : Int) (x5 : Int) (x6 : Int) (x8 : Int) (x10 : Int) (t0 : Int) (t1 : Int) (μ : MM) : Prop := 0 ≤ x4 ∧ (x4 < 16 ∧ (∀ μ3 : MM, μ3 = ms μ 21 0 x4 ((μ 21 0 x4) - 1) → (∀ μ4 : MM, μ4 = ms μ3 20 0 x4 ((μ3 20 0 x4) - 1) → (k37 x1 x2 x3 x4 x5 (x6 + 1) (t0 + t1) (ior x8 x10) μ4))))
set_option maxRecDepth 100000 in
set_option maxHeartbeats 4000000 in
theorem wX11_runs_J172 {k37 : Int → Int → Int → Int → Int → Int → Int → Int → MM → Prop} {Q : Int → MM → Prop} {x1 : Int} {x2 : Int} {x3 : Int} {x4 : Int} {x5 : Int} {x6 : Int} {x8 : Int} {x10 : Int} {t0 : Int} {t1 : Int} {μ : MM} {H : Heap} {locs : List Loc} {ls : Array Slot} (F : CallFix p m c cX11_runs 11 s args uw RX11) (hA : ∀ q : Nat, s.heap.size ≤ q → A q) (hR : 3 ≤ R.frames ∧ 65 ≤ R.locals) (ret : RetI p l e R s m args below meth c cX11_runs Qf dmR cfR tyR exR D cy ad A Q) (hk37 : ∀ (x1' x2' x3' x4' x5' x6' x7' x8' : Int) (μ' : MM) (H : Heap) (locs : List Loc) (ls : Array Slot), k37 x1' x2' x3' x4' x5' x6' x7' x8' μ' → wdR D cy ad A μ' s H → va_S A s.heap H locs → lv_has ls 11 [(0, .ref (ad 0 0)), (1, .int (iI (x1'))), (2, .int (iI (x2'))), (3, .int (iI (x3'))), (4, .int (iI (x4'))), (5, .int (iI (x5'))), (6, .int (iI (x6'))), (7, .int (iI (x7'))), (8, .int (iI (x8')))] → W p l e R s m args below meth c H locs 0 0 Qf (F0 m 37 ls [])) (h : wpX11_runs_J172 k37 Q x1 x2 x3 x4 x5 x6 x8 x10 t0 t1 μ) (hw : wdR D cy ad A μ s H) (hS : va_S A s.heap H locs) (hl : lv_has ls 11 [(0, .ref (ad 0 0)), (1, .int (iI x1)), (2, .int (iI x2)), (3, .int (iI x3)), (4, .int (iI x4)), (5, .int (iI x5)), (6, .int (iI x6)), (8, .int (iI x8)), (10, .int (iI x10))]) : W p l e R s m args below meth c H locs 0 0 Qf (F0 m 172 ls [.int (iI t1), .int (iI t0)]) := by
  have hx := F.1
  have hb := F.2.1
  have hown := F.2.2.2.1
  have hts := F.2.2.2.2
  refine q_iadd hx hb dX11_runs_172 ?_
  refine lv_istore (lv' := [(7, .int (iI (t0 + t1))), (0, .ref (ad 0 0)), (1, .int (iI x1)), (2, .int (iI x2)), (3, .int (iI x3)), (4, .int (iI x4)), (5, .int (iI x5)), (6, .int (iI x6)), (8, .int (iI x8)), (10, .int (iI x10))]) hx hb dX11_runs_173 hl (by decide) rfl (fun ls hl => ?_)
  refine lv_iload hx hb dX11_runs_175 (lv_at hl 8 rfl) ?_
  refine lv_iload hx hb dX11_runs_177 (lv_at hl 9 rfl) ?_
  refine q_ior hx hb dX11_runs_179 ?_
  refine lv_istore (lv' := [(8, .int (iI (ior x8 x10))), (7, .int (iI (t0 + t1))), (0, .ref (ad 0 0)), (1, .int (iI x1)), (2, .int (iI x2)), (3, .int (iI x3)), (4, .int (iI x4)), (5, .int (iI x5)), (6, .int (iI x6)), (10, .int (iI x10))]) hx hb dX11_runs_180 hl (by decide) rfl (fun ls hl => ?_)
  refine lv_aload_n hx hb dX11_runs_182 rfl (lv_at hl 2 rfl) ?_
  refine gR_dues F hw tw5_159 dX11_runs_183 ?_
  refine lv_iload hx hb dX11_runs_186 (lv_at hl 6 rfl) ?_
  refine lv_dup2_11 hx hb dX11_runs_188 rfl rfl ?_
  obtain ⟨g1, h⟩ := h
  obtain ⟨g2, h⟩ := h
  refine aR_ild (L := 16) hx hb hw 20 rfl rfl (by decide) g1 g2 dX11_runs_189 ?_
  refine q_iconst hx hb dX11_runs_190 ?_
  refine q_isub hx hb dX11_runs_191 ?_
  obtain ⟨μ3, eμ3⟩ : ∃ z : MM, z = ms μ 21 0 x4 ((μ 21 0 x4) - 1) := ⟨_, rfl⟩
  have h := h μ3 eμ3
  refine aR_ist (L := 16) hx hb hw hS 20 rfl rfl (by decide) g1 g2 eμ3 dX11_runs_192 (fun H locs hw hS => ?_)
  refine lv_aload_n hx hb dX11_runs_193 rfl (lv_at hl 2 rfl) ?_
  refine gR_weights F hw tw5_158 dX11_runs_194 ?_
  refine lv_iload hx hb dX11_runs_197 (lv_at hl 6 rfl) ?_
  refine lv_dup2_11 hx hb dX11_runs_199 rfl rfl ?_
  refine aR_ild (L := 16) hx hb hw 19 rfl rfl (by decide) g1 g2 dX11_runs_200 ?_
  refine q_iconst hx hb dX11_runs_201 ?_
  refine q_isub hx hb dX11_runs_202 ?_
  obtain ⟨μ4, eμ4⟩ : ∃ z : MM, z = ms μ3 20 0 x4 ((μ3 20 0 x4) - 1) := ⟨_, rfl⟩
  have h := h μ4 eμ4
  refine aR_ist (L := 16) hx hb hw hS 19 rfl rfl (by decide) g1 g2 eμ4 dX11_runs_203 (fun H locs hw hS => ?_)
  refine q_iinc (k := 8) (lv' := [(6, .int (iI (x6 + 1))), (8, .int (iI (ior x8 x10))), (7, .int (iI (t0 + t1))), (0, .ref (ad 0 0)), (1, .int (iI x1)), (2, .int (iI x2)), (3, .int (iI x3)), (4, .int (iI x4)), (5, .int (iI x5)), (10, .int (iI x10))]) hx hb dX11_runs_204 hl rfl (by decide) rfl (fun ls hl => ?_)
  refine lv_goto (tgt := 37) hx hb dX11_runs_207 (by decide) ?_
  exact hk37 x1 x2 x3 x4 x5 (x6 + 1) (t0 + t1) (ior x8 x10) _ _ _ _ h hw hS (lv_sub hl [3, 4, 5, 6, 7, 8, 0, 2, 1] rfl)
def wpX11_runs_J158 (k37 : Int → Int → Int → Int → Int → Int → Int → Int → MM → Prop) (Q : Int → MM → Prop) (x1 : Int) (x2 : Int) (x3 : Int) (x4 : Int) (x5 : Int) (x6 : Int) (x7 : Int) (x8 : Int) (t0 : Int) (μ : MM) : Prop := rg t0 ∧ (if t0 = 0 then (wpX11_runs_J172 k37 Q x1 x2 x3 x4 x5 x6 x8 t0 x7 0 μ) else (wpX11_runs_J172 k37 Q x1 x2 x3 x4 x5 x6 x8 t0 x7 1 μ))
set_option maxRecDepth 100000 in
set_option maxHeartbeats 4000000 in
theorem wX11_runs_J158 {k37 : Int → Int → Int → Int → Int → Int → Int → Int → MM → Prop} {Q : Int → MM → Prop} {x1 : Int} {x2 : Int} {x3 : Int} {x4 : Int} {x5 : Int} {x6 : Int} {x7 : Int} {x8 : Int} {t0 : Int} {μ : MM} {H : Heap} {locs : List Loc} {ls : Array Slot} (F : CallFix p m c cX11_runs 11 s args uw RX11) (hA : ∀ q : Nat, s.heap.size ≤ q → A q) (hR : 3 ≤ R.frames ∧ 65 ≤ R.locals) (ret : RetI p l e R s m args below meth c cX11_runs Qf dmR cfR tyR exR D cy ad A Q) (hk37 : ∀ (x1' x2' x3' x4' x5' x6' x7' x8' : Int) (μ' : MM) (H : Heap) (locs : List Loc) (ls : Array Slot), k37 x1' x2' x3' x4' x5' x6' x7' x8' μ' → wdR D cy ad A μ' s H → va_S A s.heap H locs → lv_has ls 11 [(0, .ref (ad 0 0)), (1, .int (iI (x1'))), (2, .int (iI (x2'))), (3, .int (iI (x3'))), (4, .int (iI (x4'))), (5, .int (iI (x5'))), (6, .int (iI (x6'))), (7, .int (iI (x7'))), (8, .int (iI (x8')))] → W p l e R s m args below meth c H locs 0 0 Qf (F0 m 37 ls [])) (h : wpX11_runs_J158 k37 Q x1 x2 x3 x4 x5 x6 x7 x8 t0 μ) (hw : wdR D cy ad A μ s H) (hS : va_S A s.heap H locs) (hl : lv_has ls 11 [(0, .ref (ad 0 0)), (1, .int (iI x1)), (2, .int (iI x2)), (3, .int (iI x3)), (4, .int (iI x4)), (5, .int (iI x5)), (6, .int (iI x6)), (7, .int (iI x7)), (8, .int (iI x8))]) : W p l e R s m args below meth c H locs 0 0 Qf (F0 m 158 ls [.int (iI t0)]) := by
  have hx := F.1
  have hb := F.2.1
  have hown := F.2.2.2.1
  have hts := F.2.2.2.2
  refine lv_istore (lv' := [(10, .int (iI t0)), (0, .ref (ad 0 0)), (1, .int (iI x1)), (2, .int (iI x2)), (3, .int (iI x3)), (4, .int (iI x4)), (5, .int (iI x5)), (6, .int (iI x6)), (7, .int (iI x7)), (8, .int (iI x8))]) hx hb dX11_runs_158 hl (by decide) rfl (fun ls hl => ?_)
  refine lv_iload hx hb dX11_runs_160 (lv_at hl 8 rfl) ?_
  refine lv_iload hx hb dX11_runs_162 (lv_at hl 0 rfl) ?_
  obtain ⟨g1, h⟩ := h
  refine q_if_ne (tgt := 171) hx hb g1 dX11_runs_164 (by decide) (fun c2 => ?_) (fun c2 => ?_)
  · have h := ite_f c2 h
    refine q_iconst hx hb dX11_runs_171 ?_
    exact wX11_runs_J172 F hA hR ret hk37 h hw hS (lv_sub hl [1, 2, 3, 4, 5, 6, 7, 9, 0] rfl)
  · have h := ite_t c2 h
    refine q_iconst hx hb dX11_runs_167 ?_
    refine lv_goto (tgt := 172) hx hb dX11_runs_168 (by decide) ?_
    exact wX11_runs_J172 F hA hR ret hk37 h hw hS (lv_sub hl [1, 2, 3, 4, 5, 6, 7, 9, 0] rfl)
def wpX11_runs_J136 (k37 : Int → Int → Int → Int → Int → Int → Int → Int → MM → Prop) (Q : Int → MM → Prop) (x1 : Int) (x2 : Int) (x3 : Int) (x4 : Int) (x5 : Int) (x6 : Int) (x7 : Int) (x8 : Int) (x9 : Int) (t1 : Int) (t2 : Int) (μ : MM) : Prop := 0 ≤ t1 ∧ (t1 < 16 ∧ (∀ μ3 : MM, μ3 = ms μ 17 0 t1 t2 → (rg x5 ∧ (if x5 = 0 then (0 ≤ x4 ∧ (x4 < 16 ∧ (wpX11_runs_J158 k37 Q x1 x2 x3 x4 x5 x6 x7 x8 (iand x9 (ixor (μ3 23 0 x4) (-1))) μ3))) else (wpX11_runs_J158 k37 Q x1 x2 x3 x4 x5 x6 x7 x8 0 μ3)))))
set_option maxRecDepth 100000 in
set_option maxHeartbeats 4000000 in
theorem wX11_runs_J136 {k37 : Int → Int → Int → Int → Int → Int → Int → Int → MM → Prop} {Q : Int → MM → Prop} {x1 : Int} {x2 : Int} {x3 : Int} {x4 : Int} {x5 : Int} {x6 : Int} {x7 : Int} {x8 : Int} {x9 : Int} {t1 : Int} {t2 : Int} {μ : MM} {H : Heap} {locs : List Loc} {ls : Array Slot} (F : CallFix p m c cX11_runs 11 s args uw RX11) (hA : ∀ q : Nat, s.heap.size ≤ q → A q) (hR : 3 ≤ R.frames ∧ 65 ≤ R.locals) (ret : RetI p l e R s m args below meth c cX11_runs Qf dmR cfR tyR exR D cy ad A Q) (hk37 : ∀ (x1' x2' x3' x4' x5' x6' x7' x8' : Int) (μ' : MM) (H : Heap) (locs : List Loc) (ls : Array Slot), k37 x1' x2' x3' x4' x5' x6' x7' x8' μ' → wdR D cy ad A μ' s H → va_S A s.heap H locs → lv_has ls 11 [(0, .ref (ad 0 0)), (1, .int (iI (x1'))), (2, .int (iI (x2'))), (3, .int (iI (x3'))), (4, .int (iI (x4'))), (5, .int (iI (x5'))), (6, .int (iI (x6'))), (7, .int (iI (x7'))), (8, .int (iI (x8')))] → W p l e R s m args below meth c H locs 0 0 Qf (F0 m 37 ls [])) (h : wpX11_runs_J136 k37 Q x1 x2 x3 x4 x5 x6 x7 x8 x9 t1 t2 μ) (hw : wdR D cy ad A μ s H) (hS : va_S A s.heap H locs) (hl : lv_has ls 11 [(0, .ref (ad 0 0)), (1, .int (iI x1)), (2, .int (iI x2)), (3, .int (iI x3)), (4, .int (iI x4)), (5, .int (iI x5)), (6, .int (iI x6)), (7, .int (iI x7)), (8, .int (iI x8)), (9, .int (iI x9))]) : W p l e R s m args below meth c H locs 0 0 Qf (F0 m 136 ls [.int (iI t2), .int (iI t1), .ref (ad 17 0)]) := by
  have hx := F.1
  have hb := F.2.1
  have hown := F.2.2.2.1
  have hts := F.2.2.2.2
  obtain ⟨g1, h⟩ := h
  obtain ⟨g2, h⟩ := h
  obtain ⟨μ3, eμ3⟩ : ∃ z : MM, z = ms μ 17 0 t1 t2 := ⟨_, rfl⟩
  have h := h μ3 eμ3
  refine aR_ist (L := 16) hx hb hw hS 16 rfl rfl (by decide) g1 g2 eμ3 dX11_runs_136 (fun H locs hw hS => ?_)
  refine lv_iload hx hb dX11_runs_137 (lv_at hl 5 rfl) ?_
  obtain ⟨g4, h⟩ := h
  refine q_if_eq (tgt := 146) hx hb g4 dX11_runs_139 (by decide) (fun c5 => ?_) (fun c5 => ?_)
  · have h := ite_t c5 h
    refine lv_iload hx hb dX11_runs_146 (lv_at hl 9 rfl) ?_
    refine lv_aload_n hx hb dX11_runs_148 rfl (lv_at hl 0 rfl) ?_
    refine gR_brokens F hw tw5_161 dX11_runs_149 ?_
    refine lv_iload hx hb dX11_runs_152 (lv_at hl 4 rfl) ?_
    obtain ⟨g6, h⟩ := h
    obtain ⟨g7, h⟩ := h
    refine aR_ild (L := 16) hx hb hw 22 rfl rfl (by decide) g6 g7 dX11_runs_154 ?_
    refine q_iconst hx hb dX11_runs_155 ?_
    refine q_ixor hx hb dX11_runs_156 ?_
    refine q_iand hx hb dX11_runs_157 ?_
    exact wX11_runs_J158 F hA hR ret hk37 h hw hS (lv_sub hl [0, 1, 2, 3, 4, 5, 6, 7, 8] rfl)
  · have h := ite_f c5 h
    refine q_iconst hx hb dX11_runs_142 ?_
    refine lv_goto (tgt := 158) hx hb dX11_runs_143 (by decide) ?_
    exact wX11_runs_J158 F hA hR ret hk37 h hw hS (lv_sub hl [0, 1, 2, 3, 4, 5, 6, 7, 8] rfl)
def wpX11_runs_J96 (k37 : Int → Int → Int → Int → Int → Int → Int → Int → MM → Prop) (Q : Int → MM → Prop) (x1 : Int) (x2 : Int) (x3 : Int) (x4 : Int) (x5 : Int) (x6 : Int) (x7 : Int) (x8 : Int) (t0 : Int) (μ : MM) : Prop := 0 ≤ x4 ∧ (x4 < 16 ∧ (rg (μ 11 0 x4) ∧ (if (μ 11 0 x4) = 3 then (rg ((μ 17 0 x4) + 1) ∧ (rg (μ 15 0 x4) ∧ ((μ 15 0 x4) ≠ 0 ∧ (wpX11_runs_J136 k37 Q x1 x2 x3 x4 x5 x6 x7 x8 t0 x4 (Int.tmod ((μ 17 0 x4) + 1) (μ 15 0 x4)) μ)))) else (wpX11_runs_J136 k37 Q x1 x2 x3 x4 x5 x6 x7 x8 t0 x4 0 μ))))
set_option maxRecDepth 100000 in
set_option maxHeartbeats 4000000 in
theorem wX11_runs_J96 {k37 : Int → Int → Int → Int → Int → Int → Int → Int → MM → Prop} {Q : Int → MM → Prop} {x1 : Int} {x2 : Int} {x3 : Int} {x4 : Int} {x5 : Int} {x6 : Int} {x7 : Int} {x8 : Int} {t0 : Int} {μ : MM} {H : Heap} {locs : List Loc} {ls : Array Slot} (F : CallFix p m c cX11_runs 11 s args uw RX11) (hA : ∀ q : Nat, s.heap.size ≤ q → A q) (hR : 3 ≤ R.frames ∧ 65 ≤ R.locals) (ret : RetI p l e R s m args below meth c cX11_runs Qf dmR cfR tyR exR D cy ad A Q) (hk37 : ∀ (x1' x2' x3' x4' x5' x6' x7' x8' : Int) (μ' : MM) (H : Heap) (locs : List Loc) (ls : Array Slot), k37 x1' x2' x3' x4' x5' x6' x7' x8' μ' → wdR D cy ad A μ' s H → va_S A s.heap H locs → lv_has ls 11 [(0, .ref (ad 0 0)), (1, .int (iI (x1'))), (2, .int (iI (x2'))), (3, .int (iI (x3'))), (4, .int (iI (x4'))), (5, .int (iI (x5'))), (6, .int (iI (x6'))), (7, .int (iI (x7'))), (8, .int (iI (x8')))] → W p l e R s m args below meth c H locs 0 0 Qf (F0 m 37 ls [])) (h : wpX11_runs_J96 k37 Q x1 x2 x3 x4 x5 x6 x7 x8 t0 μ) (hw : wdR D cy ad A μ s H) (hS : va_S A s.heap H locs) (hl : lv_has ls 11 [(0, .ref (ad 0 0)), (1, .int (iI x1)), (2, .int (iI x2)), (3, .int (iI x3)), (4, .int (iI x4)), (5, .int (iI x5)), (6, .int (iI x6)), (7, .int (iI x7)), (8, .int (iI x8))]) : W p l e R s m args below meth c H locs 0 0 Qf (F0 m 96 ls [.int (iI t0)]) := by
  have hx := F.1
  have hb := F.2.1
  have hown := F.2.2.2.1
  have hts := F.2.2.2.2
  refine lv_istore (lv' := [(9, .int (iI t0)), (0, .ref (ad 0 0)), (1, .int (iI x1)), (2, .int (iI x2)), (3, .int (iI x3)), (4, .int (iI x4)), (5, .int (iI x5)), (6, .int (iI x6)), (7, .int (iI x7)), (8, .int (iI x8))]) hx hb dX11_runs_96 hl (by decide) rfl (fun ls hl => ?_)
  refine lv_aload_n hx hb dX11_runs_98 rfl (lv_at hl 1 rfl) ?_
  refine gR_pinAt F hw tw5_155 dX11_runs_99 ?_
  refine lv_iload hx hb dX11_runs_102 (lv_at hl 5 rfl) ?_
  refine lv_aload_n hx hb dX11_runs_104 rfl (lv_at hl 1 rfl) ?_
  refine gR_kinds F hw tw5_149 dX11_runs_105 ?_
  refine lv_iload hx hb dX11_runs_108 (lv_at hl 5 rfl) ?_
  obtain ⟨g1, h⟩ := h
  obtain ⟨g2, h⟩ := h
  refine aR_ild (L := 16) hx hb hw 10 rfl rfl (by decide) g1 g2 dX11_runs_110 ?_
  refine q_iconst hx hb dX11_runs_111 ?_
  obtain ⟨g3, h⟩ := h
  refine q_icmp_ne (tgt := 135) hx hb g3 (by decide) dX11_runs_112 (by decide) (fun c4 => ?_) (fun c4 => ?_)
  · have h := ite_f c4 h
    refine q_iconst hx hb dX11_runs_135 ?_
    exact wX11_runs_J136 F hA hR ret hk37 h hw hS (lv_sub hl [1, 2, 3, 4, 5, 6, 7, 8, 9, 0] rfl)
  · have h := ite_t c4 h
    refine lv_aload_n hx hb dX11_runs_115 rfl (lv_at hl 1 rfl) ?_
    refine gR_pinAt F hw tw5_155 dX11_runs_116 ?_
    refine lv_iload hx hb dX11_runs_119 (lv_at hl 5 rfl) ?_
    refine aR_ild (L := 16) hx hb hw 16 rfl rfl (by decide) g1 g2 dX11_runs_121 ?_
    refine q_iconst hx hb dX11_runs_122 ?_
    refine q_iadd hx hb dX11_runs_123 ?_
    refine lv_aload_n hx hb dX11_runs_124 rfl (lv_at hl 1 rfl) ?_
    refine gR_pinMany F hw tw5_153 dX11_runs_125 ?_
    refine lv_iload hx hb dX11_runs_128 (lv_at hl 5 rfl) ?_
    refine aR_ild (L := 16) hx hb hw 14 rfl rfl (by decide) g1 g2 dX11_runs_130 ?_
    obtain ⟨g5, h⟩ := h
    obtain ⟨g6, h⟩ := h
    obtain ⟨g7, h⟩ := h
    refine q_irem hx hb g5 g6 g7 dX11_runs_131 ?_
    refine lv_goto (tgt := 136) hx hb dX11_runs_132 (by decide) ?_
    exact wX11_runs_J136 F hA hR ret hk37 h hw hS (lv_sub hl [1, 2, 3, 4, 5, 6, 7, 8, 9, 0] rfl)
def wpX11_runs_J249 (Q : Int → MM → Prop) (x1 : Int) (x2 : Int) (x4 : Int) (x6 : Int) (μ : MM) : Prop := rg x2 ∧ (if x2 = 0 then (Q x6 μ) else (rg x6 ∧ (if x6 ≤ 0 then (Q x6 μ) else (0 ≤ x4 ∧ (x4 < 16 ∧ (rg (μ 21 0 x4) ∧ (if (μ 21 0 x4) = 0 then (rg (μ 25 0 x4) ∧ (if (μ 25 0 x4) = 0 then (Q x6 μ) else (0 ≤ (2 * x1) ∧ (2 * x1 < 8 ∧ (rg (μ 35 0 (2 * x1)) ∧ (if (μ 35 0 (2 * x1)) < 0 then (Q x6 μ) else (wpX11_silenceOf x1 μ (fun v15 μ16 => rg v15 ∧ (if v15 = 2 then (Q x6 μ16) else (wpX11_offGoes x1 0 μ16 (fun v19 μ20 => Q x6 μ20))))))))))) else (Q x6 μ))))))))
set_option maxRecDepth 100000 in
set_option maxHeartbeats 4000000 in
theorem wX11_runs_J249 {Q : Int → MM → Prop} {x1 : Int} {x2 : Int} {x4 : Int} {x6 : Int} {μ : MM} {H : Heap} {locs : List Loc} {ls : Array Slot} (F : CallFix p m c cX11_runs 11 s args uw RX11) (hA : ∀ q : Nat, s.heap.size ≤ q → A q) (hR : 3 ≤ R.frames ∧ 65 ≤ R.locals) (ret : RetI p l e R s m args below meth c cX11_runs Qf dmR cfR tyR exR D cy ad A Q) (h : wpX11_runs_J249 Q x1 x2 x4 x6 μ) (hw : wdR D cy ad A μ s H) (hS : va_S A s.heap H locs) (hl : lv_has ls 11 [(0, .ref (ad 0 0)), (1, .int (iI x1)), (2, .int (iI x2)), (4, .int (iI x4)), (6, .int (iI x6))]) : W p l e R s m args below meth c H locs 0 0 Qf (F0 m 249 ls []) := by
  have hx := F.1
  have hb := F.2.1
  have hown := F.2.2.2.1
  have hts := F.2.2.2.2
  refine lv_iload_n hx hb dX11_runs_249 rfl (lv_at hl 2 rfl) ?_
  obtain ⟨g1, h⟩ := h
  refine q_if_eq (tgt := 304) hx hb g1 dX11_runs_250 (by decide) (fun c2 => ?_) (fun c2 => ?_)
  · have h := ite_t c2 h
    refine lv_iload hx hb dX11_runs_304 (lv_at hl 4 rfl) ?_
    exact ret _ _ _ _ _ _ h hw hS dX11_runs_306
  · have h := ite_f c2 h
    refine lv_iload hx hb dX11_runs_253 (lv_at hl 4 rfl) ?_
    obtain ⟨g3, h⟩ := h
    refine q_if_le (tgt := 304) hx hb g3 dX11_runs_255 (by decide) (fun c4 => ?_) (fun c4 => ?_)
    · have h := ite_t c4 h
      refine lv_iload hx hb dX11_runs_304 (lv_at hl 4 rfl) ?_
      exact ret _ _ _ _ _ _ h hw hS dX11_runs_306
    · have h := ite_f c4 h
      refine lv_aload_n hx hb dX11_runs_258 rfl (lv_at hl 0 rfl) ?_
      refine gR_dues F hw tw5_159 dX11_runs_259 ?_
      refine lv_iload hx hb dX11_runs_262 (lv_at hl 3 rfl) ?_
      obtain ⟨g5, h⟩ := h
      obtain ⟨g6, h⟩ := h
      refine aR_ild (L := 16) hx hb hw 20 rfl rfl (by decide) g5 g6 dX11_runs_264 ?_
      obtain ⟨g7, h⟩ := h
      refine q_if_ne (tgt := 304) hx hb g7 dX11_runs_265 (by decide) (fun c8 => ?_) (fun c8 => ?_)
      · have h := ite_f c8 h
        refine lv_iload hx hb dX11_runs_304 (lv_at hl 4 rfl) ?_
        exact ret _ _ _ _ _ _ h hw hS dX11_runs_306
      · have h := ite_t c8 h
        refine lv_aload_n hx hb dX11_runs_268 rfl (lv_at hl 0 rfl) ?_
        refine gR_lifts F hw tw5_163 dX11_runs_269 ?_
        refine lv_iload hx hb dX11_runs_272 (lv_at hl 3 rfl) ?_
        refine aR_zld (L := 16) hx hb hw 24 rfl rfl (by decide) g5 g6 dX11_runs_274 ?_
        obtain ⟨g9, h⟩ := h
        refine q_if_eq (tgt := 304) hx hb g9 dX11_runs_275 (by decide) (fun c10 => ?_) (fun c10 => ?_)
        · have h := ite_t c10 h
          refine lv_iload hx hb dX11_runs_304 (lv_at hl 4 rfl) ?_
          exact ret _ _ _ _ _ _ h hw hS dX11_runs_306
        · have h := ite_f c10 h
          refine lv_aload_n hx hb dX11_runs_278 rfl (lv_at hl 0 rfl) ?_
          refine gR_hung F hw tw5_173 dX11_runs_279 ?_
          refine q_iconst hx hb dX11_runs_282 ?_
          refine lv_iload_n hx hb dX11_runs_283 rfl (lv_at hl 1 rfl) ?_
          refine q_imul hx hb dX11_runs_284 ?_
          obtain ⟨g11, h⟩ := h
          obtain ⟨g12, h⟩ := h
          refine aR_ild (L := 8) hx hb hw 34 rfl rfl (by decide) g11 g12 dX11_runs_285 ?_
          obtain ⟨g13, h⟩ := h
          refine q_if_lt (tgt := 304) hx hb g13 dX11_runs_286 (by decide) (fun c14 => ?_) (fun c14 => ?_)
          · have h := ite_t c14 h
            refine lv_iload hx hb dX11_runs_304 (lv_at hl 4 rfl) ?_
            exact ret _ _ _ _ _ _ h hw hS dX11_runs_306
          · have h := ite_f c14 h
            refine lv_aload_n hx hb dX11_runs_289 rfl (lv_at hl 0 rfl) ?_
            refine lv_iload_n hx hb dX11_runs_290 rfl (lv_at hl 1 rfl) ?_
            refine call_V hexR F (kX11_silenceOf h) 1 tw6_236 tw1_8 tw6_235 tws3_10 tw6_233 hdX11_silenceOf ⟨Nat.le_trans (by decide) hR.1, Nat.le_trans (by decide) hR.2⟩ (hw.recv (k := 0) (i := 0) ⟨rfl, Or.inl rfl⟩ rfl rfl) hA hw hS rfl hl.1 rfl (Nat.le_of_ble_eq_true rfl) dX11_runs_291 (fun v15 μ16 H locs h hw hS => ?_)
            refine q_iconst hx hb dX11_runs_294 ?_
            obtain ⟨g17, h⟩ := h
            refine q_icmp_eq (tgt := 304) hx hb g17 (by decide) dX11_runs_295 (by decide) (fun c18 => ?_) (fun c18 => ?_)
            · have h := ite_t c18 h
              refine lv_iload hx hb dX11_runs_304 (lv_at hl 4 rfl) ?_
              exact ret _ _ _ _ _ _ h hw hS dX11_runs_306
            · have h := ite_f c18 h
              refine lv_aload_n hx hb dX11_runs_298 rfl (lv_at hl 0 rfl) ?_
              refine lv_iload_n hx hb dX11_runs_299 rfl (lv_at hl 1 rfl) ?_
              refine q_iconst hx hb dX11_runs_300 ?_
              refine call_V hexR F (kX11_offGoes h) 2 tw7_0 tw1_8 tw6_239 tws3_11 tw6_237 hdX11_offGoes ⟨Nat.le_trans (by decide) hR.1, Nat.le_trans (by decide) hR.2⟩ (hw.recv (k := 0) (i := 0) ⟨rfl, Or.inl rfl⟩ rfl rfl) hA hw hS rfl hl.1 rfl (Nat.le_of_ble_eq_true rfl) dX11_runs_301 (fun v19 μ20 H locs h hw hS => ?_)
              refine lv_iload hx hb dX11_runs_304 (lv_at hl 4 rfl) ?_
              exact ret _ _ _ _ _ _ h hw hS dX11_runs_306
def wpX11_runs_J210 (Q : Int → MM → Prop) (x1 : Int) (x2 : Int) (x4 : Int) (x6 : Int) (x7 : Int) (x8 : Int) (μ : MM) : Prop := 0 ≤ x4 ∧ (x4 < 16 ∧ (∀ μ3 : MM, μ3 = ms μ 24 0 x4 ((μ 24 0 x4) + x6) → (∀ μ4 : MM, μ4 = ms μ3 0 6 0 ((μ3 0 6 0) + x6) → (rg x7 ∧ (if x7 ≤ 0 then (wpX11_runs_J249 Q x1 x2 x4 x6 μ4) else (wpX11_writeLog x1 x4 x7 x8 μ4 (fun v7 μ8 => wpX11_runs_J249 Q x1 x2 x4 x6 μ8)))))))
set_option maxRecDepth 100000 in
set_option maxHeartbeats 4000000 in
theorem wX11_runs_J210 {Q : Int → MM → Prop} {x1 : Int} {x2 : Int} {x4 : Int} {x6 : Int} {x7 : Int} {x8 : Int} {μ : MM} {H : Heap} {locs : List Loc} {ls : Array Slot} (F : CallFix p m c cX11_runs 11 s args uw RX11) (hA : ∀ q : Nat, s.heap.size ≤ q → A q) (hR : 3 ≤ R.frames ∧ 65 ≤ R.locals) (ret : RetI p l e R s m args below meth c cX11_runs Qf dmR cfR tyR exR D cy ad A Q) (h : wpX11_runs_J210 Q x1 x2 x4 x6 x7 x8 μ) (hw : wdR D cy ad A μ s H) (hS : va_S A s.heap H locs) (hl : lv_has ls 11 [(0, .ref (ad 0 0)), (1, .int (iI x1)), (2, .int (iI x2)), (4, .int (iI x4)), (6, .int (iI x6)), (7, .int (iI x7)), (8, .int (iI x8))]) : W p l e R s m args below meth c H locs 0 0 Qf (F0 m 210 ls []) := by
  have hx := F.1
  have hb := F.2.1
  have hown := F.2.2.2.1
  have hts := F.2.2.2.2
  refine lv_aload_n hx hb dX11_runs_210 rfl (lv_at hl 0 rfl) ?_
  refine gR_strucks F hw tw5_162 dX11_runs_211 ?_
  refine lv_iload hx hb dX11_runs_214 (lv_at hl 3 rfl) ?_
  refine lv_dup2_11 hx hb dX11_runs_216 rfl rfl ?_
  obtain ⟨g1, h⟩ := h
  obtain ⟨g2, h⟩ := h
  refine aR_ild (L := 16) hx hb hw 23 rfl rfl (by decide) g1 g2 dX11_runs_217 ?_
  refine lv_iload hx hb dX11_runs_218 (lv_at hl 4 rfl) ?_
  refine q_iadd hx hb dX11_runs_220 ?_
  obtain ⟨μ3, eμ3⟩ : ∃ z : MM, z = ms μ 24 0 x4 ((μ 24 0 x4) + x6) := ⟨_, rfl⟩
  have h := h μ3 eμ3
  refine aR_ist (L := 16) hx hb hw hS 23 rfl rfl (by decide) g1 g2 eμ3 dX11_runs_221 (fun H locs hw hS => ?_)
  refine lv_aload_n hx hb dX11_runs_222 rfl (lv_at hl 0 rfl) ?_
  refine lv_dup hx hb dX11_runs_223 rfl ?_
  refine gR_struckEver F hw tw5_144 dX11_runs_224 ?_
  refine lv_iload hx hb dX11_runs_227 (lv_at hl 4 rfl) ?_
  refine q_iadd hx hb dX11_runs_229 ?_
  obtain ⟨μ4, eμ4⟩ : ∃ z : MM, z = ms μ3 0 6 0 ((μ3 0 6 0) + x6) := ⟨_, rfl⟩
  have h := h μ4 eμ4
  refine pR_struckEver F hw hS tw5_144 eμ4 dX11_runs_230 (fun H locs hw hS => ?_)
  refine lv_iload hx hb dX11_runs_233 (lv_at hl 5 rfl) ?_
  obtain ⟨g5, h⟩ := h
  refine q_if_le (tgt := 249) hx hb g5 dX11_runs_235 (by decide) (fun c6 => ?_) (fun c6 => ?_)
  · have h := ite_t c6 h
    exact wX11_runs_J249 F hA hR ret h hw hS (lv_sub hl [0, 1, 2, 3, 4] rfl)
  · have h := ite_f c6 h
    refine lv_aload_n hx hb dX11_runs_238 rfl (lv_at hl 0 rfl) ?_
    refine lv_iload_n hx hb dX11_runs_239 rfl (lv_at hl 1 rfl) ?_
    refine lv_iload hx hb dX11_runs_240 (lv_at hl 3 rfl) ?_
    refine lv_iload hx hb dX11_runs_242 (lv_at hl 5 rfl) ?_
    refine lv_iload hx hb dX11_runs_244 (lv_at hl 6 rfl) ?_
    refine call_V hexR F (kX11_writeLog h) 4 tw7_48 tw1_8 tw7_47 tws3_15 tw7_45 hdX11_writeLog ⟨Nat.le_trans (by decide) hR.1, Nat.le_trans (by decide) hR.2⟩ (hw.recv (k := 0) (i := 0) ⟨rfl, Or.inl rfl⟩ rfl rfl) hA hw hS rfl hl.1 rfl (Nat.le_of_ble_eq_true rfl) dX11_runs_246 (fun v7 μ8 H locs h hw hS => ?_)
    exact wX11_runs_J249 F hA hR ret h hw hS (lv_sub hl [0, 1, 2, 3, 4] rfl)
def wpX11_runs_L37 (Q : Int → MM → Prop) : Nat → Int → Int → Int → Int → Int → Int → Int → Int → MM → Prop
  | 0, _, _, _, _, _, _, _, _, _ => False
  | n + 1, x1, x2, x3, x4, x5, x6, x7, x8, μ => 0 ≤ x4 ∧ (x4 < 16 ∧ (rg (μ 21 0 x4) ∧ (if (μ 21 0 x4) ≤ 0 then (wpX11_runs_J210 Q x1 x2 x4 x6 x7 x8 μ) else (rg (μ 20 0 x4) ∧ (if (μ 20 0 x4) ≤ 0 then (wpX11_runs_J210 Q x1 x2 x4 x6 x7 x8 μ) else (rg x6 ∧ (rg x3 ∧ (if x3 ≤ x6 then (wpX11_runs_J210 Q x1 x2 x4 x6 x7 x8 μ) else (rg (μ 11 0 x4) ∧ (if (μ 11 0 x4) = 3 then (0 ≤ ((48 * x4) + (μ 17 0 x4)) ∧ ((48 * x4) + (μ 17 0 x4) < 768 ∧ (wpX11_runs_J96 (fun x1' x2' x3' x4' x5' x6' x7' x8' μ' => wpX11_runs_L37 Q n x1' x2' x3' x4' x5' x6' x7' x8' μ') Q x1 x2 x3 x4 x5 x6 x7 x8 (μ 16 0 ((48 * x4) + (μ 17 0 x4))) μ))) else (wpX11_runs_J96 (fun x1' x2' x3' x4' x5' x6' x7' x8' μ' => wpX11_runs_L37 Q n x1' x2' x3' x4' x5' x6' x7' x8' μ') Q x1 x2 x3 x4 x5 x6 x7 x8 1 μ)))))))))))
set_option maxRecDepth 100000 in
set_option maxHeartbeats 4000000 in
theorem wX11_runs_L37 {Q : Int → MM → Prop} (F : CallFix p m c cX11_runs 11 s args uw RX11) (hA : ∀ q : Nat, s.heap.size ≤ q → A q) (hR : 3 ≤ R.frames ∧ 65 ≤ R.locals) (ret : RetI p l e R s m args below meth c cX11_runs Qf dmR cfR tyR exR D cy ad A Q) : ∀ (n : Nat) (x1 x2 x3 x4 x5 x6 x7 x8 : Int) (μ : MM) (H : Heap) (locs : List Loc) (ls : Array Slot), wpX11_runs_L37 Q n x1 x2 x3 x4 x5 x6 x7 x8 μ → wdR D cy ad A μ s H → va_S A s.heap H locs → lv_has ls 11 [(0, .ref (ad 0 0)), (1, .int (iI x1)), (2, .int (iI x2)), (3, .int (iI x3)), (4, .int (iI x4)), (5, .int (iI x5)), (6, .int (iI x6)), (7, .int (iI x7)), (8, .int (iI x8))] → W p l e R s m args below meth c H locs 0 0 Qf (F0 m 37 ls []) := by
  have hx := F.1
  have hb := F.2.1
  have hown := F.2.2.2.1
  have hts := F.2.2.2.2
  intro n
  induction n with
  | zero =>
    intro x1 x2 x3 x4 x5 x6 x7 x8 μ H locs ls h hw hS hl
    exact h.elim
  | succ n ih =>
    intro x1 x2 x3 x4 x5 x6 x7 x8 μ H locs ls h hw hS hl
    refine lv_aload_n hx hb dX11_runs_37 rfl (lv_at hl 0 rfl) ?_
    refine gR_dues F hw tw5_159 dX11_runs_38 ?_
    refine lv_iload hx hb dX11_runs_41 (lv_at hl 4 rfl) ?_
    obtain ⟨g1, h⟩ := h
    obtain ⟨g2, h⟩ := h
    refine aR_ild (L := 16) hx hb hw 20 rfl rfl (by decide) g1 g2 dX11_runs_43 ?_
    obtain ⟨g3, h⟩ := h
    refine q_if_le (tgt := 210) hx hb g3 dX11_runs_44 (by decide) (fun c4 => ?_) (fun c4 => ?_)
    · have h := ite_t c4 h
      exact wX11_runs_J210 F hA hR ret h hw hS (lv_sub hl [0, 1, 2, 4, 6, 7, 8] rfl)
    · have h := ite_f c4 h
      refine lv_aload_n hx hb dX11_runs_47 rfl (lv_at hl 0 rfl) ?_
      refine gR_weights F hw tw5_158 dX11_runs_48 ?_
      refine lv_iload hx hb dX11_runs_51 (lv_at hl 4 rfl) ?_
      refine aR_ild (L := 16) hx hb hw 19 rfl rfl (by decide) g1 g2 dX11_runs_53 ?_
      obtain ⟨g5, h⟩ := h
      refine q_if_le (tgt := 210) hx hb g5 dX11_runs_54 (by decide) (fun c6 => ?_) (fun c6 => ?_)
      · have h := ite_t c6 h
        exact wX11_runs_J210 F hA hR ret h hw hS (lv_sub hl [0, 1, 2, 4, 6, 7, 8] rfl)
      · have h := ite_f c6 h
        refine lv_iload hx hb dX11_runs_57 (lv_at hl 6 rfl) ?_
        refine lv_iload_n hx hb dX11_runs_59 rfl (lv_at hl 3 rfl) ?_
        obtain ⟨g7, h⟩ := h
        obtain ⟨g8, h⟩ := h
        refine q_icmp_ge (tgt := 210) hx hb g7 g8 dX11_runs_60 (by decide) (fun c9 => ?_) (fun c9 => ?_)
        · have h := ite_t c9 h
          exact wX11_runs_J210 F hA hR ret h hw hS (lv_sub hl [0, 1, 2, 4, 6, 7, 8] rfl)
        · have h := ite_f c9 h
          refine lv_aload_n hx hb dX11_runs_63 rfl (lv_at hl 0 rfl) ?_
          refine gR_kinds F hw tw5_149 dX11_runs_64 ?_
          refine lv_iload hx hb dX11_runs_67 (lv_at hl 4 rfl) ?_
          refine aR_ild (L := 16) hx hb hw 10 rfl rfl (by decide) g1 g2 dX11_runs_69 ?_
          refine q_iconst hx hb dX11_runs_70 ?_
          obtain ⟨g10, h⟩ := h
          refine q_icmp_ne (tgt := 95) hx hb g10 (by decide) dX11_runs_71 (by decide) (fun c11 => ?_) (fun c11 => ?_)
          · have h := ite_f c11 h
            refine q_iconst hx hb dX11_runs_95 ?_
            exact wX11_runs_J96 F hA hR ret (fun x1 x2 x3 x4 x5 x6 x7 x8 => ih x1 x2 x3 x4 x5 x6 x7 x8) h hw hS (lv_sub hl [0, 1, 2, 3, 4, 5, 6, 7, 8] rfl)
          · have h := ite_t c11 h
            refine lv_aload_n hx hb dX11_runs_74 rfl (lv_at hl 0 rfl) ?_
            refine gR_pins F hw tw5_154 dX11_runs_75 ?_
            refine q_bipush hx hb (by decide) dX11_runs_78 ?_
            refine lv_iload hx hb dX11_runs_80 (lv_at hl 4 rfl) ?_
            refine q_imul hx hb dX11_runs_82 ?_
            refine lv_aload_n hx hb dX11_runs_83 rfl (lv_at hl 0 rfl) ?_
            refine gR_pinAt F hw tw5_155 dX11_runs_84 ?_
            refine lv_iload hx hb dX11_runs_87 (lv_at hl 4 rfl) ?_
            refine aR_ild (L := 16) hx hb hw 16 rfl rfl (by decide) g1 g2 dX11_runs_89 ?_
            refine q_iadd hx hb dX11_runs_90 ?_
            obtain ⟨g12, h⟩ := h
            obtain ⟨g13, h⟩ := h
            refine aR_ild (L := 768) hx hb hw 15 rfl rfl (by decide) g12 g13 dX11_runs_91 ?_
            refine lv_goto (tgt := 96) hx hb dX11_runs_92 (by decide) ?_
            exact wX11_runs_J96 F hA hR ret (fun x1 x2 x3 x4 x5 x6 x7 x8 => ih x1 x2 x3 x4 x5 x6 x7 x8) h hw hS (lv_sub hl [0, 1, 2, 3, 4, 5, 6, 7, 8] rfl)
def wpX11_runs_J26 (Q : Int → MM → Prop) (x1 : Int) (x2 : Int) (x3 : Int) (x4 : Int) (t0 : Int) (μ : MM) : Prop := ∃ n1 : Nat, wpX11_runs_L37 Q n1 x1 x2 x3 x4 t0 0 0 0 μ
set_option maxRecDepth 100000 in
set_option maxHeartbeats 4000000 in
theorem wX11_runs_J26 {Q : Int → MM → Prop} {x1 : Int} {x2 : Int} {x3 : Int} {x4 : Int} {t0 : Int} {μ : MM} {H : Heap} {locs : List Loc} {ls : Array Slot} (F : CallFix p m c cX11_runs 11 s args uw RX11) (hA : ∀ q : Nat, s.heap.size ≤ q → A q) (hR : 3 ≤ R.frames ∧ 65 ≤ R.locals) (ret : RetI p l e R s m args below meth c cX11_runs Qf dmR cfR tyR exR D cy ad A Q) (h : wpX11_runs_J26 Q x1 x2 x3 x4 t0 μ) (hw : wdR D cy ad A μ s H) (hS : va_S A s.heap H locs) (hl : lv_has ls 11 [(0, .ref (ad 0 0)), (1, .int (iI x1)), (2, .int (iI x2)), (3, .int (iI x3)), (4, .int (iI x4))]) : W p l e R s m args below meth c H locs 0 0 Qf (F0 m 26 ls [.int (iI t0)]) := by
  have hx := F.1
  have hb := F.2.1
  have hown := F.2.2.2.1
  have hts := F.2.2.2.2
  refine lv_istore (lv' := [(5, .int (iI t0)), (0, .ref (ad 0 0)), (1, .int (iI x1)), (2, .int (iI x2)), (3, .int (iI x3)), (4, .int (iI x4))]) hx hb dX11_runs_26 hl (by decide) rfl (fun ls hl => ?_)
  refine q_iconst hx hb dX11_runs_28 ?_
  refine lv_istore (lv' := [(6, .int (iI 0)), (5, .int (iI t0)), (0, .ref (ad 0 0)), (1, .int (iI x1)), (2, .int (iI x2)), (3, .int (iI x3)), (4, .int (iI x4))]) hx hb dX11_runs_29 hl (by decide) rfl (fun ls hl => ?_)
  refine q_iconst hx hb dX11_runs_31 ?_
  refine lv_istore (lv' := [(7, .int (iI 0)), (6, .int (iI 0)), (5, .int (iI t0)), (0, .ref (ad 0 0)), (1, .int (iI x1)), (2, .int (iI x2)), (3, .int (iI x3)), (4, .int (iI x4))]) hx hb dX11_runs_32 hl (by decide) rfl (fun ls hl => ?_)
  refine q_iconst hx hb dX11_runs_34 ?_
  refine lv_istore (lv' := [(8, .int (iI 0)), (7, .int (iI 0)), (6, .int (iI 0)), (5, .int (iI t0)), (0, .ref (ad 0 0)), (1, .int (iI x1)), (2, .int (iI x2)), (3, .int (iI x3)), (4, .int (iI x4))]) hx hb dX11_runs_35 hl (by decide) rfl (fun ls hl => ?_)
  obtain ⟨n1, h⟩ := h
  exact wX11_runs_L37 F hA hR ret n1 x1 x2 x3 x4 t0 0 0 0 _ _ _ _ h hw hS (lv_sub hl [4, 5, 6, 7, 8, 3, 2, 1, 0] rfl)
def wpX11_runs (x1 : Int) (x2 : Int) (x3 : Int) (μ : MM) (Q : Int → MM → Prop) : Prop := wpX11_placeOf x1 x2 μ (fun v1 μ2 => 0 ≤ v1 ∧ (v1 < 8 ∧ (wpX11_silenceOf x1 μ2 (fun v5 μ6 => rg v5 ∧ (if v5 = 1 then (wpX11_runs_J26 Q x1 x2 x3 (μ2 35 0 v1) 1 μ6) else (wpX11_runs_J26 Q x1 x2 x3 (μ2 35 0 v1) 0 μ6))))))
set_option maxRecDepth 100000 in
set_option maxHeartbeats 4000000 in
theorem wX11_runs {Q : Int → MM → Prop} {x1 : Int} {x2 : Int} {x3 : Int} {μ : MM} {H : Heap} {locs : List Loc} {ls : Array Slot} (F : CallFix p m c cX11_runs 11 s args uw RX11) (hA : ∀ q : Nat, s.heap.size ≤ q → A q) (hR : 3 ≤ R.frames ∧ 65 ≤ R.locals) (ret : RetI p l e R s m args below meth c cX11_runs Qf dmR cfR tyR exR D cy ad A Q) (h : wpX11_runs x1 x2 x3 μ Q) (hw : wdR D cy ad A μ s H) (hS : va_S A s.heap H locs) (hl : lv_has ls 11 [(0, .ref (ad 0 0)), (1, .int (iI x1)), (2, .int (iI x2)), (3, .int (iI x3))]) : W p l e R s m args below meth c H locs 0 0 Qf (F0 m 0 ls []) := by
  have hx := F.1
  have hb := F.2.1
  have hown := F.2.2.2.1
  have hts := F.2.2.2.2
  refine lv_aload_n hx hb dX11_runs_0 rfl (lv_at hl 0 rfl) ?_
  refine gR_hung F hw tw5_173 dX11_runs_1 ?_
  refine lv_iload_n hx hb dX11_runs_4 rfl (lv_at hl 1 rfl) ?_
  refine lv_iload_n hx hb dX11_runs_5 rfl (lv_at hl 2 rfl) ?_
  refine call_S hexR F (kX11_placeOf h) 2 tw6_204 tw1_8 tw6_203 tw6_202 hdX11_placeOf ⟨Nat.le_trans (by decide) hR.1, Nat.le_trans (by decide) hR.2⟩ hA hw hS rfl hl.1 rfl (Nat.le_of_ble_eq_true rfl) dX11_runs_6 (fun v1 μ2 H locs h hw hS => ?_)
  obtain ⟨g3, h⟩ := h
  obtain ⟨g4, h⟩ := h
  refine aR_ild (L := 8) hx hb hw 34 rfl rfl (by decide) g3 g4 dX11_runs_9 ?_
  refine lv_istore (lv' := [(4, .int (iI (μ2 35 0 v1))), (0, .ref (ad 0 0)), (1, .int (iI x1)), (2, .int (iI x2)), (3, .int (iI x3))]) hx hb dX11_runs_10 hl (by decide) rfl (fun ls hl => ?_)
  refine lv_aload_n hx hb dX11_runs_12 rfl (lv_at hl 1 rfl) ?_
  refine lv_iload_n hx hb dX11_runs_13 rfl (lv_at hl 2 rfl) ?_
  refine call_V hexR F (kX11_silenceOf h) 1 tw6_236 tw1_8 tw6_235 tws3_10 tw6_233 hdX11_silenceOf ⟨Nat.le_trans (by decide) hR.1, Nat.le_trans (by decide) hR.2⟩ (hw.recv (k := 0) (i := 0) ⟨rfl, Or.inl rfl⟩ rfl rfl) hA hw hS rfl hl.1 rfl (Nat.le_of_ble_eq_true rfl) dX11_runs_14 (fun v5 μ6 H locs h hw hS => ?_)
  refine q_iconst hx hb dX11_runs_17 ?_
  obtain ⟨g7, h⟩ := h
  refine q_icmp_ne (tgt := 25) hx hb g7 (by decide) dX11_runs_18 (by decide) (fun c8 => ?_) (fun c8 => ?_)
  · have h := ite_f c8 h
    refine q_iconst hx hb dX11_runs_25 ?_
    exact wX11_runs_J26 F hA hR ret h hw hS (lv_sub hl [1, 2, 3, 4, 0] rfl)
  · have h := ite_t c8 h
    refine q_iconst hx hb dX11_runs_21 ?_
    refine lv_goto (tgt := 26) hx hb dX11_runs_22 (by decide) ?_
    exact wX11_runs_J26 F hA hR ret h hw hS (lv_sub hl [1, 2, 3, 4, 0] rfl)
set_option maxRecDepth 100000 in
set_option maxHeartbeats 4000000 in
theorem kX11_runs {l : Launch} {D : va_G} {cy : Nat → ClassId} {ad : AD} {A : Nat → Prop} {x1 : Int} {x2 : Int} {x3 : Int} {μ : MM} {Q : Int → MM → Prop} (h : wpX11_runs x1 x2 x3 μ Q) : Met l yX11_runs (Cond.code yX11_runs cX11_runs 11 (some .int) :: uw) (rmm 3 65) (wPc [.ref (ad 0 0), .int (iI x1), .int (iI x2), .int (iI x3)] dmR cfR tyR exR D cy ad A μ) (wQ vI Q dmR cfR D cy ad A) 0 0 A :=
  met_of (by decide) (Nat.le_of_ble_eq_true rfl) (fun p e R s m args below meth c ls hr hk hRR F hA hw hS hl => wX11_runs F hA (by subst hRR; exact ⟨Nat.le_refl _, Nat.le_refl _⟩) (retI_of F hr hk) h hw hS hl)
theorem hdX11_runs : yX11_runs.cls ≠ "java/lang/invoke/MethodHandle" ∧ yX11_runs.cls ≠ "java/lang/invoke/VarHandle" ∧ (parseMethodDescriptor yX11_runs.desc).map (fun d => d.parameters.length) = some 3 := by decide +kernel
def wpX11_minuteOf_J135 (k87 : Int → Int → MM → Prop) (Q : Int → MM → Prop) (x1 : Int) (x2 : Int) (μ : MM) : Prop := k87 x1 (x2 + (-1)) μ
set_option maxRecDepth 100000 in
set_option maxHeartbeats 4000000 in
theorem wX11_minuteOf_J135 {k87 : Int → Int → MM → Prop} {Q : Int → MM → Prop} {x1 : Int} {x2 : Int} {μ : MM} {H : Heap} {locs : List Loc} {ls : Array Slot} (F : CallFix p m c cX11_minuteOf 4 s args uw RX11) (hA : ∀ q : Nat, s.heap.size ≤ q → A q) (hR : 5 ≤ R.frames ∧ 111 ≤ R.locals) (ret : RetV p l e R s m args below meth c cX11_minuteOf Qf dmR cfR tyR exR D cy ad A Q) (hk87 : ∀ (x1' x2' : Int) (μ' : MM) (H : Heap) (locs : List Loc) (ls : Array Slot), k87 x1' x2' μ' → wdR D cy ad A μ' s H → va_S A s.heap H locs → lv_has ls 4 [(0, .ref (ad 0 0)), (1, .int (iI (x1'))), (2, .int (iI (x2')))] → W p l e R s m args below meth c H locs 0 0 Qf (F0 m 87 ls [])) (h : wpX11_minuteOf_J135 k87 Q x1 x2 μ) (hw : wdR D cy ad A μ s H) (hS : va_S A s.heap H locs) (hl : lv_has ls 4 [(0, .ref (ad 0 0)), (1, .int (iI x1)), (2, .int (iI x2))]) : W p l e R s m args below meth c H locs 0 0 Qf (F0 m 135 ls []) := by
  have hx := F.1
  have hb := F.2.1
  have hown := F.2.2.2.1
  have hts := F.2.2.2.2
  refine q_iinc (k := 2) (lv' := [(2, .int (iI (x2 + (-1)))), (0, .ref (ad 0 0)), (1, .int (iI x1))]) hx hb dX11_minuteOf_135 hl rfl (by decide) rfl (fun ls hl => ?_)
  refine lv_goto (tgt := 87) hx hb dX11_minuteOf_138 (by decide) ?_
  exact hk87 x1 (x2 + (-1)) _ _ _ _ h hw hS (lv_sub hl [1, 2, 0] rfl)
def wpX11_minuteOf_J116 (k87 : Int → Int → MM → Prop) (Q : Int → MM → Prop) (x1 : Int) (x2 : Int) (t1 : Int) (t2 : Int) (μ : MM) : Prop := 0 ≤ ((2 * x1) + x2) ∧ ((2 * x1) + x2 < 8 ∧ (0 ≤ (μ 35 0 ((2 * x1) + x2)) ∧ (μ 35 0 ((2 * x1) + x2) < 16 ∧ (wpX11_runs t1 t2 (μ 18 0 (μ 35 0 ((2 * x1) + x2))) μ (fun v5 μ6 => wpX11_minuteOf_J135 k87 Q x1 x2 μ6)))))
set_option maxRecDepth 100000 in
set_option maxHeartbeats 4000000 in
theorem wX11_minuteOf_J116 {k87 : Int → Int → MM → Prop} {Q : Int → MM → Prop} {x1 : Int} {x2 : Int} {t1 : Int} {t2 : Int} {μ : MM} {H : Heap} {locs : List Loc} {ls : Array Slot} (F : CallFix p m c cX11_minuteOf 4 s args uw RX11) (hA : ∀ q : Nat, s.heap.size ≤ q → A q) (hR : 5 ≤ R.frames ∧ 111 ≤ R.locals) (ret : RetV p l e R s m args below meth c cX11_minuteOf Qf dmR cfR tyR exR D cy ad A Q) (hk87 : ∀ (x1' x2' : Int) (μ' : MM) (H : Heap) (locs : List Loc) (ls : Array Slot), k87 x1' x2' μ' → wdR D cy ad A μ' s H → va_S A s.heap H locs → lv_has ls 4 [(0, .ref (ad 0 0)), (1, .int (iI (x1'))), (2, .int (iI (x2')))] → W p l e R s m args below meth c H locs 0 0 Qf (F0 m 87 ls [])) (h : wpX11_minuteOf_J116 k87 Q x1 x2 t1 t2 μ) (hw : wdR D cy ad A μ s H) (hS : va_S A s.heap H locs) (hl : lv_has ls 4 [(0, .ref (ad 0 0)), (1, .int (iI x1)), (2, .int (iI x2))]) : W p l e R s m args below meth c H locs 0 0 Qf (F0 m 116 ls [.int (iI t2), .int (iI t1), .ref (ad 0 0)]) := by
  have hx := F.1
  have hb := F.2.1
  have hown := F.2.2.2.1
  have hts := F.2.2.2.2
  refine lv_aload_n hx hb dX11_minuteOf_116 rfl (lv_at hl 0 rfl) ?_
  refine gR_paces F hw tw5_156 dX11_minuteOf_117 ?_
  refine lv_aload_n hx hb dX11_minuteOf_120 rfl (lv_at hl 0 rfl) ?_
  refine gR_hung F hw tw5_173 dX11_minuteOf_121 ?_
  refine q_iconst hx hb dX11_minuteOf_124 ?_
  refine lv_iload_n hx hb dX11_minuteOf_125 rfl (lv_at hl 1 rfl) ?_
  refine q_imul hx hb dX11_minuteOf_126 ?_
  refine lv_iload_n hx hb dX11_minuteOf_127 rfl (lv_at hl 2 rfl) ?_
  refine q_iadd hx hb dX11_minuteOf_128 ?_
  obtain ⟨g1, h⟩ := h
  obtain ⟨g2, h⟩ := h
  refine aR_ild (L := 8) hx hb hw 34 rfl rfl (by decide) g1 g2 dX11_minuteOf_129 ?_
  obtain ⟨g3, h⟩ := h
  obtain ⟨g4, h⟩ := h
  refine aR_ild (L := 16) hx hb hw 17 rfl rfl (by decide) g3 g4 dX11_minuteOf_130 ?_
  refine call_V hexR F (kX11_runs h) 3 tw7_44 tw1_8 tw7_43 tws3_14 tw7_41 hdX11_runs ⟨Nat.le_trans (by decide) hR.1, Nat.le_trans (by decide) hR.2⟩ (hw.recv (k := 0) (i := 0) ⟨rfl, Or.inl rfl⟩ rfl rfl) hA hw hS rfl hl.1 rfl (Nat.le_of_ble_eq_true rfl) dX11_minuteOf_131 (fun v5 μ6 H locs h hw hS => ?_)
  refine lv_istore_n (lv' := [(3, .int (iI v5)), (0, .ref (ad 0 0)), (1, .int (iI x1)), (2, .int (iI x2))]) hx hb dX11_minuteOf_134 rfl hl (by decide) rfl (fun ls hl => ?_)
  exact wX11_minuteOf_J135 F hA hR ret hk87 h hw hS (lv_sub hl [1, 2, 3] rfl)
def wpX11_minuteOf_L87 (Q : Int → MM → Prop) : Nat → Int → Int → MM → Prop
  | 0, _, _, _ => False
  | n + 1, x1, x2, μ => rg x2 ∧ (if x2 < 0 then (Q 0 μ) else (0 ≤ ((2 * x1) + x2) ∧ ((2 * x1) + x2 < 8 ∧ (rg (μ 35 0 ((2 * x1) + x2)) ∧ (if (μ 35 0 ((2 * x1) + x2)) < 0 then (wpX11_minuteOf_J135 (fun x1' x2' μ' => wpX11_minuteOf_L87 Q n x1' x2' μ') Q x1 x2 μ) else (if x2 = 1 then (wpX11_minuteOf_J116 (fun x1' x2' μ' => wpX11_minuteOf_L87 Q n x1' x2' μ') Q x1 x2 x1 1 μ) else (wpX11_minuteOf_J116 (fun x1' x2' μ' => wpX11_minuteOf_L87 Q n x1' x2' μ') Q x1 x2 x1 0 μ)))))))
set_option maxRecDepth 100000 in
set_option maxHeartbeats 4000000 in
theorem wX11_minuteOf_L87 {Q : Int → MM → Prop} (F : CallFix p m c cX11_minuteOf 4 s args uw RX11) (hA : ∀ q : Nat, s.heap.size ≤ q → A q) (hR : 5 ≤ R.frames ∧ 111 ≤ R.locals) (ret : RetV p l e R s m args below meth c cX11_minuteOf Qf dmR cfR tyR exR D cy ad A Q) : ∀ (n : Nat) (x1 x2 : Int) (μ : MM) (H : Heap) (locs : List Loc) (ls : Array Slot), wpX11_minuteOf_L87 Q n x1 x2 μ → wdR D cy ad A μ s H → va_S A s.heap H locs → lv_has ls 4 [(0, .ref (ad 0 0)), (1, .int (iI x1)), (2, .int (iI x2))] → W p l e R s m args below meth c H locs 0 0 Qf (F0 m 87 ls []) := by
  have hx := F.1
  have hb := F.2.1
  have hown := F.2.2.2.1
  have hts := F.2.2.2.2
  intro n
  induction n with
  | zero =>
    intro x1 x2 μ H locs ls h hw hS hl
    exact h.elim
  | succ n ih =>
    intro x1 x2 μ H locs ls h hw hS hl
    refine lv_iload_n hx hb dX11_minuteOf_87 rfl (lv_at hl 2 rfl) ?_
    obtain ⟨g1, h⟩ := h
    refine q_if_lt (tgt := 141) hx hb g1 dX11_minuteOf_88 (by decide) (fun c2 => ?_) (fun c2 => ?_)
    · have h := ite_t c2 h
      exact ret _ _ _ _ _ h hw hS dX11_minuteOf_141
    · have h := ite_f c2 h
      refine lv_aload_n hx hb dX11_minuteOf_91 rfl (lv_at hl 0 rfl) ?_
      refine gR_hung F hw tw5_173 dX11_minuteOf_92 ?_
      refine q_iconst hx hb dX11_minuteOf_95 ?_
      refine lv_iload_n hx hb dX11_minuteOf_96 rfl (lv_at hl 1 rfl) ?_
      refine q_imul hx hb dX11_minuteOf_97 ?_
      refine lv_iload_n hx hb dX11_minuteOf_98 rfl (lv_at hl 2 rfl) ?_
      refine q_iadd hx hb dX11_minuteOf_99 ?_
      obtain ⟨g3, h⟩ := h
      obtain ⟨g4, h⟩ := h
      refine aR_ild (L := 8) hx hb hw 34 rfl rfl (by decide) g3 g4 dX11_minuteOf_100 ?_
      obtain ⟨g5, h⟩ := h
      refine q_if_lt (tgt := 135) hx hb g5 dX11_minuteOf_101 (by decide) (fun c6 => ?_) (fun c6 => ?_)
      · have h := ite_t c6 h
        exact wX11_minuteOf_J135 F hA hR ret (fun x1 x2 => ih x1 x2) h hw hS (lv_sub hl [0, 1, 2] rfl)
      · have h := ite_f c6 h
        refine lv_aload_n hx hb dX11_minuteOf_104 rfl (lv_at hl 0 rfl) ?_
        refine lv_iload_n hx hb dX11_minuteOf_105 rfl (lv_at hl 1 rfl) ?_
        refine lv_iload_n hx hb dX11_minuteOf_106 rfl (lv_at hl 2 rfl) ?_
        refine q_iconst hx hb dX11_minuteOf_107 ?_
        refine q_icmp_ne (tgt := 115) hx hb g1 (by decide) dX11_minuteOf_108 (by decide) (fun c7 => ?_) (fun c7 => ?_)
        · have h := ite_f c7 h
          refine q_iconst hx hb dX11_minuteOf_115 ?_
          exact wX11_minuteOf_J116 F hA hR ret (fun x1 x2 => ih x1 x2) h hw hS (lv_sub hl [0, 1, 2] rfl)
        · have h := ite_t c7 h
          refine q_iconst hx hb dX11_minuteOf_111 ?_
          refine lv_goto (tgt := 116) hx hb dX11_minuteOf_112 (by decide) ?_
          exact wX11_minuteOf_J116 F hA hR ret (fun x1 x2 => ih x1 x2) h hw hS (lv_sub hl [0, 1, 2] rfl)
def wpX11_minuteOf_J85 (Q : Int → MM → Prop) (x1 : Int) (μ : MM) : Prop := ∃ n1 : Nat, wpX11_minuteOf_L87 Q n1 x1 1 μ
set_option maxRecDepth 100000 in
set_option maxHeartbeats 4000000 in
theorem wX11_minuteOf_J85 {Q : Int → MM → Prop} {x1 : Int} {μ : MM} {H : Heap} {locs : List Loc} {ls : Array Slot} (F : CallFix p m c cX11_minuteOf 4 s args uw RX11) (hA : ∀ q : Nat, s.heap.size ≤ q → A q) (hR : 5 ≤ R.frames ∧ 111 ≤ R.locals) (ret : RetV p l e R s m args below meth c cX11_minuteOf Qf dmR cfR tyR exR D cy ad A Q) (h : wpX11_minuteOf_J85 Q x1 μ) (hw : wdR D cy ad A μ s H) (hS : va_S A s.heap H locs) (hl : lv_has ls 4 [(0, .ref (ad 0 0)), (1, .int (iI x1))]) : W p l e R s m args below meth c H locs 0 0 Qf (F0 m 85 ls []) := by
  have hx := F.1
  have hb := F.2.1
  have hown := F.2.2.2.1
  have hts := F.2.2.2.2
  refine q_iconst hx hb dX11_minuteOf_85 ?_
  refine lv_istore_n (lv' := [(2, .int (iI 1)), (0, .ref (ad 0 0)), (1, .int (iI x1))]) hx hb dX11_minuteOf_86 rfl hl (by decide) rfl (fun ls hl => ?_)
  obtain ⟨n1, h⟩ := h
  exact wX11_minuteOf_L87 F hA hR ret n1 x1 1 _ _ _ _ h hw hS (lv_sub hl [1, 2, 0] rfl)
def wpX11_minuteOf_L36 (Q : Int → MM → Prop) : Nat → Int → MM → Prop
  | 0, _, _ => False
  | n + 1, x1, μ => 0 ≤ x1 ∧ (x1 < 4 ∧ (rg (μ 30 0 x1) ∧ (if (μ 30 0 x1) < 86400 then (wpX11_minuteOf_J85 Q x1 μ) else (rg (μ 29 0 x1) ∧ (if (μ 29 0 x1) ≤ 0 then (wpX11_minuteOf_J85 Q x1 μ) else (∀ μ7 : MM, μ7 = ms μ 30 0 x1 ((μ 30 0 x1) - 86400) → (∀ μ8 : MM, μ8 = ms μ7 29 0 x1 ((μ7 29 0 x1) - 1) → (wpX11_stepOn x1 μ8 (fun v9 μ10 => wpX11_minuteOf_L36 Q n x1 μ10)))))))))
set_option maxRecDepth 100000 in
set_option maxHeartbeats 4000000 in
theorem wX11_minuteOf_L36 {Q : Int → MM → Prop} (F : CallFix p m c cX11_minuteOf 4 s args uw RX11) (hA : ∀ q : Nat, s.heap.size ≤ q → A q) (hR : 5 ≤ R.frames ∧ 111 ≤ R.locals) (ret : RetV p l e R s m args below meth c cX11_minuteOf Qf dmR cfR tyR exR D cy ad A Q) : ∀ (n : Nat) (x1 : Int) (μ : MM) (H : Heap) (locs : List Loc) (ls : Array Slot), wpX11_minuteOf_L36 Q n x1 μ → wdR D cy ad A μ s H → va_S A s.heap H locs → lv_has ls 4 [(0, .ref (ad 0 0)), (1, .int (iI x1))] → W p l e R s m args below meth c H locs 0 0 Qf (F0 m 36 ls []) := by
  have hx := F.1
  have hb := F.2.1
  have hown := F.2.2.2.1
  have hts := F.2.2.2.2
  intro n
  induction n with
  | zero =>
    intro x1 μ H locs ls h hw hS hl
    exact h.elim
  | succ n ih =>
    intro x1 μ H locs ls h hw hS hl
    refine lv_aload_n hx hb dX11_minuteOf_36 rfl (lv_at hl 0 rfl) ?_
    refine gR_sums F hw tw5_168 dX11_minuteOf_37 ?_
    refine lv_iload_n hx hb dX11_minuteOf_40 rfl (lv_at hl 1 rfl) ?_
    obtain ⟨g1, h⟩ := h
    obtain ⟨g2, h⟩ := h
    refine aR_ild (L := 4) hx hb hw 29 rfl rfl (by decide) g1 g2 dX11_minuteOf_41 ?_
    refine q_ldc (n := 86400) hx hb hown (hts _ tw7_58) (by decide) dX11_minuteOf_42 ?_
    obtain ⟨g3, h⟩ := h
    refine q_icmp_lt (tgt := 85) hx hb g3 (by decide) dX11_minuteOf_44 (by decide) (fun c4 => ?_) (fun c4 => ?_)
    · have h := ite_t c4 h
      exact wX11_minuteOf_J85 F hA hR ret h hw hS (lv_sub hl [0, 1] rfl)
    · have h := ite_f c4 h
      refine lv_aload_n hx hb dX11_minuteOf_47 rfl (lv_at hl 0 rfl) ?_
      refine gR_goings F hw tw5_167 dX11_minuteOf_48 ?_
      refine lv_iload_n hx hb dX11_minuteOf_51 rfl (lv_at hl 1 rfl) ?_
      refine aR_ild (L := 4) hx hb hw 28 rfl rfl (by decide) g1 g2 dX11_minuteOf_52 ?_
      obtain ⟨g5, h⟩ := h
      refine q_if_le (tgt := 85) hx hb g5 dX11_minuteOf_53 (by decide) (fun c6 => ?_) (fun c6 => ?_)
      · have h := ite_t c6 h
        exact wX11_minuteOf_J85 F hA hR ret h hw hS (lv_sub hl [0, 1] rfl)
      · have h := ite_f c6 h
        refine lv_aload_n hx hb dX11_minuteOf_56 rfl (lv_at hl 0 rfl) ?_
        refine gR_sums F hw tw5_168 dX11_minuteOf_57 ?_
        refine lv_iload_n hx hb dX11_minuteOf_60 rfl (lv_at hl 1 rfl) ?_
        refine lv_dup2_11 hx hb dX11_minuteOf_61 rfl rfl ?_
        refine aR_ild (L := 4) hx hb hw 29 rfl rfl (by decide) g1 g2 dX11_minuteOf_62 ?_
        refine q_ldc (n := 86400) hx hb hown (hts _ tw7_58) (by decide) dX11_minuteOf_63 ?_
        refine q_isub hx hb dX11_minuteOf_65 ?_
        obtain ⟨μ7, eμ7⟩ : ∃ z : MM, z = ms μ 30 0 x1 ((μ 30 0 x1) - 86400) := ⟨_, rfl⟩
        have h := h μ7 eμ7
        refine aR_ist (L := 4) hx hb hw hS 29 rfl rfl (by decide) g1 g2 eμ7 dX11_minuteOf_66 (fun H locs hw hS => ?_)
        refine lv_aload_n hx hb dX11_minuteOf_67 rfl (lv_at hl 0 rfl) ?_
        refine gR_goings F hw tw5_167 dX11_minuteOf_68 ?_
        refine lv_iload_n hx hb dX11_minuteOf_71 rfl (lv_at hl 1 rfl) ?_
        refine lv_dup2_11 hx hb dX11_minuteOf_72 rfl rfl ?_
        refine aR_ild (L := 4) hx hb hw 28 rfl rfl (by decide) g1 g2 dX11_minuteOf_73 ?_
        refine q_iconst hx hb dX11_minuteOf_74 ?_
        refine q_isub hx hb dX11_minuteOf_75 ?_
        obtain ⟨μ8, eμ8⟩ : ∃ z : MM, z = ms μ7 29 0 x1 ((μ7 29 0 x1) - 1) := ⟨_, rfl⟩
        have h := h μ8 eμ8
        refine aR_ist (L := 4) hx hb hw hS 28 rfl rfl (by decide) g1 g2 eμ8 dX11_minuteOf_76 (fun H locs hw hS => ?_)
        refine lv_aload_n hx hb dX11_minuteOf_77 rfl (lv_at hl 0 rfl) ?_
        refine lv_iload_n hx hb dX11_minuteOf_78 rfl (lv_at hl 1 rfl) ?_
        refine call_V hexR F (kX11_stepOn h) 1 tw6_228 tw1_8 tw6_227 tws3_8 tw6_225 hdX11_stepOn ⟨Nat.le_trans (by decide) hR.1, Nat.le_trans (by decide) hR.2⟩ (hw.recv (k := 0) (i := 0) ⟨rfl, Or.inl rfl⟩ rfl rfl) hA hw hS rfl hl.1 rfl (Nat.le_of_ble_eq_true rfl) dX11_minuteOf_79 (fun v9 μ10 H locs h hw hS => ?_)
        refine lv_goto (tgt := 36) hx hb dX11_minuteOf_82 (by decide) ?_
        exact ih x1 _ _ _ _ h hw hS (lv_sub hl [0, 1] rfl)
def wpX11_minuteOf (x1 : Int) (μ : MM) (Q : Int → MM → Prop) : Prop := 0 ≤ x1 ∧ (x1 < 4 ∧ (rg (μ 31 0 x1) ∧ (if (μ 31 0 x1) = 0 then (wpX11_minuteOf_J85 Q x1 μ) else (rg (μ 29 0 x1) ∧ (if (μ 29 0 x1) ≤ 0 then (wpX11_minuteOf_J85 Q x1 μ) else (∀ μ7 : MM, μ7 = ms μ 30 0 x1 ((μ 30 0 x1) + (86400 + (μ 28 0 x1))) → (∃ n8 : Nat, wpX11_minuteOf_L36 Q n8 x1 μ7)))))))
set_option maxRecDepth 100000 in
set_option maxHeartbeats 4000000 in
theorem wX11_minuteOf {Q : Int → MM → Prop} {x1 : Int} {μ : MM} {H : Heap} {locs : List Loc} {ls : Array Slot} (F : CallFix p m c cX11_minuteOf 4 s args uw RX11) (hA : ∀ q : Nat, s.heap.size ≤ q → A q) (hR : 5 ≤ R.frames ∧ 111 ≤ R.locals) (ret : RetV p l e R s m args below meth c cX11_minuteOf Qf dmR cfR tyR exR D cy ad A Q) (h : wpX11_minuteOf x1 μ Q) (hw : wdR D cy ad A μ s H) (hS : va_S A s.heap H locs) (hl : lv_has ls 4 [(0, .ref (ad 0 0)), (1, .int (iI x1))]) : W p l e R s m args below meth c H locs 0 0 Qf (F0 m 0 ls []) := by
  have hx := F.1
  have hb := F.2.1
  have hown := F.2.2.2.1
  have hts := F.2.2.2.2
  refine lv_aload_n hx hb dX11_minuteOf_0 rfl (lv_at hl 0 rfl) ?_
  refine gR_goes F hw tw5_169 dX11_minuteOf_1 ?_
  refine lv_iload_n hx hb dX11_minuteOf_4 rfl (lv_at hl 1 rfl) ?_
  obtain ⟨g1, h⟩ := h
  obtain ⟨g2, h⟩ := h
  refine aR_zld (L := 4) hx hb hw 30 rfl rfl (by decide) g1 g2 dX11_minuteOf_5 ?_
  obtain ⟨g3, h⟩ := h
  refine q_if_eq (tgt := 85) hx hb g3 dX11_minuteOf_6 (by decide) (fun c4 => ?_) (fun c4 => ?_)
  · have h := ite_t c4 h
    exact wX11_minuteOf_J85 F hA hR ret h hw hS (lv_sub hl [0, 1] rfl)
  · have h := ite_f c4 h
    refine lv_aload_n hx hb dX11_minuteOf_9 rfl (lv_at hl 0 rfl) ?_
    refine gR_goings F hw tw5_167 dX11_minuteOf_10 ?_
    refine lv_iload_n hx hb dX11_minuteOf_13 rfl (lv_at hl 1 rfl) ?_
    refine aR_ild (L := 4) hx hb hw 28 rfl rfl (by decide) g1 g2 dX11_minuteOf_14 ?_
    obtain ⟨g5, h⟩ := h
    refine q_if_le (tgt := 85) hx hb g5 dX11_minuteOf_15 (by decide) (fun c6 => ?_) (fun c6 => ?_)
    · have h := ite_t c6 h
      exact wX11_minuteOf_J85 F hA hR ret h hw hS (lv_sub hl [0, 1] rfl)
    · have h := ite_f c6 h
      refine lv_aload_n hx hb dX11_minuteOf_18 rfl (lv_at hl 0 rfl) ?_
      refine gR_sums F hw tw5_168 dX11_minuteOf_19 ?_
      refine lv_iload_n hx hb dX11_minuteOf_22 rfl (lv_at hl 1 rfl) ?_
      refine lv_dup2_11 hx hb dX11_minuteOf_23 rfl rfl ?_
      refine aR_ild (L := 4) hx hb hw 29 rfl rfl (by decide) g1 g2 dX11_minuteOf_24 ?_
      refine q_ldc (n := 86400) hx hb hown (hts _ tw7_58) (by decide) dX11_minuteOf_25 ?_
      refine lv_aload_n hx hb dX11_minuteOf_27 rfl (lv_at hl 0 rfl) ?_
      refine gR_rates F hw tw5_166 dX11_minuteOf_28 ?_
      refine lv_iload_n hx hb dX11_minuteOf_31 rfl (lv_at hl 1 rfl) ?_
      refine aR_ild (L := 4) hx hb hw 27 rfl rfl (by decide) g1 g2 dX11_minuteOf_32 ?_
      refine q_iadd hx hb dX11_minuteOf_33 ?_
      refine q_iadd hx hb dX11_minuteOf_34 ?_
      obtain ⟨μ7, eμ7⟩ : ∃ z : MM, z = ms μ 30 0 x1 ((μ 30 0 x1) + (86400 + (μ 28 0 x1))) := ⟨_, rfl⟩
      have h := h μ7 eμ7
      refine aR_ist (L := 4) hx hb hw hS 29 rfl rfl (by decide) g1 g2 eμ7 dX11_minuteOf_35 (fun H locs hw hS => ?_)
      obtain ⟨n8, h⟩ := h
      exact wX11_minuteOf_L36 F hA hR ret n8 x1 _ _ _ _ h hw hS (lv_sub hl [0, 1] rfl)
set_option maxRecDepth 100000 in
set_option maxHeartbeats 4000000 in
theorem kX11_minuteOf {l : Launch} {D : va_G} {cy : Nat → ClassId} {ad : AD} {A : Nat → Prop} {x1 : Int} {μ : MM} {Q : Int → MM → Prop} (h : wpX11_minuteOf x1 μ Q) : Met l yX11_minuteOf (Cond.code yX11_minuteOf cX11_minuteOf 4 none :: uw) (rmm 5 111) (wPc [.ref (ad 0 0), .int (iI x1)] dmR cfR tyR exR D cy ad A μ) (wQ vV Q dmR cfR D cy ad A) 0 0 A :=
  met_of (by decide) (Nat.le_of_ble_eq_true rfl) (fun p e R s m args below meth c ls hr hk hRR F hA hw hS hl => wX11_minuteOf F hA (by subst hRR; exact ⟨Nat.le_refl _, Nat.le_refl _⟩) (retV_of F hr hk) h hw hS hl)
theorem hdX11_minuteOf : yX11_minuteOf.cls ≠ "java/lang/invoke/MethodHandle" ∧ yX11_minuteOf.cls ≠ "java/lang/invoke/VarHandle" ∧ (parseMethodDescriptor yX11_minuteOf.desc).map (fun d => d.parameters.length) = some 1 := by decide +kernel
def wpX11_misfits (x1 : Int) (x2 : Int) (x3 : Int) (x4 : Int) (x5 : Int) (μ : MM) (Q : Int → MM → Prop) : Prop := wpX11_in x2 1 12 μ (fun v1 μ2 => if v1 = 0 then (Q (-1) μ2) else (wpX11_isFault x3 x4 x5 μ2 (fun v5 μ6 => if v5 = 0 then (Q (-1) μ6) else (wpX11_looked x1 μ6 (fun v9 μ10 => rg v9 ∧ (if 0 ≤ v9 then (wpX11_misfitsOf x1 x2 x3 x4 x5 μ10 (fun v13 μ14 => Q v13 μ14)) else (Q v9 μ10)))))))
set_option maxRecDepth 100000 in
set_option maxHeartbeats 4000000 in
theorem wX11_misfits {Q : Int → MM → Prop} {x1 : Int} {x2 : Int} {x3 : Int} {x4 : Int} {x5 : Int} {μ : MM} {H : Heap} {locs : List Loc} {ls : Array Slot} (F : CallFix p m c cX11_misfits 7 s args uw RX11) (hA : ∀ q : Nat, s.heap.size ≤ q → A q) (hR : 3 ≤ R.frames ∧ 75 ≤ R.locals) (ret : RetI p l e R s m args below meth c cX11_misfits Qf dmR cfR tyR exR D cy ad A Q) (h : wpX11_misfits x1 x2 x3 x4 x5 μ Q) (hw : wdR D cy ad A μ s H) (hS : va_S A s.heap H locs) (hl : lv_has ls 7 [(0, .ref (ad 0 0)), (1, .int (iI x1)), (2, .int (iI x2)), (3, .int (iI x3)), (4, .int (iI x4)), (5, .int (iI x5))]) : W p l e R s m args below meth c H locs 0 0 Qf (F0 m 0 ls []) := by
  have hx := F.1
  have hb := F.2.1
  have hown := F.2.2.2.1
  have hts := F.2.2.2.2
  refine lv_iload_n hx hb dX11_misfits_0 rfl (lv_at hl 2 rfl) ?_
  refine q_iconst hx hb dX11_misfits_1 ?_
  refine q_bipush hx hb (by decide) dX11_misfits_2 ?_
  refine call_S hexR F (kX11_in h) 3 tw6_77 tw1_8 tw6_76 tw6_75 hdX11_in ⟨Nat.le_trans (by decide) hR.1, Nat.le_trans (by decide) hR.2⟩ hA hw hS rfl hl.1 rfl (Nat.le_of_ble_eq_true rfl) dX11_misfits_4 (fun v1 μ2 H locs h hw hS => ?_)
  obtain ⟨z3, h⟩ := h
  refine q_if_eq (tgt := 21) hx hb (rgB z3) dX11_misfits_7 (by decide) (fun c4 => ?_) (fun c4 => ?_)
  · have h := ite_t c4 h
    refine q_iconst hx hb dX11_misfits_21 ?_
    exact ret _ _ _ _ _ _ h hw hS dX11_misfits_22
  · have h := ite_f c4 h
    refine lv_iload_n hx hb dX11_misfits_10 rfl (lv_at hl 3 rfl) ?_
    refine lv_iload hx hb dX11_misfits_11 (lv_at hl 4 rfl) ?_
    refine lv_iload hx hb dX11_misfits_13 (lv_at hl 5 rfl) ?_
    refine call_S hexR F (kX11_isFault h) 3 tw7_131 tw1_8 tw7_130 tw7_129 hdX11_isFault ⟨Nat.le_trans (by decide) hR.1, Nat.le_trans (by decide) hR.2⟩ hA hw hS rfl hl.1 rfl (Nat.le_of_ble_eq_true rfl) dX11_misfits_15 (fun v5 μ6 H locs h hw hS => ?_)
    obtain ⟨z7, h⟩ := h
    refine q_if_ne (tgt := 23) hx hb (rgB z7) dX11_misfits_18 (by decide) (fun c8 => ?_) (fun c8 => ?_)
    · have h := ite_f c8 h
      refine lv_aload_n hx hb dX11_misfits_23 rfl (lv_at hl 0 rfl) ?_
      refine lv_iload_n hx hb dX11_misfits_24 rfl (lv_at hl 1 rfl) ?_
      refine call_V hexR F (kX11_looked h) 1 tw6_89 tw1_8 tw6_88 tws2_11 tw6_86 hdX11_looked ⟨Nat.le_trans (by decide) hR.1, Nat.le_trans (by decide) hR.2⟩ (hw.recv (k := 0) (i := 0) ⟨rfl, Or.inl rfl⟩ rfl rfl) hA hw hS rfl hl.1 rfl (Nat.le_of_ble_eq_true rfl) dX11_misfits_25 (fun v9 μ10 H locs h hw hS => ?_)
      refine lv_istore (lv' := [(6, .int (iI v9)), (0, .ref (ad 0 0)), (1, .int (iI x1)), (2, .int (iI x2)), (3, .int (iI x3)), (4, .int (iI x4)), (5, .int (iI x5))]) hx hb dX11_misfits_28 hl (by decide) rfl (fun ls hl => ?_)
      refine lv_iload hx hb dX11_misfits_30 (lv_at hl 0 rfl) ?_
      obtain ⟨g11, h⟩ := h
      refine q_if_ge (tgt := 40) hx hb g11 dX11_misfits_32 (by decide) (fun c12 => ?_) (fun c12 => ?_)
      · have h := ite_t c12 h
        refine lv_aload_n hx hb dX11_misfits_40 rfl (lv_at hl 1 rfl) ?_
        refine lv_iload_n hx hb dX11_misfits_41 rfl (lv_at hl 2 rfl) ?_
        refine lv_iload_n hx hb dX11_misfits_42 rfl (lv_at hl 3 rfl) ?_
        refine lv_iload_n hx hb dX11_misfits_43 rfl (lv_at hl 4 rfl) ?_
        refine lv_iload hx hb dX11_misfits_44 (lv_at hl 5 rfl) ?_
        refine lv_iload hx hb dX11_misfits_46 (lv_at hl 6 rfl) ?_
        refine call_V hexR F (kX11_misfitsOf h) 5 tw7_142 tw1_8 tw7_141 tws4_7 tw7_139 hdX11_misfitsOf ⟨Nat.le_trans (by decide) hR.1, Nat.le_trans (by decide) hR.2⟩ (hw.recv (k := 0) (i := 0) ⟨rfl, Or.inl rfl⟩ rfl rfl) hA hw hS rfl hl.1 rfl (Nat.le_of_ble_eq_true rfl) dX11_misfits_48 (fun v13 μ14 H locs h hw hS => ?_)
        exact ret _ _ _ _ _ _ h hw hS dX11_misfits_51
      · have h := ite_f c12 h
        refine lv_iload hx hb dX11_misfits_35 (lv_at hl 0 rfl) ?_
        refine lv_goto (tgt := 51) hx hb dX11_misfits_37 (by decide) ?_
        exact ret _ _ _ _ _ _ h hw hS dX11_misfits_51
    · have h := ite_t c8 h
      refine q_iconst hx hb dX11_misfits_21 ?_
      exact ret _ _ _ _ _ _ h hw hS dX11_misfits_22
set_option maxRecDepth 100000 in
set_option maxHeartbeats 4000000 in
theorem kX11_misfits {l : Launch} {D : va_G} {cy : Nat → ClassId} {ad : AD} {A : Nat → Prop} {x1 : Int} {x2 : Int} {x3 : Int} {x4 : Int} {x5 : Int} {μ : MM} {Q : Int → MM → Prop} (h : wpX11_misfits x1 x2 x3 x4 x5 μ Q) : Met l yX11_misfits (Cond.code yX11_misfits cX11_misfits 7 (some .int) :: uw) (rmm 3 75) (wPc [.ref (ad 0 0), .int (iI x1), .int (iI x2), .int (iI x3), .int (iI x4), .int (iI x5)] dmR cfR tyR exR D cy ad A μ) (wQ vI Q dmR cfR D cy ad A) 0 0 A :=
  met_of (by decide) (Nat.le_of_ble_eq_true rfl) (fun p e R s m args below meth c ls hr hk hRR F hA hw hS hl => wX11_misfits F hA (by subst hRR; exact ⟨Nat.le_refl _, Nat.le_refl _⟩) (retI_of F hr hk) h hw hS hl)
theorem hdX11_misfits : yX11_misfits.cls ≠ "java/lang/invoke/MethodHandle" ∧ yX11_misfits.cls ≠ "java/lang/invoke/VarHandle" ∧ (parseMethodDescriptor yX11_misfits.desc).map (fun d => d.parameters.length) = some 5 := by decide +kernel
def wpX11_tell_L6 (Q : Int → MM → Prop) : Nat → Int → Int → Int → Int → MM → Prop
  | 0, _, _, _, _, _ => False
  | n + 1, x1, x3, x5, x7, μ => rl x7 ∧ (if x7 = 0 then (rl x1 ∧ (rl x5 ∧ (x5 ≠ 0 ∧ (∀ μ6 : MM, μ6 = ms μ 0 3 0 (Int.tdiv x1 x5) → (rl x3 ∧ (∀ μ8 : MM, μ8 = ms μ6 0 4 0 (Int.tdiv x3 x5) → (Q 1 μ8))))))) else (rl x5 ∧ (x7 ≠ 0 ∧ (∀ y11 : Int, y11 = Int.tmod x5 x7 → (wpX11_tell_L6 Q n x1 x3 x7 y11 μ)))))
set_option maxRecDepth 100000 in
set_option maxHeartbeats 4000000 in
theorem wX11_tell_L6 {Q : Int → MM → Prop} (F : CallFix p m c cX11_tell 11 s args uw RX11) (hA : ∀ q : Nat, s.heap.size ≤ q → A q) (hR : 0 ≤ R.frames ∧ 0 ≤ R.locals) (ret : RetI p l e R s m args below meth c cX11_tell Qf dmR cfR tyR exR D cy ad A Q) : ∀ (n : Nat) (x1 x3 x5 x7 : Int) (μ : MM) (H : Heap) (locs : List Loc) (ls : Array Slot), wpX11_tell_L6 Q n x1 x3 x5 x7 μ → wdR D cy ad A μ s H → va_S A s.heap H locs → lv_has ls 11 [(0, .ref (ad 0 0)), (1, .long (lJ x1)), (3, .long (lJ x3)), (5, .long (lJ x5)), (7, .long (lJ x7))] → W p l e R s m args below meth c H locs 0 0 Qf (F0 m 6 ls []) := by
  have hx := F.1
  have hb := F.2.1
  have hown := F.2.2.2.1
  have hts := F.2.2.2.2
  intro n
  induction n with
  | zero =>
    intro x1 x3 x5 x7 μ H locs ls h hw hS hl
    exact h.elim
  | succ n ih =>
    intro x1 x3 x5 x7 μ H locs ls h hw hS hl
    refine lv_lload hx hb dX11_tell_6 (lv_at hl 4 rfl) ?_
    refine q_lconst (v := 0) hx hb (by decide) dX11_tell_8 ?_
    obtain ⟨g1, h⟩ := h
    refine q_lcmp_eq (tgt := 31) hx hb g1 (by decide) dX11_tell_9 dX11_tell_10 (by decide) (fun c2 => ?_) (fun c2 => ?_)
    · have h := ite_t c2 h
      refine lv_aload_n hx hb dX11_tell_31 rfl (lv_at hl 0 rfl) ?_
      refine lv_lload_n hx hb dX11_tell_32 rfl (lv_at hl 1 rfl) ?_
      refine lv_lload hx hb dX11_tell_33 (lv_at hl 3 rfl) ?_
      obtain ⟨g3, h⟩ := h
      obtain ⟨g4, h⟩ := h
      obtain ⟨g5, h⟩ := h
      refine q_ldiv hx hb g3 g4 g5 dX11_tell_35 ?_
      obtain ⟨μ6, eμ6⟩ : ∃ z : MM, z = ms μ 0 3 0 (Int.tdiv x1 x5) := ⟨_, rfl⟩
      have h := h μ6 eμ6
      refine pR_upper F hw hS tw5_141 eμ6 dX11_tell_36 (fun H locs hw hS => ?_)
      refine lv_aload_n hx hb dX11_tell_39 rfl (lv_at hl 0 rfl) ?_
      refine lv_lload_n hx hb dX11_tell_40 rfl (lv_at hl 2 rfl) ?_
      refine lv_lload hx hb dX11_tell_41 (lv_at hl 3 rfl) ?_
      obtain ⟨g7, h⟩ := h
      refine q_ldiv hx hb g7 g4 g5 dX11_tell_43 ?_
      obtain ⟨μ8, eμ8⟩ : ∃ z : MM, z = ms μ6 0 4 0 (Int.tdiv x3 x5) := ⟨_, rfl⟩
      have h := h μ8 eμ8
      refine pR_lower F hw hS tw5_142 eμ8 dX11_tell_44 (fun H locs hw hS => ?_)
      refine q_iconst hx hb dX11_tell_47 ?_
      exact ret _ _ _ _ _ _ h hw hS dX11_tell_48
    · have h := ite_f c2 h
      refine lv_lload hx hb dX11_tell_13 (lv_at hl 3 rfl) ?_
      refine lv_lload hx hb dX11_tell_15 (lv_at hl 4 rfl) ?_
      obtain ⟨g9, h⟩ := h
      obtain ⟨g10, h⟩ := h
      refine q_lrem hx hb g9 g1 g10 dX11_tell_17 ?_
      obtain ⟨y11, ey11⟩ : ∃ z : Int, z = Int.tmod x5 x7 := ⟨_, rfl⟩
      have h := h y11 ey11
      refine q_nmL ey11 ?_
      refine lv_lstore (lv' := [(9, .long (lJ y11)), (0, .ref (ad 0 0)), (1, .long (lJ x1)), (3, .long (lJ x3)), (5, .long (lJ x5)), (7, .long (lJ x7))]) hx hb dX11_tell_18 hl (by decide) rfl (fun ls hl => ?_)
      refine lv_lload hx hb dX11_tell_20 (lv_at hl 5 rfl) ?_
      refine lv_lstore (lv' := [(5, .long (lJ x7)), (9, .long (lJ y11)), (0, .ref (ad 0 0)), (1, .long (lJ x1)), (3, .long (lJ x3)), (7, .long (lJ x7))]) hx hb dX11_tell_22 hl (by decide) rfl (fun ls hl => ?_)
      refine lv_lload hx hb dX11_tell_24 (lv_at hl 1 rfl) ?_
      refine lv_lstore (lv' := [(7, .long (lJ y11)), (5, .long (lJ x7)), (9, .long (lJ y11)), (0, .ref (ad 0 0)), (1, .long (lJ x1)), (3, .long (lJ x3))]) hx hb dX11_tell_26 hl (by decide) rfl (fun ls hl => ?_)
      refine lv_goto (tgt := 6) hx hb dX11_tell_28 (by decide) ?_
      exact ih x1 x3 x7 y11 _ _ _ _ h hw hS (lv_sub hl [3, 4, 5, 1, 0] rfl)
def wpX11_tell (x1 : Int) (x3 : Int) (μ : MM) (Q : Int → MM → Prop) : Prop := ∃ n1 : Nat, wpX11_tell_L6 Q n1 x1 x3 x1 x3 μ
set_option maxRecDepth 100000 in
set_option maxHeartbeats 4000000 in
theorem wX11_tell {Q : Int → MM → Prop} {x1 : Int} {x3 : Int} {μ : MM} {H : Heap} {locs : List Loc} {ls : Array Slot} (F : CallFix p m c cX11_tell 11 s args uw RX11) (hA : ∀ q : Nat, s.heap.size ≤ q → A q) (hR : 0 ≤ R.frames ∧ 0 ≤ R.locals) (ret : RetI p l e R s m args below meth c cX11_tell Qf dmR cfR tyR exR D cy ad A Q) (h : wpX11_tell x1 x3 μ Q) (hw : wdR D cy ad A μ s H) (hS : va_S A s.heap H locs) (hl : lv_has ls 11 [(0, .ref (ad 0 0)), (1, .long (lJ x1)), (3, .long (lJ x3))]) : W p l e R s m args below meth c H locs 0 0 Qf (F0 m 0 ls []) := by
  have hx := F.1
  have hb := F.2.1
  have hown := F.2.2.2.1
  have hts := F.2.2.2.2
  refine lv_lload_n hx hb dX11_tell_0 rfl (lv_at hl 1 rfl) ?_
  refine lv_lstore (lv' := [(5, .long (lJ x1)), (0, .ref (ad 0 0)), (1, .long (lJ x1)), (3, .long (lJ x3))]) hx hb dX11_tell_1 hl (by decide) rfl (fun ls hl => ?_)
  refine lv_lload_n hx hb dX11_tell_3 rfl (lv_at hl 3 rfl) ?_
  refine lv_lstore (lv' := [(7, .long (lJ x3)), (5, .long (lJ x1)), (0, .ref (ad 0 0)), (1, .long (lJ x1)), (3, .long (lJ x3))]) hx hb dX11_tell_4 hl (by decide) rfl (fun ls hl => ?_)
  obtain ⟨n1, h⟩ := h
  exact wX11_tell_L6 F hA hR ret n1 x1 x3 x1 x3 _ _ _ _ h hw hS (lv_sub hl [2, 3, 4, 1, 0] rfl)
set_option maxRecDepth 100000 in
set_option maxHeartbeats 4000000 in
theorem kX11_tell {l : Launch} {D : va_G} {cy : Nat → ClassId} {ad : AD} {A : Nat → Prop} {x1 : Int} {x3 : Int} {μ : MM} {Q : Int → MM → Prop} (h : wpX11_tell x1 x3 μ Q) : Met l yX11_tell (Cond.code yX11_tell cX11_tell 11 (some .int) :: uw) (rmm 0 0) (wPc [.ref (ad 0 0), .long (lJ x1), .long (lJ x3)] dmR cfR tyR exR D cy ad A μ) (wQ vI Q dmR cfR D cy ad A) 0 0 A :=
  met_of (by decide) (Nat.le_of_ble_eq_true rfl) (fun p e R s m args below meth c ls hr hk hRR F hA hw hS hl => wX11_tell F hA (by subst hRR; exact ⟨Nat.le_refl _, Nat.le_refl _⟩) (retI_of F hr hk) h hw hS hl)
theorem hdX11_tell : yX11_tell.cls ≠ "java/lang/invoke/MethodHandle" ∧ yX11_tell.cls ≠ "java/lang/invoke/VarHandle" ∧ (parseMethodDescriptor yX11_tell.desc).map (fun d => d.parameters.length) = some 2 := by decide +kernel
end
