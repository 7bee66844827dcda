/-! two rows more of the class's world: bytes of a row into a row; a train into the trains -/
theorem iI_nn {a : Int} (h : rg a) (h0 : 0 ≤ a) : ¬ iI a < 0 := by
  rw [i0, iI_lt h rg0]
  omega
theorem fits_b {v : Int} (h : -128 ≤ v ∧ v ≤ 127) : fits .byte (.int (iI v)) = true := by
  have h2 := fits_narrow_byte (iI v)
  have e2 : i2b v = v := by
    unfold i2b
    rw [Int.bmod_eq_of_le_mul_two] <;> omega
  have e : narrow .byte (.int (iI v)) = .int (iI v) := by
    show Value.int ((iI v).toInt8.toInt32) = _
    rw [i2b_iI, e2]
  rwa [e] at h2
section
variable {p : Program} {l : Launch} {e : Env} {R : Room} {s : State} {m : MethodId} {args : Array Value} {below : List Frame} {meth : Method} {c : Code} {H : Heap} {locs : List Loc} {cells slots : Nat} {Q : State → Prop} {cc : ByteArray} {pc nL idx : Nat} {ls : Array Slot} {rest : List Value} {own ref : String}
variable {D : va_G} {cy : Nat → ClassId} {ad : AD} {A : Nat → Prop} {μ μ1 : MM} {G : GG} {i : Int}
theorem aC_8_cp (F : CallFix p m c cc nL s args uw own) (hsz : ls.size = nL) (hlink : Cond.methodLink own idx ⟨"java/lang/System", "arraycopy", "(Ljava/lang/Object;ILjava/lang/Object;II)V"⟩ ∈ uw) (hw : wdC G D cy ad A μ s H) (hS : va_S A s.heap H locs) {x y a b n : Int} (hx : 0 ≤ x ∧ x < 8) (hy : 0 ≤ y ∧ y < 8) (ha : 0 ≤ a) (hb : 0 ≤ b) (hn : 0 ≤ n) (ha1 : a + n ≤ 48) (hb1 : b + n ≤ 48) (hf : ∀ k : Int, 0 ≤ k → k < n → -128 ≤ μ 8 0 (48 * x + a + k) ∧ μ 8 0 (48 * x + a + k) ≤ 127)
    (hR : 1 ≤ R.frames ∧ (rest.map fun v => v.category).sum + (nativeFrameWords "java/lang/System" "arraycopy" 5 + 11) ≤ R.locals) (hμ : μ1 = cpB μ (48 * y + b) n (fun k => μ 8 0 (48 * x + a + k))) (hdg : decode cc pc = .ok (.invokestatic idx, 3))
    (kk : ∀ (H1 : Heap) (locs1 : List Loc), wdC G D cy ad A μ1 s H1 → va_S A s.heap H1 locs1 → W p l e R s m args below meth c H1 locs1 cells slots Q (F0 m (pc + 3) ls rest)) : W p l e R s m args below meth c H locs cells slots Q (F0 m pc ls (.int (iI n) :: .int (iI b) :: .ref (ad 8 y) :: .int (iI a) :: .ref (ad 8 x) :: rest)) := by
  have hdx : dmC G 8 (μ 8) x := hx
  have hdy : dmC G 8 (μ 8) y := hy
  have c0 : H[ad 8 x]? = some (vp_cell (cy 1) (48, .inl (fun j => iI (μ 8 0 (48 * x + (j : Int)))))) := hw.1 8 x hdx
  have c1 : H[ad 8 y]? = some (vp_cell (cy 1) (48, .inl (fun j => iI (μ 8 0 (48 * y + (j : Int)))))) := hw.1 8 y hdy
  have ra : rg a := ⟨by omega, by omega⟩
  have rb : rg b := ⟨by omega, by omega⟩
  have rn : rg n := ⟨by omega, by omega⟩
  have ea : (iI a).toNatClampNeg = a.toNat := iI_cl ra
  have eb : (iI b).toNatClampNeg = b.toNat := iI_cl rb
  have en : (iI n).toNatClampNeg = n.toNat := iI_cl rn
  refine x_copy F hsz hlink (F.2.2.2.2 _ tw2_58) (F.2.2.2.2 _ tw2_57) (F.2.2.2.2 _ tw1_10) (hw.2.1.1.2 1 (cy 1, .byte) rfl).1 rfl c0 c1 (iI_nn ra ha) (iI_nn rb hb) (iI_nn rn hn) (by omega) (by omega) (fun k hk => ?_) hR.1 hR.2 hS (hw.2.2.2 8 y hdy) hdg (fun H1 locs1 h oq hS1 => kk H1 locs1 ?_ hS1)
  · rw [en] at hk
    rw [ea]
    have := hf (k : Int) (by omega) (by omega)
    have e2 : 48 * x + ((a.toNat + k : Nat) : Int) = 48 * x + a + (k : Int) := by omega
    rw [e2]
    exact fits_b this
  · rw [hμ, show cpB μ (48 * y + b) n (fun k => μ 8 0 (48 * x + a + k)) = fun k => if k = 8 then (fun e j => if e = 0 ∧ 48 * y + b ≤ j ∧ j < 48 * y + b + n then μ 8 0 (48 * x + a + (j - (48 * y + b))) else μ 8 e j) else μ k from by
      funext k e j
      by_cases hk : k = 8
      · subst hk
        simp only [cpB, if_pos, true_and]
      · simp only [cpB, hk, if_false, false_and]]
    refine hw.put hdy oq ?_ (fun _ => Iff.rfl) (fun i' hi' q a' H2 h2 => ?_)
    · refine cell_congr (fun j hj => ?_) (show va_at D vwCl (ad 8 y, .inl (cy 1, 48, .inl _)) H1 from h)
      simp only [va_cpy, ea, eb, en, true_and]
      by_cases q : b.toNat ≤ j ∧ j < b.toNat + n.toNat
      · rw [if_pos q]
        refine Eq.trans ?_ (congrArg iI (if_pos (show 48 * y + b ≤ 48 * y + (j : Int) ∧ 48 * y + (j : Int) < 48 * y + b + n by omega)).symm)
        congr 2
        omega
      · rw [if_neg q]
        exact congrArg iI (if_neg (show ¬ (48 * y + b ≤ 48 * y + (j : Int) ∧ 48 * y + (j : Int) < 48 * y + b + n) by omega)).symm
    · refine cell_congr (fun j hj => ?_) (show va_at D vwCl (a', .inl (cy 1, 48, .inl (fun j => iI (μ 8 0 (48 * i' + (j : Int)))))) H2 from h2)
      have q' : 0 ≤ i' ∧ i' < 8 := q
      exact congrArg iI (if_neg (show ¬ (0 = 0 ∧ 48 * y + b ≤ 48 * i' + (j : Int) ∧ 48 * i' + (j : Int) < 48 * y + b + n) by omega)).symm
theorem aC_21_st (F : CallFix p m c cc nL s args uw own) (hw : wdC G D cy ad A μ s H) (hS : va_S A s.heap H locs) {a v : Int} (h0 : 0 ≤ a) (h1 : a < 16) (hv : 0 ≤ v ∧ v < G 0 0) (hμ : μ1 = ms μ 21 0 a v) (hdg : decode cc pc = .ok (.aastore, 1))
    (kk : ∀ (H1 : Heap) (locs1 : List Loc), wdC G D cy ad A μ1 s H1 → va_S A s.heap H1 locs1 → W p l e R s m args below meth c H1 locs1 cells slots Q (F0 m (pc + 1) ls rest)) : W p l e R s m args below meth c H locs cells slots Q (F0 m pc ls (.ref (ad 2 v) :: .int (iI a) :: .ref (ad 21 0) :: rest)) := by
  have hd : dmC G 21 (μ 21) 0 := rfl
  have hc : H[ad 21 0]? = some (vp_cell (cy 4) (16, .inr (.inr (.inr (.inr (fun j => ro ad 2 (μ 21 0 (j : Int)))))))) := hw.1 21 0 hd
  obtain ⟨h0', g1, g2, g3, g4, g5, g6⟩ := hw.2.1.2
  have hG := (h0' v hv.1 hv.2).1
  obtain ⟨kA, comp, k1, k2, k3, -⟩ := (hw.2.1.1.2 3 (cy 4, .object RX9) rfl).2
  obtain ⟨kE, hkE, -⟩ := Vm.findClass_spec k3
  have ra : rg a := ⟨by omega, by omega⟩
  have key : ∃ (cellV : Cell) (kC : Class), H[ad 2 v]? = some cellV ∧ cellV.vm.isStatics = false ∧ s.vm.classes[cellV.cls]? = some kC ∧ s.vm.assignable cellV.cls comp = true := by
    have ofC : ∀ (C : String) (ci : Nat) (q : vw_C), vwCl[ci]? = some q → q.1 = C → (C = RX9 ∨ va_Nw (.castable C RX9) s) → (∃ cell : Cell, H[ad 2 v]? = some cell ∧ cell.vm.isStatics = false ∧ s.vm.findClass C = some cell.cls) → ∃ (cellV : Cell) (kC : Class), H[ad 2 v]? = some cellV ∧ cellV.vm.isStatics = false ∧ s.vm.classes[cellV.cls]? = some kC ∧ s.vm.assignable cellV.cls comp = true := by
      intro C ci q hci hq hcast hcell
      obtain ⟨cell, e1, e2, e3⟩ := hcell
      have hcls := (hw.2.1.1.1 ci q hci).2
      rw [hq] at hcls
      obtain ⟨kC, hkC, hk⟩ := hcls.2
      have e4 : cell.cls = D.1 ci := Option.some.inj (e3.symm.trans hcls.1)
      refine ⟨cell, kC, e1, e2, by rw [e4]; exact hkC, ?_⟩
      rw [e4]
      rcases hcast with rfl | hca
      · rw [Option.some.inj (k3.symm.trans hcls.1)]
        exact va_assign hcls
      · obtain ⟨c0, t1, f1, f2, f3⟩ := Cond.castable_spec (va_Nw.use (A := args) rfl hca)
        rw [Option.some.inj (f1.symm.trans hcls.1), Option.some.inj (f2.symm.trans k3)] at f3
        exact f3
    rcases (show G 1 v = 0 ∨ G 1 v = 1 ∨ G 1 v = 2 ∨ G 1 v = 3 by omega) with q | q | q | q
    · exact ofC RX9 9 _ rfl rfl (Or.inl rfl) (recvT hw hv (Or.inl ⟨q, rfl⟩))
    · exact ofC RX4 4 _ rfl rfl (Or.inr g2) (recvT hw hv (Or.inr (Or.inl ⟨q, rfl⟩)))
    · exact ofC RX7 7 _ rfl rfl (Or.inr g3) (recvT hw hv (Or.inr (Or.inr (Or.inl ⟨q, rfl⟩))))
    · exact ofC RX0 0 _ rfl rfl (Or.inr g4) (recvT hw hv (Or.inr (Or.inr (Or.inr ⟨q, rfl⟩))))
  obtain ⟨cellV, kC, e1, e2, e3, e4⟩ := key
  refine W.aast F.1 F.2.1 hc (fun q h => by cases h) (fun h => by cases h) k1 k2 rfl hkE ⟨iI_nn ra h0, by show _ < (arrV _ _ _).slots.size; rw [arrV_size, iI_cl ra]; omega⟩ e1 (fun q h => by rw [h] at e2; cases e2) e3 e4 rfl rfl hdg fun H1 e z oq => ?_
  refine kk H1 _ ?_ (hS.put z oq (hw.2.2.2 21 0 hd))
  rw [hμ, ms_eq]
  refine hw.put hd oq ?_ (fun _ => Iff.rfl) (fun i hi q => absurd q hi)
  show H1[ad 21 0]? = some (vp_cell _ _)
  rw [e, vp_cell_q, vp_cell_q, arrV_store, iI_cl ra]
  congr 2
  funext q
  by_cases hq : q = a.toNat
  · subst hq
    have e5 : ((a.toNat : Nat) : Int) = a := Int.toNat_of_nonneg h0
    simp [updV, up2, e5, rf_ro, rf_pos hv.1]
  · have e5 : ¬ (q : Int) = a := by omega
    simp [updV, up2, hq, e5]
end
