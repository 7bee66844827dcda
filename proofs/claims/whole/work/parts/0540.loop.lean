/-! THE CLAIM OUT OF ONE WALK OF THE LAW'S BODY. Your part is whole_start (and what it stands on); all else here is the same for every law, but numbers. -/
def R_law : String := "HammerTowersLaw"
def lw_P (b : Addr) (xs : List Int32) (args : Array Value) (s : State) : Prop := args = #[.ref b] ∧ s.IntsAt b xs ∧ xs.length ≤ 3072 ∧ (Jvm.Cond.and given_1 narrow_1).before args s = true
def lw_Q (_ : Array Value) (s : State) (o : Outcome) (t : State) : Prop := o = .returned (some (.int 1)) ∧ Framed s o t [] 600000 7302250
def lw_Z (below : List Frame) (a : Array Value) (s : State) : State → Prop := fun t => ∃ o, t.status = .running ∧ Ended t below o ∧ lw_Q a s o t
/-- the law's own end, with 1 on the stack, nothing written that was there before, its room as the claim has it -/
theorem lw_ret {p : Program} {l : Launch} {e : Env} {s : State} {m : MethodId} {below : List Frame} {meth : Method} {c : Code} {b : Nat} (hx : p.tables.exec = Jvm.exec) (hb : c.code = code) (hr : meth.sig.returnType = ret) (hlocks : meth.locks = false) {pc : Nat} {H : Heap} {ls : Array Slot} (hdg : decode code pc = .ok (.ireturn, 1)) : W p l e room_1 s m #[Value.ref b] below meth c H [] 600000 7302250 (lw_Z below #[Value.ref b] s) (F0 m pc ls [.int 1]) := by
  intro T hT X
  obtain ⟨fs, hret, hrun, hended, hW, hframe⟩ := X.leave (v := some (.int 1)) (hlocks := hlocks) (fun h => by rw [hr] at h; cases h)
  have hmeth' : T.vm.method? m = some meth := X.method'
  refine ⟨T.setFrames fs, ?_, .returned (some (.int 1)), hrun, hended, rfl, ⟨_, rfl⟩, hW, hframe⟩
  jvm_step X.here [X.here.top, hx, hb, hdg, hmeth', hr, ret, narrow_b1]
  (try refine ⟨rfl, ?_⟩); (try refine ⟨rfl, ?_⟩)
  first | (intro acts; rw [hret _ acts rfl rfl rfl]) | rw [hret _ _ rfl rfl rfl]
  exact Steps.refl _
/-- what holds at the law's entry: the machine, the code, the tables' words (any of lw_tbl by 'hts w (by decide +kernel)'), the script of L ints xs at the cell b, what the Statement gives of the start (any of its parts by flat_of_before) -/
def lw_At (p : Program) (s : State) (m : MethodId) (meth : Method) (c : Code) (b L : Nat) (xs : Nat → Int32) : Prop :=
  p.tables.exec = Jvm.exec ∧ c.code = code ∧ meth.sig.returnType = ret ∧ c.maxLocals = 4 ∧ s.vm.findClass R_law = some m.cls ∧ (∀ w ∈ lw_tbl, w.before #[Value.ref b] s = true) ∧ va_X b L xs s s.heap ∧ b < s.heap.size ∧ meth.locks = false ∧ (Jvm.Cond.and given_1 narrow_1).before #[Value.ref b] s = true
section
variable {p : Program} {l : Launch} {e : Env} {s : State} {m : MethodId} {below : List Frame} {meth : Method} {c : Code} {b L : Nat} {xs : Nat → Int32} {D : va_G} {cy : Nat → ClassId} {adR : AD}
set_option maxRecDepth 100000 in
set_option maxHeartbeats 4000000 in
theorem law_switch {Qf : State → Prop} {H : Heap} {locs : List Loc} {ls : Array Slot} {cells slots k : Nat} {G : GG} {ad : AD} {μ r : MM} (C : LC p s m c b L xs D cy) (hi : 6 * k + 6 ≤ L) (hLI : LI s D cy G ad adR μ r H) (hR : RelK (k : Int) G μ r) (hS : va_S (AL s) s.heap H locs) (hl : lv_has ls 4 [(3, .int (iI ((6 * k : Nat) : Int))), (2, .ref (adR 0 0)), (1, .ref (ad 0 0)), (0, .ref b)]) (hc : cells + 3 ≤ 500000 ∧ slots + 113 ≤ 7000000) {v : Int} (hv : rg v) (next : ∀ (G' : GG) (ad' : AD) (μ' r' : MM) (H' : Heap) (locs' : List Loc), ad' 0 0 = ad 0 0 → LI s D cy G' ad' adR μ' r' H' → RelK ((k : Int) + 1) G' μ' r' → va_S (AL s) s.heap H' locs' → W p l e room_1 s m #[Value.ref b] below meth c H' locs' (cells + 3) (slots + 113) Qf (F0 m 2307 ls [])) : W p l e room_1 s m #[Value.ref b] below meth c H locs cells slots Qf (F0 m 33 ls [.int (iI v)]) := by
  have hx := C.1.1
  have hb := C.1.2.1
  have hL0 := C.2.2.2.2
  by_cases c0 : v = 0
  · exact q_tswIn (tgt := 280) hx hb hv dL_law_33 0 (by rw [c0]; decide) (by decide) rfl (by decide) (lc_0 C hi hLI hR hS hl hc next)
  by_cases c1 : v = 1
  · exact q_tswIn (tgt := 313) hx hb hv dL_law_33 1 (by rw [c1]; decide) (by decide) rfl (by decide) (lc_1 C hi hLI hR hS hl hc next)
  by_cases c2 : v = 2
  · exact q_tswIn (tgt := 356) hx hb hv dL_law_33 2 (by rw [c2]; decide) (by decide) rfl (by decide) (lc_2 C hi hLI hR hS hl hc next)
  by_cases c3 : v = 3
  · exact q_tswIn (tgt := 379) hx hb hv dL_law_33 3 (by rw [c3]; decide) (by decide) rfl (by decide) (lc_3 C hi hLI hR hS hl hc next)
  by_cases c4 : v = 4
  · exact q_tswIn (tgt := 442) hx hb hv dL_law_33 4 (by rw [c4]; decide) (by decide) rfl (by decide) (lc_4 C hi hLI hR hS hl hc next)
  by_cases c5 : v = 5
  · exact q_tswIn (tgt := 455) hx hb hv dL_law_33 5 (by rw [c5]; decide) (by decide) rfl (by decide) (lc_5 C hi hLI hR hS hl hc next)
  by_cases c6 : v = 6
  · exact q_tswIn (tgt := 478) hx hb hv dL_law_33 6 (by rw [c6]; decide) (by decide) rfl (by decide) (lc_6 C hi hLI hR hS hl hc next)
  by_cases c7 : v = 7
  · exact q_tswIn (tgt := 501) hx hb hv dL_law_33 7 (by rw [c7]; decide) (by decide) rfl (by decide) (lc_7 C hi hLI hR hS hl hc next)
  by_cases c8 : v = 8
  · exact q_tswIn (tgt := 534) hx hb hv dL_law_33 8 (by rw [c8]; decide) (by decide) rfl (by decide) (lc_8 C hi hLI hR hS hl hc next)
  by_cases c9 : v = 9
  · exact q_tswIn (tgt := 577) hx hb hv dL_law_33 9 (by rw [c9]; decide) (by decide) rfl (by decide) (lc_9 C hi hLI hR hS hl hc next)
  by_cases c10 : v = 10
  · exact q_tswIn (tgt := 600) hx hb hv dL_law_33 10 (by rw [c10]; decide) (by decide) rfl (by decide) (lc_10 C hi hLI hR hS hl hc next)
  by_cases c11 : v = 11
  · exact q_tswIn (tgt := 633) hx hb hv dL_law_33 11 (by rw [c11]; decide) (by decide) rfl (by decide) (lc_11 C hi hLI hR hS hl hc next)
  by_cases c12 : v = 12
  · exact q_tswIn (tgt := 666) hx hb hv dL_law_33 12 (by rw [c12]; decide) (by decide) rfl (by decide) (lc_12 C hi hLI hR hS hl hc next)
  by_cases c13 : v = 13
  · exact q_tswIn (tgt := 699) hx hb hv dL_law_33 13 (by rw [c13]; decide) (by decide) rfl (by decide) (lc_13 C hi hLI hR hS hl hc next)
  by_cases c14 : v = 14
  · exact q_tswIn (tgt := 732) hx hb hv dL_law_33 14 (by rw [c14]; decide) (by decide) rfl (by decide) (lc_14 C hi hLI hR hS hl hc next)
  by_cases c15 : v = 15
  · exact q_tswIn (tgt := 775) hx hb hv dL_law_33 15 (by rw [c15]; decide) (by decide) rfl (by decide) (lc_15 C hi hLI hR hS hl hc next)
  by_cases c16 : v = 16
  · exact q_tswIn (tgt := 808) hx hb hv dL_law_33 16 (by rw [c16]; decide) (by decide) rfl (by decide) (lc_16 C hi hLI hR hS hl hc next)
  by_cases c17 : v = 17
  · exact q_tswIn (tgt := 831) hx hb hv dL_law_33 17 (by rw [c17]; decide) (by decide) rfl (by decide) (lc_17 C hi hLI hR hS hl hc next)
  by_cases c18 : v = 18
  · exact q_tswIn (tgt := 854) hx hb hv dL_law_33 18 (by rw [c18]; decide) (by decide) rfl (by decide) (lc_18 C hi hLI hR hS hl hc next)
  by_cases c19 : v = 19
  · exact q_tswIn (tgt := 913) hx hb hv dL_law_33 19 (by rw [c19]; decide) (by decide) rfl (by decide) (lc_19 C hi hLI hR hS hl hc next)
  by_cases c20 : v = 20
  · exact q_tswIn (tgt := 962) hx hb hv dL_law_33 20 (by rw [c20]; decide) (by decide) rfl (by decide) (lc_20 C hi hLI hR hS hl hc next)
  by_cases c21 : v = 21
  · exact q_tswIn (tgt := 995) hx hb hv dL_law_33 21 (by rw [c21]; decide) (by decide) rfl (by decide) (lc_21 C hi hLI hR hS hl hc next)
  by_cases c22 : v = 22
  · exact q_tswIn (tgt := 1028) hx hb hv dL_law_33 22 (by rw [c22]; decide) (by decide) rfl (by decide) (lc_22 C hi hLI hR hS hl hc next)
  by_cases c23 : v = 23
  · exact q_tswIn (tgt := 1061) hx hb hv dL_law_33 23 (by rw [c23]; decide) (by decide) rfl (by decide) (lc_23 C hi hLI hR hS hl hc next)
  by_cases c24 : v = 24
  · exact q_tswIn (tgt := 1094) hx hb hv dL_law_33 24 (by rw [c24]; decide) (by decide) rfl (by decide) (lc_24 C hi hLI hR hS hl hc next)
  by_cases c25 : v = 25
  · exact q_tswIn (tgt := 1143) hx hb hv dL_law_33 25 (by rw [c25]; decide) (by decide) rfl (by decide) (lc_25 C hi hLI hR hS hl hc next)
  by_cases c26 : v = 26
  · exact q_tswIn (tgt := 1176) hx hb hv dL_law_33 26 (by rw [c26]; decide) (by decide) rfl (by decide) (lc_26 C hi hLI hR hS hl hc next)
  by_cases c27 : v = 27
  · exact q_tswIn (tgt := 1229) hx hb hv dL_law_33 27 (by rw [c27]; decide) (by decide) rfl (by decide) (lc_27 C hi hLI hR hS hl hc next)
  by_cases c28 : v = 28
  · exact q_tswIn (tgt := 1278) hx hb hv dL_law_33 28 (by rw [c28]; decide) (by decide) rfl (by decide) (lc_28 C hi hLI hR hS hl hc next)
  by_cases c29 : v = 29
  · exact q_tswIn (tgt := 1327) hx hb hv dL_law_33 29 (by rw [c29]; decide) (by decide) rfl (by decide) (lc_29 C hi hLI hR hS hl hc next)
  by_cases c30 : v = 30
  · exact q_tswIn (tgt := 1350) hx hb hv dL_law_33 30 (by rw [c30]; decide) (by decide) rfl (by decide) (lc_30 C hi hLI hR hS hl hc next)
  by_cases c31 : v = 31
  · exact q_tswIn (tgt := 1383) hx hb hv dL_law_33 31 (by rw [c31]; decide) (by decide) rfl (by decide) (lc_31 C hi hLI hR hS hl hc next)
  by_cases c32 : v = 32
  · exact q_tswIn (tgt := 1426) hx hb hv dL_law_33 32 (by rw [c32]; decide) (by decide) rfl (by decide) (lc_32 C hi hLI hR hS hl hc next)
  by_cases c33 : v = 33
  · exact q_tswIn (tgt := 1469) hx hb hv dL_law_33 33 (by rw [c33]; decide) (by decide) rfl (by decide) (lc_33 C hi hLI hR hS hl hc next)
  by_cases c34 : v = 34
  · exact q_tswIn (tgt := 1502) hx hb hv dL_law_33 34 (by rw [c34]; decide) (by decide) rfl (by decide) (lc_34 C hi hLI hR hS hl hc next)
  by_cases c35 : v = 35
  · exact q_tswIn (tgt := 1535) hx hb hv dL_law_33 35 (by rw [c35]; decide) (by decide) rfl (by decide) (lc_35 C hi hLI hR hS hl hc next)
  by_cases c36 : v = 36
  · exact q_tswIn (tgt := 1584) hx hb hv dL_law_33 36 (by rw [c36]; decide) (by decide) rfl (by decide) (lc_36 C hi hLI hR hS hl hc next)
  by_cases c37 : v = 37
  · exact q_tswIn (tgt := 1633) hx hb hv dL_law_33 37 (by rw [c37]; decide) (by decide) rfl (by decide) (lc_37 C hi hLI hR hS hl hc next)
  by_cases c38 : v = 38
  · exact q_tswIn (tgt := 1666) hx hb hv dL_law_33 38 (by rw [c38]; decide) (by decide) rfl (by decide) (lc_38 C hi hLI hR hS hl hc next)
  by_cases c39 : v = 39
  · exact q_tswIn (tgt := 1689) hx hb hv dL_law_33 39 (by rw [c39]; decide) (by decide) rfl (by decide) (lc_39 C hi hLI hR hS hl hc next)
  by_cases c40 : v = 40
  · exact q_tswIn (tgt := 1752) hx hb hv dL_law_33 40 (by rw [c40]; decide) (by decide) rfl (by decide) (lc_40 C hi hLI hR hS hl hc next)
  by_cases c41 : v = 41
  · exact q_tswIn (tgt := 1815) hx hb hv dL_law_33 41 (by rw [c41]; decide) (by decide) rfl (by decide) (lc_41 C hi hLI hR hS hl hc next)
  by_cases c42 : v = 42
  · exact q_tswIn (tgt := 1848) hx hb hv dL_law_33 42 (by rw [c42]; decide) (by decide) rfl (by decide) (lc_42 C hi hLI hR hS hl hc next)
  by_cases c43 : v = 43
  · exact q_tswIn (tgt := 1887) hx hb hv dL_law_33 43 (by rw [c43]; decide) (by decide) rfl (by decide) (lc_43 C hi hLI hR hS hl hc next)
  by_cases c44 : v = 44
  · exact q_tswIn (tgt := 1920) hx hb hv dL_law_33 44 (by rw [c44]; decide) (by decide) rfl (by decide) (lc_44 C hi hLI hR hS hl hc next)
  by_cases c45 : v = 45
  · exact q_tswIn (tgt := 1983) hx hb hv dL_law_33 45 (by rw [c45]; decide) (by decide) rfl (by decide) (lc_45 C hi hLI hR hS hl hc next)
  by_cases c46 : v = 46
  · exact q_tswIn (tgt := 2006) hx hb hv dL_law_33 46 (by rw [c46]; decide) (by decide) rfl (by decide) (lc_46 C hi hLI hR hS hl hc next)
  by_cases c47 : v = 47
  · exact q_tswIn (tgt := 2049) hx hb hv dL_law_33 47 (by rw [c47]; decide) (by decide) rfl (by decide) (lc_47 C hi hLI hR hS hl hc next)
  by_cases c48 : v = 48
  · exact q_tswIn (tgt := 2072) hx hb hv dL_law_33 48 (by rw [c48]; decide) (by decide) rfl (by decide) (lc_48 C hi hLI hR hS hl hc next)
  by_cases c49 : v = 49
  · exact q_tswIn (tgt := 2121) hx hb hv dL_law_33 49 (by rw [c49]; decide) (by decide) rfl (by decide) (lc_49 C hi hLI hR hS hl hc next)
  by_cases c50 : v = 50
  · exact q_tswIn (tgt := 2144) hx hb hv dL_law_33 50 (by rw [c50]; decide) (by decide) rfl (by decide) (lc_50 C hi hLI hR hS hl hc next)
  by_cases c51 : v = 51
  · exact q_tswIn (tgt := 2193) hx hb hv dL_law_33 51 (by rw [c51]; decide) (by decide) rfl (by decide) (lc_51 C hi hLI hR hS hl hc next)
  by_cases c52 : v = 52
  · exact q_tswIn (tgt := 2206) hx hb hv dL_law_33 52 (by rw [c52]; decide) (by decide) rfl (by decide) (lc_52 C hi hLI hR hS hl hc next)
  by_cases c53 : v = 53
  · exact q_tswIn (tgt := 2220) hx hb hv dL_law_33 53 (by rw [c53]; decide) (by decide) rfl (by decide) (lc_53 C hi hLI hR hS hl hc next)
  by_cases c54 : v = 54
  · exact q_tswIn (tgt := 2234) hx hb hv dL_law_33 54 (by rw [c54]; decide) (by decide) rfl (by decide) (lc_54 C hi hLI hR hS hl hc next)
  by_cases c55 : v = 55
  · exact q_tswIn (tgt := 2257) hx hb hv dL_law_33 55 (by rw [c55]; decide) (by decide) rfl (by decide) (lc_55 C hi hLI hR hS hl hc next)
  by_cases c56 : v = 56
  · exact q_tswIn (tgt := 2270) hx hb hv dL_law_33 56 (by rw [c56]; decide) (by decide) rfl (by decide) (lc_56 C hi hLI hR hS hl hc next)
  by_cases c57 : v = 57
  · exact q_tswIn (tgt := 2293) hx hb hv dL_law_33 57 (by rw [c57]; decide) (by decide) rfl (by decide) (lc_57 C hi hLI hR hS hl hc next)
  exact q_tswOut (tgt := 2307) hx hb hv dL_law_33 (by omega) (by decide) (W.widen (Nat.le_add_right _ _) (Nat.le_add_right _ _) (next _ _ _ _ _ _ rfl hLI (hR.up (by omega)) hS))
set_option maxRecDepth 100000 in
set_option maxHeartbeats 4000000 in
theorem law_loop (C : LC p s m c b L xs D cy) (hr : meth.sig.returnType = ret) (hlk : meth.locks = false) : ∀ (d k : Nat) (G : GG) (ad : AD) (μ r : MM) (H : Heap) (ls : Array Slot), k + d = 512 → LI s D cy G ad adR μ r H → RelK (k : Int) G μ r → va_S (AL s) s.heap H [] → lv_has ls 4 [(3, .int (iI ((6 * k : Nat) : Int))), (2, .ref (adR 0 0)), (1, .ref (ad 0 0)), (0, .ref b)] → W p l e room_1 s m #[Value.ref b] below meth c H [] (100 + 3 * k) (5000 + 113 * k) (lw_Z below #[Value.ref b] s) (F0 m 18 ls []) := by
  have hx := C.1.1
  have hb := C.1.2.1
  have hX := C.2.1
  have hbl := C.2.2.1
  have hL0 := C.2.2.2.2
  intro d
  induction d with
  | zero =>
    intro k G ad μ r H ls he hLI hR hS hl
    refine lv_iload_n hx hb dL_law_18 rfl (lv_at hl 0 rfl) ?_
    refine lv_aload_n hx hb dL_law_19 rfl (lv_at hl 3 rfl) ?_
    refine va_slen (A := AL s) hx hb hX hbl (Nat.not_le.mpr hbl) hS dL_law_20 ?_
    rw [show Int32.ofNat L = iI (L : Int) from Int32.ofInt_eq_ofNat.symm]
    refine q_bipush hx hb (by decide) dL_law_21 ?_
    refine q_isub hx hb dL_law_23 ?_
    refine q_icmp_gt (tgt := 2313) hx hb ⟨by omega, by omega⟩ ⟨by omega, by omega⟩ dL_law_24 (by decide) (fun _ => ?_) (fun q => absurd q (by omega))
    refine lv_iconst (v := 1) hx hb dL_law_2313 (by decide) ?_
    exact W.widen (by omega) (by omega) (lw_ret hx hb hr hlk dL_law_2314)
  | succ d ih =>
    intro k G ad μ r H ls he hLI hR hS hl
    refine lv_iload_n hx hb dL_law_18 rfl (lv_at hl 0 rfl) ?_
    refine lv_aload_n hx hb dL_law_19 rfl (lv_at hl 3 rfl) ?_
    refine va_slen (A := AL s) hx hb hX hbl (Nat.not_le.mpr hbl) hS dL_law_20 ?_
    rw [show Int32.ofNat L = iI (L : Int) from Int32.ofInt_eq_ofNat.symm]
    refine q_bipush hx hb (by decide) dL_law_21 ?_
    refine q_isub hx hb dL_law_23 ?_
    refine q_icmp_gt (tgt := 2313) hx hb ⟨by omega, by omega⟩ ⟨by omega, by omega⟩ dL_law_24 (by decide) (fun _ => ?_) (fun q => ?_)
    · refine lv_iconst (v := 1) hx hb dL_law_2313 (by decide) ?_
      exact W.widen (by omega) (by omega) (lw_ret hx hb hr hlk dL_law_2314)
    · refine l_ld0 C hS hl (by omega) dL_law_27 dL_law_28 dL_law_29 ?_
      refine q_bipush hx hb (by decide) dL_law_30 ?_
      refine q_iand hx hb dL_law_32 ?_
      refine law_switch C (by omega) hLI hR hS hl ⟨by omega, by omega⟩ (rg_iand _ _) (fun G' ad' μ' r' H' locs' ha hLI' hR' hS' => ?_)
      refine q_iinc (k := 0) (lv' := [(3, .int (iI (((6 * k : Nat) : Int) + 6))), (2, .ref (adR 0 0)), (1, .ref (ad 0 0)), (0, .ref b)]) hx hb dL_law_2307 hl rfl (by decide) rfl (fun ls hl => ?_)
      refine lv_goto (tgt := 18) hx hb dL_law_2310 (by decide) ?_
      rw [← ha, show ((6 * k : Nat) : Int) + 6 = ((6 * (k + 1) : Nat) : Int) by omega] at hl
      refine va_forget hS'.2.2 (W.widen (by omega) (by omega) (ih (k + 1) G' ad' μ' r' H' ls (by omega) hLI' (by rw [show ((k + 1 : Nat) : Int) = (k : Int) + 1 by omega]; exact hR') ⟨hS'.1, hS'.2.1, fun q h => by cases h⟩ hl))
end
