set_option maxRecDepth 100000 in
set_option maxHeartbeats 4000000 in
theorem start_K {s : State} {b : Nat} (hts : ∀ w ∈ lw_tbl, w.before #[Value.ref b] s = true) : ∃ (D : va_G) (cy : Nat → ClassId), nK D cy s := by
  have hu : ∀ w ∈ uw, w.before #[Value.ref b] s = true := fun w h => hts w (uw_in h)
  obtain ⟨c0, i0, h0⟩ := u_known (C := RX0) (T := TX0) (N := 17) (n := 17) hu inU0 (hu _ tw2_222)
  obtain ⟨c1, i1, h1⟩ := u_known (C := RX1) (T := TX1) (N := 7) (n := 7) hu inU1 (hu _ tw1_46)
  obtain ⟨c2, i2, h2⟩ := u_known (C := RX2) (T := TX2) (N := 9) (n := 9) hu inU2 (hu _ tw1_79)
  obtain ⟨c3, i3, h3⟩ := u_known (C := RX3) (T := TX3) (N := 6) (n := 6) hu inU3 (hu _ tw1_137)
  obtain ⟨c4, i4, h4⟩ := u_known (C := RX4) (T := TX4) (N := 15) (n := 15) hu inU4 (hu _ tw2_160)
  obtain ⟨c5, i5, h5⟩ := u_known (C := RX5) (T := TX5) (N := 2) (n := 2) hu inU5 (hu _ tw1_31)
  obtain ⟨c6, i6, h6⟩ := u_known (C := RX6) (T := TX6) (N := 2) (n := 2) hu inU6 (hu _ tw1_115)
  obtain ⟨c7, i7, h7⟩ := u_known (C := RX7) (T := TX7) (N := 14) (n := 14) hu inU7 (hu _ tw2_197)
  obtain ⟨c8, i8, h8⟩ := u_known (C := RX8) (T := TX8) (N := 12) (n := 12) hu inU8 (hu _ tw1_131)
  obtain ⟨c9, i9, h9⟩ := u_known (C := RX9) (T := TX9) (N := 14) (n := 14) hu inU9 (hu _ tw2_63)
  obtain ⟨c10, i10, h10⟩ := u_known (C := RX10) (T := TX10) (N := 14) (n := 14) hu inU10 (hu _ tw1_17)
  obtain ⟨c11, i11, h11⟩ := u_known (C := RX11) (T := TX11) (N := 56) (n := 56) hu inU11 (hu _ tw5_133)
  obtain ⟨a0, k0, m0, f0, g0, e0⟩ := Cond.arrayClass_spec (hu _ tw1_44)
  obtain ⟨a1, k1, m1, f1, g1, e1⟩ := Cond.arrayClass_spec (hu _ tw1_130)
  obtain ⟨a2, k2, m2, f2, g2, e2⟩ := Cond.arrayClass_spec (hu _ tw6_67)
  obtain ⟨m3, a3, k3, p3, -, g3, e3, f3⟩ := Cond.arrayOver_spec (hts _ tw1_25)
  obtain ⟨m4, a4, k4, p4, -, g4, e4, f4⟩ := Cond.arrayOver_spec (hts _ tw1_27)
  obtain ⟨m5, a5, k5, p5, -, g5, e5, f5⟩ := Cond.arrayOver_spec (hts _ tw1_29)
  refine ⟨(fun k => match k with | 0 => c0 | 1 => c1 | 2 => c2 | 3 => c3 | 4 => c4 | 5 => c5 | 6 => c6 | 7 => c7 | 8 => c8 | 9 => c9 | 10 => c10 | _ => c11, fun k => match k with | 0 => i0 | 1 => i1 | 2 => i2 | 3 => i3 | 4 => i4 | 5 => i5 | 6 => i6 | 7 => i7 | 8 => i8 | 9 => i9 | 10 => i10 | _ => i11), fun k => match k with | 0 => a0 | 1 => a1 | 2 => a2 | 3 => a3 | 4 => a4 | _ => a5, ⟨fun k q hq => ?_, fun k q hq => ?_⟩, ?_⟩
  · match k, hq with
    | 0, hq => cases hq; exact h0
    | 1, hq => cases hq; exact h1
    | 2, hq => cases hq; exact h2
    | 3, hq => cases hq; exact h3
    | 4, hq => cases hq; exact h4
    | 5, hq => cases hq; exact h5
    | 6, hq => cases hq; exact h6
    | 7, hq => cases hq; exact h7
    | 8, hq => cases hq; exact h8
    | 9, hq => cases hq; exact h9
    | 10, hq => cases hq; exact h10
    | 11, hq => cases hq; exact h11
    | k + 12, hq => simp [vwCl] at hq
  · match k, hq with
    | 0, hq => cases hq; exact ⟨fun n z => ⟨fun k h => (by cases h), k0, g0, m0, e0⟩, f0⟩
    | 1, hq => cases hq; exact ⟨fun n z => ⟨fun k h => (by cases h), k1, g1, m1, e1⟩, f1⟩
    | 2, hq => cases hq; exact ⟨fun n z => ⟨fun k h => (by cases h), k2, g2, m2, e2⟩, f2⟩
    | 3, hq => cases hq; exact ⟨fun n z => ⟨fun k h => (by cases h), k3, g3, m3, e3⟩, k3, m3, g3, e3, p3, f3⟩
    | 4, hq => cases hq; exact ⟨fun n z => ⟨fun k h => (by cases h), k4, g4, m4, e4⟩, k4, m4, g4, e4, p4, f4⟩
    | 5, hq => cases hq; exact ⟨fun n z => ⟨fun k h => (by cases h), k5, g5, m5, e5⟩, k5, m5, g5, e5, p5, f5⟩
    | k + 6, hq => simp [tyN] at hq
  · exact ⟨⟨va_AO.of (hts _ tw1_25), va_AO.of (hts _ tw1_27), va_AO.of (hts _ tw1_29)⟩, va_Nw.of rfl (hts _ tw1_32), va_Nw.of rfl (hts _ tw1_47), va_Nw.of rfl (hts _ tw1_80), va_Nw.of rfl (hts _ tw1_116), va_Nw.of rfl (hts _ tw1_132), va_Nw.of rfl (hts _ tw1_138)⟩
set_option maxRecDepth 100000 in
set_option maxHeartbeats 4000000 in
theorem start_ex {s : State} {b : Nat} (hts : ∀ w ∈ lw_tbl, w.before #[Value.ref b] s = true) (hgv : (Jvm.Cond.and given_1 narrow_1).before #[Value.ref b] s = true) : exC G0 s := by
  have hs := flat_of_before _ hgv
  refine ⟨fun n h0 h1 => absurd (show n < 0 from h1) (by omega), va_Nw.of rfl (hts _ tw7_238), va_Nw.of rfl (hts _ tw7_239), va_Nw.of rfl (hts _ tw8_0), va_Nw.of rfl (hts _ tw8_1), va_Nw.of rfl (hts _ tw4_137), ?_, ?_, ?_, ?_, ?_, ?_, ?_, ?_⟩
  · exact va_Nc.of (args := #[Value.ref b]) (hs (.not (.castable RX9 RX4)) (by decide +kernel))
  · exact va_Nc.of (args := #[Value.ref b]) (hs (.not (.castable RX7 RX4)) (by decide +kernel))
  · exact va_Nc.of (args := #[Value.ref b]) (hs (.not (.castable RX9 RX7)) (by decide +kernel))
  · exact va_Nc.of (args := #[Value.ref b]) (hs (.not (.castable RX4 RX7)) (by decide +kernel))
  · exact va_Nc.of (args := #[Value.ref b]) (hs (.not (.castable RX0 RX7)) (by decide +kernel))
  · exact va_Nc.of (args := #[Value.ref b]) (hs (.not (.castable RX9 RX0)) (by decide +kernel))
  · exact va_Nc.of (args := #[Value.ref b]) (hs (.not (.castable RX4 RX0)) (by decide +kernel))
  · exact va_Nc.of (args := #[Value.ref b]) (hs (.not (.castable RX7 RX0)) (by decide +kernel))
theorem P_left {D : va_G} {w1 w2 : va_W} {H : Heap} (h : va_P D vwCl (w1 ++ w2) H) : va_P D vwCl w1 H := fun k q hk => h k q (by rw [List.getElem?_append_left (List.getElem?_eq_some_iff.mp hk).1]; exact hk)
theorem P_right {D : va_G} {w1 w2 : va_W} {H : Heap} (h : va_P D vwCl (w1 ++ w2) H) : va_P D vwCl w2 H := fun k q hk => h (w1.length + k) q (by rw [List.getElem?_append_right (Nat.le_add_right _ _), Nat.add_sub_cancel_left]; exact hk)
theorem D_left {A B : Nat → Prop} {w1 w2 : va_W} (h : va_D A (w1 ++ w2)) (hB : ∀ q : Nat, A q → (∀ (k : Nat) (x : Nat × va_E), w2[k]? = some x → x.1 ≠ q) → B q) : va_D B w1 := by
  have up : ∀ (k : Nat) (q : Nat × va_E), w1[k]? = some q → (w1 ++ w2)[k]? = some q := fun k q hk => by rw [List.getElem?_append_left (List.getElem?_eq_some_iff.mp hk).1]; exact hk
  have up2 : ∀ (k : Nat) (q : Nat × va_E), w2[k]? = some q → (w1 ++ w2)[w1.length + k]? = some q := fun k q hk => by rw [List.getElem?_append_right (Nat.le_add_right _ _), Nat.add_sub_cancel_left]; exact hk
  refine ⟨fun i j x y hx hy he => h.1 i j x y (up i x hx) (up j y hy) he, fun k q hk => hB q.1 (h.2 k q (up k q hk)) (fun k2 x hx e => ?_)⟩
  have := h.1 _ _ _ _ (up2 k2 x hx) (up k q hk) e
  have hl := (List.getElem?_eq_some_iff.mp hk).1
  omega
theorem D_right {A B : Nat → Prop} {w1 w2 : va_W} (h : va_D A (w1 ++ w2)) (hB : ∀ q : Nat, A q → (∀ (k : Nat) (x : Nat × va_E), w1[k]? = some x → x.1 ≠ q) → B q) : va_D B w2 := by
  have up : ∀ (k : Nat) (q : Nat × va_E), w1[k]? = some q → (w1 ++ w2)[k]? = some q := fun k q hk => by rw [List.getElem?_append_left (List.getElem?_eq_some_iff.mp hk).1]; exact hk
  have up2 : ∀ (k : Nat) (q : Nat × va_E), w2[k]? = some q → (w1 ++ w2)[w1.length + k]? = some q := fun k q hk => by rw [List.getElem?_append_right (Nat.le_add_right _ _), Nat.add_sub_cancel_left]; exact hk
  refine ⟨fun i j x y hx hy he => by have := h.1 _ _ x y (up2 i x hx) (up2 j y hy) he; omega, fun k q hk => hB q.1 (h.2 _ q (up2 k q hk)) (fun k2 x hx e => ?_)⟩
  have := h.1 _ _ _ _ (up k2 x hx) (up2 k q hk) e
  have hl := (List.getElem?_eq_some_iff.mp hx).1
  omega
theorem start_LI {D : va_G} {cy : Nat → ClassId} {s : State} {H : Heap} {q0 q1 : Nat} {α β : Nat → Nat} (hK : nK D cy s) (hex : exC G0 s) (hP : va_P D vwCl (LNX10_init_10 cy q0 α ++ LNX11_init_11 cy q1 β) H) (hD : va_D (AL s) (LNX10_init_10 cy q0 α ++ LNX11_init_11 cy q1 β)) : LI s D cy G0 (adC0 q0 α) (adR0 q1 β) mC0 mR0 H := by
  refine ⟨startC (P_left hP) (D_left hD (fun q h h2 => ⟨h, fun k i hd e => ?_⟩)) (hK.1.sub [0, 1, 3, 4, 5] rfl) hex, startR (P_right hP) (D_right hD (fun q h h2 => ⟨h, fun k i hd e => ?_⟩)) (hK.1.sub [0, 2] rfl)⟩
  · obtain ⟨e1, g1⟩ := LNR_at cy q1 β _ (uR_ok k hd.2).2
    exact h2 _ _ g1 e
  · obtain ⟨e1, g1⟩ := LNC_at cy q0 α _ (uC_ok k _ i hd).2
    exact h2 _ _ g1 e
set_option maxRecDepth 100000 in
set_option maxHeartbeats 4000000 in
/-- THE LAW, from its entry -/
theorem whole_start {p : Program} {e : Env} {s : State} {m : MethodId} {below : List Frame} {meth : Method} {c : Code} (l : Launch) {b L : Nat} {xs : Nat → Int32} (hL : L ≤ 3072) (C0 : lw_At p s m meth c b L xs) : W p l e room_1 s m #[Value.ref b] below meth c s.heap [] 0 0 (lw_Z below #[Value.ref b] s) (entryFrame m ([Value.ref b] : List Value).toArray 4) := by
  obtain ⟨hx, hb, hr, hml, hown, hts, hX, hbl, hlocks, hgv⟩ := id C0
  obtain ⟨D, cy, hK⟩ := start_K hts
  have hex := start_ex hts hgv
  have F : CallFix p m c cL_law 4 s #[Value.ref b] uw RL := ⟨hx, hb, hml, hown, fun w h => hts w (uw_in h)⟩
  have hA : ∀ q : Nat, s.heap.size ≤ q → AL s q := fun _ h => h
  have hS : va_S (AL s) s.heap s.heap [] := va_S.rf
  have hP : va_P D vwCl [] s.heap := fun k q h => by simp at h
  have hD : va_D (AL s) [] := ⟨fun i j p q h => by simp at h, fun k q h => by simp at h⟩
  have hl := lv_entry ([.ref b]) (n := 4) (Nat.le_of_ble_eq_true rfl)
  rw [lg_entry_eq]
  generalize (lg_sl ([.ref b]) ++ List.replicate (4 - (lg_sl ([.ref b])).length) Slot.unset).toArray = ls at hl ⊢
  have hl : lv_has ls 4 [(0, .ref b)] := hl
  refine n_new (ws := []) (ci := 10) (fs := [.null, .null, .int (iI 0), .null, .int (iI 0), .null, .null, .int (iI 0), .int (iI 0), .int (iI 0), .null, .int (iI 0), .int (iI 0), .null]) F hK hP hD hS hA rfl inU10 tyX10 tyX10_ok tw1_16 tw1_17 tw1_1 dfN10 ⟨Nat.le_of_ble_eq_true rfl, Nat.le_of_ble_eq_true rfl⟩ dL_law_0 (fun q0 H _ hP hD hS _ _ => ?_)
  refine lv_dup hx hb dL_law_3 rfl ?_
  refine n_call (ws := []) (rest := [.ref q0]) F (nX10_init_10 (cy := cy) (b := q0)) 0 tw1_20 tw1_1 tw1_19 tw1_18 rfl hdX10_init ⟨Nat.le_of_ble_eq_true rfl, Nat.le_of_ble_eq_true rfl⟩ hA hK hP hD hS rfl hl.1 rfl (Nat.le_of_ble_eq_true rfl) dL_law_4 ⟨Nat.le_of_ble_eq_true rfl, Nat.le_of_ble_eq_true rfl⟩ (fun α H locs hP hD hS => ?_)
  have hP : va_P D vwCl (LNX10_init_10 cy q0 α) H := hP
  have hD : va_D (AL s) (LNX10_init_10 cy q0 α) := hD
  refine lv_astore_n (lv' := [(1, .ref q0), (0, .ref b)]) hx hb dL_law_7 rfl hl (by decide) rfl (fun ls hl => ?_)
  refine n_new (ws := LNX10_init_10 cy q0 α) (ci := 11) (fs := (.int (iI 0) :: .null :: .int (iI 0) :: .long (lJ 0) :: .long (lJ 0) :: .int (iI 0) :: .int (iI 0) :: .null :: .null :: .null :: .int (iI 0) :: .null :: .null :: .null :: .null :: .null :: .null :: .null :: .null :: .null :: .null :: .null :: .null :: .null :: .null :: .null :: .null :: .null :: .null :: .null :: .null :: .null :: .null :: .null :: .null :: .null :: .null :: .null :: .null :: .null :: .int (iI 0) :: .null :: .int (iI 0) :: .int (iI 0) :: .int (iI 0) :: .int (iI 0) :: .int (iI 0) :: .null :: .int (iI 0) :: .null :: .int (iI 0) :: .null :: .null :: .long (lJ 0) :: .long (lJ 0) :: .int (iI 0) :: [])) F hK hP hD hS hA rfl inU11 tyX11 tyX11_ok tw5_132 tw5_133 tw1_8 dfN11 ⟨Nat.le_of_ble_eq_true rfl, Nat.le_of_ble_eq_true rfl⟩ dL_law_8 (fun q1 H _ hP hD hS _ _ => ?_)
  refine lv_dup hx hb dL_law_11 rfl ?_
  refine n_call (ws := LNX10_init_10 cy q0 α) (rest := [.ref q1]) F (nX11_init_11 (cy := cy) (b := q1)) 0 tw5_136 tw1_8 tw5_135 tw5_134 rfl hdX11_init ⟨Nat.le_of_ble_eq_true rfl, Nat.le_of_ble_eq_true rfl⟩ hA hK hP hD hS rfl hl.1 rfl (Nat.le_of_ble_eq_true rfl) dL_law_12 ⟨Nat.le_of_ble_eq_true rfl, Nat.le_of_ble_eq_true rfl⟩ (fun β H locs hP hD hS => ?_)
  refine lv_astore_n (lv' := [(2, .ref q1), (1, .ref q0), (0, .ref b)]) hx hb dL_law_15 rfl hl (by decide) rfl (fun ls hl => ?_)
  refine q_iconst hx hb dL_law_16 ?_
  refine lv_istore_n (lv' := [(3, .int (iI 0)), (2, .ref q1), (1, .ref q0), (0, .ref b)]) hx hb dL_law_17 rfl hl (by decide) rfl (fun ls hl => ?_)
  refine va_forget hS.2.2 (W.widen (k := 100 + 3 * 0) (n := 5000 + 113 * 0) (by decide) (by decide) ?_)
  exact law_loop (adR := adR0 q1 β) ⟨F, hX, hbl, hK, hL⟩ hr hlocks 512 0 G0 (adC0 q0 α) mC0 mR0 H ls rfl (start_LI hK hex hP hD) rel_start ⟨hS.1, hS.2.1, fun q h => by cases h⟩ hl
