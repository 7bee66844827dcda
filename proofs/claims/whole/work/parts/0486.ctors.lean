theorem dfN0 : ∀ j, j < 17 → defaultValue (tyX0 j) = vp_V [.int (iI 0), .int (iI 0), .int (iI 0), .null, .int (iI 0), .int (iI 0), .int (iI 0), .int (iI 0), .int (iI 0), .int (iI 0), .int (iI 0), .int (iI 0), .int (iI 0), .int (iI 0), .int (iI 0), .null, .int (iI 0)] j := fun j hj => match j, hj with
  | 0, _ => rfl
  | 1, _ => rfl
  | 2, _ => rfl
  | 3, _ => rfl
  | 4, _ => rfl
  | 5, _ => rfl
  | 6, _ => rfl
  | 7, _ => rfl
  | 8, _ => rfl
  | 9, _ => rfl
  | 10, _ => rfl
  | 11, _ => rfl
  | 12, _ => rfl
  | 13, _ => rfl
  | 14, _ => rfl
  | 15, _ => rfl
  | 16, _ => rfl
  | k + 17, h => absurd h (by omega)
theorem dfN1 : ∀ j, j < 7 → defaultValue (tyX1 j) = vp_V [.null, .int (iI 0), .int (iI 0), .int (iI 0), .int (iI 0), .int (iI 0), .int (iI 0)] j := fun j hj => match j, hj with
  | 0, _ => rfl
  | 1, _ => rfl
  | 2, _ => rfl
  | 3, _ => rfl
  | 4, _ => rfl
  | 5, _ => rfl
  | 6, _ => rfl
  | k + 7, h => absurd h (by omega)
theorem dfN2 : ∀ j, j < 9 → defaultValue (tyX2 j) = vp_V [.null, .int (iI 0), .null, .int (iI 0), .long (lJ 0), .long (lJ 0), .long (lJ 0), .long (lJ 0), .long (lJ 0)] j := fun j hj => match j, hj with
  | 0, _ => rfl
  | 1, _ => rfl
  | 2, _ => rfl
  | 3, _ => rfl
  | 4, _ => rfl
  | 5, _ => rfl
  | 6, _ => rfl
  | 7, _ => rfl
  | 8, _ => rfl
  | k + 9, h => absurd h (by omega)
theorem dfN3 : ∀ j, j < 6 → defaultValue (tyX3 j) = vp_V [.null, .null, .null, .null, .int (iI 0), .int (iI 0)] j := fun j hj => match j, hj with
  | 0, _ => rfl
  | 1, _ => rfl
  | 2, _ => rfl
  | 3, _ => rfl
  | 4, _ => rfl
  | 5, _ => rfl
  | k + 6, h => absurd h (by omega)
theorem dfN4 : ∀ j, j < 15 → defaultValue (tyX4 j) = vp_V [.int (iI 0), .int (iI 0), .null, .int (iI 0), .int (iI 0), .int (iI 0), .int (iI 0), .int (iI 0), .int (iI 0), .int (iI 0), .int (iI 0), .int (iI 0), .int (iI 0), .int (iI 0), .int (iI 0)] j := fun j hj => match j, hj with
  | 0, _ => rfl
  | 1, _ => rfl
  | 2, _ => rfl
  | 3, _ => rfl
  | 4, _ => rfl
  | 5, _ => rfl
  | 6, _ => rfl
  | 7, _ => rfl
  | 8, _ => rfl
  | 9, _ => rfl
  | 10, _ => rfl
  | 11, _ => rfl
  | 12, _ => rfl
  | 13, _ => rfl
  | 14, _ => rfl
  | k + 15, h => absurd h (by omega)
theorem dfN5 : ∀ j, j < 2 → defaultValue (tyX5 j) = vp_V [.null, .int (iI 0)] j := fun j hj => match j, hj with
  | 0, _ => rfl
  | 1, _ => rfl
  | k + 2, h => absurd h (by omega)
theorem dfN6 : ∀ j, j < 2 → defaultValue (tyX6 j) = vp_V [.null, .int (iI 0)] j := fun j hj => match j, hj with
  | 0, _ => rfl
  | 1, _ => rfl
  | k + 2, h => absurd h (by omega)
theorem dfN7 : ∀ j, j < 14 → defaultValue (tyX7 j) = vp_V [.int (iI 0), .int (iI 0), .null, .int (iI 0), .int (iI 0), .int (iI 0), .int (iI 0), .int (iI 0), .int (iI 0), .int (iI 0), .int (iI 0), .int (iI 0), .int (iI 0), .int (iI 0)] j := fun j hj => match j, hj with
  | 0, _ => rfl
  | 1, _ => rfl
  | 2, _ => rfl
  | 3, _ => rfl
  | 4, _ => rfl
  | 5, _ => rfl
  | 6, _ => rfl
  | 7, _ => rfl
  | 8, _ => rfl
  | 9, _ => rfl
  | 10, _ => rfl
  | 11, _ => rfl
  | 12, _ => rfl
  | 13, _ => rfl
  | k + 14, h => absurd h (by omega)
theorem dfN8 : ∀ j, j < 12 → defaultValue (tyX8 j) = vp_V [.int (iI 0), .int (iI 0), .int (iI 0), .int (iI 0), .int (iI 0), .int (iI 0), .null, .null, .int (iI 0), .int (iI 0), .int (iI 0), .null] j := fun j hj => match j, hj with
  | 0, _ => rfl
  | 1, _ => rfl
  | 2, _ => rfl
  | 3, _ => rfl
  | 4, _ => rfl
  | 5, _ => rfl
  | 6, _ => rfl
  | 7, _ => rfl
  | 8, _ => rfl
  | 9, _ => rfl
  | 10, _ => rfl
  | 11, _ => rfl
  | k + 12, h => absurd h (by omega)
theorem dfN9 : ∀ j, j < 14 → defaultValue (tyX9 j) = vp_V [.int (iI 0), .int (iI 0), .null, .int (iI 0), .int (iI 0), .int (iI 0), .int (iI 0), .int (iI 0), .int (iI 0), .int (iI 0), .int (iI 0), .int (iI 0), .int (iI 0), .int (iI 0)] j := fun j hj => match j, hj with
  | 0, _ => rfl
  | 1, _ => rfl
  | 2, _ => rfl
  | 3, _ => rfl
  | 4, _ => rfl
  | 5, _ => rfl
  | 6, _ => rfl
  | 7, _ => rfl
  | 8, _ => rfl
  | 9, _ => rfl
  | 10, _ => rfl
  | 11, _ => rfl
  | 12, _ => rfl
  | 13, _ => rfl
  | k + 14, h => absurd h (by omega)
theorem dfN10 : ∀ j, j < 14 → defaultValue (tyX10 j) = vp_V [.null, .null, .int (iI 0), .null, .int (iI 0), .null, .null, .int (iI 0), .int (iI 0), .int (iI 0), .null, .int (iI 0), .int (iI 0), .null] j := fun j hj => match j, hj with
  | 0, _ => rfl
  | 1, _ => rfl
  | 2, _ => rfl
  | 3, _ => rfl
  | 4, _ => rfl
  | 5, _ => rfl
  | 6, _ => rfl
  | 7, _ => rfl
  | 8, _ => rfl
  | 9, _ => rfl
  | 10, _ => rfl
  | 11, _ => rfl
  | 12, _ => rfl
  | 13, _ => rfl
  | k + 14, h => absurd h (by omega)
theorem dfN11 : ∀ j, j < 56 → defaultValue (tyX11 j) = vp_V [.int (iI 0), .null, .int (iI 0), .long (lJ 0), .long (lJ 0), .int (iI 0), .int (iI 0), .null, .null, .null, .int (iI 0), .null, .null, .null, .null, .null, .null, .null, .null, .null, .null, .null, .null, .null, .null, .null, .null, .null, .null, .null, .null, .null, .null, .null, .null, .null, .null, .null, .null, .null, .int (iI 0), .null, .int (iI 0), .int (iI 0), .int (iI 0), .int (iI 0), .int (iI 0), .null, .int (iI 0), .null, .int (iI 0), .null, .null, .long (lJ 0), .long (lJ 0), .int (iI 0)] j := fun j hj => match j, hj with
  | 0, _ => rfl
  | 1, _ => rfl
  | 2, _ => rfl
  | 3, _ => rfl
  | 4, _ => rfl
  | 5, _ => rfl
  | 6, _ => rfl
  | 7, _ => rfl
  | 8, _ => rfl
  | 9, _ => rfl
  | 10, _ => rfl
  | 11, _ => rfl
  | 12, _ => rfl
  | 13, _ => rfl
  | 14, _ => rfl
  | 15, _ => rfl
  | 16, _ => rfl
  | 17, _ => rfl
  | 18, _ => rfl
  | 19, _ => rfl
  | 20, _ => rfl
  | 21, _ => rfl
  | 22, _ => rfl
  | 23, _ => rfl
  | 24, _ => rfl
  | 25, _ => rfl
  | 26, _ => rfl
  | 27, _ => rfl
  | 28, _ => rfl
  | 29, _ => rfl
  | 30, _ => rfl
  | 31, _ => rfl
  | 32, _ => rfl
  | 33, _ => rfl
  | 34, _ => rfl
  | 35, _ => rfl
  | 36, _ => rfl
  | 37, _ => rfl
  | 38, _ => rfl
  | 39, _ => rfl
  | 40, _ => rfl
  | 41, _ => rfl
  | 42, _ => rfl
  | 43, _ => rfl
  | 44, _ => rfl
  | 45, _ => rfl
  | 46, _ => rfl
  | 47, _ => rfl
  | 48, _ => rfl
  | 49, _ => rfl
  | 50, _ => rfl
  | 51, _ => rfl
  | 52, _ => rfl
  | 53, _ => rfl
  | 54, _ => rfl
  | 55, _ => rfl
  | k + 56, h => absurd h (by omega)
theorem hdX5_init : yX5_init.cls ≠ "java/lang/invoke/MethodHandle" ∧ yX5_init.cls ≠ "java/lang/invoke/VarHandle" ∧ (parseMethodDescriptor yX5_init.desc).map (fun d => d.parameters.length) = some 0 := by decide +kernel
theorem hdX1_init : yX1_init.cls ≠ "java/lang/invoke/MethodHandle" ∧ yX1_init.cls ≠ "java/lang/invoke/VarHandle" ∧ (parseMethodDescriptor yX1_init.desc).map (fun d => d.parameters.length) = some 0 := by decide +kernel
theorem hdX2_init : yX2_init.cls ≠ "java/lang/invoke/MethodHandle" ∧ yX2_init.cls ≠ "java/lang/invoke/VarHandle" ∧ (parseMethodDescriptor yX2_init.desc).map (fun d => d.parameters.length) = some 0 := by decide +kernel
theorem hdX3_init : yX3_init.cls ≠ "java/lang/invoke/MethodHandle" ∧ yX3_init.cls ≠ "java/lang/invoke/VarHandle" ∧ (parseMethodDescriptor yX3_init.desc).map (fun d => d.parameters.length) = some 0 := by decide +kernel
theorem hdX6_init : yX6_init.cls ≠ "java/lang/invoke/MethodHandle" ∧ yX6_init.cls ≠ "java/lang/invoke/VarHandle" ∧ (parseMethodDescriptor yX6_init.desc).map (fun d => d.parameters.length) = some 0 := by decide +kernel
theorem hdX8_init : yX8_init.cls ≠ "java/lang/invoke/MethodHandle" ∧ yX8_init.cls ≠ "java/lang/invoke/VarHandle" ∧ (parseMethodDescriptor yX8_init.desc).map (fun d => d.parameters.length) = some 0 := by decide +kernel
theorem hdX9_init : yX9_init.cls ≠ "java/lang/invoke/MethodHandle" ∧ yX9_init.cls ≠ "java/lang/invoke/VarHandle" ∧ (parseMethodDescriptor yX9_init.desc).map (fun d => d.parameters.length) = some 3 := by decide +kernel
theorem hdX4_init : yX4_init.cls ≠ "java/lang/invoke/MethodHandle" ∧ yX4_init.cls ≠ "java/lang/invoke/VarHandle" ∧ (parseMethodDescriptor yX4_init.desc).map (fun d => d.parameters.length) = some 3 := by decide +kernel
theorem hdX7_init : yX7_init.cls ≠ "java/lang/invoke/MethodHandle" ∧ yX7_init.cls ≠ "java/lang/invoke/VarHandle" ∧ (parseMethodDescriptor yX7_init.desc).map (fun d => d.parameters.length) = some 2 := by decide +kernel
theorem hdX0_init : yX0_init.cls ≠ "java/lang/invoke/MethodHandle" ∧ yX0_init.cls ≠ "java/lang/invoke/VarHandle" ∧ (parseMethodDescriptor yX0_init.desc).map (fun d => d.parameters.length) = some 3 := by decide +kernel
theorem hdX10_init : yX10_init.cls ≠ "java/lang/invoke/MethodHandle" ∧ yX10_init.cls ≠ "java/lang/invoke/VarHandle" ∧ (parseMethodDescriptor yX10_init.desc).map (fun d => d.parameters.length) = some 0 := by decide +kernel
theorem hdX11_init : yX11_init.cls ≠ "java/lang/invoke/MethodHandle" ∧ yX11_init.cls ≠ "java/lang/invoke/VarHandle" ∧ (parseMethodDescriptor yX11_init.desc).map (fun d => d.parameters.length) = some 0 := by decide +kernel
section
variable {p : Program} {l : Launch} {e : Env} {R : Room} {s : State} {m : MethodId} {args : Array Value} {below : List Frame} {meth : Method} {c : Code} {H : Heap} {locs : List Loc} {Q : State → Prop} {cc : ByteArray} {pc nL : Nat} {ls : Array Slot} {rest : List Value} {own : String} {cells slots : Nat}
variable {D : va_G} {cy : Nat → ClassId} {A : Nat → Prop} {ws : va_W}
theorem n_ast (i : Nat) (F : CallFix p m c cc nL s args uw own) (hK : nK D cy s) (hP : va_P D vwCl ws H) (hD : va_D A ws) (hS : va_S A s.heap H locs) (q0 t0 qk ci : Nat) {a : Nat} {cA : ClassId} {r : vw_C} {n v : Nat} {vs : List Value} {f : Nat → Option Nat} (ha : ws[q0]? = some (a, .inl (cA, n, .inr (.inr (.inr (.inr f)))))) (ht : (tyN cy)[t0]? = some (cA, .object r.1)) (hv : ws[qk]? = some (v, .inr (ci, vs))) (hc : vwCl[ci]? = some r) (h1 : i < n) (hn : n ≤ 2147483647) (hdg : decode cc pc = .ok (.aastore, 1))
    (kk : ∀ (H1 : Heap) (locs1 : List Loc), va_P D vwCl (ws.set q0 (a, .inl (cA, n, .inr (.inr (.inr (.inr (va_up f i (some v)))))))) H1 → va_D A (ws.set q0 (a, .inl (cA, n, .inr (.inr (.inr (.inr (va_up f i (some v)))))))) → va_S A s.heap H1 locs1 → W p l e R s m args below meth c H1 locs1 cells slots Q (F0 m (pc + 1) ls rest)) : W p l e R s m args below meth c H locs cells slots Q (F0 m pc ls (.ref v :: .int (iI (i : Int)) :: .ref a :: rest)) := by
  have hi : (iI (i : Int)).toNatClampNeg = i := by rw [iI_cl ⟨by omega, by omega⟩]; rfl
  refine va_astq F.1 F.2.1 hK.1 hP hD hS q0 t0 qk ci ha ht hv hc (iI_ix (by omega) (by omega) hn) hdg ?_
  rw [hi]
  exact kk
theorem n_iast (i : Nat) (F : CallFix p m c cc nL s args uw own) (hK : nK D cy s) (hP : va_P D vwCl ws H) (hD : va_D A ws) (hS : va_S A s.heap H locs) (q0 : Nat) {a n : Nat} {x : Int32} {f : Nat → Int32} (ha : ws[q0]? = some (a, .inl (cy 0, n, .inl f))) (h1 : i < n) (hn : n ≤ 2147483647) (hdg : decode cc pc = .ok (.iastore, 1))
    (kk : ∀ (H1 : Heap) (locs1 : List Loc), va_P D vwCl (ws.set q0 (a, .inl (cy 0, n, .inl (upd f i x)))) H1 → va_D A (ws.set q0 (a, .inl (cy 0, n, .inl (upd f i x)))) → va_S A s.heap H1 locs1 → W p l e R s m args below meth c H1 locs1 cells slots Q (F0 m (pc + 1) ls rest)) : W p l e R s m args below meth c H locs cells slots Q (F0 m pc ls (.int x :: .int (iI (i : Int)) :: .ref a :: rest)) := by
  have hi : (iI (i : Int)).toNatClampNeg = i := by rw [iI_cl ⟨by omega, by omega⟩]; rfl
  refine va_iast F.1 F.2.1 hK.1 hP hD hS q0 0 ha rfl (iI_ix (by omega) (by omega) hn) hdg ?_
  rw [hi]
  exact kk
end
abbrev LNX5_init_5 (cy : Nat → ClassId) (b : Nat) (α : Nat → Nat) : va_W := [(b, .inr (5, [.ref (α 0), .int (iI 0)])), ((α 0), .inl (cy 0, 12, .inl (fun _ => iI 0)))]
set_option maxRecDepth 100000 in
set_option maxHeartbeats 4000000 in
theorem nX5_init_5 {l : Launch} {D : va_G} {cy : Nat → ClassId} {b sz : Nat} : Met l yX5_init (Cond.code yX5_init cX5_init 1 none :: uw) ({ frames := 1, cells := 1, slots := 12, locals := 20 } : Room) (nPc D cy b [] sz [(b, .inr (5, [.null, .int (iI 0)]))]) (nQ D (LNX5_init_5 cy b) (va_A [(b, .inr (5, [.null, .int (iI 0)]))] sz)) 1 12 (va_A [(b, .inr (5, [.null, .int (iI 0)]))] sz) := by
  refine met_n (y := yX5_init) (bytes := cX5_init) (maxL := 1) (rm := { frames := 1, cells := 1, slots := 12, locals := 20 }) (by decide) (Nat.le_of_ble_eq_true rfl) ?_
  intro p e R s m args below meth c ls A hr hk hn hRR F hA hK hP hD hS hl
  subst hRR
  have hi : meth.name = "<init>" := hn
  have hx := F.1
  have hb := F.2.1
  refine lv_aload_n hx hb dX5_init_0 rfl (lv_at hl 0 rfl) ?_
  refine n_obj F hl.1 tw1_35 (by decide) ⟨Nat.le_of_ble_eq_true rfl, Nat.le_of_ble_eq_true rfl⟩ dX5_init_1 ?_
  refine lv_aload_n hx hb dX5_init_4 rfl (lv_at hl 0 rfl) ?_
  refine q_bipush hx hb (by decide) dX5_init_5 ?_
  refine n_newa (atype := .int) (cA := cy 0) F hK hP hD hS hA 0 rfl tw1_44 rfl rfl 12 rfl rfl ⟨by decide, by decide⟩ ⟨Nat.le_of_ble_eq_true rfl, Nat.le_of_ble_eq_true rfl⟩ dX5_init_7 (fun q5 H _ hP hD hS _ _ => ?_)
  have hP : va_P D vwCl [(b, .inr (5, [.null, .int (iI 0)])), (q5, .inl (cy 0, 12, .inl (fun _ => iI 0)))] H := hP
  have hD : va_D A [(b, .inr (5, [.null, .int (iI 0)])), (q5, .inl (cy 0, 12, .inl (fun _ => iI 0)))] := hD
  refine n_put (ci := 5) F hK hP hD hS rfl inU5 tyX5 tyX5_ok nmX5 0 rfl 0 (by decide) tw1_36 (fun _ h => h) (Or.inr ⟨rfl, rfl⟩) hi rfl rfl (Nat.le_of_ble_eq_true rfl) dX5_init_9 (fun H locs hP hD hS => ?_)
  have hP : va_P D vwCl [(b, .inr (5, [.ref q5, .int (iI 0)])), (q5, .inl (cy 0, 12, .inl (fun _ => iI 0)))] H := hP
  have hD : va_D A [(b, .inr (5, [.ref q5, .int (iI 0)])), (q5, .inl (cy 0, 12, .inl (fun _ => iI 0)))] := hD
  exact n_ret (L1 := LNX5_init_5 cy b) F hr hk (fun n => (q5 :: []).getD n 0) hP hD hS ⟨Nat.le_of_ble_eq_true rfl, Nat.le_of_ble_eq_true rfl⟩ dX5_init_12
abbrev LNX1_init_1 (cy : Nat → ClassId) (b : Nat) (α : Nat → Nat) : va_W := [(b, .inr (1, [.ref (α 0), .int (iI 0), .int (iI 0), .int (iI 0), .int (iI 0), .int (iI 0), .int (iI 0)])), ((α 0), .inl (cy 0, 48, .inl (fun _ => iI 0)))]
set_option maxRecDepth 100000 in
set_option maxHeartbeats 4000000 in
theorem nX1_init_1 {l : Launch} {D : va_G} {cy : Nat → ClassId} {b sz : Nat} : Met l yX1_init (Cond.code yX1_init cX1_init 1 none :: uw) ({ frames := 1, cells := 1, slots := 48, locals := 20 } : Room) (nPc D cy b [] sz [(b, .inr (1, [.null, .int (iI 0), .int (iI 0), .int (iI 0), .int (iI 0), .int (iI 0), .int (iI 0)]))]) (nQ D (LNX1_init_1 cy b) (va_A [(b, .inr (1, [.null, .int (iI 0), .int (iI 0), .int (iI 0), .int (iI 0), .int (iI 0), .int (iI 0)]))] sz)) 1 48 (va_A [(b, .inr (1, [.null, .int (iI 0), .int (iI 0), .int (iI 0), .int (iI 0), .int (iI 0), .int (iI 0)]))] sz) := by
  refine met_n (y := yX1_init) (bytes := cX1_init) (maxL := 1) (rm := { frames := 1, cells := 1, slots := 48, locals := 20 }) (by decide) (Nat.le_of_ble_eq_true rfl) ?_
  intro p e R s m args below meth c ls A hr hk hn hRR F hA hK hP hD hS hl
  subst hRR
  have hi : meth.name = "<init>" := hn
  have hx := F.1
  have hb := F.2.1
  refine lv_aload_n hx hb dX1_init_0 rfl (lv_at hl 0 rfl) ?_
  refine n_obj F hl.1 tw1_50 (by decide) ⟨Nat.le_of_ble_eq_true rfl, Nat.le_of_ble_eq_true rfl⟩ dX1_init_1 ?_
  refine lv_aload_n hx hb dX1_init_4 rfl (lv_at hl 0 rfl) ?_
  refine q_bipush hx hb (by decide) dX1_init_5 ?_
  refine n_newa (atype := .int) (cA := cy 0) F hK hP hD hS hA 0 rfl tw1_44 rfl rfl 48 rfl rfl ⟨by decide, by decide⟩ ⟨Nat.le_of_ble_eq_true rfl, Nat.le_of_ble_eq_true rfl⟩ dX1_init_7 (fun q5 H _ hP hD hS _ _ => ?_)
  have hP : va_P D vwCl [(b, .inr (1, [.null, .int (iI 0), .int (iI 0), .int (iI 0), .int (iI 0), .int (iI 0), .int (iI 0)])), (q5, .inl (cy 0, 48, .inl (fun _ => iI 0)))] H := hP
  have hD : va_D A [(b, .inr (1, [.null, .int (iI 0), .int (iI 0), .int (iI 0), .int (iI 0), .int (iI 0), .int (iI 0)])), (q5, .inl (cy 0, 48, .inl (fun _ => iI 0)))] := hD
  refine n_put (ci := 1) F hK hP hD hS rfl inU1 tyX1 tyX1_ok nmX1 0 rfl 0 (by decide) tw1_51 (fun _ h => h) (Or.inr ⟨rfl, rfl⟩) hi rfl rfl (Nat.le_of_ble_eq_true rfl) dX1_init_9 (fun H locs hP hD hS => ?_)
  have hP : va_P D vwCl [(b, .inr (1, [.ref q5, .int (iI 0), .int (iI 0), .int (iI 0), .int (iI 0), .int (iI 0), .int (iI 0)])), (q5, .inl (cy 0, 48, .inl (fun _ => iI 0)))] H := hP
  have hD : va_D A [(b, .inr (1, [.ref q5, .int (iI 0), .int (iI 0), .int (iI 0), .int (iI 0), .int (iI 0), .int (iI 0)])), (q5, .inl (cy 0, 48, .inl (fun _ => iI 0)))] := hD
  exact n_ret (L1 := LNX1_init_1 cy b) F hr hk (fun n => (q5 :: []).getD n 0) hP hD hS ⟨Nat.le_of_ble_eq_true rfl, Nat.le_of_ble_eq_true rfl⟩ dX1_init_12
abbrev LNX2_init_2 (cy : Nat → ClassId) (b : Nat) (α : Nat → Nat) : va_W := [(b, .inr (2, [.ref (α 0), .int (iI 0), .ref (α 1), .int (iI 0), .long (lJ 0), .long (lJ 0), .long (lJ 0), .long (lJ 0), .long (lJ 1)])), ((α 0), .inl (cy 0, 12, .inl (fun _ => iI 0))), ((α 1), .inl (cy 0, 4, .inl (fun _ => iI 0)))]
set_option maxRecDepth 100000 in
set_option maxHeartbeats 4000000 in
theorem nX2_init_2 {l : Launch} {D : va_G} {cy : Nat → ClassId} {b sz : Nat} : Met l yX2_init (Cond.code yX2_init cX2_init 1 none :: uw) ({ frames := 1, cells := 2, slots := 16, locals := 20 } : Room) (nPc D cy b [] sz [(b, .inr (2, [.null, .int (iI 0), .null, .int (iI 0), .long (lJ 0), .long (lJ 0), .long (lJ 0), .long (lJ 0), .long (lJ 0)]))]) (nQ D (LNX2_init_2 cy b) (va_A [(b, .inr (2, [.null, .int (iI 0), .null, .int (iI 0), .long (lJ 0), .long (lJ 0), .long (lJ 0), .long (lJ 0), .long (lJ 0)]))] sz)) 2 16 (va_A [(b, .inr (2, [.null, .int (iI 0), .null, .int (iI 0), .long (lJ 0), .long (lJ 0), .long (lJ 0), .long (lJ 0), .long (lJ 0)]))] sz) := by
  refine met_n (y := yX2_init) (bytes := cX2_init) (maxL := 1) (rm := { frames := 1, cells := 2, slots := 16, locals := 20 }) (by decide) (Nat.le_of_ble_eq_true rfl) ?_
  intro p e R s m args below meth c ls A hr hk hn hRR F hA hK hP hD hS hl
  subst hRR
  have hi : meth.name = "<init>" := hn
  have hx := F.1
  have hb := F.2.1
  refine lv_aload_n hx hb dX2_init_0 rfl (lv_at hl 0 rfl) ?_
  refine n_obj F hl.1 tw1_83 (by decide) ⟨Nat.le_of_ble_eq_true rfl, Nat.le_of_ble_eq_true rfl⟩ dX2_init_1 ?_
  refine lv_aload_n hx hb dX2_init_4 rfl (lv_at hl 0 rfl) ?_
  refine q_bipush hx hb (by decide) dX2_init_5 ?_
  refine n_newa (atype := .int) (cA := cy 0) F hK hP hD hS hA 0 rfl tw1_44 rfl rfl 12 rfl rfl ⟨by decide, by decide⟩ ⟨Nat.le_of_ble_eq_true rfl, Nat.le_of_ble_eq_true rfl⟩ dX2_init_7 (fun q5 H _ hP hD hS _ _ => ?_)
  have hP : va_P D vwCl [(b, .inr (2, [.null, .int (iI 0), .null, .int (iI 0), .long (lJ 0), .long (lJ 0), .long (lJ 0), .long (lJ 0), .long (lJ 0)])), (q5, .inl (cy 0, 12, .inl (fun _ => iI 0)))] H := hP
  have hD : va_D A [(b, .inr (2, [.null, .int (iI 0), .null, .int (iI 0), .long (lJ 0), .long (lJ 0), .long (lJ 0), .long (lJ 0), .long (lJ 0)])), (q5, .inl (cy 0, 12, .inl (fun _ => iI 0)))] := hD
  refine n_put (ci := 2) F hK hP hD hS rfl inU2 tyX2 tyX2_ok nmX2 0 rfl 0 (by decide) tw1_84 (fun _ h => h) (Or.inr ⟨rfl, rfl⟩) hi rfl rfl (Nat.le_of_ble_eq_true rfl) dX2_init_9 (fun H locs hP hD hS => ?_)
  have hP : va_P D vwCl [(b, .inr (2, [.ref q5, .int (iI 0), .null, .int (iI 0), .long (lJ 0), .long (lJ 0), .long (lJ 0), .long (lJ 0), .long (lJ 0)])), (q5, .inl (cy 0, 12, .inl (fun _ => iI 0)))] H := hP
  have hD : va_D A [(b, .inr (2, [.ref q5, .int (iI 0), .null, .int (iI 0), .long (lJ 0), .long (lJ 0), .long (lJ 0), .long (lJ 0), .long (lJ 0)])), (q5, .inl (cy 0, 12, .inl (fun _ => iI 0)))] := hD
  refine lv_aload_n hx hb dX2_init_12 rfl (lv_at hl 0 rfl) ?_
  refine q_iconst hx hb dX2_init_13 ?_
  refine n_newa (atype := .int) (cA := cy 0) F hK hP hD hS hA 0 rfl tw1_44 rfl rfl 4 rfl rfl ⟨by decide, by decide⟩ ⟨Nat.le_of_ble_eq_true rfl, Nat.le_of_ble_eq_true rfl⟩ dX2_init_14 (fun q9 H _ hP hD hS _ _ => ?_)
  have hP : va_P D vwCl [(b, .inr (2, [.ref q5, .int (iI 0), .null, .int (iI 0), .long (lJ 0), .long (lJ 0), .long (lJ 0), .long (lJ 0), .long (lJ 0)])), (q5, .inl (cy 0, 12, .inl (fun _ => iI 0))), (q9, .inl (cy 0, 4, .inl (fun _ => iI 0)))] H := hP
  have hD : va_D A [(b, .inr (2, [.ref q5, .int (iI 0), .null, .int (iI 0), .long (lJ 0), .long (lJ 0), .long (lJ 0), .long (lJ 0), .long (lJ 0)])), (q5, .inl (cy 0, 12, .inl (fun _ => iI 0))), (q9, .inl (cy 0, 4, .inl (fun _ => iI 0)))] := hD
  refine n_put (ci := 2) F hK hP hD hS rfl inU2 tyX2 tyX2_ok nmX2 0 rfl 2 (by decide) tw1_87 (fun _ h => h) (Or.inr ⟨rfl, rfl⟩) hi rfl rfl (Nat.le_of_ble_eq_true rfl) dX2_init_16 (fun H locs hP hD hS => ?_)
  have hP : va_P D vwCl [(b, .inr (2, [.ref q5, .int (iI 0), .ref q9, .int (iI 0), .long (lJ 0), .long (lJ 0), .long (lJ 0), .long (lJ 0), .long (lJ 0)])), (q5, .inl (cy 0, 12, .inl (fun _ => iI 0))), (q9, .inl (cy 0, 4, .inl (fun _ => iI 0)))] H := hP
  have hD : va_D A [(b, .inr (2, [.ref q5, .int (iI 0), .ref q9, .int (iI 0), .long (lJ 0), .long (lJ 0), .long (lJ 0), .long (lJ 0), .long (lJ 0)])), (q5, .inl (cy 0, 12, .inl (fun _ => iI 0))), (q9, .inl (cy 0, 4, .inl (fun _ => iI 0)))] := hD
  refine lv_aload_n hx hb dX2_init_19 rfl (lv_at hl 0 rfl) ?_
  refine q_lconst (v := 0) hx hb (by decide) dX2_init_20 ?_
  refine n_put (ci := 2) F hK hP hD hS rfl inU2 tyX2 tyX2_ok nmX2 0 rfl 7 (by decide) tw1_92 (fun _ h => h) (Or.inl rfl) hi rfl rfl (Nat.le_of_ble_eq_true rfl) dX2_init_21 (fun H locs hP hD hS => ?_)
  have hP : va_P D vwCl [(b, .inr (2, [.ref q5, .int (iI 0), .ref q9, .int (iI 0), .long (lJ 0), .long (lJ 0), .long (lJ 0), .long (lJ 0), .long (lJ 0)])), (q5, .inl (cy 0, 12, .inl (fun _ => iI 0))), (q9, .inl (cy 0, 4, .inl (fun _ => iI 0)))] H := hP
  have hD : va_D A [(b, .inr (2, [.ref q5, .int (iI 0), .ref q9, .int (iI 0), .long (lJ 0), .long (lJ 0), .long (lJ 0), .long (lJ 0), .long (lJ 0)])), (q5, .inl (cy 0, 12, .inl (fun _ => iI 0))), (q9, .inl (cy 0, 4, .inl (fun _ => iI 0)))] := hD
  refine lv_aload_n hx hb dX2_init_24 rfl (lv_at hl 0 rfl) ?_
  refine q_lconst (v := 1) hx hb (by decide) dX2_init_25 ?_
  refine n_put (ci := 2) F hK hP hD hS rfl inU2 tyX2 tyX2_ok nmX2 0 rfl 8 (by decide) tw1_94 (fun _ h => h) (Or.inl rfl) hi rfl rfl (Nat.le_of_ble_eq_true rfl) dX2_init_26 (fun H locs hP hD hS => ?_)
  have hP : va_P D vwCl [(b, .inr (2, [.ref q5, .int (iI 0), .ref q9, .int (iI 0), .long (lJ 0), .long (lJ 0), .long (lJ 0), .long (lJ 0), .long (lJ 1)])), (q5, .inl (cy 0, 12, .inl (fun _ => iI 0))), (q9, .inl (cy 0, 4, .inl (fun _ => iI 0)))] H := hP
  have hD : va_D A [(b, .inr (2, [.ref q5, .int (iI 0), .ref q9, .int (iI 0), .long (lJ 0), .long (lJ 0), .long (lJ 0), .long (lJ 0), .long (lJ 1)])), (q5, .inl (cy 0, 12, .inl (fun _ => iI 0))), (q9, .inl (cy 0, 4, .inl (fun _ => iI 0)))] := hD
  exact n_ret (L1 := LNX2_init_2 cy b) F hr hk (fun n => (q5 :: q9 :: []).getD n 0) hP hD hS ⟨Nat.le_of_ble_eq_true rfl, Nat.le_of_ble_eq_true rfl⟩ dX2_init_29
abbrev LNX3_init_3 (cy : Nat → ClassId) (b : Nat) (α : Nat → Nat) : va_W := [(b, .inr (3, [.ref (α 0), .ref (α 1), .ref (α 2), .ref (α 3), .int (iI 0), .int (iI 0)])), ((α 0), .inl (cy 0, 60, .inl (fun _ => iI 0))), ((α 1), .inl (cy 0, 60, .inl (fun _ => iI 0))), ((α 2), .inl (cy 0, 60, .inl (fun _ => iI 0))), ((α 3), .inl (cy 0, 60, .inl (fun _ => iI 0)))]
set_option maxRecDepth 100000 in
set_option maxHeartbeats 4000000 in
theorem nX3_init_3 {l : Launch} {D : va_G} {cy : Nat → ClassId} {b sz : Nat} : Met l yX3_init (Cond.code yX3_init cX3_init 1 none :: uw) ({ frames := 1, cells := 4, slots := 240, locals := 20 } : Room) (nPc D cy b [] sz [(b, .inr (3, [.null, .null, .null, .null, .int (iI 0), .int (iI 0)]))]) (nQ D (LNX3_init_3 cy b) (va_A [(b, .inr (3, [.null, .null, .null, .null, .int (iI 0), .int (iI 0)]))] sz)) 4 240 (va_A [(b, .inr (3, [.null, .null, .null, .null, .int (iI 0), .int (iI 0)]))] sz) := by
  refine met_n (y := yX3_init) (bytes := cX3_init) (maxL := 1) (rm := { frames := 1, cells := 4, slots := 240, locals := 20 }) (by decide) (Nat.le_of_ble_eq_true rfl) ?_
  intro p e R s m args below meth c ls A hr hk hn hRR F hA hK hP hD hS hl
  subst hRR
  have hi : meth.name = "<init>" := hn
  have hx := F.1
  have hb := F.2.1
  refine lv_aload_n hx hb dX3_init_0 rfl (lv_at hl 0 rfl) ?_
  refine n_obj F hl.1 tw1_141 (by decide) ⟨Nat.le_of_ble_eq_true rfl, Nat.le_of_ble_eq_true rfl⟩ dX3_init_1 ?_
  refine lv_aload_n hx hb dX3_init_4 rfl (lv_at hl 0 rfl) ?_
  refine q_bipush hx hb (by decide) dX3_init_5 ?_
  refine n_newa (atype := .int) (cA := cy 0) F hK hP hD hS hA 0 rfl tw1_44 rfl rfl 60 rfl rfl ⟨by decide, by decide⟩ ⟨Nat.le_of_ble_eq_true rfl, Nat.le_of_ble_eq_true rfl⟩ dX3_init_7 (fun q5 H _ hP hD hS _ _ => ?_)
  have hP : va_P D vwCl [(b, .inr (3, [.null, .null, .null, .null, .int (iI 0), .int (iI 0)])), (q5, .inl (cy 0, 60, .inl (fun _ => iI 0)))] H := hP
  have hD : va_D A [(b, .inr (3, [.null, .null, .null, .null, .int (iI 0), .int (iI 0)])), (q5, .inl (cy 0, 60, .inl (fun _ => iI 0)))] := hD
  refine n_put (ci := 3) F hK hP hD hS rfl inU3 tyX3 tyX3_ok nmX3 0 rfl 0 (by decide) tw1_142 (fun _ h => h) (Or.inr ⟨rfl, rfl⟩) hi rfl rfl (Nat.le_of_ble_eq_true rfl) dX3_init_9 (fun H locs hP hD hS => ?_)
  have hP : va_P D vwCl [(b, .inr (3, [.ref q5, .null, .null, .null, .int (iI 0), .int (iI 0)])), (q5, .inl (cy 0, 60, .inl (fun _ => iI 0)))] H := hP
  have hD : va_D A [(b, .inr (3, [.ref q5, .null, .null, .null, .int (iI 0), .int (iI 0)])), (q5, .inl (cy 0, 60, .inl (fun _ => iI 0)))] := hD
  refine lv_aload_n hx hb dX3_init_12 rfl (lv_at hl 0 rfl) ?_
  refine q_bipush hx hb (by decide) dX3_init_13 ?_
  refine n_newa (atype := .int) (cA := cy 0) F hK hP hD hS hA 0 rfl tw1_44 rfl rfl 60 rfl rfl ⟨by decide, by decide⟩ ⟨Nat.le_of_ble_eq_true rfl, Nat.le_of_ble_eq_true rfl⟩ dX3_init_15 (fun q9 H _ hP hD hS _ _ => ?_)
  have hP : va_P D vwCl [(b, .inr (3, [.ref q5, .null, .null, .null, .int (iI 0), .int (iI 0)])), (q5, .inl (cy 0, 60, .inl (fun _ => iI 0))), (q9, .inl (cy 0, 60, .inl (fun _ => iI 0)))] H := hP
  have hD : va_D A [(b, .inr (3, [.ref q5, .null, .null, .null, .int (iI 0), .int (iI 0)])), (q5, .inl (cy 0, 60, .inl (fun _ => iI 0))), (q9, .inl (cy 0, 60, .inl (fun _ => iI 0)))] := hD
  refine n_put (ci := 3) F hK hP hD hS rfl inU3 tyX3 tyX3_ok nmX3 0 rfl 1 (by decide) tw1_143 (fun _ h => h) (Or.inr ⟨rfl, rfl⟩) hi rfl rfl (Nat.le_of_ble_eq_true rfl) dX3_init_17 (fun H locs hP hD hS => ?_)
  have hP : va_P D vwCl [(b, .inr (3, [.ref q5, .ref q9, .null, .null, .int (iI 0), .int (iI 0)])), (q5, .inl (cy 0, 60, .inl (fun _ => iI 0))), (q9, .inl (cy 0, 60, .inl (fun _ => iI 0)))] H := hP
  have hD : va_D A [(b, .inr (3, [.ref q5, .ref q9, .null, .null, .int (iI 0), .int (iI 0)])), (q5, .inl (cy 0, 60, .inl (fun _ => iI 0))), (q9, .inl (cy 0, 60, .inl (fun _ => iI 0)))] := hD
  refine lv_aload_n hx hb dX3_init_20 rfl (lv_at hl 0 rfl) ?_
  refine q_bipush hx hb (by decide) dX3_init_21 ?_
  refine n_newa (atype := .int) (cA := cy 0) F hK hP hD hS hA 0 rfl tw1_44 rfl rfl 60 rfl rfl ⟨by decide, by decide⟩ ⟨Nat.le_of_ble_eq_true rfl, Nat.le_of_ble_eq_true rfl⟩ dX3_init_23 (fun q13 H _ hP hD hS _ _ => ?_)
  have hP : va_P D vwCl [(b, .inr (3, [.ref q5, .ref q9, .null, .null, .int (iI 0), .int (iI 0)])), (q5, .inl (cy 0, 60, .inl (fun _ => iI 0))), (q9, .inl (cy 0, 60, .inl (fun _ => iI 0))), (q13, .inl (cy 0, 60, .inl (fun _ => iI 0)))] H := hP
  have hD : va_D A [(b, .inr (3, [.ref q5, .ref q9, .null, .null, .int (iI 0), .int (iI 0)])), (q5, .inl (cy 0, 60, .inl (fun _ => iI 0))), (q9, .inl (cy 0, 60, .inl (fun _ => iI 0))), (q13, .inl (cy 0, 60, .inl (fun _ => iI 0)))] := hD
  refine n_put (ci := 3) F hK hP hD hS rfl inU3 tyX3 tyX3_ok nmX3 0 rfl 2 (by decide) tw1_144 (fun _ h => h) (Or.inr ⟨rfl, rfl⟩) hi rfl rfl (Nat.le_of_ble_eq_true rfl) dX3_init_25 (fun H locs hP hD hS => ?_)
  have hP : va_P D vwCl [(b, .inr (3, [.ref q5, .ref q9, .ref q13, .null, .int (iI 0), .int (iI 0)])), (q5, .inl (cy 0, 60, .inl (fun _ => iI 0))), (q9, .inl (cy 0, 60, .inl (fun _ => iI 0))), (q13, .inl (cy 0, 60, .inl (fun _ => iI 0)))] H := hP
  have hD : va_D A [(b, .inr (3, [.ref q5, .ref q9, .ref q13, .null, .int (iI 0), .int (iI 0)])), (q5, .inl (cy 0, 60, .inl (fun _ => iI 0))), (q9, .inl (cy 0, 60, .inl (fun _ => iI 0))), (q13, .inl (cy 0, 60, .inl (fun _ => iI 0)))] := hD
  refine lv_aload_n hx hb dX3_init_28 rfl (lv_at hl 0 rfl) ?_
  refine q_bipush hx hb (by decide) dX3_init_29 ?_
  refine n_newa (atype := .int) (cA := cy 0) F hK hP hD hS hA 0 rfl tw1_44 rfl rfl 60 rfl rfl ⟨by decide, by decide⟩ ⟨Nat.le_of_ble_eq_true rfl, Nat.le_of_ble_eq_true rfl⟩ dX3_init_31 (fun q17 H _ hP hD hS _ _ => ?_)
  have hP : va_P D vwCl [(b, .inr (3, [.ref q5, .ref q9, .ref q13, .null, .int (iI 0), .int (iI 0)])), (q5, .inl (cy 0, 60, .inl (fun _ => iI 0))), (q9, .inl (cy 0, 60, .inl (fun _ => iI 0))), (q13, .inl (cy 0, 60, .inl (fun _ => iI 0))), (q17, .inl (cy 0, 60, .inl (fun _ => iI 0)))] H := hP
  have hD : va_D A [(b, .inr (3, [.ref q5, .ref q9, .ref q13, .null, .int (iI 0), .int (iI 0)])), (q5, .inl (cy 0, 60, .inl (fun _ => iI 0))), (q9, .inl (cy 0, 60, .inl (fun _ => iI 0))), (q13, .inl (cy 0, 60, .inl (fun _ => iI 0))), (q17, .inl (cy 0, 60, .inl (fun _ => iI 0)))] := hD
  refine n_put (ci := 3) F hK hP hD hS rfl inU3 tyX3 tyX3_ok nmX3 0 rfl 3 (by decide) tw1_145 (fun _ h => h) (Or.inr ⟨rfl, rfl⟩) hi rfl rfl (Nat.le_of_ble_eq_true rfl) dX3_init_33 (fun H locs hP hD hS => ?_)
  have hP : va_P D vwCl [(b, .inr (3, [.ref q5, .ref q9, .ref q13, .ref q17, .int (iI 0), .int (iI 0)])), (q5, .inl (cy 0, 60, .inl (fun _ => iI 0))), (q9, .inl (cy 0, 60, .inl (fun _ => iI 0))), (q13, .inl (cy 0, 60, .inl (fun _ => iI 0))), (q17, .inl (cy 0, 60, .inl (fun _ => iI 0)))] H := hP
  have hD : va_D A [(b, .inr (3, [.ref q5, .ref q9, .ref q13, .ref q17, .int (iI 0), .int (iI 0)])), (q5, .inl (cy 0, 60, .inl (fun _ => iI 0))), (q9, .inl (cy 0, 60, .inl (fun _ => iI 0))), (q13, .inl (cy 0, 60, .inl (fun _ => iI 0))), (q17, .inl (cy 0, 60, .inl (fun _ => iI 0)))] := hD
  exact n_ret (L1 := LNX3_init_3 cy b) F hr hk (fun n => (q5 :: q9 :: q13 :: q17 :: []).getD n 0) hP hD hS ⟨Nat.le_of_ble_eq_true rfl, Nat.le_of_ble_eq_true rfl⟩ dX3_init_36
abbrev LNX6_init_6 (cy : Nat → ClassId) (b : Nat) (α : Nat → Nat) : va_W := [(b, .inr (6, [.ref (α 0), .int (iI (-1))])), ((α 0), .inl (cy 1, 48, .inl (fun _ => iI 0)))]
set_option maxRecDepth 100000 in
set_option maxHeartbeats 4000000 in
theorem nX6_init_6 {l : Launch} {D : va_G} {cy : Nat → ClassId} {b sz : Nat} : Met l yX6_init (Cond.code yX6_init cX6_init 1 none :: uw) ({ frames := 1, cells := 1, slots := 48, locals := 20 } : Room) (nPc D cy b [] sz [(b, .inr (6, [.null, .int (iI 0)]))]) (nQ D (LNX6_init_6 cy b) (va_A [(b, .inr (6, [.null, .int (iI 0)]))] sz)) 1 48 (va_A [(b, .inr (6, [.null, .int (iI 0)]))] sz) := by
  refine met_n (y := yX6_init) (bytes := cX6_init) (maxL := 1) (rm := { frames := 1, cells := 1, slots := 48, locals := 20 }) (by decide) (Nat.le_of_ble_eq_true rfl) ?_
  intro p e R s m args below meth c ls A hr hk hn hRR F hA hK hP hD hS hl
  subst hRR
  have hi : meth.name = "<init>" := hn
  have hx := F.1
  have hb := F.2.1
  refine lv_aload_n hx hb dX6_init_0 rfl (lv_at hl 0 rfl) ?_
  refine n_obj F hl.1 tw1_119 (by decide) ⟨Nat.le_of_ble_eq_true rfl, Nat.le_of_ble_eq_true rfl⟩ dX6_init_1 ?_
  refine lv_aload_n hx hb dX6_init_4 rfl (lv_at hl 0 rfl) ?_
  refine q_bipush hx hb (by decide) dX6_init_5 ?_
  refine n_newa (atype := .byte) (cA := cy 1) F hK hP hD hS hA 1 rfl tw1_130 rfl rfl 48 rfl rfl ⟨by decide, by decide⟩ ⟨Nat.le_of_ble_eq_true rfl, Nat.le_of_ble_eq_true rfl⟩ dX6_init_7 (fun q5 H _ hP hD hS _ _ => ?_)
  have hP : va_P D vwCl [(b, .inr (6, [.null, .int (iI 0)])), (q5, .inl (cy 1, 48, .inl (fun _ => iI 0)))] H := hP
  have hD : va_D A [(b, .inr (6, [.null, .int (iI 0)])), (q5, .inl (cy 1, 48, .inl (fun _ => iI 0)))] := hD
  refine n_put (ci := 6) F hK hP hD hS rfl inU6 tyX6 tyX6_ok nmX6 0 rfl 0 (by decide) tw1_120 (fun _ h => h) (Or.inr ⟨rfl, rfl⟩) hi rfl rfl (Nat.le_of_ble_eq_true rfl) dX6_init_9 (fun H locs hP hD hS => ?_)
  have hP : va_P D vwCl [(b, .inr (6, [.ref q5, .int (iI 0)])), (q5, .inl (cy 1, 48, .inl (fun _ => iI 0)))] H := hP
  have hD : va_D A [(b, .inr (6, [.ref q5, .int (iI 0)])), (q5, .inl (cy 1, 48, .inl (fun _ => iI 0)))] := hD
  refine lv_aload_n hx hb dX6_init_12 rfl (lv_at hl 0 rfl) ?_
  refine q_iconst hx hb dX6_init_13 ?_
  refine n_put (ci := 6) F hK hP hD hS rfl inU6 tyX6 tyX6_ok nmX6 0 rfl 1 (by decide) tw1_122 (fun _ h => h) (Or.inl rfl) hi rfl rfl (Nat.le_of_ble_eq_true rfl) dX6_init_14 (fun H locs hP hD hS => ?_)
  have hP : va_P D vwCl [(b, .inr (6, [.ref q5, .int (iI (-1))])), (q5, .inl (cy 1, 48, .inl (fun _ => iI 0)))] H := hP
  have hD : va_D A [(b, .inr (6, [.ref q5, .int (iI (-1))])), (q5, .inl (cy 1, 48, .inl (fun _ => iI 0)))] := hD
  exact n_ret (L1 := LNX6_init_6 cy b) F hr hk (fun n => (q5 :: []).getD n 0) hP hD hS ⟨Nat.le_of_ble_eq_true rfl, Nat.le_of_ble_eq_true rfl⟩ dX6_init_17
abbrev LNX8_init_8 (cy : Nat → ClassId) (b : Nat) (α : Nat → Nat) : va_W := [(b, .inr (8, [.int (iI 0), .int (iI 0), .int (iI 0), .int (iI 0), .int (iI 0), .int (iI 0), .null, .null, .int (iI 0), .int (iI 0), .int (iI 0), .ref (α 0)])), ((α 0), .inr (3, [.ref (α 1), .ref (α 2), .ref (α 3), .ref (α 4), .int (iI 0), .int (iI 0)])), ((α 1), .inl (cy 0, 60, .inl (fun _ => iI 0))), ((α 2), .inl (cy 0, 60, .inl (fun _ => iI 0))), ((α 3), .inl (cy 0, 60, .inl (fun _ => iI 0))), ((α 4), .inl (cy 0, 60, .inl (fun _ => iI 0)))]
set_option maxRecDepth 100000 in
set_option maxHeartbeats 4000000 in
theorem nX8_init_8 {l : Launch} {D : va_G} {cy : Nat → ClassId} {b sz : Nat} : Met l yX8_init (Cond.code yX8_init cX8_init 1 none :: uw) ({ frames := 2, cells := 5, slots := 246, locals := 40 } : Room) (nPc D cy b [] sz [(b, .inr (8, [.int (iI 0), .int (iI 0), .int (iI 0), .int (iI 0), .int (iI 0), .int (iI 0), .null, .null, .int (iI 0), .int (iI 0), .int (iI 0), .null]))]) (nQ D (LNX8_init_8 cy b) (va_A [(b, .inr (8, [.int (iI 0), .int (iI 0), .int (iI 0), .int (iI 0), .int (iI 0), .int (iI 0), .null, .null, .int (iI 0), .int (iI 0), .int (iI 0), .null]))] sz)) 5 246 (va_A [(b, .inr (8, [.int (iI 0), .int (iI 0), .int (iI 0), .int (iI 0), .int (iI 0), .int (iI 0), .null, .null, .int (iI 0), .int (iI 0), .int (iI 0), .null]))] sz) := by
  refine met_n (y := yX8_init) (bytes := cX8_init) (maxL := 1) (rm := { frames := 2, cells := 5, slots := 246, locals := 40 }) (by decide) (Nat.le_of_ble_eq_true rfl) ?_
  intro p e R s m args below meth c ls A hr hk hn hRR F hA hK hP hD hS hl
  subst hRR
  have hi : meth.name = "<init>" := hn
  have hx := F.1
  have hb := F.2.1
  refine lv_aload_n hx hb dX8_init_0 rfl (lv_at hl 0 rfl) ?_
  refine n_obj F hl.1 tw1_135 (by decide) ⟨Nat.le_of_ble_eq_true rfl, Nat.le_of_ble_eq_true rfl⟩ dX8_init_1 ?_
  refine lv_aload_n hx hb dX8_init_4 rfl (lv_at hl 0 rfl) ?_
  refine n_new (ci := 3) (fs := [.null, .null, .null, .null, .int (iI 0), .int (iI 0)]) F hK hP hD hS hA rfl inU3 tyX3 tyX3_ok tw1_136 tw1_137 tw1_7 dfN3 ⟨Nat.le_of_ble_eq_true rfl, Nat.le_of_ble_eq_true rfl⟩ dX8_init_5 (fun q4 H _ hP hD hS _ _ => ?_)
  have hP : va_P D vwCl [(b, .inr (8, [.int (iI 0), .int (iI 0), .int (iI 0), .int (iI 0), .int (iI 0), .int (iI 0), .null, .null, .int (iI 0), .int (iI 0), .int (iI 0), .null])), (q4, .inr (3, [.null, .null, .null, .null, .int (iI 0), .int (iI 0)]))] H := hP
  have hD : va_D A [(b, .inr (8, [.int (iI 0), .int (iI 0), .int (iI 0), .int (iI 0), .int (iI 0), .int (iI 0), .null, .null, .int (iI 0), .int (iI 0), .int (iI 0), .null])), (q4, .inr (3, [.null, .null, .null, .null, .int (iI 0), .int (iI 0)]))] := hD
  refine lv_dup hx hb dX8_init_8 rfl ?_
  refine n_callN (host := "HammerTowers") (ws := [(b, .inr (8, [.int (iI 0), .int (iI 0), .int (iI 0), .int (iI 0), .int (iI 0), .int (iI 0), .null, .null, .int (iI 0), .int (iI 0), .int (iI 0), .null]))]) (rest := [.ref q4, .ref b]) F (nX3_init_3 (cy := cy) (b := q4)) 0 tw1_140 tw1_7 tw1_139 hK.2.2.2.2.2.2.2 rfl hdX3_init ⟨Nat.le_of_ble_eq_true rfl, Nat.le_of_ble_eq_true rfl⟩ hA hK hP hD hS rfl hl.1 rfl (Nat.le_of_ble_eq_true rfl) dX8_init_9 ⟨Nat.le_of_ble_eq_true rfl, Nat.le_of_ble_eq_true rfl⟩ (fun α6 H locs hP hD hS => ?_)
  have hP : va_P D vwCl [(b, .inr (8, [.int (iI 0), .int (iI 0), .int (iI 0), .int (iI 0), .int (iI 0), .int (iI 0), .null, .null, .int (iI 0), .int (iI 0), .int (iI 0), .null])), (q4, .inr (3, [.ref (α6 0), .ref (α6 1), .ref (α6 2), .ref (α6 3), .int (iI 0), .int (iI 0)])), ((α6 0), .inl (cy 0, 60, .inl (fun _ => iI 0))), ((α6 1), .inl (cy 0, 60, .inl (fun _ => iI 0))), ((α6 2), .inl (cy 0, 60, .inl (fun _ => iI 0))), ((α6 3), .inl (cy 0, 60, .inl (fun _ => iI 0)))] H := hP
  have hD : va_D A [(b, .inr (8, [.int (iI 0), .int (iI 0), .int (iI 0), .int (iI 0), .int (iI 0), .int (iI 0), .null, .null, .int (iI 0), .int (iI 0), .int (iI 0), .null])), (q4, .inr (3, [.ref (α6 0), .ref (α6 1), .ref (α6 2), .ref (α6 3), .int (iI 0), .int (iI 0)])), ((α6 0), .inl (cy 0, 60, .inl (fun _ => iI 0))), ((α6 1), .inl (cy 0, 60, .inl (fun _ => iI 0))), ((α6 2), .inl (cy 0, 60, .inl (fun _ => iI 0))), ((α6 3), .inl (cy 0, 60, .inl (fun _ => iI 0)))] := hD
  refine n_put (ci := 8) F hK hP hD hS rfl inU8 tyX8 tyX8_ok nmX8 0 rfl 11 (by decide) tw1_179 (fun _ h => h) (Or.inr ⟨rfl, rfl⟩) hi rfl rfl (Nat.le_of_ble_eq_true rfl) dX8_init_12 (fun H locs hP hD hS => ?_)
  have hP : va_P D vwCl [(b, .inr (8, [.int (iI 0), .int (iI 0), .int (iI 0), .int (iI 0), .int (iI 0), .int (iI 0), .null, .null, .int (iI 0), .int (iI 0), .int (iI 0), .ref q4])), (q4, .inr (3, [.ref (α6 0), .ref (α6 1), .ref (α6 2), .ref (α6 3), .int (iI 0), .int (iI 0)])), ((α6 0), .inl (cy 0, 60, .inl (fun _ => iI 0))), ((α6 1), .inl (cy 0, 60, .inl (fun _ => iI 0))), ((α6 2), .inl (cy 0, 60, .inl (fun _ => iI 0))), ((α6 3), .inl (cy 0, 60, .inl (fun _ => iI 0)))] H := hP
  have hD : va_D A [(b, .inr (8, [.int (iI 0), .int (iI 0), .int (iI 0), .int (iI 0), .int (iI 0), .int (iI 0), .null, .null, .int (iI 0), .int (iI 0), .int (iI 0), .ref q4])), (q4, .inr (3, [.ref (α6 0), .ref (α6 1), .ref (α6 2), .ref (α6 3), .int (iI 0), .int (iI 0)])), ((α6 0), .inl (cy 0, 60, .inl (fun _ => iI 0))), ((α6 1), .inl (cy 0, 60, .inl (fun _ => iI 0))), ((α6 2), .inl (cy 0, 60, .inl (fun _ => iI 0))), ((α6 3), .inl (cy 0, 60, .inl (fun _ => iI 0)))] := hD
  exact n_ret (L1 := LNX8_init_8 cy b) F hr hk (fun n => (q4 :: (α6 0) :: (α6 1) :: (α6 2) :: (α6 3) :: []).getD n 0) hP hD hS ⟨Nat.le_of_ble_eq_true rfl, Nat.le_of_ble_eq_true rfl⟩ dX8_init_15
abbrev LNX9_init_9 (cy : Nat → ClassId) (b : Nat) (x1 : Int) (x2 : Int) (x3 : Nat) (α : Nat → Nat) : va_W := [(b, .inr (9, [.int (iI x1), .int (iI x2), .ref x3, .int (iI 30), .int (iI 1000), .int (iI 1000), .int (iI 0), .int (iI 0), .int (iI 0), .int (iI (-9)), .int (iI 0), .int (iI 0), .int (iI 0), .int (iI 0)]))]
set_option maxRecDepth 100000 in
set_option maxHeartbeats 4000000 in
theorem nX9_init_9 {l : Launch} {D : va_G} {cy : Nat → ClassId} {b sz : Nat} {x1 : Int} {x2 : Int} {x3 : Nat} : Met l yX9_init (Cond.code yX9_init cX9_init 4 none :: uw) ({ frames := 1, cells := 0, slots := 0, locals := 20 } : Room) (nPc D cy b [.int (iI x1), .int (iI x2), .ref x3] sz [(b, .inr (9, [.int (iI 0), .int (iI 0), .null, .int (iI 0), .int (iI 0), .int (iI 0), .int (iI 0), .int (iI 0), .int (iI 0), .int (iI 0), .int (iI 0), .int (iI 0), .int (iI 0), .int (iI 0)]))]) (nQ D (LNX9_init_9 cy b x1 x2 x3) (va_A [(b, .inr (9, [.int (iI 0), .int (iI 0), .null, .int (iI 0), .int (iI 0), .int (iI 0), .int (iI 0), .int (iI 0), .int (iI 0), .int (iI 0), .int (iI 0), .int (iI 0), .int (iI 0), .int (iI 0)]))] sz)) 0 0 (va_A [(b, .inr (9, [.int (iI 0), .int (iI 0), .null, .int (iI 0), .int (iI 0), .int (iI 0), .int (iI 0), .int (iI 0), .int (iI 0), .int (iI 0), .int (iI 0), .int (iI 0), .int (iI 0), .int (iI 0)]))] sz) := by
  refine met_n (y := yX9_init) (bytes := cX9_init) (maxL := 4) (rm := { frames := 1, cells := 0, slots := 0, locals := 20 }) (by decide) (Nat.le_of_ble_eq_true rfl) ?_
  intro p e R s m args below meth c ls A hr hk hn hRR F hA hK hP hD hS hl
  subst hRR
  have hi : meth.name = "<init>" := hn
  have hx := F.1
  have hb := F.2.1
  refine lv_aload_n hx hb dX9_init_0 rfl (lv_at hl 0 rfl) ?_
  refine n_obj F hl.1 tw2_67 (by decide) ⟨Nat.le_of_ble_eq_true rfl, Nat.le_of_ble_eq_true rfl⟩ dX9_init_1 ?_
  refine lv_aload_n hx hb dX9_init_4 rfl (lv_at hl 0 rfl) ?_
  refine q_bipush hx hb (by decide) dX9_init_5 ?_
  refine n_put (ci := 9) F hK hP hD hS rfl inU9 tyX9 tyX9_ok nmX9 0 rfl 3 (by decide) tw2_79 (fun _ h => h) (Or.inl rfl) hi rfl rfl (Nat.le_of_ble_eq_true rfl) dX9_init_7 (fun H locs hP hD hS => ?_)
  have hP : va_P D vwCl [(b, .inr (9, [.int (iI 0), .int (iI 0), .null, .int (iI 30), .int (iI 0), .int (iI 0), .int (iI 0), .int (iI 0), .int (iI 0), .int (iI 0), .int (iI 0), .int (iI 0), .int (iI 0), .int (iI 0)]))] H := hP
  have hD : va_D A [(b, .inr (9, [.int (iI 0), .int (iI 0), .null, .int (iI 30), .int (iI 0), .int (iI 0), .int (iI 0), .int (iI 0), .int (iI 0), .int (iI 0), .int (iI 0), .int (iI 0), .int (iI 0), .int (iI 0)]))] := hD
  refine lv_aload_n hx hb dX9_init_10 rfl (lv_at hl 0 rfl) ?_
  refine q_sipush hx hb (by decide) dX9_init_11 ?_
  refine n_put (ci := 9) F hK hP hD hS rfl inU9 tyX9 tyX9_ok nmX9 0 rfl 4 (by decide) tw2_82 (fun _ h => h) (Or.inl rfl) hi rfl rfl (Nat.le_of_ble_eq_true rfl) dX9_init_14 (fun H locs hP hD hS => ?_)
  have hP : va_P D vwCl [(b, .inr (9, [.int (iI 0), .int (iI 0), .null, .int (iI 30), .int (iI 1000), .int (iI 0), .int (iI 0), .int (iI 0), .int (iI 0), .int (iI 0), .int (iI 0), .int (iI 0), .int (iI 0), .int (iI 0)]))] H := hP
  have hD : va_D A [(b, .inr (9, [.int (iI 0), .int (iI 0), .null, .int (iI 30), .int (iI 1000), .int (iI 0), .int (iI 0), .int (iI 0), .int (iI 0), .int (iI 0), .int (iI 0), .int (iI 0), .int (iI 0), .int (iI 0)]))] := hD
  refine lv_aload_n hx hb dX9_init_17 rfl (lv_at hl 0 rfl) ?_
  refine q_sipush hx hb (by decide) dX9_init_18 ?_
  refine n_put (ci := 9) F hK hP hD hS rfl inU9 tyX9 tyX9_ok nmX9 0 rfl 5 (by decide) tw2_84 (fun _ h => h) (Or.inl rfl) hi rfl rfl (Nat.le_of_ble_eq_true rfl) dX9_init_21 (fun H locs hP hD hS => ?_)
  have hP : va_P D vwCl [(b, .inr (9, [.int (iI 0), .int (iI 0), .null, .int (iI 30), .int (iI 1000), .int (iI 1000), .int (iI 0), .int (iI 0), .int (iI 0), .int (iI 0), .int (iI 0), .int (iI 0), .int (iI 0), .int (iI 0)]))] H := hP
  have hD : va_D A [(b, .inr (9, [.int (iI 0), .int (iI 0), .null, .int (iI 30), .int (iI 1000), .int (iI 1000), .int (iI 0), .int (iI 0), .int (iI 0), .int (iI 0), .int (iI 0), .int (iI 0), .int (iI 0), .int (iI 0)]))] := hD
  refine lv_aload_n hx hb dX9_init_24 rfl (lv_at hl 0 rfl) ?_
  refine q_bipush hx hb (by decide) dX9_init_25 ?_
  refine n_put (ci := 9) F hK hP hD hS rfl inU9 tyX9 tyX9_ok nmX9 0 rfl 9 (by decide) tw2_97 (fun _ h => h) (Or.inl rfl) hi rfl rfl (Nat.le_of_ble_eq_true rfl) dX9_init_27 (fun H locs hP hD hS => ?_)
  have hP : va_P D vwCl [(b, .inr (9, [.int (iI 0), .int (iI 0), .null, .int (iI 30), .int (iI 1000), .int (iI 1000), .int (iI 0), .int (iI 0), .int (iI 0), .int (iI (-9)), .int (iI 0), .int (iI 0), .int (iI 0), .int (iI 0)]))] H := hP
  have hD : va_D A [(b, .inr (9, [.int (iI 0), .int (iI 0), .null, .int (iI 30), .int (iI 1000), .int (iI 1000), .int (iI 0), .int (iI 0), .int (iI 0), .int (iI (-9)), .int (iI 0), .int (iI 0), .int (iI 0), .int (iI 0)]))] := hD
  refine lv_aload_n hx hb dX9_init_30 rfl (lv_at hl 0 rfl) ?_
  refine lv_iload_n hx hb dX9_init_31 rfl (lv_at hl 1 rfl) ?_
  refine n_put (ci := 9) F hK hP hD hS rfl inU9 tyX9 tyX9_ok nmX9 0 rfl 0 (by decide) tw2_68 (fun _ h => h) (Or.inr ⟨rfl, rfl⟩) hi rfl rfl (Nat.le_of_ble_eq_true rfl) dX9_init_32 (fun H locs hP hD hS => ?_)
  have hP : va_P D vwCl [(b, .inr (9, [.int (iI x1), .int (iI 0), .null, .int (iI 30), .int (iI 1000), .int (iI 1000), .int (iI 0), .int (iI 0), .int (iI 0), .int (iI (-9)), .int (iI 0), .int (iI 0), .int (iI 0), .int (iI 0)]))] H := hP
  have hD : va_D A [(b, .inr (9, [.int (iI x1), .int (iI 0), .null, .int (iI 30), .int (iI 1000), .int (iI 1000), .int (iI 0), .int (iI 0), .int (iI 0), .int (iI (-9)), .int (iI 0), .int (iI 0), .int (iI 0), .int (iI 0)]))] := hD
  refine lv_aload_n hx hb dX9_init_35 rfl (lv_at hl 0 rfl) ?_
  refine lv_iload_n hx hb dX9_init_36 rfl (lv_at hl 2 rfl) ?_
  refine n_put (ci := 9) F hK hP hD hS rfl inU9 tyX9 tyX9_ok nmX9 0 rfl 1 (by decide) tw2_72 (fun _ h => h) (Or.inr ⟨rfl, rfl⟩) hi rfl rfl (Nat.le_of_ble_eq_true rfl) dX9_init_37 (fun H locs hP hD hS => ?_)
  have hP : va_P D vwCl [(b, .inr (9, [.int (iI x1), .int (iI x2), .null, .int (iI 30), .int (iI 1000), .int (iI 1000), .int (iI 0), .int (iI 0), .int (iI 0), .int (iI (-9)), .int (iI 0), .int (iI 0), .int (iI 0), .int (iI 0)]))] H := hP
  have hD : va_D A [(b, .inr (9, [.int (iI x1), .int (iI x2), .null, .int (iI 30), .int (iI 1000), .int (iI 1000), .int (iI 0), .int (iI 0), .int (iI 0), .int (iI (-9)), .int (iI 0), .int (iI 0), .int (iI 0), .int (iI 0)]))] := hD
  refine lv_aload_n hx hb dX9_init_40 rfl (lv_at hl 0 rfl) ?_
  refine lv_aload_n hx hb dX9_init_41 rfl (lv_at hl 3 rfl) ?_
  refine n_put (ci := 9) F hK hP hD hS rfl inU9 tyX9 tyX9_ok nmX9 0 rfl 2 (by decide) tw2_74 (fun _ h => h) (Or.inr ⟨rfl, rfl⟩) hi rfl rfl (Nat.le_of_ble_eq_true rfl) dX9_init_42 (fun H locs hP hD hS => ?_)
  have hP : va_P D vwCl [(b, .inr (9, [.int (iI x1), .int (iI x2), .ref x3, .int (iI 30), .int (iI 1000), .int (iI 1000), .int (iI 0), .int (iI 0), .int (iI 0), .int (iI (-9)), .int (iI 0), .int (iI 0), .int (iI 0), .int (iI 0)]))] H := hP
  have hD : va_D A [(b, .inr (9, [.int (iI x1), .int (iI x2), .ref x3, .int (iI 30), .int (iI 1000), .int (iI 1000), .int (iI 0), .int (iI 0), .int (iI 0), .int (iI (-9)), .int (iI 0), .int (iI 0), .int (iI 0), .int (iI 0)]))] := hD
  exact n_ret (L1 := LNX9_init_9 cy b x1 x2 x3) F hr hk (fun n => (([] : List Nat)).getD n 0) hP hD hS ⟨Nat.le_of_ble_eq_true rfl, Nat.le_of_ble_eq_true rfl⟩ dX9_init_45
abbrev LNX9_init_4 (cy : Nat → ClassId) (b : Nat) (x1 : Int) (x2 : Int) (x3 : Nat) (α : Nat → Nat) : va_W := [(b, .inr (4, [.int (iI x1), .int (iI x2), .ref x3, .int (iI 30), .int (iI 1000), .int (iI 1000), .int (iI 0), .int (iI 0), .int (iI 0), .int (iI (-9)), .int (iI 0), .int (iI 0), .int (iI 0), .int (iI 0), .int (iI 0)]))]
set_option maxRecDepth 100000 in
set_option maxHeartbeats 4000000 in
theorem nX9_init_4 {l : Launch} {D : va_G} {cy : Nat → ClassId} {b sz : Nat} {x1 : Int} {x2 : Int} {x3 : Nat} : Met l yX9_init (Cond.code yX9_init cX9_init 4 none :: uw) ({ frames := 1, cells := 0, slots := 0, locals := 20 } : Room) (nPc D cy b [.int (iI x1), .int (iI x2), .ref x3] sz [(b, .inr (4, [.int (iI 0), .int (iI 0), .null, .int (iI 0), .int (iI 0), .int (iI 0), .int (iI 0), .int (iI 0), .int (iI 0), .int (iI 0), .int (iI 0), .int (iI 0), .int (iI 0), .int (iI 0), .int (iI 0)]))]) (nQ D (LNX9_init_4 cy b x1 x2 x3) (va_A [(b, .inr (4, [.int (iI 0), .int (iI 0), .null, .int (iI 0), .int (iI 0), .int (iI 0), .int (iI 0), .int (iI 0), .int (iI 0), .int (iI 0), .int (iI 0), .int (iI 0), .int (iI 0), .int (iI 0), .int (iI 0)]))] sz)) 0 0 (va_A [(b, .inr (4, [.int (iI 0), .int (iI 0), .null, .int (iI 0), .int (iI 0), .int (iI 0), .int (iI 0), .int (iI 0), .int (iI 0), .int (iI 0), .int (iI 0), .int (iI 0), .int (iI 0), .int (iI 0), .int (iI 0)]))] sz) := by
  refine met_n (y := yX9_init) (bytes := cX9_init) (maxL := 4) (rm := { frames := 1, cells := 0, slots := 0, locals := 20 }) (by decide) (Nat.le_of_ble_eq_true rfl) ?_
  intro p e R s m args below meth c ls A hr hk hn hRR F hA hK hP hD hS hl
  subst hRR
  have hi : meth.name = "<init>" := hn
  have hx := F.1
  have hb := F.2.1
  refine lv_aload_n hx hb dX9_init_0 rfl (lv_at hl 0 rfl) ?_
  refine n_obj F hl.1 tw2_67 (by decide) ⟨Nat.le_of_ble_eq_true rfl, Nat.le_of_ble_eq_true rfl⟩ dX9_init_1 ?_
  refine lv_aload_n hx hb dX9_init_4 rfl (lv_at hl 0 rfl) ?_
  refine q_bipush hx hb (by decide) dX9_init_5 ?_
  refine n_put (ci := 4) F hK hP hD hS rfl inU4 tyX4 tyX4_ok nmX4 0 rfl 3 (by decide) tw2_79 (fun _ h => h) (Or.inl rfl) hi rfl rfl (Nat.le_of_ble_eq_true rfl) dX9_init_7 (fun H locs hP hD hS => ?_)
  have hP : va_P D vwCl [(b, .inr (4, [.int (iI 0), .int (iI 0), .null, .int (iI 30), .int (iI 0), .int (iI 0), .int (iI 0), .int (iI 0), .int (iI 0), .int (iI 0), .int (iI 0), .int (iI 0), .int (iI 0), .int (iI 0), .int (iI 0)]))] H := hP
  have hD : va_D A [(b, .inr (4, [.int (iI 0), .int (iI 0), .null, .int (iI 30), .int (iI 0), .int (iI 0), .int (iI 0), .int (iI 0), .int (iI 0), .int (iI 0), .int (iI 0), .int (iI 0), .int (iI 0), .int (iI 0), .int (iI 0)]))] := hD
  refine lv_aload_n hx hb dX9_init_10 rfl (lv_at hl 0 rfl) ?_
  refine q_sipush hx hb (by decide) dX9_init_11 ?_
  refine n_put (ci := 4) F hK hP hD hS rfl inU4 tyX4 tyX4_ok nmX4 0 rfl 4 (by decide) tw2_82 (fun _ h => h) (Or.inl rfl) hi rfl rfl (Nat.le_of_ble_eq_true rfl) dX9_init_14 (fun H locs hP hD hS => ?_)
  have hP : va_P D vwCl [(b, .inr (4, [.int (iI 0), .int (iI 0), .null, .int (iI 30), .int (iI 1000), .int (iI 0), .int (iI 0), .int (iI 0), .int (iI 0), .int (iI 0), .int (iI 0), .int (iI 0), .int (iI 0), .int (iI 0), .int (iI 0)]))] H := hP
  have hD : va_D A [(b, .inr (4, [.int (iI 0), .int (iI 0), .null, .int (iI 30), .int (iI 1000), .int (iI 0), .int (iI 0), .int (iI 0), .int (iI 0), .int (iI 0), .int (iI 0), .int (iI 0), .int (iI 0), .int (iI 0), .int (iI 0)]))] := hD
  refine lv_aload_n hx hb dX9_init_17 rfl (lv_at hl 0 rfl) ?_
  refine q_sipush hx hb (by decide) dX9_init_18 ?_
  refine n_put (ci := 4) F hK hP hD hS rfl inU4 tyX4 tyX4_ok nmX4 0 rfl 5 (by decide) tw2_84 (fun _ h => h) (Or.inl rfl) hi rfl rfl (Nat.le_of_ble_eq_true rfl) dX9_init_21 (fun H locs hP hD hS => ?_)
  have hP : va_P D vwCl [(b, .inr (4, [.int (iI 0), .int (iI 0), .null, .int (iI 30), .int (iI 1000), .int (iI 1000), .int (iI 0), .int (iI 0), .int (iI 0), .int (iI 0), .int (iI 0), .int (iI 0), .int (iI 0), .int (iI 0), .int (iI 0)]))] H := hP
  have hD : va_D A [(b, .inr (4, [.int (iI 0), .int (iI 0), .null, .int (iI 30), .int (iI 1000), .int (iI 1000), .int (iI 0), .int (iI 0), .int (iI 0), .int (iI 0), .int (iI 0), .int (iI 0), .int (iI 0), .int (iI 0), .int (iI 0)]))] := hD
  refine lv_aload_n hx hb dX9_init_24 rfl (lv_at hl 0 rfl) ?_
  refine q_bipush hx hb (by decide) dX9_init_25 ?_
  refine n_put (ci := 4) F hK hP hD hS rfl inU4 tyX4 tyX4_ok nmX4 0 rfl 9 (by decide) tw2_97 (fun _ h => h) (Or.inl rfl) hi rfl rfl (Nat.le_of_ble_eq_true rfl) dX9_init_27 (fun H locs hP hD hS => ?_)
  have hP : va_P D vwCl [(b, .inr (4, [.int (iI 0), .int (iI 0), .null, .int (iI 30), .int (iI 1000), .int (iI 1000), .int (iI 0), .int (iI 0), .int (iI 0), .int (iI (-9)), .int (iI 0), .int (iI 0), .int (iI 0), .int (iI 0), .int (iI 0)]))] H := hP
  have hD : va_D A [(b, .inr (4, [.int (iI 0), .int (iI 0), .null, .int (iI 30), .int (iI 1000), .int (iI 1000), .int (iI 0), .int (iI 0), .int (iI 0), .int (iI (-9)), .int (iI 0), .int (iI 0), .int (iI 0), .int (iI 0), .int (iI 0)]))] := hD
  refine lv_aload_n hx hb dX9_init_30 rfl (lv_at hl 0 rfl) ?_
  refine lv_iload_n hx hb dX9_init_31 rfl (lv_at hl 1 rfl) ?_
  refine n_put (ci := 4) F hK hP hD hS rfl inU4 tyX4 tyX4_ok nmX4 0 rfl 0 (by decide) tw2_68 (fun _ h => h) (Or.inr ⟨rfl, rfl⟩) hi rfl rfl (Nat.le_of_ble_eq_true rfl) dX9_init_32 (fun H locs hP hD hS => ?_)
  have hP : va_P D vwCl [(b, .inr (4, [.int (iI x1), .int (iI 0), .null, .int (iI 30), .int (iI 1000), .int (iI 1000), .int (iI 0), .int (iI 0), .int (iI 0), .int (iI (-9)), .int (iI 0), .int (iI 0), .int (iI 0), .int (iI 0), .int (iI 0)]))] H := hP
  have hD : va_D A [(b, .inr (4, [.int (iI x1), .int (iI 0), .null, .int (iI 30), .int (iI 1000), .int (iI 1000), .int (iI 0), .int (iI 0), .int (iI 0), .int (iI (-9)), .int (iI 0), .int (iI 0), .int (iI 0), .int (iI 0), .int (iI 0)]))] := hD
  refine lv_aload_n hx hb dX9_init_35 rfl (lv_at hl 0 rfl) ?_
  refine lv_iload_n hx hb dX9_init_36 rfl (lv_at hl 2 rfl) ?_
  refine n_put (ci := 4) F hK hP hD hS rfl inU4 tyX4 tyX4_ok nmX4 0 rfl 1 (by decide) tw2_72 (fun _ h => h) (Or.inr ⟨rfl, rfl⟩) hi rfl rfl (Nat.le_of_ble_eq_true rfl) dX9_init_37 (fun H locs hP hD hS => ?_)
  have hP : va_P D vwCl [(b, .inr (4, [.int (iI x1), .int (iI x2), .null, .int (iI 30), .int (iI 1000), .int (iI 1000), .int (iI 0), .int (iI 0), .int (iI 0), .int (iI (-9)), .int (iI 0), .int (iI 0), .int (iI 0), .int (iI 0), .int (iI 0)]))] H := hP
  have hD : va_D A [(b, .inr (4, [.int (iI x1), .int (iI x2), .null, .int (iI 30), .int (iI 1000), .int (iI 1000), .int (iI 0), .int (iI 0), .int (iI 0), .int (iI (-9)), .int (iI 0), .int (iI 0), .int (iI 0), .int (iI 0), .int (iI 0)]))] := hD
  refine lv_aload_n hx hb dX9_init_40 rfl (lv_at hl 0 rfl) ?_
  refine lv_aload_n hx hb dX9_init_41 rfl (lv_at hl 3 rfl) ?_
  refine n_put (ci := 4) F hK hP hD hS rfl inU4 tyX4 tyX4_ok nmX4 0 rfl 2 (by decide) tw2_74 (fun _ h => h) (Or.inr ⟨rfl, rfl⟩) hi rfl rfl (Nat.le_of_ble_eq_true rfl) dX9_init_42 (fun H locs hP hD hS => ?_)
  have hP : va_P D vwCl [(b, .inr (4, [.int (iI x1), .int (iI x2), .ref x3, .int (iI 30), .int (iI 1000), .int (iI 1000), .int (iI 0), .int (iI 0), .int (iI 0), .int (iI (-9)), .int (iI 0), .int (iI 0), .int (iI 0), .int (iI 0), .int (iI 0)]))] H := hP
  have hD : va_D A [(b, .inr (4, [.int (iI x1), .int (iI x2), .ref x3, .int (iI 30), .int (iI 1000), .int (iI 1000), .int (iI 0), .int (iI 0), .int (iI 0), .int (iI (-9)), .int (iI 0), .int (iI 0), .int (iI 0), .int (iI 0), .int (iI 0)]))] := hD
  exact n_ret (L1 := LNX9_init_4 cy b x1 x2 x3) F hr hk (fun n => (([] : List Nat)).getD n 0) hP hD hS ⟨Nat.le_of_ble_eq_true rfl, Nat.le_of_ble_eq_true rfl⟩ dX9_init_45
abbrev LNX9_init_7 (cy : Nat → ClassId) (b : Nat) (x1 : Int) (x2 : Int) (x3 : Nat) (α : Nat → Nat) : va_W := [(b, .inr (7, [.int (iI x1), .int (iI x2), .ref x3, .int (iI 30), .int (iI 1000), .int (iI 1000), .int (iI 0), .int (iI 0), .int (iI 0), .int (iI (-9)), .int (iI 0), .int (iI 0), .int (iI 0), .int (iI 0)]))]
set_option maxRecDepth 100000 in
set_option maxHeartbeats 4000000 in
theorem nX9_init_7 {l : Launch} {D : va_G} {cy : Nat → ClassId} {b sz : Nat} {x1 : Int} {x2 : Int} {x3 : Nat} : Met l yX9_init (Cond.code yX9_init cX9_init 4 none :: uw) ({ frames := 1, cells := 0, slots := 0, locals := 20 } : Room) (nPc D cy b [.int (iI x1), .int (iI x2), .ref x3] sz [(b, .inr (7, [.int (iI 0), .int (iI 0), .null, .int (iI 0), .int (iI 0), .int (iI 0), .int (iI 0), .int (iI 0), .int (iI 0), .int (iI 0), .int (iI 0), .int (iI 0), .int (iI 0), .int (iI 0)]))]) (nQ D (LNX9_init_7 cy b x1 x2 x3) (va_A [(b, .inr (7, [.int (iI 0), .int (iI 0), .null, .int (iI 0), .int (iI 0), .int (iI 0), .int (iI 0), .int (iI 0), .int (iI 0), .int (iI 0), .int (iI 0), .int (iI 0), .int (iI 0), .int (iI 0)]))] sz)) 0 0 (va_A [(b, .inr (7, [.int (iI 0), .int (iI 0), .null, .int (iI 0), .int (iI 0), .int (iI 0), .int (iI 0), .int (iI 0), .int (iI 0), .int (iI 0), .int (iI 0), .int (iI 0), .int (iI 0), .int (iI 0)]))] sz) := by
  refine met_n (y := yX9_init) (bytes := cX9_init) (maxL := 4) (rm := { frames := 1, cells := 0, slots := 0, locals := 20 }) (by decide) (Nat.le_of_ble_eq_true rfl) ?_
  intro p e R s m args below meth c ls A hr hk hn hRR F hA hK hP hD hS hl
  subst hRR
  have hi : meth.name = "<init>" := hn
  have hx := F.1
  have hb := F.2.1
  refine lv_aload_n hx hb dX9_init_0 rfl (lv_at hl 0 rfl) ?_
  refine n_obj F hl.1 tw2_67 (by decide) ⟨Nat.le_of_ble_eq_true rfl, Nat.le_of_ble_eq_true rfl⟩ dX9_init_1 ?_
  refine lv_aload_n hx hb dX9_init_4 rfl (lv_at hl 0 rfl) ?_
  refine q_bipush hx hb (by decide) dX9_init_5 ?_
  refine n_put (ci := 7) F hK hP hD hS rfl inU7 tyX7 tyX7_ok nmX7 0 rfl 3 (by decide) tw2_79 (fun _ h => h) (Or.inl rfl) hi rfl rfl (Nat.le_of_ble_eq_true rfl) dX9_init_7 (fun H locs hP hD hS => ?_)
  have hP : va_P D vwCl [(b, .inr (7, [.int (iI 0), .int (iI 0), .null, .int (iI 30), .int (iI 0), .int (iI 0), .int (iI 0), .int (iI 0), .int (iI 0), .int (iI 0), .int (iI 0), .int (iI 0), .int (iI 0), .int (iI 0)]))] H := hP
  have hD : va_D A [(b, .inr (7, [.int (iI 0), .int (iI 0), .null, .int (iI 30), .int (iI 0), .int (iI 0), .int (iI 0), .int (iI 0), .int (iI 0), .int (iI 0), .int (iI 0), .int (iI 0), .int (iI 0), .int (iI 0)]))] := hD
  refine lv_aload_n hx hb dX9_init_10 rfl (lv_at hl 0 rfl) ?_
  refine q_sipush hx hb (by decide) dX9_init_11 ?_
  refine n_put (ci := 7) F hK hP hD hS rfl inU7 tyX7 tyX7_ok nmX7 0 rfl 4 (by decide) tw2_82 (fun _ h => h) (Or.inl rfl) hi rfl rfl (Nat.le_of_ble_eq_true rfl) dX9_init_14 (fun H locs hP hD hS => ?_)
  have hP : va_P D vwCl [(b, .inr (7, [.int (iI 0), .int (iI 0), .null, .int (iI 30), .int (iI 1000), .int (iI 0), .int (iI 0), .int (iI 0), .int (iI 0), .int (iI 0), .int (iI 0), .int (iI 0), .int (iI 0), .int (iI 0)]))] H := hP
  have hD : va_D A [(b, .inr (7, [.int (iI 0), .int (iI 0), .null, .int (iI 30), .int (iI 1000), .int (iI 0), .int (iI 0), .int (iI 0), .int (iI 0), .int (iI 0), .int (iI 0), .int (iI 0), .int (iI 0), .int (iI 0)]))] := hD
  refine lv_aload_n hx hb dX9_init_17 rfl (lv_at hl 0 rfl) ?_
  refine q_sipush hx hb (by decide) dX9_init_18 ?_
  refine n_put (ci := 7) F hK hP hD hS rfl inU7 tyX7 tyX7_ok nmX7 0 rfl 5 (by decide) tw2_84 (fun _ h => h) (Or.inl rfl) hi rfl rfl (Nat.le_of_ble_eq_true rfl) dX9_init_21 (fun H locs hP hD hS => ?_)
  have hP : va_P D vwCl [(b, .inr (7, [.int (iI 0), .int (iI 0), .null, .int (iI 30), .int (iI 1000), .int (iI 1000), .int (iI 0), .int (iI 0), .int (iI 0), .int (iI 0), .int (iI 0), .int (iI 0), .int (iI 0), .int (iI 0)]))] H := hP
  have hD : va_D A [(b, .inr (7, [.int (iI 0), .int (iI 0), .null, .int (iI 30), .int (iI 1000), .int (iI 1000), .int (iI 0), .int (iI 0), .int (iI 0), .int (iI 0), .int (iI 0), .int (iI 0), .int (iI 0), .int (iI 0)]))] := hD
  refine lv_aload_n hx hb dX9_init_24 rfl (lv_at hl 0 rfl) ?_
  refine q_bipush hx hb (by decide) dX9_init_25 ?_
  refine n_put (ci := 7) F hK hP hD hS rfl inU7 tyX7 tyX7_ok nmX7 0 rfl 9 (by decide) tw2_97 (fun _ h => h) (Or.inl rfl) hi rfl rfl (Nat.le_of_ble_eq_true rfl) dX9_init_27 (fun H locs hP hD hS => ?_)
  have hP : va_P D vwCl [(b, .inr (7, [.int (iI 0), .int (iI 0), .null, .int (iI 30), .int (iI 1000), .int (iI 1000), .int (iI 0), .int (iI 0), .int (iI 0), .int (iI (-9)), .int (iI 0), .int (iI 0), .int (iI 0), .int (iI 0)]))] H := hP
  have hD : va_D A [(b, .inr (7, [.int (iI 0), .int (iI 0), .null, .int (iI 30), .int (iI 1000), .int (iI 1000), .int (iI 0), .int (iI 0), .int (iI 0), .int (iI (-9)), .int (iI 0), .int (iI 0), .int (iI 0), .int (iI 0)]))] := hD
  refine lv_aload_n hx hb dX9_init_30 rfl (lv_at hl 0 rfl) ?_
  refine lv_iload_n hx hb dX9_init_31 rfl (lv_at hl 1 rfl) ?_
  refine n_put (ci := 7) F hK hP hD hS rfl inU7 tyX7 tyX7_ok nmX7 0 rfl 0 (by decide) tw2_68 (fun _ h => h) (Or.inr ⟨rfl, rfl⟩) hi rfl rfl (Nat.le_of_ble_eq_true rfl) dX9_init_32 (fun H locs hP hD hS => ?_)
  have hP : va_P D vwCl [(b, .inr (7, [.int (iI x1), .int (iI 0), .null, .int (iI 30), .int (iI 1000), .int (iI 1000), .int (iI 0), .int (iI 0), .int (iI 0), .int (iI (-9)), .int (iI 0), .int (iI 0), .int (iI 0), .int (iI 0)]))] H := hP
  have hD : va_D A [(b, .inr (7, [.int (iI x1), .int (iI 0), .null, .int (iI 30), .int (iI 1000), .int (iI 1000), .int (iI 0), .int (iI 0), .int (iI 0), .int (iI (-9)), .int (iI 0), .int (iI 0), .int (iI 0), .int (iI 0)]))] := hD
  refine lv_aload_n hx hb dX9_init_35 rfl (lv_at hl 0 rfl) ?_
  refine lv_iload_n hx hb dX9_init_36 rfl (lv_at hl 2 rfl) ?_
  refine n_put (ci := 7) F hK hP hD hS rfl inU7 tyX7 tyX7_ok nmX7 0 rfl 1 (by decide) tw2_72 (fun _ h => h) (Or.inr ⟨rfl, rfl⟩) hi rfl rfl (Nat.le_of_ble_eq_true rfl) dX9_init_37 (fun H locs hP hD hS => ?_)
  have hP : va_P D vwCl [(b, .inr (7, [.int (iI x1), .int (iI x2), .null, .int (iI 30), .int (iI 1000), .int (iI 1000), .int (iI 0), .int (iI 0), .int (iI 0), .int (iI (-9)), .int (iI 0), .int (iI 0), .int (iI 0), .int (iI 0)]))] H := hP
  have hD : va_D A [(b, .inr (7, [.int (iI x1), .int (iI x2), .null, .int (iI 30), .int (iI 1000), .int (iI 1000), .int (iI 0), .int (iI 0), .int (iI 0), .int (iI (-9)), .int (iI 0), .int (iI 0), .int (iI 0), .int (iI 0)]))] := hD
  refine lv_aload_n hx hb dX9_init_40 rfl (lv_at hl 0 rfl) ?_
  refine lv_aload_n hx hb dX9_init_41 rfl (lv_at hl 3 rfl) ?_
  refine n_put (ci := 7) F hK hP hD hS rfl inU7 tyX7 tyX7_ok nmX7 0 rfl 2 (by decide) tw2_74 (fun _ h => h) (Or.inr ⟨rfl, rfl⟩) hi rfl rfl (Nat.le_of_ble_eq_true rfl) dX9_init_42 (fun H locs hP hD hS => ?_)
  have hP : va_P D vwCl [(b, .inr (7, [.int (iI x1), .int (iI x2), .ref x3, .int (iI 30), .int (iI 1000), .int (iI 1000), .int (iI 0), .int (iI 0), .int (iI 0), .int (iI (-9)), .int (iI 0), .int (iI 0), .int (iI 0), .int (iI 0)]))] H := hP
  have hD : va_D A [(b, .inr (7, [.int (iI x1), .int (iI x2), .ref x3, .int (iI 30), .int (iI 1000), .int (iI 1000), .int (iI 0), .int (iI 0), .int (iI 0), .int (iI (-9)), .int (iI 0), .int (iI 0), .int (iI 0), .int (iI 0)]))] := hD
  exact n_ret (L1 := LNX9_init_7 cy b x1 x2 x3) F hr hk (fun n => (([] : List Nat)).getD n 0) hP hD hS ⟨Nat.le_of_ble_eq_true rfl, Nat.le_of_ble_eq_true rfl⟩ dX9_init_45
abbrev LNX9_init_0 (cy : Nat → ClassId) (b : Nat) (x1 : Int) (x2 : Int) (x3 : Nat) (α : Nat → Nat) : va_W := [(b, .inr (0, [.int (iI 0), .int (iI x1), .int (iI x2), .ref x3, .int (iI 30), .int (iI 1000), .int (iI 1000), .int (iI 0), .int (iI 0), .int (iI 0), .int (iI (-9)), .int (iI 0), .int (iI 0), .int (iI 0), .int (iI 0), .null, .int (iI 0)]))]
set_option maxRecDepth 100000 in
set_option maxHeartbeats 4000000 in
theorem nX9_init_0 {l : Launch} {D : va_G} {cy : Nat → ClassId} {b sz : Nat} {x1 : Int} {x2 : Int} {x3 : Nat} : Met l yX9_init (Cond.code yX9_init cX9_init 4 none :: uw) ({ frames := 1, cells := 0, slots := 0, locals := 20 } : Room) (nPc D cy b [.int (iI x1), .int (iI x2), .ref x3] sz [(b, .inr (0, [.int (iI 0), .int (iI 0), .int (iI 0), .null, .int (iI 0), .int (iI 0), .int (iI 0), .int (iI 0), .int (iI 0), .int (iI 0), .int (iI 0), .int (iI 0), .int (iI 0), .int (iI 0), .int (iI 0), .null, .int (iI 0)]))]) (nQ D (LNX9_init_0 cy b x1 x2 x3) (va_A [(b, .inr (0, [.int (iI 0), .int (iI 0), .int (iI 0), .null, .int (iI 0), .int (iI 0), .int (iI 0), .int (iI 0), .int (iI 0), .int (iI 0), .int (iI 0), .int (iI 0), .int (iI 0), .int (iI 0), .int (iI 0), .null, .int (iI 0)]))] sz)) 0 0 (va_A [(b, .inr (0, [.int (iI 0), .int (iI 0), .int (iI 0), .null, .int (iI 0), .int (iI 0), .int (iI 0), .int (iI 0), .int (iI 0), .int (iI 0), .int (iI 0), .int (iI 0), .int (iI 0), .int (iI 0), .int (iI 0), .null, .int (iI 0)]))] sz) := by
  refine met_n (y := yX9_init) (bytes := cX9_init) (maxL := 4) (rm := { frames := 1, cells := 0, slots := 0, locals := 20 }) (by decide) (Nat.le_of_ble_eq_true rfl) ?_
  intro p e R s m args below meth c ls A hr hk hn hRR F hA hK hP hD hS hl
  subst hRR
  have hi : meth.name = "<init>" := hn
  have hx := F.1
  have hb := F.2.1
  refine lv_aload_n hx hb dX9_init_0 rfl (lv_at hl 0 rfl) ?_
  refine n_obj F hl.1 tw2_67 (by decide) ⟨Nat.le_of_ble_eq_true rfl, Nat.le_of_ble_eq_true rfl⟩ dX9_init_1 ?_
  refine lv_aload_n hx hb dX9_init_4 rfl (lv_at hl 0 rfl) ?_
  refine q_bipush hx hb (by decide) dX9_init_5 ?_
  refine n_put (ci := 0) F hK hP hD hS rfl inU0 tyX0 tyX0_ok nmX0 0 rfl 4 (by decide) tw2_79 (fun _ h => h) (Or.inl rfl) hi rfl rfl (Nat.le_of_ble_eq_true rfl) dX9_init_7 (fun H locs hP hD hS => ?_)
  have hP : va_P D vwCl [(b, .inr (0, [.int (iI 0), .int (iI 0), .int (iI 0), .null, .int (iI 30), .int (iI 0), .int (iI 0), .int (iI 0), .int (iI 0), .int (iI 0), .int (iI 0), .int (iI 0), .int (iI 0), .int (iI 0), .int (iI 0), .null, .int (iI 0)]))] H := hP
  have hD : va_D A [(b, .inr (0, [.int (iI 0), .int (iI 0), .int (iI 0), .null, .int (iI 30), .int (iI 0), .int (iI 0), .int (iI 0), .int (iI 0), .int (iI 0), .int (iI 0), .int (iI 0), .int (iI 0), .int (iI 0), .int (iI 0), .null, .int (iI 0)]))] := hD
  refine lv_aload_n hx hb dX9_init_10 rfl (lv_at hl 0 rfl) ?_
  refine q_sipush hx hb (by decide) dX9_init_11 ?_
  refine n_put (ci := 0) F hK hP hD hS rfl inU0 tyX0 tyX0_ok nmX0 0 rfl 5 (by decide) tw2_82 (fun _ h => h) (Or.inl rfl) hi rfl rfl (Nat.le_of_ble_eq_true rfl) dX9_init_14 (fun H locs hP hD hS => ?_)
  have hP : va_P D vwCl [(b, .inr (0, [.int (iI 0), .int (iI 0), .int (iI 0), .null, .int (iI 30), .int (iI 1000), .int (iI 0), .int (iI 0), .int (iI 0), .int (iI 0), .int (iI 0), .int (iI 0), .int (iI 0), .int (iI 0), .int (iI 0), .null, .int (iI 0)]))] H := hP
  have hD : va_D A [(b, .inr (0, [.int (iI 0), .int (iI 0), .int (iI 0), .null, .int (iI 30), .int (iI 1000), .int (iI 0), .int (iI 0), .int (iI 0), .int (iI 0), .int (iI 0), .int (iI 0), .int (iI 0), .int (iI 0), .int (iI 0), .null, .int (iI 0)]))] := hD
  refine lv_aload_n hx hb dX9_init_17 rfl (lv_at hl 0 rfl) ?_
  refine q_sipush hx hb (by decide) dX9_init_18 ?_
  refine n_put (ci := 0) F hK hP hD hS rfl inU0 tyX0 tyX0_ok nmX0 0 rfl 6 (by decide) tw2_84 (fun _ h => h) (Or.inl rfl) hi rfl rfl (Nat.le_of_ble_eq_true rfl) dX9_init_21 (fun H locs hP hD hS => ?_)
  have hP : va_P D vwCl [(b, .inr (0, [.int (iI 0), .int (iI 0), .int (iI 0), .null, .int (iI 30), .int (iI 1000), .int (iI 1000), .int (iI 0), .int (iI 0), .int (iI 0), .int (iI 0), .int (iI 0), .int (iI 0), .int (iI 0), .int (iI 0), .null, .int (iI 0)]))] H := hP
  have hD : va_D A [(b, .inr (0, [.int (iI 0), .int (iI 0), .int (iI 0), .null, .int (iI 30), .int (iI 1000), .int (iI 1000), .int (iI 0), .int (iI 0), .int (iI 0), .int (iI 0), .int (iI 0), .int (iI 0), .int (iI 0), .int (iI 0), .null, .int (iI 0)]))] := hD
  refine lv_aload_n hx hb dX9_init_24 rfl (lv_at hl 0 rfl) ?_
  refine q_bipush hx hb (by decide) dX9_init_25 ?_
  refine n_put (ci := 0) F hK hP hD hS rfl inU0 tyX0 tyX0_ok nmX0 0 rfl 10 (by decide) tw2_97 (fun _ h => h) (Or.inl rfl) hi rfl rfl (Nat.le_of_ble_eq_true rfl) dX9_init_27 (fun H locs hP hD hS => ?_)
  have hP : va_P D vwCl [(b, .inr (0, [.int (iI 0), .int (iI 0), .int (iI 0), .null, .int (iI 30), .int (iI 1000), .int (iI 1000), .int (iI 0), .int (iI 0), .int (iI 0), .int (iI (-9)), .int (iI 0), .int (iI 0), .int (iI 0), .int (iI 0), .null, .int (iI 0)]))] H := hP
  have hD : va_D A [(b, .inr (0, [.int (iI 0), .int (iI 0), .int (iI 0), .null, .int (iI 30), .int (iI 1000), .int (iI 1000), .int (iI 0), .int (iI 0), .int (iI 0), .int (iI (-9)), .int (iI 0), .int (iI 0), .int (iI 0), .int (iI 0), .null, .int (iI 0)]))] := hD
  refine lv_aload_n hx hb dX9_init_30 rfl (lv_at hl 0 rfl) ?_
  refine lv_iload_n hx hb dX9_init_31 rfl (lv_at hl 1 rfl) ?_
  refine n_put (ci := 0) F hK hP hD hS rfl inU0 tyX0 tyX0_ok nmX0 0 rfl 1 (by decide) tw2_68 (fun _ h => h) (Or.inr ⟨rfl, rfl⟩) hi rfl rfl (Nat.le_of_ble_eq_true rfl) dX9_init_32 (fun H locs hP hD hS => ?_)
  have hP : va_P D vwCl [(b, .inr (0, [.int (iI 0), .int (iI x1), .int (iI 0), .null, .int (iI 30), .int (iI 1000), .int (iI 1000), .int (iI 0), .int (iI 0), .int (iI 0), .int (iI (-9)), .int (iI 0), .int (iI 0), .int (iI 0), .int (iI 0), .null, .int (iI 0)]))] H := hP
  have hD : va_D A [(b, .inr (0, [.int (iI 0), .int (iI x1), .int (iI 0), .null, .int (iI 30), .int (iI 1000), .int (iI 1000), .int (iI 0), .int (iI 0), .int (iI 0), .int (iI (-9)), .int (iI 0), .int (iI 0), .int (iI 0), .int (iI 0), .null, .int (iI 0)]))] := hD
  refine lv_aload_n hx hb dX9_init_35 rfl (lv_at hl 0 rfl) ?_
  refine lv_iload_n hx hb dX9_init_36 rfl (lv_at hl 2 rfl) ?_
  refine n_put (ci := 0) F hK hP hD hS rfl inU0 tyX0 tyX0_ok nmX0 0 rfl 2 (by decide) tw2_72 (fun _ h => h) (Or.inr ⟨rfl, rfl⟩) hi rfl rfl (Nat.le_of_ble_eq_true rfl) dX9_init_37 (fun H locs hP hD hS => ?_)
  have hP : va_P D vwCl [(b, .inr (0, [.int (iI 0), .int (iI x1), .int (iI x2), .null, .int (iI 30), .int (iI 1000), .int (iI 1000), .int (iI 0), .int (iI 0), .int (iI 0), .int (iI (-9)), .int (iI 0), .int (iI 0), .int (iI 0), .int (iI 0), .null, .int (iI 0)]))] H := hP
  have hD : va_D A [(b, .inr (0, [.int (iI 0), .int (iI x1), .int (iI x2), .null, .int (iI 30), .int (iI 1000), .int (iI 1000), .int (iI 0), .int (iI 0), .int (iI 0), .int (iI (-9)), .int (iI 0), .int (iI 0), .int (iI 0), .int (iI 0), .null, .int (iI 0)]))] := hD
  refine lv_aload_n hx hb dX9_init_40 rfl (lv_at hl 0 rfl) ?_
  refine lv_aload_n hx hb dX9_init_41 rfl (lv_at hl 3 rfl) ?_
  refine n_put (ci := 0) F hK hP hD hS rfl inU0 tyX0 tyX0_ok nmX0 0 rfl 3 (by decide) tw2_74 (fun _ h => h) (Or.inr ⟨rfl, rfl⟩) hi rfl rfl (Nat.le_of_ble_eq_true rfl) dX9_init_42 (fun H locs hP hD hS => ?_)
  have hP : va_P D vwCl [(b, .inr (0, [.int (iI 0), .int (iI x1), .int (iI x2), .ref x3, .int (iI 30), .int (iI 1000), .int (iI 1000), .int (iI 0), .int (iI 0), .int (iI 0), .int (iI (-9)), .int (iI 0), .int (iI 0), .int (iI 0), .int (iI 0), .null, .int (iI 0)]))] H := hP
  have hD : va_D A [(b, .inr (0, [.int (iI 0), .int (iI x1), .int (iI x2), .ref x3, .int (iI 30), .int (iI 1000), .int (iI 1000), .int (iI 0), .int (iI 0), .int (iI 0), .int (iI (-9)), .int (iI 0), .int (iI 0), .int (iI 0), .int (iI 0), .null, .int (iI 0)]))] := hD
  exact n_ret (L1 := LNX9_init_0 cy b x1 x2 x3) F hr hk (fun n => (([] : List Nat)).getD n 0) hP hD hS ⟨Nat.le_of_ble_eq_true rfl, Nat.le_of_ble_eq_true rfl⟩ dX9_init_45
abbrev LNX4_init_4 (cy : Nat → ClassId) (b : Nat) (x1 : Int) (x2 : Int) (x3 : Nat) (α : Nat → Nat) : va_W := [(b, .inr (4, [.int (iI x1), .int (iI x2), .ref x3, .int (iI 30), .int (iI 1000), .int (iI 1000), .int (iI 0), .int (iI 0), .int (iI 0), .int (iI (-9)), .int (iI 0), .int (iI 0), .int (iI 0), .int (iI 0), .int (iI 0)]))]
set_option maxRecDepth 100000 in
set_option maxHeartbeats 4000000 in
theorem nX4_init_4 {l : Launch} {D : va_G} {cy : Nat → ClassId} {b sz : Nat} {x1 : Int} {x2 : Int} {x3 : Nat} : Met l yX4_init (Cond.code yX4_init cX4_init 4 none :: uw) ({ frames := 2, cells := 0, slots := 0, locals := 43 } : Room) (nPc D cy b [.int (iI x1), .int (iI x2), .ref x3] sz [(b, .inr (4, [.int (iI 0), .int (iI 0), .null, .int (iI 0), .int (iI 0), .int (iI 0), .int (iI 0), .int (iI 0), .int (iI 0), .int (iI 0), .int (iI 0), .int (iI 0), .int (iI 0), .int (iI 0), .int (iI 0)]))]) (nQ D (LNX4_init_4 cy b x1 x2 x3) (va_A [(b, .inr (4, [.int (iI 0), .int (iI 0), .null, .int (iI 0), .int (iI 0), .int (iI 0), .int (iI 0), .int (iI 0), .int (iI 0), .int (iI 0), .int (iI 0), .int (iI 0), .int (iI 0), .int (iI 0), .int (iI 0)]))] sz)) 0 0 (va_A [(b, .inr (4, [.int (iI 0), .int (iI 0), .null, .int (iI 0), .int (iI 0), .int (iI 0), .int (iI 0), .int (iI 0), .int (iI 0), .int (iI 0), .int (iI 0), .int (iI 0), .int (iI 0), .int (iI 0), .int (iI 0)]))] sz) := by
  refine met_n (y := yX4_init) (bytes := cX4_init) (maxL := 4) (rm := { frames := 2, cells := 0, slots := 0, locals := 43 }) (by decide) (Nat.le_of_ble_eq_true rfl) ?_
  intro p e R s m args below meth c ls A hr hk hn hRR F hA hK hP hD hS hl
  subst hRR
  have hi : meth.name = "<init>" := hn
  have hx := F.1
  have hb := F.2.1
  refine lv_aload_n hx hb dX4_init_0 rfl (lv_at hl 0 rfl) ?_
  refine lv_iload_n hx hb dX4_init_1 rfl (lv_at hl 1 rfl) ?_
  refine lv_iload_n hx hb dX4_init_2 rfl (lv_at hl 2 rfl) ?_
  refine lv_aload_n hx hb dX4_init_3 rfl (lv_at hl 3 rfl) ?_
  refine n_call (ws := []) (rest := []) F (nX9_init_4 (cy := cy) (b := b) (x1 := x1) (x2 := x2) (x3 := x3)) 3 tw2_66 tw1_11 tw2_65 tw2_171 rfl hdX9_init ⟨Nat.le_of_ble_eq_true rfl, Nat.le_of_ble_eq_true rfl⟩ hA hK hP hD hS rfl hl.1 rfl (Nat.le_of_ble_eq_true rfl) dX4_init_4 ⟨Nat.le_of_ble_eq_true rfl, Nat.le_of_ble_eq_true rfl⟩ (fun α5 H locs hP hD hS => ?_)
  have hP : va_P D vwCl [(b, .inr (4, [.int (iI x1), .int (iI x2), .ref x3, .int (iI 30), .int (iI 1000), .int (iI 1000), .int (iI 0), .int (iI 0), .int (iI 0), .int (iI (-9)), .int (iI 0), .int (iI 0), .int (iI 0), .int (iI 0), .int (iI 0)]))] H := hP
  have hD : va_D A [(b, .inr (4, [.int (iI x1), .int (iI x2), .ref x3, .int (iI 30), .int (iI 1000), .int (iI 1000), .int (iI 0), .int (iI 0), .int (iI 0), .int (iI (-9)), .int (iI 0), .int (iI 0), .int (iI 0), .int (iI 0), .int (iI 0)]))] := hD
  exact n_ret (L1 := LNX4_init_4 cy b x1 x2 x3) F hr hk (fun n => (([] : List Nat)).getD n 0) hP hD hS ⟨Nat.le_of_ble_eq_true rfl, Nat.le_of_ble_eq_true rfl⟩ dX4_init_7
abbrev LNX4_init_0 (cy : Nat → ClassId) (b : Nat) (x1 : Int) (x2 : Int) (x3 : Nat) (α : Nat → Nat) : va_W := [(b, .inr (0, [.int (iI 0), .int (iI x1), .int (iI x2), .ref x3, .int (iI 30), .int (iI 1000), .int (iI 1000), .int (iI 0), .int (iI 0), .int (iI 0), .int (iI (-9)), .int (iI 0), .int (iI 0), .int (iI 0), .int (iI 0), .null, .int (iI 0)]))]
set_option maxRecDepth 100000 in
set_option maxHeartbeats 4000000 in
theorem nX4_init_0 {l : Launch} {D : va_G} {cy : Nat → ClassId} {b sz : Nat} {x1 : Int} {x2 : Int} {x3 : Nat} : Met l yX4_init (Cond.code yX4_init cX4_init 4 none :: uw) ({ frames := 2, cells := 0, slots := 0, locals := 43 } : Room) (nPc D cy b [.int (iI x1), .int (iI x2), .ref x3] sz [(b, .inr (0, [.int (iI 0), .int (iI 0), .int (iI 0), .null, .int (iI 0), .int (iI 0), .int (iI 0), .int (iI 0), .int (iI 0), .int (iI 0), .int (iI 0), .int (iI 0), .int (iI 0), .int (iI 0), .int (iI 0), .null, .int (iI 0)]))]) (nQ D (LNX4_init_0 cy b x1 x2 x3) (va_A [(b, .inr (0, [.int (iI 0), .int (iI 0), .int (iI 0), .null, .int (iI 0), .int (iI 0), .int (iI 0), .int (iI 0), .int (iI 0), .int (iI 0), .int (iI 0), .int (iI 0), .int (iI 0), .int (iI 0), .int (iI 0), .null, .int (iI 0)]))] sz)) 0 0 (va_A [(b, .inr (0, [.int (iI 0), .int (iI 0), .int (iI 0), .null, .int (iI 0), .int (iI 0), .int (iI 0), .int (iI 0), .int (iI 0), .int (iI 0), .int (iI 0), .int (iI 0), .int (iI 0), .int (iI 0), .int (iI 0), .null, .int (iI 0)]))] sz) := by
  refine met_n (y := yX4_init) (bytes := cX4_init) (maxL := 4) (rm := { frames := 2, cells := 0, slots := 0, locals := 43 }) (by decide) (Nat.le_of_ble_eq_true rfl) ?_
  intro p e R s m args below meth c ls A hr hk hn hRR F hA hK hP hD hS hl
  subst hRR
  have hi : meth.name = "<init>" := hn
  have hx := F.1
  have hb := F.2.1
  refine lv_aload_n hx hb dX4_init_0 rfl (lv_at hl 0 rfl) ?_
  refine lv_iload_n hx hb dX4_init_1 rfl (lv_at hl 1 rfl) ?_
  refine lv_iload_n hx hb dX4_init_2 rfl (lv_at hl 2 rfl) ?_
  refine lv_aload_n hx hb dX4_init_3 rfl (lv_at hl 3 rfl) ?_
  refine n_call (ws := []) (rest := []) F (nX9_init_0 (cy := cy) (b := b) (x1 := x1) (x2 := x2) (x3 := x3)) 3 tw2_66 tw1_11 tw2_65 tw2_171 rfl hdX9_init ⟨Nat.le_of_ble_eq_true rfl, Nat.le_of_ble_eq_true rfl⟩ hA hK hP hD hS rfl hl.1 rfl (Nat.le_of_ble_eq_true rfl) dX4_init_4 ⟨Nat.le_of_ble_eq_true rfl, Nat.le_of_ble_eq_true rfl⟩ (fun α5 H locs hP hD hS => ?_)
  have hP : va_P D vwCl [(b, .inr (0, [.int (iI 0), .int (iI x1), .int (iI x2), .ref x3, .int (iI 30), .int (iI 1000), .int (iI 1000), .int (iI 0), .int (iI 0), .int (iI 0), .int (iI (-9)), .int (iI 0), .int (iI 0), .int (iI 0), .int (iI 0), .null, .int (iI 0)]))] H := hP
  have hD : va_D A [(b, .inr (0, [.int (iI 0), .int (iI x1), .int (iI x2), .ref x3, .int (iI 30), .int (iI 1000), .int (iI 1000), .int (iI 0), .int (iI 0), .int (iI 0), .int (iI (-9)), .int (iI 0), .int (iI 0), .int (iI 0), .int (iI 0), .null, .int (iI 0)]))] := hD
  exact n_ret (L1 := LNX4_init_0 cy b x1 x2 x3) F hr hk (fun n => (([] : List Nat)).getD n 0) hP hD hS ⟨Nat.le_of_ble_eq_true rfl, Nat.le_of_ble_eq_true rfl⟩ dX4_init_7
abbrev LNX7_init_7 (cy : Nat → ClassId) (b : Nat) (x1 : Int) (x2 : Nat) (α : Nat → Nat) : va_W := [(b, .inr (7, [.int (iI x1), .int (iI 2), .ref x2, .int (iI 30), .int (iI 1000), .int (iI 1000), .int (iI 0), .int (iI 0), .int (iI 0), .int (iI (-9)), .int (iI 0), .int (iI 0), .int (iI 0), .int (iI 0)]))]
set_option maxRecDepth 100000 in
set_option maxHeartbeats 4000000 in
theorem nX7_init_7 {l : Launch} {D : va_G} {cy : Nat → ClassId} {b sz : Nat} {x1 : Int} {x2 : Nat} : Met l yX7_init (Cond.code yX7_init cX7_init 3 none :: uw) ({ frames := 2, cells := 0, slots := 0, locals := 43 } : Room) (nPc D cy b [.int (iI x1), .ref x2] sz [(b, .inr (7, [.int (iI 0), .int (iI 0), .null, .int (iI 0), .int (iI 0), .int (iI 0), .int (iI 0), .int (iI 0), .int (iI 0), .int (iI 0), .int (iI 0), .int (iI 0), .int (iI 0), .int (iI 0)]))]) (nQ D (LNX7_init_7 cy b x1 x2) (va_A [(b, .inr (7, [.int (iI 0), .int (iI 0), .null, .int (iI 0), .int (iI 0), .int (iI 0), .int (iI 0), .int (iI 0), .int (iI 0), .int (iI 0), .int (iI 0), .int (iI 0), .int (iI 0), .int (iI 0)]))] sz)) 0 0 (va_A [(b, .inr (7, [.int (iI 0), .int (iI 0), .null, .int (iI 0), .int (iI 0), .int (iI 0), .int (iI 0), .int (iI 0), .int (iI 0), .int (iI 0), .int (iI 0), .int (iI 0), .int (iI 0), .int (iI 0)]))] sz) := by
  refine met_n (y := yX7_init) (bytes := cX7_init) (maxL := 3) (rm := { frames := 2, cells := 0, slots := 0, locals := 43 }) (by decide) (Nat.le_of_ble_eq_true rfl) ?_
  intro p e R s m args below meth c ls A hr hk hn hRR F hA hK hP hD hS hl
  subst hRR
  have hi : meth.name = "<init>" := hn
  have hx := F.1
  have hb := F.2.1
  refine lv_aload_n hx hb dX7_init_0 rfl (lv_at hl 0 rfl) ?_
  refine lv_iload_n hx hb dX7_init_1 rfl (lv_at hl 1 rfl) ?_
  refine q_iconst hx hb dX7_init_2 ?_
  refine lv_aload_n hx hb dX7_init_3 rfl (lv_at hl 2 rfl) ?_
  refine n_call (ws := []) (rest := []) F (nX9_init_7 (cy := cy) (b := b) (x1 := x1) (x2 := 2) (x3 := x2)) 3 tw2_66 tw1_11 tw2_65 tw2_201 rfl hdX9_init ⟨Nat.le_of_ble_eq_true rfl, Nat.le_of_ble_eq_true rfl⟩ hA hK hP hD hS rfl hl.1 rfl (Nat.le_of_ble_eq_true rfl) dX7_init_4 ⟨Nat.le_of_ble_eq_true rfl, Nat.le_of_ble_eq_true rfl⟩ (fun α5 H locs hP hD hS => ?_)
  have hP : va_P D vwCl [(b, .inr (7, [.int (iI x1), .int (iI 2), .ref x2, .int (iI 30), .int (iI 1000), .int (iI 1000), .int (iI 0), .int (iI 0), .int (iI 0), .int (iI (-9)), .int (iI 0), .int (iI 0), .int (iI 0), .int (iI 0)]))] H := hP
  have hD : va_D A [(b, .inr (7, [.int (iI x1), .int (iI 2), .ref x2, .int (iI 30), .int (iI 1000), .int (iI 1000), .int (iI 0), .int (iI 0), .int (iI 0), .int (iI (-9)), .int (iI 0), .int (iI 0), .int (iI 0), .int (iI 0)]))] := hD
  exact n_ret (L1 := LNX7_init_7 cy b x1 x2) F hr hk (fun n => (([] : List Nat)).getD n 0) hP hD hS ⟨Nat.le_of_ble_eq_true rfl, Nat.le_of_ble_eq_true rfl⟩ dX7_init_7
abbrev LNX0_init_0 (cy : Nat → ClassId) (b : Nat) (x1 : Int) (x2 : Nat) (x3 : Nat) (α : Nat → Nat) : va_W := [(b, .inr (0, [.int (iI 0), .int (iI x1), .int (iI 3), .ref x2, .int (iI 30), .int (iI 1000), .int (iI 1000), .int (iI 0), .int (iI 0), .int (iI 0), .int (iI (-9)), .int (iI 0), .int (iI 0), .int (iI 0), .int (iI 0), .ref x3, .int (iI 0)]))]
set_option maxRecDepth 100000 in
set_option maxHeartbeats 4000000 in
theorem nX0_init_0 {l : Launch} {D : va_G} {cy : Nat → ClassId} {b sz : Nat} {x1 : Int} {x2 : Nat} {x3 : Nat} : Met l yX0_init (Cond.code yX0_init cX0_init 4 none :: uw) ({ frames := 3, cells := 0, slots := 0, locals := 66 } : Room) (nPc D cy b [.int (iI x1), .ref x2, .ref x3] sz [(b, .inr (0, [.int (iI 0), .int (iI 0), .int (iI 0), .null, .int (iI 0), .int (iI 0), .int (iI 0), .int (iI 0), .int (iI 0), .int (iI 0), .int (iI 0), .int (iI 0), .int (iI 0), .int (iI 0), .int (iI 0), .null, .int (iI 0)]))]) (nQ D (LNX0_init_0 cy b x1 x2 x3) (va_A [(b, .inr (0, [.int (iI 0), .int (iI 0), .int (iI 0), .null, .int (iI 0), .int (iI 0), .int (iI 0), .int (iI 0), .int (iI 0), .int (iI 0), .int (iI 0), .int (iI 0), .int (iI 0), .int (iI 0), .int (iI 0), .null, .int (iI 0)]))] sz)) 0 0 (va_A [(b, .inr (0, [.int (iI 0), .int (iI 0), .int (iI 0), .null, .int (iI 0), .int (iI 0), .int (iI 0), .int (iI 0), .int (iI 0), .int (iI 0), .int (iI 0), .int (iI 0), .int (iI 0), .int (iI 0), .int (iI 0), .null, .int (iI 0)]))] sz) := by
  refine met_n (y := yX0_init) (bytes := cX0_init) (maxL := 4) (rm := { frames := 3, cells := 0, slots := 0, locals := 66 }) (by decide) (Nat.le_of_ble_eq_true rfl) ?_
  intro p e R s m args below meth c ls A hr hk hn hRR F hA hK hP hD hS hl
  subst hRR
  have hi : meth.name = "<init>" := hn
  have hx := F.1
  have hb := F.2.1
  refine lv_aload_n hx hb dX0_init_0 rfl (lv_at hl 0 rfl) ?_
  refine lv_iload_n hx hb dX0_init_1 rfl (lv_at hl 1 rfl) ?_
  refine q_iconst hx hb dX0_init_2 ?_
  refine lv_aload_n hx hb dX0_init_3 rfl (lv_at hl 2 rfl) ?_
  refine n_call (ws := []) (rest := []) F (nX4_init_0 (cy := cy) (b := b) (x1 := x1) (x2 := 3) (x3 := x2)) 3 tw2_170 tw1_12 tw2_169 tw2_226 rfl hdX4_init ⟨Nat.le_of_ble_eq_true rfl, Nat.le_of_ble_eq_true rfl⟩ hA hK hP hD hS rfl hl.1 rfl (Nat.le_of_ble_eq_true rfl) dX0_init_4 ⟨Nat.le_of_ble_eq_true rfl, Nat.le_of_ble_eq_true rfl⟩ (fun α5 H locs hP hD hS => ?_)
  have hP : va_P D vwCl [(b, .inr (0, [.int (iI 0), .int (iI x1), .int (iI 3), .ref x2, .int (iI 30), .int (iI 1000), .int (iI 1000), .int (iI 0), .int (iI 0), .int (iI 0), .int (iI (-9)), .int (iI 0), .int (iI 0), .int (iI 0), .int (iI 0), .null, .int (iI 0)]))] H := hP
  have hD : va_D A [(b, .inr (0, [.int (iI 0), .int (iI x1), .int (iI 3), .ref x2, .int (iI 30), .int (iI 1000), .int (iI 1000), .int (iI 0), .int (iI 0), .int (iI 0), .int (iI (-9)), .int (iI 0), .int (iI 0), .int (iI 0), .int (iI 0), .null, .int (iI 0)]))] := hD
  refine lv_aload_n hx hb dX0_init_7 rfl (lv_at hl 0 rfl) ?_
  refine lv_aload_n hx hb dX0_init_8 rfl (lv_at hl 3 rfl) ?_
  refine n_put (ci := 0) F hK hP hD hS rfl inU0 tyX0 tyX0_ok nmX0 0 rfl 15 (by decide) tw2_227 (fun _ h => h) (Or.inr ⟨rfl, rfl⟩) hi rfl rfl (Nat.le_of_ble_eq_true rfl) dX0_init_9 (fun H locs hP hD hS => ?_)
  have hP : va_P D vwCl [(b, .inr (0, [.int (iI 0), .int (iI x1), .int (iI 3), .ref x2, .int (iI 30), .int (iI 1000), .int (iI 1000), .int (iI 0), .int (iI 0), .int (iI 0), .int (iI (-9)), .int (iI 0), .int (iI 0), .int (iI 0), .int (iI 0), .ref x3, .int (iI 0)]))] H := hP
  have hD : va_D A [(b, .inr (0, [.int (iI 0), .int (iI x1), .int (iI 3), .ref x2, .int (iI 30), .int (iI 1000), .int (iI 1000), .int (iI 0), .int (iI 0), .int (iI 0), .int (iI (-9)), .int (iI 0), .int (iI 0), .int (iI 0), .int (iI 0), .ref x3, .int (iI 0)]))] := hD
  exact n_ret (L1 := LNX0_init_0 cy b x1 x2 x3) F hr hk (fun n => (([] : List Nat)).getD n 0) hP hD hS ⟨Nat.le_of_ble_eq_true rfl, Nat.le_of_ble_eq_true rfl⟩ dX0_init_12
