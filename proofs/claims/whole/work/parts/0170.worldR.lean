theorem inU10_k : ∀ k, k < 14 → u_lay RX10 TX10 k ∈ uw := fun k hk => match k, hk with
  | 0, _ => tw1_220
  | 1, _ => tw1_222
  | 2, _ => tw1_224
  | 3, _ => tw1_226
  | 4, _ => tw1_228
  | 5, _ => tw1_230
  | 6, _ => tw1_232
  | 7, _ => tw1_234
  | 8, _ => tw1_236
  | 9, _ => tw1_238
  | 10, _ => tw2_0
  | 11, _ => tw2_2
  | 12, _ => tw2_4
  | 13, _ => tw2_6
  | k + 14, h => absurd h (by omega)
theorem inU10 : ∀ w ∈ u_ws RX10 TX10 14, w ∈ uw := fun w hw => by
  obtain ⟨k, hk, rfl⟩ := List.mem_map.mp hw
  exact inU10_k k (List.mem_range.mp hk)
theorem inU0_k : ∀ k, k < 17 → u_lay RX0 TX0 k ∈ uw := fun k hk => match k, hk with
  | 0, _ => tw2_235
  | 1, _ => tw2_236
  | 2, _ => tw2_237
  | 3, _ => tw2_238
  | 4, _ => tw2_239
  | 5, _ => tw3_0
  | 6, _ => tw3_1
  | 7, _ => tw3_2
  | 8, _ => tw3_3
  | 9, _ => tw3_4
  | 10, _ => tw3_5
  | 11, _ => tw3_6
  | 12, _ => tw3_7
  | 13, _ => tw3_8
  | 14, _ => tw3_9
  | 15, _ => tw2_231
  | 16, _ => tw2_233
  | k + 17, h => absurd h (by omega)
theorem inU0 : ∀ w ∈ u_ws RX0 TX0 17, w ∈ uw := fun w hw => by
  obtain ⟨k, hk, rfl⟩ := List.mem_map.mp hw
  exact inU0_k k (List.mem_range.mp hk)
theorem inU1_k : ∀ k, k < 7 → u_lay RX1 TX1 k ∈ uw := fun k hk => match k, hk with
  | 0, _ => tw1_63
  | 1, _ => tw1_65
  | 2, _ => tw1_67
  | 3, _ => tw1_69
  | 4, _ => tw1_71
  | 5, _ => tw1_73
  | 6, _ => tw1_75
  | k + 7, h => absurd h (by omega)
theorem inU1 : ∀ w ∈ u_ws RX1 TX1 7, w ∈ uw := fun w hw => by
  obtain ⟨k, hk, rfl⟩ := List.mem_map.mp hw
  exact inU1_k k (List.mem_range.mp hk)
theorem inU2_k : ∀ k, k < 9 → u_lay RX2 TX2 k ∈ uw := fun k hk => match k, hk with
  | 0, _ => tw1_96
  | 1, _ => tw1_98
  | 2, _ => tw1_100
  | 3, _ => tw1_102
  | 4, _ => tw1_104
  | 5, _ => tw1_106
  | 6, _ => tw1_108
  | 7, _ => tw1_110
  | 8, _ => tw1_112
  | k + 9, h => absurd h (by omega)
theorem inU2 : ∀ w ∈ u_ws RX2 TX2 9, w ∈ uw := fun w hw => by
  obtain ⟨k, hk, rfl⟩ := List.mem_map.mp hw
  exact inU2_k k (List.mem_range.mp hk)
theorem inU3_k : ∀ k, k < 6 → u_lay RX3 TX3 k ∈ uw := fun k hk => match k, hk with
  | 0, _ => tw1_149
  | 1, _ => tw1_151
  | 2, _ => tw1_153
  | 3, _ => tw1_155
  | 4, _ => tw1_157
  | 5, _ => tw1_159
  | k + 6, h => absurd h (by omega)
theorem inU3 : ∀ w ∈ u_ws RX3 TX3 6, w ∈ uw := fun w hw => by
  obtain ⟨k, hk, rfl⟩ := List.mem_map.mp hw
  exact inU3_k k (List.mem_range.mp hk)
theorem inU4_k : ∀ k, k < 15 → u_lay RX4 TX4 k ∈ uw := fun k hk => match k, hk with
  | 0, _ => tw2_177
  | 1, _ => tw2_178
  | 2, _ => tw2_179
  | 3, _ => tw2_180
  | 4, _ => tw2_181
  | 5, _ => tw2_182
  | 6, _ => tw2_183
  | 7, _ => tw2_184
  | 8, _ => tw2_185
  | 9, _ => tw2_186
  | 10, _ => tw2_187
  | 11, _ => tw2_188
  | 12, _ => tw2_189
  | 13, _ => tw2_190
  | 14, _ => tw2_175
  | k + 15, h => absurd h (by omega)
theorem inU4 : ∀ w ∈ u_ws RX4 TX4 15, w ∈ uw := fun w hw => by
  obtain ⟨k, hk, rfl⟩ := List.mem_map.mp hw
  exact inU4_k k (List.mem_range.mp hk)
theorem inU5_k : ∀ k, k < 2 → u_lay RX5 TX5 k ∈ uw := fun k hk => match k, hk with
  | 0, _ => tw1_39
  | 1, _ => tw1_41
  | k + 2, h => absurd h (by omega)
theorem inU5 : ∀ w ∈ u_ws RX5 TX5 2, w ∈ uw := fun w hw => by
  obtain ⟨k, hk, rfl⟩ := List.mem_map.mp hw
  exact inU5_k k (List.mem_range.mp hk)
theorem inU6_k : ∀ k, k < 2 → u_lay RX6 TX6 k ∈ uw := fun k hk => match k, hk with
  | 0, _ => tw1_125
  | 1, _ => tw1_127
  | k + 2, h => absurd h (by omega)
theorem inU6 : ∀ w ∈ u_ws RX6 TX6 2, w ∈ uw := fun w hw => by
  obtain ⟨k, hk, rfl⟩ := List.mem_map.mp hw
  exact inU6_k k (List.mem_range.mp hk)
theorem inU7_k : ∀ k, k < 14 → u_lay RX7 TX7 k ∈ uw := fun k hk => match k, hk with
  | 0, _ => tw2_202
  | 1, _ => tw2_203
  | 2, _ => tw2_204
  | 3, _ => tw2_205
  | 4, _ => tw2_206
  | 5, _ => tw2_207
  | 6, _ => tw2_208
  | 7, _ => tw2_209
  | 8, _ => tw2_210
  | 9, _ => tw2_211
  | 10, _ => tw2_212
  | 11, _ => tw2_213
  | 12, _ => tw2_214
  | 13, _ => tw2_215
  | k + 14, h => absurd h (by omega)
theorem inU7 : ∀ w ∈ u_ws RX7 TX7 14, w ∈ uw := fun w hw => by
  obtain ⟨k, hk, rfl⟩ := List.mem_map.mp hw
  exact inU7_k k (List.mem_range.mp hk)
theorem inU8_k : ∀ k, k < 12 → u_lay RX8 TX8 k ∈ uw := fun k hk => match k, hk with
  | 0, _ => tw1_181
  | 1, _ => tw1_183
  | 2, _ => tw1_185
  | 3, _ => tw1_187
  | 4, _ => tw1_189
  | 5, _ => tw1_191
  | 6, _ => tw1_193
  | 7, _ => tw1_195
  | 8, _ => tw1_197
  | 9, _ => tw1_199
  | 10, _ => tw1_201
  | 11, _ => tw1_203
  | k + 12, h => absurd h (by omega)
theorem inU8 : ∀ w ∈ u_ws RX8 TX8 12, w ∈ uw := fun w hw => by
  obtain ⟨k, hk, rfl⟩ := List.mem_map.mp hw
  exact inU8_k k (List.mem_range.mp hk)
theorem inU9_k : ∀ k, k < 14 → u_lay RX9 TX9 k ∈ uw := fun k hk => match k, hk with
  | 0, _ => tw2_113
  | 1, _ => tw2_115
  | 2, _ => tw2_117
  | 3, _ => tw2_119
  | 4, _ => tw2_121
  | 5, _ => tw2_123
  | 6, _ => tw2_125
  | 7, _ => tw2_127
  | 8, _ => tw2_129
  | 9, _ => tw2_131
  | 10, _ => tw2_133
  | 11, _ => tw2_135
  | 12, _ => tw2_137
  | 13, _ => tw2_139
  | k + 14, h => absurd h (by omega)
theorem inU9 : ∀ w ∈ u_ws RX9 TX9 14, w ∈ uw := fun w hw => by
  obtain ⟨k, hk, rfl⟩ := List.mem_map.mp hw
  exact inU9_k k (List.mem_range.mp hk)
theorem inU11_k : ∀ k, k < 56 → u_lay RX11 TX11 k ∈ uw := fun k hk => match k, hk with
  | 0, _ => tw5_194
  | 1, _ => tw5_196
  | 2, _ => tw5_198
  | 3, _ => tw5_200
  | 4, _ => tw5_202
  | 5, _ => tw5_204
  | 6, _ => tw5_206
  | 7, _ => tw5_208
  | 8, _ => tw5_210
  | 9, _ => tw5_212
  | 10, _ => tw5_214
  | 11, _ => tw5_216
  | 12, _ => tw5_218
  | 13, _ => tw5_220
  | 14, _ => tw5_222
  | 15, _ => tw5_224
  | 16, _ => tw5_226
  | 17, _ => tw5_228
  | 18, _ => tw5_230
  | 19, _ => tw5_232
  | 20, _ => tw5_234
  | 21, _ => tw5_236
  | 22, _ => tw5_238
  | 23, _ => tw6_0
  | 24, _ => tw6_2
  | 25, _ => tw6_4
  | 26, _ => tw6_6
  | 27, _ => tw6_8
  | 28, _ => tw6_10
  | 29, _ => tw6_12
  | 30, _ => tw6_14
  | 31, _ => tw6_16
  | 32, _ => tw6_18
  | 33, _ => tw6_20
  | 34, _ => tw6_22
  | 35, _ => tw6_24
  | 36, _ => tw6_26
  | 37, _ => tw6_28
  | 38, _ => tw6_30
  | 39, _ => tw6_32
  | 40, _ => tw6_34
  | 41, _ => tw6_36
  | 42, _ => tw6_38
  | 43, _ => tw6_40
  | 44, _ => tw6_42
  | 45, _ => tw6_44
  | 46, _ => tw6_46
  | 47, _ => tw6_48
  | 48, _ => tw6_50
  | 49, _ => tw6_52
  | 50, _ => tw6_54
  | 51, _ => tw6_56
  | 52, _ => tw6_58
  | 53, _ => tw6_60
  | 54, _ => tw6_62
  | 55, _ => tw6_64
  | k + 56, h => absurd h (by omega)
theorem inU11 : ∀ w ∈ u_ws RX11 TX11 56, w ∈ uw := fun w hw => by
  obtain ⟨k, hk, rfl⟩ := List.mem_map.mp hw
  exact inU11_k k (List.mem_range.mp hk)
def lnR (k : Nat) : Nat := match k with
  | 1 => 6
  | 7 => 8
  | 8 => 384
  | 9 => 48
  | 11 => 16
  | 12 => 16
  | 13 => 384
  | 14 => 16
  | 15 => 16
  | 16 => 768
  | 17 => 16
  | 18 => 16
  | 19 => 16
  | 20 => 16
  | 21 => 16
  | 22 => 16
  | 23 => 16
  | 24 => 16
  | 25 => 16
  | 26 => 4
  | 27 => 4
  | 28 => 4
  | 29 => 4
  | 30 => 4
  | 31 => 4
  | 32 => 4
  | 33 => 4
  | 34 => 4
  | 35 => 8
  | 36 => 8
  | 37 => 4
  | 38 => 960
  | 39 => 144
  | 41 => 144
  | 47 => 3
  | 49 => 12
  | 51 => 4
  | 52 => 4
  | _ => 0
def tkR (k : Nat) : Nat := match k with
  | 1 => 0
  | 7 => 0
  | 8 => 0
  | 9 => 0
  | 11 => 0
  | 12 => 0
  | 13 => 0
  | 14 => 0
  | 15 => 0
  | 16 => 0
  | 17 => 0
  | 18 => 0
  | 19 => 0
  | 20 => 0
  | 21 => 0
  | 22 => 0
  | 23 => 0
  | 24 => 0
  | 25 => 2
  | 26 => 2
  | 27 => 0
  | 28 => 0
  | 29 => 0
  | 30 => 0
  | 31 => 2
  | 32 => 0
  | 33 => 0
  | 34 => 0
  | 35 => 0
  | 36 => 2
  | 37 => 0
  | 38 => 0
  | 39 => 0
  | 41 => 0
  | 47 => 0
  | 49 => 0
  | 51 => 0
  | 52 => 0
  | _ => 1
def cfR : WCF := fun cy ad k f _ => match k with
  | 0 => .inr (11, [.int (iI (f 0 0)), .ref (ad 1 0), .int (iI (f 2 0)), .long (lJ (f 3 0)), .long (lJ (f 4 0)), .int (iI (f 5 0)), .int (iI (f 6 0)), .ref (ad 7 0), .ref (ad 8 0), .ref (ad 9 0), .int (iI (f 10 0)), .ref (ad 11 0), .ref (ad 12 0), .ref (ad 13 0), .ref (ad 14 0), .ref (ad 15 0), .ref (ad 16 0), .ref (ad 17 0), .ref (ad 18 0), .ref (ad 19 0), .ref (ad 20 0), .ref (ad 21 0), .ref (ad 22 0), .ref (ad 23 0), .ref (ad 24 0), .ref (ad 25 0), .ref (ad 26 0), .ref (ad 27 0), .ref (ad 28 0), .ref (ad 29 0), .ref (ad 30 0), .ref (ad 31 0), .ref (ad 32 0), .ref (ad 33 0), .ref (ad 34 0), .ref (ad 35 0), .ref (ad 36 0), .ref (ad 37 0), .ref (ad 38 0), .ref (ad 39 0), .int (iI (f 40 0)), .ref (ad 41 0), .int (iI (f 42 0)), .int (iI (f 43 0)), .int (iI (f 44 0)), .int (iI (f 45 0)), .int (iI (f 46 0)), .ref (ad 47 0), .int (iI (f 48 0)), .ref (ad 49 0), .int (iI (f 50 0)), .ref (ad 51 0), .ref (ad 52 0), .long (lJ (f 53 0)), .long (lJ (f 54 0)), .int (iI (f 55 0))])
  | k + 1 => .inl (cy (tkR (k + 1)), lnR (k + 1), .inl (fun j => iI (f 0 (j : Int))))
def dmR : WDM := fun k _ i => i = 0 ∧ (k = 0 ∨ tkR k ≠ 1)
def tyR : WTY := fun cy => [(cy 0, .int), (cy 2, .boolean)]
def exR : State → Prop := fun _ => True
theorem hexR : EX exR := fun _ _ _ _ => trivial
abbrev wdR (D : va_G) (cy : Nat → ClassId) (ad : AD) (A : Nat → Prop) (μ : MM) (s : State) (H : Heap) : Prop := gwd dmR cfR tyR exR D cy ad A μ s H
theorem updI (f : Nat → Int → Int) {a v : Int} (h : 0 ≤ a) : upd (fun j : Nat => iI (f 0 (j : Int))) a.toNat (iI v) = fun j : Nat => iI (up2 f 0 a v 0 (j : Int)) := by
  funext j
  by_cases hj : j = a.toNat
  · subst hj
    have e : ((a.toNat : Nat) : Int) = a := Int.toNat_of_nonneg h
    simp [upd, up2, e]
  · have e : ¬ (j : Int) = a := by omega
    simp [upd, up2, hj, e]
section
variable {p : Program} {l : Launch} {e : Env} {R : Room} {s : State} {m : MethodId} {args : Array Value} {below : List Frame} {meth : Method} {c : Code} {H : Heap} {locs : List Loc} {cells slots : Nat} {Q : State → Prop} {cc : ByteArray} {pc nL idx : Nat} {ls : Array Slot} {rest : List Value}
variable {D : va_G} {cy : Nat → ClassId} {ad : AD} {A : Nat → Prop} {μ μ1 : MM}
theorem aR_ild (hx : p.tables.exec = Jvm.exec) (hb : c.code = cc) (hw : wdR D cy ad A μ s H) (k : Nat) (hk : tkR (k + 1) = 0) {L : Int} (hL : L = ((lnR (k + 1) : Nat) : Int)) (hL2 : L ≤ 2147483647) {a : Int} (h0 : 0 ≤ a) (h1 : a < L) (hdg : decode cc pc = .ok (.iaload, 1)) (kk : W p l e R s m args below meth c H locs cells slots Q (F0 m (pc + 1) ls (.int (iI (μ (k + 1) 0 a)) :: rest))) : W p l e R s m args below meth c H locs cells slots Q (F0 m pc ls (.int (iI a) :: .ref (ad (k + 1) 0) :: rest)) := g_iald (ty := tyR) hx hb hw (k := k + 1) (i := 0) ⟨rfl, Or.inr (by rw [hk]; decide)⟩ (cA := cy 0) (n := lnR (k + 1)) (by show (Sum.inl (cy (tkR (k + 1)), lnR (k + 1), Sum.inl _) : va_E) = _; rw [hk]) 0 rfl h0 (by omega) (by omega) (by show iI (μ (k + 1) 0 ((a.toNat : Nat) : Int)) = _; rw [Int.toNat_of_nonneg h0]) hdg kk
theorem aR_zld (hx : p.tables.exec = Jvm.exec) (hb : c.code = cc) (hw : wdR D cy ad A μ s H) (k : Nat) (hk : tkR (k + 1) = 2) {L : Int} (hL : L = ((lnR (k + 1) : Nat) : Int)) (hL2 : L ≤ 2147483647) {a : Int} (h0 : 0 ≤ a) (h1 : a < L) (hdg : decode cc pc = .ok (.baload, 1)) (kk : W p l e R s m args below meth c H locs cells slots Q (F0 m (pc + 1) ls (.int (iI (μ (k + 1) 0 a)) :: rest))) : W p l e R s m args below meth c H locs cells slots Q (F0 m pc ls (.int (iI a) :: .ref (ad (k + 1) 0) :: rest)) := g_zald (ty := tyR) hx hb hw (k := k + 1) (i := 0) ⟨rfl, Or.inr (by rw [hk]; decide)⟩ (cA := cy 2) (n := lnR (k + 1)) (by show (Sum.inl (cy (tkR (k + 1)), lnR (k + 1), Sum.inl _) : va_E) = _; rw [hk]) 1 rfl h0 (by omega) (by omega) (by show iI (μ (k + 1) 0 ((a.toNat : Nat) : Int)) = _; rw [Int.toNat_of_nonneg h0]) hdg kk
theorem aR_ist (hx : p.tables.exec = Jvm.exec) (hb : c.code = cc) (hw : wdR D cy ad A μ s H) (hS : va_S A s.heap H locs) (k : Nat) (hk : tkR (k + 1) = 0) {L : Int} (hL : L = ((lnR (k + 1) : Nat) : Int)) (hL2 : L ≤ 2147483647) {a v : Int} (h0 : 0 ≤ a) (h1 : a < L) (hμ : μ1 = ms μ (k + 1) 0 a v) (hdg : decode cc pc = .ok (.iastore, 1)) (kk : ∀ (H1 : Heap) (locs1 : List Loc), wdR D cy ad A μ1 s H1 → va_S A s.heap H1 locs1 → W p l e R s m args below meth c H1 locs1 cells slots Q (F0 m (pc + 1) ls rest)) : W p l e R s m args below meth c H locs cells slots Q (F0 m pc ls (.int (iI v) :: .int (iI a) :: .ref (ad (k + 1) 0) :: rest)) := by
  have hd : dmR (k + 1) (μ (k + 1)) 0 := ⟨rfl, Or.inr (by rw [hk]; decide)⟩
  refine g_iast (ty := tyR) hx hb hw hS hd (cA := cy 0) (n := lnR (k + 1)) (by show (Sum.inl (cy (tkR (k + 1)), lnR (k + 1), Sum.inl _) : va_E) = _; rw [hk]) 0 rfl h0 (by omega) (by omega) hdg (fun H1 locs1 h oq hS1 => kk H1 locs1 ?_ hS1)
  rw [hμ, ms_eq]
  refine hw.put hd oq ?_ (fun _ => Iff.rfl) (fun i hi q => absurd q.1 hi)
  show va_at D vwCl (ad (k + 1) 0, Sum.inl (cy (tkR (k + 1)), lnR (k + 1), Sum.inl _)) H1
  rw [hk]
  rw [updI (μ (k + 1)) h0] at h
  exact h
theorem aR_zst (hx : p.tables.exec = Jvm.exec) (hb : c.code = cc) (hw : wdR D cy ad A μ s H) (hS : va_S A s.heap H locs) (k : Nat) (hk : tkR (k + 1) = 2) {L : Int} (hL : L = ((lnR (k + 1) : Nat) : Int)) (hL2 : L ≤ 2147483647) {a v : Int} (h0 : 0 ≤ a) (h1 : a < L) (hbv : v = 0 ∨ v = 1) (hμ : μ1 = ms μ (k + 1) 0 a v) (hdg : decode cc pc = .ok (.bastore, 1)) (kk : ∀ (H1 : Heap) (locs1 : List Loc), wdR D cy ad A μ1 s H1 → va_S A s.heap H1 locs1 → W p l e R s m args below meth c H1 locs1 cells slots Q (F0 m (pc + 1) ls rest)) : W p l e R s m args below meth c H locs cells slots Q (F0 m pc ls (.int (iI v) :: .int (iI a) :: .ref (ad (k + 1) 0) :: rest)) := by
  have hd : dmR (k + 1) (μ (k + 1)) 0 := ⟨rfl, Or.inr (by rw [hk]; decide)⟩
  refine g_zast (ty := tyR) hx hb hw hS hd (cA := cy 2) (n := lnR (k + 1)) (by show (Sum.inl (cy (tkR (k + 1)), lnR (k + 1), Sum.inl _) : va_E) = _; rw [hk]) 1 rfl h0 (by omega) (by omega) hbv hdg (fun H1 locs1 h oq hS1 => kk H1 locs1 ?_ hS1)
  rw [hμ, ms_eq]
  refine hw.put hd oq ?_ (fun _ => Iff.rfl) (fun i hi q => absurd q.1 hi)
  show va_at D vwCl (ad (k + 1) 0, Sum.inl (cy (tkR (k + 1)), lnR (k + 1), Sum.inl _)) H1
  rw [hk]
  rw [updI (μ (k + 1)) h0] at h
  exact h
theorem gR_finding (F : CallFix p m c cc nL s args uw RX11) (hw : wdR D cy ad A μ s H) (hl : Cond.fieldLink RX11 idx "HammerTowersModel" "finding" "I" ∈ uw) (hdg : decode cc pc = .ok (.getfield idx, 3)) (kk : W p l e R s m args below meth c H locs cells slots Q (F0 m (pc + 3) ls (.int (iI (μ 0 0 0)) :: rest))) : W p l e R s m args below meth c H locs cells slots Q (F0 m pc ls (.ref (ad 0 0) :: rest)) := g_get F hw (k := 0) (i := 0) ⟨rfl, Or.inl rfl⟩ rfl rfl inU11 0 (by decide) hl (fun _ h => h) rfl hdg kk
theorem pR_finding (F : CallFix p m c cc nL s args uw RX11) (hw : wdR D cy ad A μ s H) (hS : va_S A s.heap H locs) (hl : Cond.fieldLink RX11 idx "HammerTowersModel" "finding" "I" ∈ uw) {v : Int} (hμ : μ1 = ms μ 0 0 0 v) (hdg : decode cc pc = .ok (.putfield idx, 3)) (kk : ∀ (H1 : Heap) (locs1 : List Loc), wdR D cy ad A μ1 s H1 → va_S A s.heap H1 locs1 → W p l e R s m args below meth c H1 locs1 cells slots Q (F0 m (pc + 3) ls rest)) : W p l e R s m args below meth c H locs cells slots Q (F0 m pc ls (.int (iI v) :: .ref (ad 0 0) :: rest)) := by
  have hd : dmR 0 (μ 0) 0 := ⟨rfl, Or.inl rfl⟩
  refine g_put F hw hS hd rfl rfl inU11 tyX11 tyX11_ok nmX11 0 (by decide) hl (fun _ h => h) rfl rfl rfl (Nat.le_of_ble_eq_true rfl) hdg (fun H1 locs1 h oq hS1 => kk H1 locs1 ?_ hS1)
  rw [hμ, ms_eq]
  exact hw.put hd oq h (fun _ => Iff.rfl) (fun i hi q => absurd q.1 hi)
theorem gR_findings (F : CallFix p m c cc nL s args uw RX11) (hw : wdR D cy ad A μ s H) (hl : Cond.fieldLink RX11 idx "HammerTowersModel" "findings" "[I" ∈ uw) (hdg : decode cc pc = .ok (.getfield idx, 3)) (kk : W p l e R s m args below meth c H locs cells slots Q (F0 m (pc + 3) ls (.ref (ad 1 0) :: rest))) : W p l e R s m args below meth c H locs cells slots Q (F0 m pc ls (.ref (ad 0 0) :: rest)) := g_get F hw (k := 0) (i := 0) ⟨rfl, Or.inl rfl⟩ rfl rfl inU11 1 (by decide) hl (fun _ h => h) rfl hdg kk
theorem gR_asked (F : CallFix p m c cc nL s args uw RX11) (hw : wdR D cy ad A μ s H) (hl : Cond.fieldLink RX11 idx "HammerTowersModel" "asked" "I" ∈ uw) (hdg : decode cc pc = .ok (.getfield idx, 3)) (kk : W p l e R s m args below meth c H locs cells slots Q (F0 m (pc + 3) ls (.int (iI (μ 0 2 0)) :: rest))) : W p l e R s m args below meth c H locs cells slots Q (F0 m pc ls (.ref (ad 0 0) :: rest)) := g_get F hw (k := 0) (i := 0) ⟨rfl, Or.inl rfl⟩ rfl rfl inU11 2 (by decide) hl (fun _ h => h) rfl hdg kk
theorem pR_asked (F : CallFix p m c cc nL s args uw RX11) (hw : wdR D cy ad A μ s H) (hS : va_S A s.heap H locs) (hl : Cond.fieldLink RX11 idx "HammerTowersModel" "asked" "I" ∈ uw) {v : Int} (hμ : μ1 = ms μ 0 2 0 v) (hdg : decode cc pc = .ok (.putfield idx, 3)) (kk : ∀ (H1 : Heap) (locs1 : List Loc), wdR D cy ad A μ1 s H1 → va_S A s.heap H1 locs1 → W p l e R s m args below meth c H1 locs1 cells slots Q (F0 m (pc + 3) ls rest)) : W p l e R s m args below meth c H locs cells slots Q (F0 m pc ls (.int (iI v) :: .ref (ad 0 0) :: rest)) := by
  have hd : dmR 0 (μ 0) 0 := ⟨rfl, Or.inl rfl⟩
  refine g_put F hw hS hd rfl rfl inU11 tyX11 tyX11_ok nmX11 2 (by decide) hl (fun _ h => h) rfl rfl rfl (Nat.le_of_ble_eq_true rfl) hdg (fun H1 locs1 h oq hS1 => kk H1 locs1 ?_ hS1)
  rw [hμ, ms_eq]
  exact hw.put hd oq h (fun _ => Iff.rfl) (fun i hi q => absurd q.1 hi)
theorem gR_upper (F : CallFix p m c cc nL s args uw RX11) (hw : wdR D cy ad A μ s H) (hl : Cond.fieldLink RX11 idx "HammerTowersModel" "upper" "J" ∈ uw) (hdg : decode cc pc = .ok (.getfield idx, 3)) (kk : W p l e R s m args below meth c H locs cells slots Q (F0 m (pc + 3) ls (.long (lJ (μ 0 3 0)) :: rest))) : W p l e R s m args below meth c H locs cells slots Q (F0 m pc ls (.ref (ad 0 0) :: rest)) := g_get F hw (k := 0) (i := 0) ⟨rfl, Or.inl rfl⟩ rfl rfl inU11 3 (by decide) hl (fun _ h => h) rfl hdg kk
theorem pR_upper (F : CallFix p m c cc nL s args uw RX11) (hw : wdR D cy ad A μ s H) (hS : va_S A s.heap H locs) (hl : Cond.fieldLink RX11 idx "HammerTowersModel" "upper" "J" ∈ uw) {v : Int} (hμ : μ1 = ms μ 0 3 0 v) (hdg : decode cc pc = .ok (.putfield idx, 3)) (kk : ∀ (H1 : Heap) (locs1 : List Loc), wdR D cy ad A μ1 s H1 → va_S A s.heap H1 locs1 → W p l e R s m args below meth c H1 locs1 cells slots Q (F0 m (pc + 3) ls rest)) : W p l e R s m args below meth c H locs cells slots Q (F0 m pc ls (.long (lJ v) :: .ref (ad 0 0) :: rest)) := by
  have hd : dmR 0 (μ 0) 0 := ⟨rfl, Or.inl rfl⟩
  refine g_put F hw hS hd rfl rfl inU11 tyX11 tyX11_ok nmX11 3 (by decide) hl (fun _ h => h) rfl rfl rfl (Nat.le_of_ble_eq_true rfl) hdg (fun H1 locs1 h oq hS1 => kk H1 locs1 ?_ hS1)
  rw [hμ, ms_eq]
  exact hw.put hd oq h (fun _ => Iff.rfl) (fun i hi q => absurd q.1 hi)
theorem gR_lower (F : CallFix p m c cc nL s args uw RX11) (hw : wdR D cy ad A μ s H) (hl : Cond.fieldLink RX11 idx "HammerTowersModel" "lower" "J" ∈ uw) (hdg : decode cc pc = .ok (.getfield idx, 3)) (kk : W p l e R s m args below meth c H locs cells slots Q (F0 m (pc + 3) ls (.long (lJ (μ 0 4 0)) :: rest))) : W p l e R s m args below meth c H locs cells slots Q (F0 m pc ls (.ref (ad 0 0) :: rest)) := g_get F hw (k := 0) (i := 0) ⟨rfl, Or.inl rfl⟩ rfl rfl inU11 4 (by decide) hl (fun _ h => h) rfl hdg kk
theorem pR_lower (F : CallFix p m c cc nL s args uw RX11) (hw : wdR D cy ad A μ s H) (hS : va_S A s.heap H locs) (hl : Cond.fieldLink RX11 idx "HammerTowersModel" "lower" "J" ∈ uw) {v : Int} (hμ : μ1 = ms μ 0 4 0 v) (hdg : decode cc pc = .ok (.putfield idx, 3)) (kk : ∀ (H1 : Heap) (locs1 : List Loc), wdR D cy ad A μ1 s H1 → va_S A s.heap H1 locs1 → W p l e R s m args below meth c H1 locs1 cells slots Q (F0 m (pc + 3) ls rest)) : W p l e R s m args below meth c H locs cells slots Q (F0 m pc ls (.long (lJ v) :: .ref (ad 0 0) :: rest)) := by
  have hd : dmR 0 (μ 0) 0 := ⟨rfl, Or.inl rfl⟩
  refine g_put F hw hS hd rfl rfl inU11 tyX11 tyX11_ok nmX11 4 (by decide) hl (fun _ h => h) rfl rfl rfl (Nat.le_of_ble_eq_true rfl) hdg (fun H1 locs1 h oq hS1 => kk H1 locs1 ?_ hS1)
  rw [hμ, ms_eq]
  exact hw.put hd oq h (fun _ => Iff.rfl) (fun i hi q => absurd q.1 hi)
theorem gR_now (F : CallFix p m c cc nL s args uw RX11) (hw : wdR D cy ad A μ s H) (hl : Cond.fieldLink RX11 idx "HammerTowersModel" "now" "I" ∈ uw) (hdg : decode cc pc = .ok (.getfield idx, 3)) (kk : W p l e R s m args below meth c H locs cells slots Q (F0 m (pc + 3) ls (.int (iI (μ 0 5 0)) :: rest))) : W p l e R s m args below meth c H locs cells slots Q (F0 m pc ls (.ref (ad 0 0) :: rest)) := g_get F hw (k := 0) (i := 0) ⟨rfl, Or.inl rfl⟩ rfl rfl inU11 5 (by decide) hl (fun _ h => h) rfl hdg kk
theorem pR_now (F : CallFix p m c cc nL s args uw RX11) (hw : wdR D cy ad A μ s H) (hS : va_S A s.heap H locs) (hl : Cond.fieldLink RX11 idx "HammerTowersModel" "now" "I" ∈ uw) {v : Int} (hμ : μ1 = ms μ 0 5 0 v) (hdg : decode cc pc = .ok (.putfield idx, 3)) (kk : ∀ (H1 : Heap) (locs1 : List Loc), wdR D cy ad A μ1 s H1 → va_S A s.heap H1 locs1 → W p l e R s m args below meth c H1 locs1 cells slots Q (F0 m (pc + 3) ls rest)) : W p l e R s m args below meth c H locs cells slots Q (F0 m pc ls (.int (iI v) :: .ref (ad 0 0) :: rest)) := by
  have hd : dmR 0 (μ 0) 0 := ⟨rfl, Or.inl rfl⟩
  refine g_put F hw hS hd rfl rfl inU11 tyX11 tyX11_ok nmX11 5 (by decide) hl (fun _ h => h) rfl rfl rfl (Nat.le_of_ble_eq_true rfl) hdg (fun H1 locs1 h oq hS1 => kk H1 locs1 ?_ hS1)
  rw [hμ, ms_eq]
  exact hw.put hd oq h (fun _ => Iff.rfl) (fun i hi q => absurd q.1 hi)
theorem gR_struckEver (F : CallFix p m c cc nL s args uw RX11) (hw : wdR D cy ad A μ s H) (hl : Cond.fieldLink RX11 idx "HammerTowersModel" "struckEver" "I" ∈ uw) (hdg : decode cc pc = .ok (.getfield idx, 3)) (kk : W p l e R s m args below meth c H locs cells slots Q (F0 m (pc + 3) ls (.int (iI (μ 0 6 0)) :: rest))) : W p l e R s m args below meth c H locs cells slots Q (F0 m pc ls (.ref (ad 0 0) :: rest)) := g_get F hw (k := 0) (i := 0) ⟨rfl, Or.inl rfl⟩ rfl rfl inU11 6 (by decide) hl (fun _ h => h) rfl hdg kk
theorem pR_struckEver (F : CallFix p m c cc nL s args uw RX11) (hw : wdR D cy ad A μ s H) (hS : va_S A s.heap H locs) (hl : Cond.fieldLink RX11 idx "HammerTowersModel" "struckEver" "I" ∈ uw) {v : Int} (hμ : μ1 = ms μ 0 6 0 v) (hdg : decode cc pc = .ok (.putfield idx, 3)) (kk : ∀ (H1 : Heap) (locs1 : List Loc), wdR D cy ad A μ1 s H1 → va_S A s.heap H1 locs1 → W p l e R s m args below meth c H1 locs1 cells slots Q (F0 m (pc + 3) ls rest)) : W p l e R s m args below meth c H locs cells slots Q (F0 m pc ls (.int (iI v) :: .ref (ad 0 0) :: rest)) := by
  have hd : dmR 0 (μ 0) 0 := ⟨rfl, Or.inl rfl⟩
  refine g_put F hw hS hd rfl rfl inU11 tyX11 tyX11_ok nmX11 6 (by decide) hl (fun _ h => h) rfl rfl rfl (Nat.le_of_ble_eq_true rfl) hdg (fun H1 locs1 h oq hS1 => kk H1 locs1 ?_ hS1)
  rw [hμ, ms_eq]
  exact hw.put hd oq h (fun _ => Iff.rfl) (fun i hi q => absurd q.1 hi)
theorem gR_sizes (F : CallFix p m c cc nL s args uw RX11) (hw : wdR D cy ad A μ s H) (hl : Cond.fieldLink RX11 idx "HammerTowersModel" "sizes" "[I" ∈ uw) (hdg : decode cc pc = .ok (.getfield idx, 3)) (kk : W p l e R s m args below meth c H locs cells slots Q (F0 m (pc + 3) ls (.ref (ad 7 0) :: rest))) : W p l e R s m args below meth c H locs cells slots Q (F0 m pc ls (.ref (ad 0 0) :: rest)) := g_get F hw (k := 0) (i := 0) ⟨rfl, Or.inl rfl⟩ rfl rfl inU11 7 (by decide) hl (fun _ h => h) rfl hdg kk
theorem gR_rows (F : CallFix p m c cc nL s args uw RX11) (hw : wdR D cy ad A μ s H) (hl : Cond.fieldLink RX11 idx "HammerTowersModel" "rows" "[I" ∈ uw) (hdg : decode cc pc = .ok (.getfield idx, 3)) (kk : W p l e R s m args below meth c H locs cells slots Q (F0 m (pc + 3) ls (.ref (ad 8 0) :: rest))) : W p l e R s m args below meth c H locs cells slots Q (F0 m pc ls (.ref (ad 0 0) :: rest)) := g_get F hw (k := 0) (i := 0) ⟨rfl, Or.inl rfl⟩ rfl rfl inU11 8 (by decide) hl (fun _ h => h) rfl hdg kk
theorem gR_moving (F : CallFix p m c cc nL s args uw RX11) (hw : wdR D cy ad A μ s H) (hl : Cond.fieldLink RX11 idx "HammerTowersModel" "moving" "[I" ∈ uw) (hdg : decode cc pc = .ok (.getfield idx, 3)) (kk : W p l e R s m args below meth c H locs cells slots Q (F0 m (pc + 3) ls (.ref (ad 9 0) :: rest))) : W p l e R s m args below meth c H locs cells slots Q (F0 m pc ls (.ref (ad 0 0) :: rest)) := g_get F hw (k := 0) (i := 0) ⟨rfl, Or.inl rfl⟩ rfl rfl inU11 9 (by decide) hl (fun _ h => h) rfl hdg kk
theorem gR_trains (F : CallFix p m c cc nL s args uw RX11) (hw : wdR D cy ad A μ s H) (hl : Cond.fieldLink RX11 idx "HammerTowersModel" "trains" "I" ∈ uw) (hdg : decode cc pc = .ok (.getfield idx, 3)) (kk : W p l e R s m args below meth c H locs cells slots Q (F0 m (pc + 3) ls (.int (iI (μ 0 10 0)) :: rest))) : W p l e R s m args below meth c H locs cells slots Q (F0 m pc ls (.ref (ad 0 0) :: rest)) := g_get F hw (k := 0) (i := 0) ⟨rfl, Or.inl rfl⟩ rfl rfl inU11 10 (by decide) hl (fun _ h => h) rfl hdg kk
theorem pR_trains (F : CallFix p m c cc nL s args uw RX11) (hw : wdR D cy ad A μ s H) (hS : va_S A s.heap H locs) (hl : Cond.fieldLink RX11 idx "HammerTowersModel" "trains" "I" ∈ uw) {v : Int} (hμ : μ1 = ms μ 0 10 0 v) (hdg : decode cc pc = .ok (.putfield idx, 3)) (kk : ∀ (H1 : Heap) (locs1 : List Loc), wdR D cy ad A μ1 s H1 → va_S A s.heap H1 locs1 → W p l e R s m args below meth c H1 locs1 cells slots Q (F0 m (pc + 3) ls rest)) : W p l e R s m args below meth c H locs cells slots Q (F0 m pc ls (.int (iI v) :: .ref (ad 0 0) :: rest)) := by
  have hd : dmR 0 (μ 0) 0 := ⟨rfl, Or.inl rfl⟩
  refine g_put F hw hS hd rfl rfl inU11 tyX11 tyX11_ok nmX11 10 (by decide) hl (fun _ h => h) rfl rfl rfl (Nat.le_of_ble_eq_true rfl) hdg (fun H1 locs1 h oq hS1 => kk H1 locs1 ?_ hS1)
  rw [hμ, ms_eq]
  exact hw.put hd oq h (fun _ => Iff.rfl) (fun i hi q => absurd q.1 hi)
theorem gR_kinds (F : CallFix p m c cc nL s args uw RX11) (hw : wdR D cy ad A μ s H) (hl : Cond.fieldLink RX11 idx "HammerTowersModel" "kinds" "[I" ∈ uw) (hdg : decode cc pc = .ok (.getfield idx, 3)) (kk : W p l e R s m args below meth c H locs cells slots Q (F0 m (pc + 3) ls (.ref (ad 11 0) :: rest))) : W p l e R s m args below meth c H locs cells slots Q (F0 m pc ls (.ref (ad 0 0) :: rest)) := g_get F hw (k := 0) (i := 0) ⟨rfl, Or.inl rfl⟩ rfl rfl inU11 11 (by decide) hl (fun _ h => h) rfl hdg kk
theorem gR_many (F : CallFix p m c cc nL s args uw RX11) (hw : wdR D cy ad A μ s H) (hl : Cond.fieldLink RX11 idx "HammerTowersModel" "many" "[I" ∈ uw) (hdg : decode cc pc = .ok (.getfield idx, 3)) (kk : W p l e R s m args below meth c H locs cells slots Q (F0 m (pc + 3) ls (.ref (ad 12 0) :: rest))) : W p l e R s m args below meth c H locs cells slots Q (F0 m pc ls (.ref (ad 0 0) :: rest)) := g_get F hw (k := 0) (i := 0) ⟨rfl, Or.inl rfl⟩ rfl rfl inU11 12 (by decide) hl (fun _ h => h) rfl hdg kk
theorem gR_notches (F : CallFix p m c cc nL s args uw RX11) (hw : wdR D cy ad A μ s H) (hl : Cond.fieldLink RX11 idx "HammerTowersModel" "notches" "[I" ∈ uw) (hdg : decode cc pc = .ok (.getfield idx, 3)) (kk : W p l e R s m args below meth c H locs cells slots Q (F0 m (pc + 3) ls (.ref (ad 13 0) :: rest))) : W p l e R s m args below meth c H locs cells slots Q (F0 m pc ls (.ref (ad 0 0) :: rest)) := g_get F hw (k := 0) (i := 0) ⟨rfl, Or.inl rfl⟩ rfl rfl inU11 13 (by decide) hl (fun _ h => h) rfl hdg kk
theorem gR_stands (F : CallFix p m c cc nL s args uw RX11) (hw : wdR D cy ad A μ s H) (hl : Cond.fieldLink RX11 idx "HammerTowersModel" "stands" "[I" ∈ uw) (hdg : decode cc pc = .ok (.getfield idx, 3)) (kk : W p l e R s m args below meth c H locs cells slots Q (F0 m (pc + 3) ls (.ref (ad 14 0) :: rest))) : W p l e R s m args below meth c H locs cells slots Q (F0 m pc ls (.ref (ad 0 0) :: rest)) := g_get F hw (k := 0) (i := 0) ⟨rfl, Or.inl rfl⟩ rfl rfl inU11 14 (by decide) hl (fun _ h => h) rfl hdg kk
theorem gR_pinMany (F : CallFix p m c cc nL s args uw RX11) (hw : wdR D cy ad A μ s H) (hl : Cond.fieldLink RX11 idx "HammerTowersModel" "pinMany" "[I" ∈ uw) (hdg : decode cc pc = .ok (.getfield idx, 3)) (kk : W p l e R s m args below meth c H locs cells slots Q (F0 m (pc + 3) ls (.ref (ad 15 0) :: rest))) : W p l e R s m args below meth c H locs cells slots Q (F0 m pc ls (.ref (ad 0 0) :: rest)) := g_get F hw (k := 0) (i := 0) ⟨rfl, Or.inl rfl⟩ rfl rfl inU11 15 (by decide) hl (fun _ h => h) rfl hdg kk
theorem gR_pins (F : CallFix p m c cc nL s args uw RX11) (hw : wdR D cy ad A μ s H) (hl : Cond.fieldLink RX11 idx "HammerTowersModel" "pins" "[I" ∈ uw) (hdg : decode cc pc = .ok (.getfield idx, 3)) (kk : W p l e R s m args below meth c H locs cells slots Q (F0 m (pc + 3) ls (.ref (ad 16 0) :: rest))) : W p l e R s m args below meth c H locs cells slots Q (F0 m pc ls (.ref (ad 0 0) :: rest)) := g_get F hw (k := 0) (i := 0) ⟨rfl, Or.inl rfl⟩ rfl rfl inU11 16 (by decide) hl (fun _ h => h) rfl hdg kk
theorem gR_pinAt (F : CallFix p m c cc nL s args uw RX11) (hw : wdR D cy ad A μ s H) (hl : Cond.fieldLink RX11 idx "HammerTowersModel" "pinAt" "[I" ∈ uw) (hdg : decode cc pc = .ok (.getfield idx, 3)) (kk : W p l e R s m args below meth c H locs cells slots Q (F0 m (pc + 3) ls (.ref (ad 17 0) :: rest))) : W p l e R s m args below meth c H locs cells slots Q (F0 m pc ls (.ref (ad 0 0) :: rest)) := g_get F hw (k := 0) (i := 0) ⟨rfl, Or.inl rfl⟩ rfl rfl inU11 17 (by decide) hl (fun _ h => h) rfl hdg kk
theorem gR_paces (F : CallFix p m c cc nL s args uw RX11) (hw : wdR D cy ad A μ s H) (hl : Cond.fieldLink RX11 idx "HammerTowersModel" "paces" "[I" ∈ uw) (hdg : decode cc pc = .ok (.getfield idx, 3)) (kk : W p l e R s m args below meth c H locs cells slots Q (F0 m (pc + 3) ls (.ref (ad 18 0) :: rest))) : W p l e R s m args below meth c H locs cells slots Q (F0 m pc ls (.ref (ad 0 0) :: rest)) := g_get F hw (k := 0) (i := 0) ⟨rfl, Or.inl rfl⟩ rfl rfl inU11 18 (by decide) hl (fun _ h => h) rfl hdg kk
theorem gR_falls (F : CallFix p m c cc nL s args uw RX11) (hw : wdR D cy ad A μ s H) (hl : Cond.fieldLink RX11 idx "HammerTowersModel" "falls" "[I" ∈ uw) (hdg : decode cc pc = .ok (.getfield idx, 3)) (kk : W p l e R s m args below meth c H locs cells slots Q (F0 m (pc + 3) ls (.ref (ad 19 0) :: rest))) : W p l e R s m args below meth c H locs cells slots Q (F0 m pc ls (.ref (ad 0 0) :: rest)) := g_get F hw (k := 0) (i := 0) ⟨rfl, Or.inl rfl⟩ rfl rfl inU11 19 (by decide) hl (fun _ h => h) rfl hdg kk
theorem gR_weights (F : CallFix p m c cc nL s args uw RX11) (hw : wdR D cy ad A μ s H) (hl : Cond.fieldLink RX11 idx "HammerTowersModel" "weights" "[I" ∈ uw) (hdg : decode cc pc = .ok (.getfield idx, 3)) (kk : W p l e R s m args below meth c H locs cells slots Q (F0 m (pc + 3) ls (.ref (ad 20 0) :: rest))) : W p l e R s m args below meth c H locs cells slots Q (F0 m pc ls (.ref (ad 0 0) :: rest)) := g_get F hw (k := 0) (i := 0) ⟨rfl, Or.inl rfl⟩ rfl rfl inU11 20 (by decide) hl (fun _ h => h) rfl hdg kk
theorem gR_dues (F : CallFix p m c cc nL s args uw RX11) (hw : wdR D cy ad A μ s H) (hl : Cond.fieldLink RX11 idx "HammerTowersModel" "dues" "[I" ∈ uw) (hdg : decode cc pc = .ok (.getfield idx, 3)) (kk : W p l e R s m args below meth c H locs cells slots Q (F0 m (pc + 3) ls (.ref (ad 21 0) :: rest))) : W p l e R s m args below meth c H locs cells slots Q (F0 m pc ls (.ref (ad 0 0) :: rest)) := g_get F hw (k := 0) (i := 0) ⟨rfl, Or.inl rfl⟩ rfl rfl inU11 21 (by decide) hl (fun _ h => h) rfl hdg kk
theorem gR_places (F : CallFix p m c cc nL s args uw RX11) (hw : wdR D cy ad A μ s H) (hl : Cond.fieldLink RX11 idx "HammerTowersModel" "places" "[I" ∈ uw) (hdg : decode cc pc = .ok (.getfield idx, 3)) (kk : W p l e R s m args below meth c H locs cells slots Q (F0 m (pc + 3) ls (.ref (ad 22 0) :: rest))) : W p l e R s m args below meth c H locs cells slots Q (F0 m pc ls (.ref (ad 0 0) :: rest)) := g_get F hw (k := 0) (i := 0) ⟨rfl, Or.inl rfl⟩ rfl rfl inU11 22 (by decide) hl (fun _ h => h) rfl hdg kk
theorem gR_brokens (F : CallFix p m c cc nL s args uw RX11) (hw : wdR D cy ad A μ s H) (hl : Cond.fieldLink RX11 idx "HammerTowersModel" "brokens" "[I" ∈ uw) (hdg : decode cc pc = .ok (.getfield idx, 3)) (kk : W p l e R s m args below meth c H locs cells slots Q (F0 m (pc + 3) ls (.ref (ad 23 0) :: rest))) : W p l e R s m args below meth c H locs cells slots Q (F0 m pc ls (.ref (ad 0 0) :: rest)) := g_get F hw (k := 0) (i := 0) ⟨rfl, Or.inl rfl⟩ rfl rfl inU11 23 (by decide) hl (fun _ h => h) rfl hdg kk
theorem gR_strucks (F : CallFix p m c cc nL s args uw RX11) (hw : wdR D cy ad A μ s H) (hl : Cond.fieldLink RX11 idx "HammerTowersModel" "strucks" "[I" ∈ uw) (hdg : decode cc pc = .ok (.getfield idx, 3)) (kk : W p l e R s m args below meth c H locs cells slots Q (F0 m (pc + 3) ls (.ref (ad 24 0) :: rest))) : W p l e R s m args below meth c H locs cells slots Q (F0 m pc ls (.ref (ad 0 0) :: rest)) := g_get F hw (k := 0) (i := 0) ⟨rfl, Or.inl rfl⟩ rfl rfl inU11 24 (by decide) hl (fun _ h => h) rfl hdg kk
theorem gR_lifts (F : CallFix p m c cc nL s args uw RX11) (hw : wdR D cy ad A μ s H) (hl : Cond.fieldLink RX11 idx "HammerTowersModel" "lifts" "[Z" ∈ uw) (hdg : decode cc pc = .ok (.getfield idx, 3)) (kk : W p l e R s m args below meth c H locs cells slots Q (F0 m (pc + 3) ls (.ref (ad 25 0) :: rest))) : W p l e R s m args below meth c H locs cells slots Q (F0 m pc ls (.ref (ad 0 0) :: rest)) := g_get F hw (k := 0) (i := 0) ⟨rfl, Or.inl rfl⟩ rfl rfl inU11 25 (by decide) hl (fun _ h => h) rfl hdg kk
theorem gR_isTower (F : CallFix p m c cc nL s args uw RX11) (hw : wdR D cy ad A μ s H) (hl : Cond.fieldLink RX11 idx "HammerTowersModel" "isTower" "[Z" ∈ uw) (hdg : decode cc pc = .ok (.getfield idx, 3)) (kk : W p l e R s m args below meth c H locs cells slots Q (F0 m (pc + 3) ls (.ref (ad 26 0) :: rest))) : W p l e R s m args below meth c H locs cells slots Q (F0 m pc ls (.ref (ad 0 0) :: rest)) := g_get F hw (k := 0) (i := 0) ⟨rfl, Or.inl rfl⟩ rfl rfl inU11 26 (by decide) hl (fun _ h => h) rfl hdg kk
theorem gR_handsAt (F : CallFix p m c cc nL s args uw RX11) (hw : wdR D cy ad A μ s H) (hl : Cond.fieldLink RX11 idx "HammerTowersModel" "handsAt" "[I" ∈ uw) (hdg : decode cc pc = .ok (.getfield idx, 3)) (kk : W p l e R s m args below meth c H locs cells slots Q (F0 m (pc + 3) ls (.ref (ad 27 0) :: rest))) : W p l e R s m args below meth c H locs cells slots Q (F0 m pc ls (.ref (ad 0 0) :: rest)) := g_get F hw (k := 0) (i := 0) ⟨rfl, Or.inl rfl⟩ rfl rfl inU11 27 (by decide) hl (fun _ h => h) rfl hdg kk
theorem gR_rates (F : CallFix p m c cc nL s args uw RX11) (hw : wdR D cy ad A μ s H) (hl : Cond.fieldLink RX11 idx "HammerTowersModel" "rates" "[I" ∈ uw) (hdg : decode cc pc = .ok (.getfield idx, 3)) (kk : W p l e R s m args below meth c H locs cells slots Q (F0 m (pc + 3) ls (.ref (ad 28 0) :: rest))) : W p l e R s m args below meth c H locs cells slots Q (F0 m pc ls (.ref (ad 0 0) :: rest)) := g_get F hw (k := 0) (i := 0) ⟨rfl, Or.inl rfl⟩ rfl rfl inU11 28 (by decide) hl (fun _ h => h) rfl hdg kk
theorem gR_goings (F : CallFix p m c cc nL s args uw RX11) (hw : wdR D cy ad A μ s H) (hl : Cond.fieldLink RX11 idx "HammerTowersModel" "goings" "[I" ∈ uw) (hdg : decode cc pc = .ok (.getfield idx, 3)) (kk : W p l e R s m args below meth c H locs cells slots Q (F0 m (pc + 3) ls (.ref (ad 29 0) :: rest))) : W p l e R s m args below meth c H locs cells slots Q (F0 m pc ls (.ref (ad 0 0) :: rest)) := g_get F hw (k := 0) (i := 0) ⟨rfl, Or.inl rfl⟩ rfl rfl inU11 29 (by decide) hl (fun _ h => h) rfl hdg kk
theorem gR_sums (F : CallFix p m c cc nL s args uw RX11) (hw : wdR D cy ad A μ s H) (hl : Cond.fieldLink RX11 idx "HammerTowersModel" "sums" "[I" ∈ uw) (hdg : decode cc pc = .ok (.getfield idx, 3)) (kk : W p l e R s m args below meth c H locs cells slots Q (F0 m (pc + 3) ls (.ref (ad 30 0) :: rest))) : W p l e R s m args below meth c H locs cells slots Q (F0 m pc ls (.ref (ad 0 0) :: rest)) := g_get F hw (k := 0) (i := 0) ⟨rfl, Or.inl rfl⟩ rfl rfl inU11 30 (by decide) hl (fun _ h => h) rfl hdg kk
theorem gR_goes (F : CallFix p m c cc nL s args uw RX11) (hw : wdR D cy ad A μ s H) (hl : Cond.fieldLink RX11 idx "HammerTowersModel" "goes" "[Z" ∈ uw) (hdg : decode cc pc = .ok (.getfield idx, 3)) (kk : W p l e R s m args below meth c H locs cells slots Q (F0 m (pc + 3) ls (.ref (ad 31 0) :: rest))) : W p l e R s m args below meth c H locs cells slots Q (F0 m pc ls (.ref (ad 0 0) :: rest)) := g_get F hw (k := 0) (i := 0) ⟨rfl, Or.inl rfl⟩ rfl rfl inU11 31 (by decide) hl (fun _ h => h) rfl hdg kk
theorem gR_silentFrom (F : CallFix p m c cc nL s args uw RX11) (hw : wdR D cy ad A μ s H) (hl : Cond.fieldLink RX11 idx "HammerTowersModel" "silentFrom" "[I" ∈ uw) (hdg : decode cc pc = .ok (.getfield idx, 3)) (kk : W p l e R s m args below meth c H locs cells slots Q (F0 m (pc + 3) ls (.ref (ad 32 0) :: rest))) : W p l e R s m args below meth c H locs cells slots Q (F0 m pc ls (.ref (ad 0 0) :: rest)) := g_get F hw (k := 0) (i := 0) ⟨rfl, Or.inl rfl⟩ rfl rfl inU11 32 (by decide) hl (fun _ h => h) rfl hdg kk
theorem gR_silentTo (F : CallFix p m c cc nL s args uw RX11) (hw : wdR D cy ad A μ s H) (hl : Cond.fieldLink RX11 idx "HammerTowersModel" "silentTo" "[I" ∈ uw) (hdg : decode cc pc = .ok (.getfield idx, 3)) (kk : W p l e R s m args below meth c H locs cells slots Q (F0 m (pc + 3) ls (.ref (ad 33 0) :: rest))) : W p l e R s m args below meth c H locs cells slots Q (F0 m pc ls (.ref (ad 0 0) :: rest)) := g_get F hw (k := 0) (i := 0) ⟨rfl, Or.inl rfl⟩ rfl rfl inU11 33 (by decide) hl (fun _ h => h) rfl hdg kk
theorem gR_silentSort (F : CallFix p m c cc nL s args uw RX11) (hw : wdR D cy ad A μ s H) (hl : Cond.fieldLink RX11 idx "HammerTowersModel" "silentSort" "[I" ∈ uw) (hdg : decode cc pc = .ok (.getfield idx, 3)) (kk : W p l e R s m args below meth c H locs cells slots Q (F0 m (pc + 3) ls (.ref (ad 34 0) :: rest))) : W p l e R s m args below meth c H locs cells slots Q (F0 m pc ls (.ref (ad 0 0) :: rest)) := g_get F hw (k := 0) (i := 0) ⟨rfl, Or.inl rfl⟩ rfl rfl inU11 34 (by decide) hl (fun _ h => h) rfl hdg kk
theorem gR_hung (F : CallFix p m c cc nL s args uw RX11) (hw : wdR D cy ad A μ s H) (hl : Cond.fieldLink RX11 idx "HammerTowersModel" "hung" "[I" ∈ uw) (hdg : decode cc pc = .ok (.getfield idx, 3)) (kk : W p l e R s m args below meth c H locs cells slots Q (F0 m (pc + 3) ls (.ref (ad 35 0) :: rest))) : W p l e R s m args below meth c H locs cells slots Q (F0 m pc ls (.ref (ad 0 0) :: rest)) := g_get F hw (k := 0) (i := 0) ⟨rfl, Or.inl rfl⟩ rfl rfl inU11 35 (by decide) hl (fun _ h => h) rfl hdg kk
theorem gR_isWarned (F : CallFix p m c cc nL s args uw RX11) (hw : wdR D cy ad A μ s H) (hl : Cond.fieldLink RX11 idx "HammerTowersModel" "isWarned" "[Z" ∈ uw) (hdg : decode cc pc = .ok (.getfield idx, 3)) (kk : W p l e R s m args below meth c H locs cells slots Q (F0 m (pc + 3) ls (.ref (ad 36 0) :: rest))) : W p l e R s m args below meth c H locs cells slots Q (F0 m pc ls (.ref (ad 0 0) :: rest)) := g_get F hw (k := 0) (i := 0) ⟨rfl, Or.inl rfl⟩ rfl rfl inU11 36 (by decide) hl (fun _ h => h) rfl hdg kk
theorem gR_entries (F : CallFix p m c cc nL s args uw RX11) (hw : wdR D cy ad A μ s H) (hl : Cond.fieldLink RX11 idx "HammerTowersModel" "entries" "[I" ∈ uw) (hdg : decode cc pc = .ok (.getfield idx, 3)) (kk : W p l e R s m args below meth c H locs cells slots Q (F0 m (pc + 3) ls (.ref (ad 37 0) :: rest))) : W p l e R s m args below meth c H locs cells slots Q (F0 m pc ls (.ref (ad 0 0) :: rest)) := g_get F hw (k := 0) (i := 0) ⟨rfl, Or.inl rfl⟩ rfl rfl inU11 37 (by decide) hl (fun _ h => h) rfl hdg kk
theorem gR_logs (F : CallFix p m c cc nL s args uw RX11) (hw : wdR D cy ad A μ s H) (hl : Cond.fieldLink RX11 idx "HammerTowersModel" "logs" "[I" ∈ uw) (hdg : decode cc pc = .ok (.getfield idx, 3)) (kk : W p l e R s m args below meth c H locs cells slots Q (F0 m (pc + 3) ls (.ref (ad 38 0) :: rest))) : W p l e R s m args below meth c H locs cells slots Q (F0 m pc ls (.ref (ad 0 0) :: rest)) := g_get F hw (k := 0) (i := 0) ⟨rfl, Or.inl rfl⟩ rfl rfl inU11 38 (by decide) hl (fun _ h => h) rfl hdg kk
theorem gR_best (F : CallFix p m c cc nL s args uw RX11) (hw : wdR D cy ad A μ s H) (hl : Cond.fieldLink RX11 idx "HammerTowersModel" "best" "[I" ∈ uw) (hdg : decode cc pc = .ok (.getfield idx, 3)) (kk : W p l e R s m args below meth c H locs cells slots Q (F0 m (pc + 3) ls (.ref (ad 39 0) :: rest))) : W p l e R s m args below meth c H locs cells slots Q (F0 m pc ls (.ref (ad 0 0) :: rest)) := g_get F hw (k := 0) (i := 0) ⟨rfl, Or.inl rfl⟩ rfl rfl inU11 39 (by decide) hl (fun _ h => h) rfl hdg kk
theorem gR_acts (F : CallFix p m c cc nL s args uw RX11) (hw : wdR D cy ad A μ s H) (hl : Cond.fieldLink RX11 idx "HammerTowersModel" "acts" "I" ∈ uw) (hdg : decode cc pc = .ok (.getfield idx, 3)) (kk : W p l e R s m args below meth c H locs cells slots Q (F0 m (pc + 3) ls (.int (iI (μ 0 40 0)) :: rest))) : W p l e R s m args below meth c H locs cells slots Q (F0 m pc ls (.ref (ad 0 0) :: rest)) := g_get F hw (k := 0) (i := 0) ⟨rfl, Or.inl rfl⟩ rfl rfl inU11 40 (by decide) hl (fun _ h => h) rfl hdg kk
theorem pR_acts (F : CallFix p m c cc nL s args uw RX11) (hw : wdR D cy ad A μ s H) (hS : va_S A s.heap H locs) (hl : Cond.fieldLink RX11 idx "HammerTowersModel" "acts" "I" ∈ uw) {v : Int} (hμ : μ1 = ms μ 0 40 0 v) (hdg : decode cc pc = .ok (.putfield idx, 3)) (kk : ∀ (H1 : Heap) (locs1 : List Loc), wdR D cy ad A μ1 s H1 → va_S A s.heap H1 locs1 → W p l e R s m args below meth c H1 locs1 cells slots Q (F0 m (pc + 3) ls rest)) : W p l e R s m args below meth c H locs cells slots Q (F0 m pc ls (.int (iI v) :: .ref (ad 0 0) :: rest)) := by
  have hd : dmR 0 (μ 0) 0 := ⟨rfl, Or.inl rfl⟩
  refine g_put F hw hS hd rfl rfl inU11 tyX11 tyX11_ok nmX11 40 (by decide) hl (fun _ h => h) rfl rfl rfl (Nat.le_of_ble_eq_true rfl) hdg (fun H1 locs1 h oq hS1 => kk H1 locs1 ?_ hS1)
  rw [hμ, ms_eq]
  exact hw.put hd oq h (fun _ => Iff.rfl) (fun i hi q => absurd q.1 hi)
theorem gR_actRow (F : CallFix p m c cc nL s args uw RX11) (hw : wdR D cy ad A μ s H) (hl : Cond.fieldLink RX11 idx "HammerTowersModel" "actRow" "[I" ∈ uw) (hdg : decode cc pc = .ok (.getfield idx, 3)) (kk : W p l e R s m args below meth c H locs cells slots Q (F0 m (pc + 3) ls (.ref (ad 41 0) :: rest))) : W p l e R s m args below meth c H locs cells slots Q (F0 m pc ls (.ref (ad 0 0) :: rest)) := g_get F hw (k := 0) (i := 0) ⟨rfl, Or.inl rfl⟩ rfl rfl inU11 41 (by decide) hl (fun _ h => h) rfl hdg kk
theorem gR_faultSort (F : CallFix p m c cc nL s args uw RX11) (hw : wdR D cy ad A μ s H) (hl : Cond.fieldLink RX11 idx "HammerTowersModel" "faultSort" "I" ∈ uw) (hdg : decode cc pc = .ok (.getfield idx, 3)) (kk : W p l e R s m args below meth c H locs cells slots Q (F0 m (pc + 3) ls (.int (iI (μ 0 42 0)) :: rest))) : W p l e R s m args below meth c H locs cells slots Q (F0 m pc ls (.ref (ad 0 0) :: rest)) := g_get F hw (k := 0) (i := 0) ⟨rfl, Or.inl rfl⟩ rfl rfl inU11 42 (by decide) hl (fun _ h => h) rfl hdg kk
theorem pR_faultSort (F : CallFix p m c cc nL s args uw RX11) (hw : wdR D cy ad A μ s H) (hS : va_S A s.heap H locs) (hl : Cond.fieldLink RX11 idx "HammerTowersModel" "faultSort" "I" ∈ uw) {v : Int} (hμ : μ1 = ms μ 0 42 0 v) (hdg : decode cc pc = .ok (.putfield idx, 3)) (kk : ∀ (H1 : Heap) (locs1 : List Loc), wdR D cy ad A μ1 s H1 → va_S A s.heap H1 locs1 → W p l e R s m args below meth c H1 locs1 cells slots Q (F0 m (pc + 3) ls rest)) : W p l e R s m args below meth c H locs cells slots Q (F0 m pc ls (.int (iI v) :: .ref (ad 0 0) :: rest)) := by
  have hd : dmR 0 (μ 0) 0 := ⟨rfl, Or.inl rfl⟩
  refine g_put F hw hS hd rfl rfl inU11 tyX11 tyX11_ok nmX11 42 (by decide) hl (fun _ h => h) rfl rfl rfl (Nat.le_of_ble_eq_true rfl) hdg (fun H1 locs1 h oq hS1 => kk H1 locs1 ?_ hS1)
  rw [hμ, ms_eq]
  exact hw.put hd oq h (fun _ => Iff.rfl) (fun i hi q => absurd q.1 hi)
theorem gR_faultFirst (F : CallFix p m c cc nL s args uw RX11) (hw : wdR D cy ad A μ s H) (hl : Cond.fieldLink RX11 idx "HammerTowersModel" "faultFirst" "I" ∈ uw) (hdg : decode cc pc = .ok (.getfield idx, 3)) (kk : W p l e R s m args below meth c H locs cells slots Q (F0 m (pc + 3) ls (.int (iI (μ 0 43 0)) :: rest))) : W p l e R s m args below meth c H locs cells slots Q (F0 m pc ls (.ref (ad 0 0) :: rest)) := g_get F hw (k := 0) (i := 0) ⟨rfl, Or.inl rfl⟩ rfl rfl inU11 43 (by decide) hl (fun _ h => h) rfl hdg kk
theorem pR_faultFirst (F : CallFix p m c cc nL s args uw RX11) (hw : wdR D cy ad A μ s H) (hS : va_S A s.heap H locs) (hl : Cond.fieldLink RX11 idx "HammerTowersModel" "faultFirst" "I" ∈ uw) {v : Int} (hμ : μ1 = ms μ 0 43 0 v) (hdg : decode cc pc = .ok (.putfield idx, 3)) (kk : ∀ (H1 : Heap) (locs1 : List Loc), wdR D cy ad A μ1 s H1 → va_S A s.heap H1 locs1 → W p l e R s m args below meth c H1 locs1 cells slots Q (F0 m (pc + 3) ls rest)) : W p l e R s m args below meth c H locs cells slots Q (F0 m pc ls (.int (iI v) :: .ref (ad 0 0) :: rest)) := by
  have hd : dmR 0 (μ 0) 0 := ⟨rfl, Or.inl rfl⟩
  refine g_put F hw hS hd rfl rfl inU11 tyX11 tyX11_ok nmX11 43 (by decide) hl (fun _ h => h) rfl rfl rfl (Nat.le_of_ble_eq_true rfl) hdg (fun H1 locs1 h oq hS1 => kk H1 locs1 ?_ hS1)
  rw [hμ, ms_eq]
  exact hw.put hd oq h (fun _ => Iff.rfl) (fun i hi q => absurd q.1 hi)
theorem gR_faultSecond (F : CallFix p m c cc nL s args uw RX11) (hw : wdR D cy ad A μ s H) (hl : Cond.fieldLink RX11 idx "HammerTowersModel" "faultSecond" "I" ∈ uw) (hdg : decode cc pc = .ok (.getfield idx, 3)) (kk : W p l e R s m args below meth c H locs cells slots Q (F0 m (pc + 3) ls (.int (iI (μ 0 44 0)) :: rest))) : W p l e R s m args below meth c H locs cells slots Q (F0 m pc ls (.ref (ad 0 0) :: rest)) := g_get F hw (k := 0) (i := 0) ⟨rfl, Or.inl rfl⟩ rfl rfl inU11 44 (by decide) hl (fun _ h => h) rfl hdg kk
theorem pR_faultSecond (F : CallFix p m c cc nL s args uw RX11) (hw : wdR D cy ad A μ s H) (hS : va_S A s.heap H locs) (hl : Cond.fieldLink RX11 idx "HammerTowersModel" "faultSecond" "I" ∈ uw) {v : Int} (hμ : μ1 = ms μ 0 44 0 v) (hdg : decode cc pc = .ok (.putfield idx, 3)) (kk : ∀ (H1 : Heap) (locs1 : List Loc), wdR D cy ad A μ1 s H1 → va_S A s.heap H1 locs1 → W p l e R s m args below meth c H1 locs1 cells slots Q (F0 m (pc + 3) ls rest)) : W p l e R s m args below meth c H locs cells slots Q (F0 m pc ls (.int (iI v) :: .ref (ad 0 0) :: rest)) := by
  have hd : dmR 0 (μ 0) 0 := ⟨rfl, Or.inl rfl⟩
  refine g_put F hw hS hd rfl rfl inU11 tyX11 tyX11_ok nmX11 44 (by decide) hl (fun _ h => h) rfl rfl rfl (Nat.le_of_ble_eq_true rfl) hdg (fun H1 locs1 h oq hS1 => kk H1 locs1 ?_ hS1)
  rw [hμ, ms_eq]
  exact hw.put hd oq h (fun _ => Iff.rfl) (fun i hi q => absurd q.1 hi)
theorem gR_fewest (F : CallFix p m c cc nL s args uw RX11) (hw : wdR D cy ad A μ s H) (hl : Cond.fieldLink RX11 idx "HammerTowersModel" "fewest" "I" ∈ uw) (hdg : decode cc pc = .ok (.getfield idx, 3)) (kk : W p l e R s m args below meth c H locs cells slots Q (F0 m (pc + 3) ls (.int (iI (μ 0 45 0)) :: rest))) : W p l e R s m args below meth c H locs cells slots Q (F0 m pc ls (.ref (ad 0 0) :: rest)) := g_get F hw (k := 0) (i := 0) ⟨rfl, Or.inl rfl⟩ rfl rfl inU11 45 (by decide) hl (fun _ h => h) rfl hdg kk
theorem pR_fewest (F : CallFix p m c cc nL s args uw RX11) (hw : wdR D cy ad A μ s H) (hS : va_S A s.heap H locs) (hl : Cond.fieldLink RX11 idx "HammerTowersModel" "fewest" "I" ∈ uw) {v : Int} (hμ : μ1 = ms μ 0 45 0 v) (hdg : decode cc pc = .ok (.putfield idx, 3)) (kk : ∀ (H1 : Heap) (locs1 : List Loc), wdR D cy ad A μ1 s H1 → va_S A s.heap H1 locs1 → W p l e R s m args below meth c H1 locs1 cells slots Q (F0 m (pc + 3) ls rest)) : W p l e R s m args below meth c H locs cells slots Q (F0 m pc ls (.int (iI v) :: .ref (ad 0 0) :: rest)) := by
  have hd : dmR 0 (μ 0) 0 := ⟨rfl, Or.inl rfl⟩
  refine g_put F hw hS hd rfl rfl inU11 tyX11 tyX11_ok nmX11 45 (by decide) hl (fun _ h => h) rfl rfl rfl (Nat.le_of_ble_eq_true rfl) hdg (fun H1 locs1 h oq hS1 => kk H1 locs1 ?_ hS1)
  rw [hμ, ms_eq]
  exact hw.put hd oq h (fun _ => Iff.rfl) (fun i hi q => absurd q.1 hi)
theorem gR_without (F : CallFix p m c cc nL s args uw RX11) (hw : wdR D cy ad A μ s H) (hl : Cond.fieldLink RX11 idx "HammerTowersModel" "without" "I" ∈ uw) (hdg : decode cc pc = .ok (.getfield idx, 3)) (kk : W p l e R s m args below meth c H locs cells slots Q (F0 m (pc + 3) ls (.int (iI (μ 0 46 0)) :: rest))) : W p l e R s m args below meth c H locs cells slots Q (F0 m pc ls (.ref (ad 0 0) :: rest)) := g_get F hw (k := 0) (i := 0) ⟨rfl, Or.inl rfl⟩ rfl rfl inU11 46 (by decide) hl (fun _ h => h) rfl hdg kk
theorem pR_without (F : CallFix p m c cc nL s args uw RX11) (hw : wdR D cy ad A μ s H) (hS : va_S A s.heap H locs) (hl : Cond.fieldLink RX11 idx "HammerTowersModel" "without" "I" ∈ uw) {v : Int} (hμ : μ1 = ms μ 0 46 0 v) (hdg : decode cc pc = .ok (.putfield idx, 3)) (kk : ∀ (H1 : Heap) (locs1 : List Loc), wdR D cy ad A μ1 s H1 → va_S A s.heap H1 locs1 → W p l e R s m args below meth c H1 locs1 cells slots Q (F0 m (pc + 3) ls rest)) : W p l e R s m args below meth c H locs cells slots Q (F0 m pc ls (.int (iI v) :: .ref (ad 0 0) :: rest)) := by
  have hd : dmR 0 (μ 0) 0 := ⟨rfl, Or.inl rfl⟩
  refine g_put F hw hS hd rfl rfl inU11 tyX11 tyX11_ok nmX11 46 (by decide) hl (fun _ h => h) rfl rfl rfl (Nat.le_of_ble_eq_true rfl) hdg (fun H1 locs1 h oq hS1 => kk H1 locs1 ?_ hS1)
  rw [hμ, ms_eq]
  exact hw.put hd oq h (fun _ => Iff.rfl) (fun i hi q => absurd q.1 hi)
theorem gR_held (F : CallFix p m c cc nL s args uw RX11) (hw : wdR D cy ad A μ s H) (hl : Cond.fieldLink RX11 idx "HammerTowersModel" "held" "[I" ∈ uw) (hdg : decode cc pc = .ok (.getfield idx, 3)) (kk : W p l e R s m args below meth c H locs cells slots Q (F0 m (pc + 3) ls (.ref (ad 47 0) :: rest))) : W p l e R s m args below meth c H locs cells slots Q (F0 m pc ls (.ref (ad 0 0) :: rest)) := g_get F hw (k := 0) (i := 0) ⟨rfl, Or.inl rfl⟩ rfl rfl inU11 47 (by decide) hl (fun _ h => h) rfl hdg kk
theorem gR_wheels (F : CallFix p m c cc nL s args uw RX11) (hw : wdR D cy ad A μ s H) (hl : Cond.fieldLink RX11 idx "HammerTowersModel" "wheels" "I" ∈ uw) (hdg : decode cc pc = .ok (.getfield idx, 3)) (kk : W p l e R s m args below meth c H locs cells slots Q (F0 m (pc + 3) ls (.int (iI (μ 0 48 0)) :: rest))) : W p l e R s m args below meth c H locs cells slots Q (F0 m pc ls (.ref (ad 0 0) :: rest)) := g_get F hw (k := 0) (i := 0) ⟨rfl, Or.inl rfl⟩ rfl rfl inU11 48 (by decide) hl (fun _ h => h) rfl hdg kk
theorem pR_wheels (F : CallFix p m c cc nL s args uw RX11) (hw : wdR D cy ad A μ s H) (hS : va_S A s.heap H locs) (hl : Cond.fieldLink RX11 idx "HammerTowersModel" "wheels" "I" ∈ uw) {v : Int} (hμ : μ1 = ms μ 0 48 0 v) (hdg : decode cc pc = .ok (.putfield idx, 3)) (kk : ∀ (H1 : Heap) (locs1 : List Loc), wdR D cy ad A μ1 s H1 → va_S A s.heap H1 locs1 → W p l e R s m args below meth c H1 locs1 cells slots Q (F0 m (pc + 3) ls rest)) : W p l e R s m args below meth c H locs cells slots Q (F0 m pc ls (.int (iI v) :: .ref (ad 0 0) :: rest)) := by
  have hd : dmR 0 (μ 0) 0 := ⟨rfl, Or.inl rfl⟩
  refine g_put F hw hS hd rfl rfl inU11 tyX11 tyX11_ok nmX11 48 (by decide) hl (fun _ h => h) rfl rfl rfl (Nat.le_of_ble_eq_true rfl) hdg (fun H1 locs1 h oq hS1 => kk H1 locs1 ?_ hS1)
  rw [hμ, ms_eq]
  exact hw.put hd oq h (fun _ => Iff.rfl) (fun i hi q => absurd q.1 hi)
theorem gR_teeth (F : CallFix p m c cc nL s args uw RX11) (hw : wdR D cy ad A μ s H) (hl : Cond.fieldLink RX11 idx "HammerTowersModel" "teeth" "[I" ∈ uw) (hdg : decode cc pc = .ok (.getfield idx, 3)) (kk : W p l e R s m args below meth c H locs cells slots Q (F0 m (pc + 3) ls (.ref (ad 49 0) :: rest))) : W p l e R s m args below meth c H locs cells slots Q (F0 m pc ls (.ref (ad 0 0) :: rest)) := g_get F hw (k := 0) (i := 0) ⟨rfl, Or.inl rfl⟩ rfl rfl inU11 49 (by decide) hl (fun _ h => h) rfl hdg kk
theorem gR_chosenMany (F : CallFix p m c cc nL s args uw RX11) (hw : wdR D cy ad A μ s H) (hl : Cond.fieldLink RX11 idx "HammerTowersModel" "chosenMany" "I" ∈ uw) (hdg : decode cc pc = .ok (.getfield idx, 3)) (kk : W p l e R s m args below meth c H locs cells slots Q (F0 m (pc + 3) ls (.int (iI (μ 0 50 0)) :: rest))) : W p l e R s m args below meth c H locs cells slots Q (F0 m pc ls (.ref (ad 0 0) :: rest)) := g_get F hw (k := 0) (i := 0) ⟨rfl, Or.inl rfl⟩ rfl rfl inU11 50 (by decide) hl (fun _ h => h) rfl hdg kk
theorem pR_chosenMany (F : CallFix p m c cc nL s args uw RX11) (hw : wdR D cy ad A μ s H) (hS : va_S A s.heap H locs) (hl : Cond.fieldLink RX11 idx "HammerTowersModel" "chosenMany" "I" ∈ uw) {v : Int} (hμ : μ1 = ms μ 0 50 0 v) (hdg : decode cc pc = .ok (.putfield idx, 3)) (kk : ∀ (H1 : Heap) (locs1 : List Loc), wdR D cy ad A μ1 s H1 → va_S A s.heap H1 locs1 → W p l e R s m args below meth c H1 locs1 cells slots Q (F0 m (pc + 3) ls rest)) : W p l e R s m args below meth c H locs cells slots Q (F0 m pc ls (.int (iI v) :: .ref (ad 0 0) :: rest)) := by
  have hd : dmR 0 (μ 0) 0 := ⟨rfl, Or.inl rfl⟩
  refine g_put F hw hS hd rfl rfl inU11 tyX11 tyX11_ok nmX11 50 (by decide) hl (fun _ h => h) rfl rfl rfl (Nat.le_of_ble_eq_true rfl) hdg (fun H1 locs1 h oq hS1 => kk H1 locs1 ?_ hS1)
  rw [hμ, ms_eq]
  exact hw.put hd oq h (fun _ => Iff.rfl) (fun i hi q => absurd q.1 hi)
theorem gR_chosen (F : CallFix p m c cc nL s args uw RX11) (hw : wdR D cy ad A μ s H) (hl : Cond.fieldLink RX11 idx "HammerTowersModel" "chosen" "[I" ∈ uw) (hdg : decode cc pc = .ok (.getfield idx, 3)) (kk : W p l e R s m args below meth c H locs cells slots Q (F0 m (pc + 3) ls (.ref (ad 51 0) :: rest))) : W p l e R s m args below meth c H locs cells slots Q (F0 m pc ls (.ref (ad 0 0) :: rest)) := g_get F hw (k := 0) (i := 0) ⟨rfl, Or.inl rfl⟩ rfl rfl inU11 51 (by decide) hl (fun _ h => h) rfl hdg kk
theorem gR_four (F : CallFix p m c cc nL s args uw RX11) (hw : wdR D cy ad A μ s H) (hl : Cond.fieldLink RX11 idx "HammerTowersModel" "four" "[I" ∈ uw) (hdg : decode cc pc = .ok (.getfield idx, 3)) (kk : W p l e R s m args below meth c H locs cells slots Q (F0 m (pc + 3) ls (.ref (ad 52 0) :: rest))) : W p l e R s m args below meth c H locs cells slots Q (F0 m pc ls (.ref (ad 0 0) :: rest)) := g_get F hw (k := 0) (i := 0) ⟨rfl, Or.inl rfl⟩ rfl rfl inU11 52 (by decide) hl (fun _ h => h) rfl hdg kk
theorem gR_bestUp (F : CallFix p m c cc nL s args uw RX11) (hw : wdR D cy ad A μ s H) (hl : Cond.fieldLink RX11 idx "HammerTowersModel" "bestUp" "J" ∈ uw) (hdg : decode cc pc = .ok (.getfield idx, 3)) (kk : W p l e R s m args below meth c H locs cells slots Q (F0 m (pc + 3) ls (.long (lJ (μ 0 53 0)) :: rest))) : W p l e R s m args below meth c H locs cells slots Q (F0 m pc ls (.ref (ad 0 0) :: rest)) := g_get F hw (k := 0) (i := 0) ⟨rfl, Or.inl rfl⟩ rfl rfl inU11 53 (by decide) hl (fun _ h => h) rfl hdg kk
theorem pR_bestUp (F : CallFix p m c cc nL s args uw RX11) (hw : wdR D cy ad A μ s H) (hS : va_S A s.heap H locs) (hl : Cond.fieldLink RX11 idx "HammerTowersModel" "bestUp" "J" ∈ uw) {v : Int} (hμ : μ1 = ms μ 0 53 0 v) (hdg : decode cc pc = .ok (.putfield idx, 3)) (kk : ∀ (H1 : Heap) (locs1 : List Loc), wdR D cy ad A μ1 s H1 → va_S A s.heap H1 locs1 → W p l e R s m args below meth c H1 locs1 cells slots Q (F0 m (pc + 3) ls rest)) : W p l e R s m args below meth c H locs cells slots Q (F0 m pc ls (.long (lJ v) :: .ref (ad 0 0) :: rest)) := by
  have hd : dmR 0 (μ 0) 0 := ⟨rfl, Or.inl rfl⟩
  refine g_put F hw hS hd rfl rfl inU11 tyX11 tyX11_ok nmX11 53 (by decide) hl (fun _ h => h) rfl rfl rfl (Nat.le_of_ble_eq_true rfl) hdg (fun H1 locs1 h oq hS1 => kk H1 locs1 ?_ hS1)
  rw [hμ, ms_eq]
  exact hw.put hd oq h (fun _ => Iff.rfl) (fun i hi q => absurd q.1 hi)
theorem gR_bestLow (F : CallFix p m c cc nL s args uw RX11) (hw : wdR D cy ad A μ s H) (hl : Cond.fieldLink RX11 idx "HammerTowersModel" "bestLow" "J" ∈ uw) (hdg : decode cc pc = .ok (.getfield idx, 3)) (kk : W p l e R s m args below meth c H locs cells slots Q (F0 m (pc + 3) ls (.long (lJ (μ 0 54 0)) :: rest))) : W p l e R s m args below meth c H locs cells slots Q (F0 m pc ls (.ref (ad 0 0) :: rest)) := g_get F hw (k := 0) (i := 0) ⟨rfl, Or.inl rfl⟩ rfl rfl inU11 54 (by decide) hl (fun _ h => h) rfl hdg kk
theorem pR_bestLow (F : CallFix p m c cc nL s args uw RX11) (hw : wdR D cy ad A μ s H) (hS : va_S A s.heap H locs) (hl : Cond.fieldLink RX11 idx "HammerTowersModel" "bestLow" "J" ∈ uw) {v : Int} (hμ : μ1 = ms μ 0 54 0 v) (hdg : decode cc pc = .ok (.putfield idx, 3)) (kk : ∀ (H1 : Heap) (locs1 : List Loc), wdR D cy ad A μ1 s H1 → va_S A s.heap H1 locs1 → W p l e R s m args below meth c H1 locs1 cells slots Q (F0 m (pc + 3) ls rest)) : W p l e R s m args below meth c H locs cells slots Q (F0 m pc ls (.long (lJ v) :: .ref (ad 0 0) :: rest)) := by
  have hd : dmR 0 (μ 0) 0 := ⟨rfl, Or.inl rfl⟩
  refine g_put F hw hS hd rfl rfl inU11 tyX11 tyX11_ok nmX11 54 (by decide) hl (fun _ h => h) rfl rfl rfl (Nat.le_of_ble_eq_true rfl) hdg (fun H1 locs1 h oq hS1 => kk H1 locs1 ?_ hS1)
  rw [hμ, ms_eq]
  exact hw.put hd oq h (fun _ => Iff.rfl) (fun i hi q => absurd q.1 hi)
theorem gR_isAny (F : CallFix p m c cc nL s args uw RX11) (hw : wdR D cy ad A μ s H) (hl : Cond.fieldLink RX11 idx "HammerTowersModel" "isAny" "Z" ∈ uw) (hdg : decode cc pc = .ok (.getfield idx, 3)) (kk : W p l e R s m args below meth c H locs cells slots Q (F0 m (pc + 3) ls (.int (iI (μ 0 55 0)) :: rest))) : W p l e R s m args below meth c H locs cells slots Q (F0 m pc ls (.ref (ad 0 0) :: rest)) := g_get F hw (k := 0) (i := 0) ⟨rfl, Or.inl rfl⟩ rfl rfl inU11 55 (by decide) hl (fun _ h => h) rfl hdg kk
theorem pR_isAny (F : CallFix p m c cc nL s args uw RX11) (hw : wdR D cy ad A μ s H) (hS : va_S A s.heap H locs) (hl : Cond.fieldLink RX11 idx "HammerTowersModel" "isAny" "Z" ∈ uw) {v : Int} (hbv : v = 0 ∨ v = 1) (hμ : μ1 = ms μ 0 55 0 v) (hdg : decode cc pc = .ok (.putfield idx, 3)) (kk : ∀ (H1 : Heap) (locs1 : List Loc), wdR D cy ad A μ1 s H1 → va_S A s.heap H1 locs1 → W p l e R s m args below meth c H1 locs1 cells slots Q (F0 m (pc + 3) ls rest)) : W p l e R s m args below meth c H locs cells slots Q (F0 m pc ls (.int (iI v) :: .ref (ad 0 0) :: rest)) := by
  have hd : dmR 0 (μ 0) 0 := ⟨rfl, Or.inl rfl⟩
  refine g_put F hw hS hd rfl rfl inU11 tyX11 tyX11_ok nmX11 55 (by decide) hl (fun _ h => h) rfl (by rcases hbv with rfl | rfl <;> rfl) (by rcases hbv with rfl | rfl <;> rfl) (Nat.le_of_ble_eq_true rfl) hdg (fun H1 locs1 h oq hS1 => kk H1 locs1 ?_ hS1)
  rw [hμ, ms_eq]
  exact hw.put hd oq h (fun _ => Iff.rfl) (fun i hi q => absurd q.1 hi)
theorem q_tswIn (hx : p.tables.exec = Jvm.exec) (hb : c.code = cc) {a dflt lo hi : Int} {offs : Array Int} {len : Nat} (ha : rg a) (hdg : decode cc pc = .ok (.tableswitch dflt lo hi offs, len)) (k : Nat) (hk : a = lo + k) (hk2 : lo + k ≤ hi) {off : Int} {tgt : Nat} (ho : offs[k]? = some off) (ht : (pc : Int) + off = (tgt : Int)) (kk : W p l e R s m args below meth c H locs cells slots Q (F0 m tgt ls rest)) : W p l e R s m args below meth c H locs cells slots Q (F0 m pc ls (.int (iI a) :: rest)) := lv_tableIn hx hb hdg (by rw [iI_toInt ha]; omega) (by rw [iI_toInt ha]; omega) (by rw [iI_toInt ha, show (a - lo).toNat = k by omega]; exact ho) ht kk
theorem q_tswOut (hx : p.tables.exec = Jvm.exec) (hb : c.code = cc) {a dflt lo hi : Int} {offs : Array Int} {len : Nat} (ha : rg a) (hdg : decode cc pc = .ok (.tableswitch dflt lo hi offs, len)) (h : a < lo ∨ hi < a) {tgt : Nat} (ht : (pc : Int) + dflt = (tgt : Int)) (kk : W p l e R s m args below meth c H locs cells slots Q (F0 m tgt ls rest)) : W p l e R s m args below meth c H locs cells slots Q (F0 m pc ls (.int (iI a) :: rest)) := lv_tableOut hx hb hdg (by rw [iI_toInt ha]; exact h) ht kk
end
