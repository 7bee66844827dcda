section
variable {p : Program} {l : Launch} {e : Env} {s : State} {m : MethodId} {below : List Frame} {meth : Method} {c : Code} {H : Heap} {locs : List Loc} {Qf : State → Prop} {ls : Array Slot} {cells slots b L : Nat} {xs : Nat → Int32} {D : va_G} {cy : Nat → ClassId} {G : GG} {ad adR : AD} {μ r : MM}
set_option maxRecDepth 100000 in
set_option maxHeartbeats 4000000 in
theorem lc_20 (C : LC p s m c b L xs D cy) {k : Nat} (hi : 6 * k + 6 ≤ L) (hLI : LI s D cy G ad adR μ r H) (hR : RelK (k : Int) G μ r) (hS : va_S (AL s) s.heap H locs) (hl : lv_has ls 4 [(3, .int (iI ((6 * k : Nat) : Int))), (2, .ref (adR 0 0)), (1, .ref (ad 0 0)), (0, .ref b)]) (hc : cells + 3 ≤ 500000 ∧ slots + 113 ≤ 7000000) (next : ∀ (G' : GG) (ad' : AD) (μ' r' : MM) (H' : Heap) (locs' : List Loc), ad' 0 0 = ad 0 0 → LI s D cy G' ad' adR μ' r' H' → RelK ((k : Int) + 1) G' μ' r' → va_S (AL s) s.heap H' locs' → W p l e room_1 s m #[Value.ref b] below meth c H' locs' (cells + 3) (slots + 113) Qf (F0 m 2307 ls [])) : W p l e room_1 s m #[Value.ref b] below meth c H locs cells slots Qf (F0 m 962 ls []) := by
  have hx := C.1.1
  have hb := C.1.2.1
  have hL0 := C.2.2.2.2
  have hk2 : (k : Int) < 512 := by omega
  refine lv_aload_n hx hb dL_law_962 rfl (lv_at hl 2 rfl) ?_
  refine l_ld (j := 1) C hS rfl hl (by omega) dL_law_963 dL_law_964 dL_law_965 dL_law_966 dL_law_967 ?_
  refine l_ld (j := 2) C hS rfl hl (by omega) dL_law_968 dL_law_969 dL_law_970 dL_law_971 dL_law_972 ?_
  refine l_callC (rest := []) C hLI (kX10_hands (rel_hands hR hk2 _ (XI_rg _ _) _ (XI_rg _ _))) 2 tw3_146 tw3_144 tw3_145 tw3_143 hdX10_hands rfl ⟨by decide, by decide⟩ hS rfl hl.1 rfl (Nat.le_of_ble_eq_true rfl) dL_law_973 ⟨by omega, by omega⟩ (fun v μ H locs hK hLI hS => ?_)
  refine lv_aload_n hx hb dL_law_976 rfl (lv_at hl 1 rfl) ?_
  refine l_ld (j := 1) C hS rfl hl (by omega) dL_law_977 dL_law_978 dL_law_979 dL_law_980 dL_law_981 ?_
  refine l_ld (j := 2) C hS rfl hl (by omega) dL_law_982 dL_law_983 dL_law_984 dL_law_985 dL_law_986 ?_
  refine l_callR (rest := [.int (iI v)]) C hLI (kX11_hands hK) 2 tw6_220 tw6_218 tw6_219 tw6_217 hdX11_hands rfl ⟨by decide, by decide⟩ hS rfl hl.1 rfl (Nat.le_of_ble_eq_true rfl) dL_law_987 ⟨by omega, by omega⟩ (fun v' r H locs hK2 hLI hS => ?_)
  obtain ⟨ev, hR2⟩ := hK2 ()
  subst ev
  refine lv_icmp_eq (tgt := 2307) hx hb dL_law_990 (by decide) (fun _ => ?_) (fun q => absurd rfl q)
  exact W.widen (Nat.le_add_right _ _) (Nat.le_add_right _ _) (next _ _ _ _ _ _ rfl hLI hR2 hS)
set_option maxRecDepth 100000 in
set_option maxHeartbeats 4000000 in
theorem lc_21 (C : LC p s m c b L xs D cy) {k : Nat} (hi : 6 * k + 6 ≤ L) (hLI : LI s D cy G ad adR μ r H) (hR : RelK (k : Int) G μ r) (hS : va_S (AL s) s.heap H locs) (hl : lv_has ls 4 [(3, .int (iI ((6 * k : Nat) : Int))), (2, .ref (adR 0 0)), (1, .ref (ad 0 0)), (0, .ref b)]) (hc : cells + 3 ≤ 500000 ∧ slots + 113 ≤ 7000000) (next : ∀ (G' : GG) (ad' : AD) (μ' r' : MM) (H' : Heap) (locs' : List Loc), ad' 0 0 = ad 0 0 → LI s D cy G' ad' adR μ' r' H' → RelK ((k : Int) + 1) G' μ' r' → va_S (AL s) s.heap H' locs' → W p l e room_1 s m #[Value.ref b] below meth c H' locs' (cells + 3) (slots + 113) Qf (F0 m 2307 ls [])) : W p l e room_1 s m #[Value.ref b] below meth c H locs cells slots Qf (F0 m 995 ls []) := by
  have hx := C.1.1
  have hb := C.1.2.1
  have hL0 := C.2.2.2.2
  have hk2 : (k : Int) < 512 := by omega
  refine lv_aload_n hx hb dL_law_995 rfl (lv_at hl 2 rfl) ?_
  refine l_ld (j := 1) C hS rfl hl (by omega) dL_law_996 dL_law_997 dL_law_998 dL_law_999 dL_law_1000 ?_
  refine l_ld (j := 2) C hS rfl hl (by omega) dL_law_1001 dL_law_1002 dL_law_1003 dL_law_1004 dL_law_1005 ?_
  refine l_callC (rest := []) C hLI (kX10_forward (rel_forward hR hk2 _ (XI_rg _ _) _ (XI_rg _ _))) 2 tw3_150 tw3_148 tw3_149 tw3_147 hdX10_forward rfl ⟨by decide, by decide⟩ hS rfl hl.1 rfl (Nat.le_of_ble_eq_true rfl) dL_law_1006 ⟨by omega, by omega⟩ (fun v μ H locs hK hLI hS => ?_)
  refine lv_aload_n hx hb dL_law_1009 rfl (lv_at hl 1 rfl) ?_
  refine l_ld (j := 1) C hS rfl hl (by omega) dL_law_1010 dL_law_1011 dL_law_1012 dL_law_1013 dL_law_1014 ?_
  refine l_ld (j := 2) C hS rfl hl (by omega) dL_law_1015 dL_law_1016 dL_law_1017 dL_law_1018 dL_law_1019 ?_
  refine l_callR (rest := [.int (iI v)]) C hLI (kX11_forward hK) 2 tw6_224 tw6_222 tw6_223 tw6_221 hdX11_forward rfl ⟨by decide, by decide⟩ hS rfl hl.1 rfl (Nat.le_of_ble_eq_true rfl) dL_law_1020 ⟨by omega, by omega⟩ (fun v' r H locs hK2 hLI hS => ?_)
  obtain ⟨ev, hR2⟩ := hK2 ()
  subst ev
  refine lv_icmp_eq (tgt := 2307) hx hb dL_law_1023 (by decide) (fun _ => ?_) (fun q => absurd rfl q)
  exact W.widen (Nat.le_add_right _ _) (Nat.le_add_right _ _) (next _ _ _ _ _ _ rfl hLI hR2 hS)
set_option maxRecDepth 100000 in
set_option maxHeartbeats 4000000 in
theorem lc_22 (C : LC p s m c b L xs D cy) {k : Nat} (hi : 6 * k + 6 ≤ L) (hLI : LI s D cy G ad adR μ r H) (hR : RelK (k : Int) G μ r) (hS : va_S (AL s) s.heap H locs) (hl : lv_has ls 4 [(3, .int (iI ((6 * k : Nat) : Int))), (2, .ref (adR 0 0)), (1, .ref (ad 0 0)), (0, .ref b)]) (hc : cells + 3 ≤ 500000 ∧ slots + 113 ≤ 7000000) (next : ∀ (G' : GG) (ad' : AD) (μ' r' : MM) (H' : Heap) (locs' : List Loc), ad' 0 0 = ad 0 0 → LI s D cy G' ad' adR μ' r' H' → RelK ((k : Int) + 1) G' μ' r' → va_S (AL s) s.heap H' locs' → W p l e room_1 s m #[Value.ref b] below meth c H' locs' (cells + 3) (slots + 113) Qf (F0 m 2307 ls [])) : W p l e room_1 s m #[Value.ref b] below meth c H locs cells slots Qf (F0 m 1028 ls []) := by
  have hx := C.1.1
  have hb := C.1.2.1
  have hL0 := C.2.2.2.2
  have hk2 : (k : Int) < 512 := by omega
  refine lv_aload_n hx hb dL_law_1028 rfl (lv_at hl 2 rfl) ?_
  refine l_ld (j := 1) C hS rfl hl (by omega) dL_law_1029 dL_law_1030 dL_law_1031 dL_law_1032 dL_law_1033 ?_
  refine l_ld (j := 2) C hS rfl hl (by omega) dL_law_1034 dL_law_1035 dL_law_1036 dL_law_1037 dL_law_1038 ?_
  refine l_callC (rest := []) C hLI (kX10_back (rel_back hR hk2 _ (XI_rg _ _) _ (XI_rg _ _))) 2 tw3_199 tw3_197 tw3_198 tw3_196 hdX10_back rfl ⟨by decide, by decide⟩ hS rfl hl.1 rfl (Nat.le_of_ble_eq_true rfl) dL_law_1039 ⟨by omega, by omega⟩ (fun v μ H locs hK hLI hS => ?_)
  refine lv_aload_n hx hb dL_law_1042 rfl (lv_at hl 1 rfl) ?_
  refine l_ld (j := 1) C hS rfl hl (by omega) dL_law_1043 dL_law_1044 dL_law_1045 dL_law_1046 dL_law_1047 ?_
  refine l_ld (j := 2) C hS rfl hl (by omega) dL_law_1048 dL_law_1049 dL_law_1050 dL_law_1051 dL_law_1052 ?_
  refine l_callR (rest := [.int (iI v)]) C hLI (kX11_back hK) 2 tw7_15 tw7_13 tw7_14 tw7_12 hdX11_back rfl ⟨by decide, by decide⟩ hS rfl hl.1 rfl (Nat.le_of_ble_eq_true rfl) dL_law_1053 ⟨by omega, by omega⟩ (fun v' r H locs hK2 hLI hS => ?_)
  obtain ⟨ev, hR2⟩ := hK2 ()
  subst ev
  refine lv_icmp_eq (tgt := 2307) hx hb dL_law_1056 (by decide) (fun _ => ?_) (fun q => absurd rfl q)
  exact W.widen (Nat.le_add_right _ _) (Nat.le_add_right _ _) (next _ _ _ _ _ _ rfl hLI hR2 hS)
set_option maxRecDepth 100000 in
set_option maxHeartbeats 4000000 in
theorem lc_23 (C : LC p s m c b L xs D cy) {k : Nat} (hi : 6 * k + 6 ≤ L) (hLI : LI s D cy G ad adR μ r H) (hR : RelK (k : Int) G μ r) (hS : va_S (AL s) s.heap H locs) (hl : lv_has ls 4 [(3, .int (iI ((6 * k : Nat) : Int))), (2, .ref (adR 0 0)), (1, .ref (ad 0 0)), (0, .ref b)]) (hc : cells + 3 ≤ 500000 ∧ slots + 113 ≤ 7000000) (next : ∀ (G' : GG) (ad' : AD) (μ' r' : MM) (H' : Heap) (locs' : List Loc), ad' 0 0 = ad 0 0 → LI s D cy G' ad' adR μ' r' H' → RelK ((k : Int) + 1) G' μ' r' → va_S (AL s) s.heap H' locs' → W p l e room_1 s m #[Value.ref b] below meth c H' locs' (cells + 3) (slots + 113) Qf (F0 m 2307 ls [])) : W p l e room_1 s m #[Value.ref b] below meth c H locs cells slots Qf (F0 m 1061 ls []) := by
  have hx := C.1.1
  have hb := C.1.2.1
  have hL0 := C.2.2.2.2
  have hk2 : (k : Int) < 512 := by omega
  refine lv_aload_n hx hb dL_law_1061 rfl (lv_at hl 2 rfl) ?_
  refine l_ld (j := 1) C hS rfl hl (by omega) dL_law_1062 dL_law_1063 dL_law_1064 dL_law_1065 dL_law_1066 ?_
  refine l_ld (j := 2) C hS rfl hl (by omega) dL_law_1067 dL_law_1068 dL_law_1069 dL_law_1070 dL_law_1071 ?_
  refine l_callC (rest := []) C hLI (kX10_rate (rel_rate hR hk2 _ (XI_rg _ _) _ (XI_rg _ _))) 2 tw3_204 tw3_202 tw3_203 tw3_201 hdX10_rate rfl ⟨by decide, by decide⟩ hS rfl hl.1 rfl (Nat.le_of_ble_eq_true rfl) dL_law_1072 ⟨by omega, by omega⟩ (fun v μ H locs hK hLI hS => ?_)
  refine lv_aload_n hx hb dL_law_1075 rfl (lv_at hl 1 rfl) ?_
  refine l_ld (j := 1) C hS rfl hl (by omega) dL_law_1076 dL_law_1077 dL_law_1078 dL_law_1079 dL_law_1080 ?_
  refine l_ld (j := 2) C hS rfl hl (by omega) dL_law_1081 dL_law_1082 dL_law_1083 dL_law_1084 dL_law_1085 ?_
  refine l_callR (rest := [.int (iI v)]) C hLI (kX11_rate hK) 2 tw7_19 tw7_17 tw7_18 tw7_16 hdX11_rate rfl ⟨by decide, by decide⟩ hS rfl hl.1 rfl (Nat.le_of_ble_eq_true rfl) dL_law_1086 ⟨by omega, by omega⟩ (fun v' r H locs hK2 hLI hS => ?_)
  obtain ⟨ev, hR2⟩ := hK2 ()
  subst ev
  refine lv_icmp_eq (tgt := 2307) hx hb dL_law_1089 (by decide) (fun _ => ?_) (fun q => absurd rfl q)
  exact W.widen (Nat.le_add_right _ _) (Nat.le_add_right _ _) (next _ _ _ _ _ _ rfl hLI hR2 hS)
set_option maxRecDepth 100000 in
set_option maxHeartbeats 4000000 in
theorem lc_24 (C : LC p s m c b L xs D cy) {k : Nat} (hi : 6 * k + 6 ≤ L) (hLI : LI s D cy G ad adR μ r H) (hR : RelK (k : Int) G μ r) (hS : va_S (AL s) s.heap H locs) (hl : lv_has ls 4 [(3, .int (iI ((6 * k : Nat) : Int))), (2, .ref (adR 0 0)), (1, .ref (ad 0 0)), (0, .ref b)]) (hc : cells + 3 ≤ 500000 ∧ slots + 113 ≤ 7000000) (next : ∀ (G' : GG) (ad' : AD) (μ' r' : MM) (H' : Heap) (locs' : List Loc), ad' 0 0 = ad 0 0 → LI s D cy G' ad' adR μ' r' H' → RelK ((k : Int) + 1) G' μ' r' → va_S (AL s) s.heap H' locs' → W p l e room_1 s m #[Value.ref b] below meth c H' locs' (cells + 3) (slots + 113) Qf (F0 m 2307 ls [])) : W p l e room_1 s m #[Value.ref b] below meth c H locs cells slots Qf (F0 m 1094 ls []) := by
  have hx := C.1.1
  have hb := C.1.2.1
  have hL0 := C.2.2.2.2
  have hk2 : (k : Int) < 512 := by omega
  refine lv_aload_n hx hb dL_law_1094 rfl (lv_at hl 2 rfl) ?_
  refine l_ld (j := 1) C hS rfl hl (by omega) dL_law_1095 dL_law_1096 dL_law_1097 dL_law_1098 dL_law_1099 ?_
  refine l_ld (j := 2) C hS rfl hl (by omega) dL_law_1100 dL_law_1101 dL_law_1102 dL_law_1103 dL_law_1104 ?_
  refine l_bz C (XI_rg _ _) dL_law_1105 dL_law_1108 dL_law_1109 dL_law_1112 (by decide) (by decide) ?_
  refine l_callC (rest := []) C hLI (kX10_go (rel_go hR hk2 _ (XI_rg _ _) _ (bz01 _))) 2 tw3_208 tw3_206 tw3_207 tw3_205 hdX10_go rfl ⟨by decide, by decide⟩ hS rfl hl.1 rfl (Nat.le_of_ble_eq_true rfl) dL_law_1113 ⟨by omega, by omega⟩ (fun v μ H locs hK hLI hS => ?_)
  refine lv_aload_n hx hb dL_law_1116 rfl (lv_at hl 1 rfl) ?_
  refine l_ld (j := 1) C hS rfl hl (by omega) dL_law_1117 dL_law_1118 dL_law_1119 dL_law_1120 dL_law_1121 ?_
  refine l_ld (j := 2) C hS rfl hl (by omega) dL_law_1122 dL_law_1123 dL_law_1124 dL_law_1125 dL_law_1126 ?_
  refine l_bz C (XI_rg _ _) dL_law_1127 dL_law_1130 dL_law_1131 dL_law_1134 (by decide) (by decide) ?_
  refine l_callR (rest := [.int (iI v)]) C hLI (kX11_go hK) 2 tw7_23 tw7_21 tw7_22 tw7_20 hdX11_go rfl ⟨by decide, by decide⟩ hS rfl hl.1 rfl (Nat.le_of_ble_eq_true rfl) dL_law_1135 ⟨by omega, by omega⟩ (fun v' r H locs hK2 hLI hS => ?_)
  obtain ⟨ev, hR2⟩ := hK2 ()
  subst ev
  refine lv_icmp_eq (tgt := 2307) hx hb dL_law_1138 (by decide) (fun _ => ?_) (fun q => absurd rfl q)
  exact W.widen (Nat.le_add_right _ _) (Nat.le_add_right _ _) (next _ _ _ _ _ _ rfl hLI hR2 hS)
set_option maxRecDepth 100000 in
set_option maxHeartbeats 4000000 in
theorem lc_25 (C : LC p s m c b L xs D cy) {k : Nat} (hi : 6 * k + 6 ≤ L) (hLI : LI s D cy G ad adR μ r H) (hR : RelK (k : Int) G μ r) (hS : va_S (AL s) s.heap H locs) (hl : lv_has ls 4 [(3, .int (iI ((6 * k : Nat) : Int))), (2, .ref (adR 0 0)), (1, .ref (ad 0 0)), (0, .ref b)]) (hc : cells + 3 ≤ 500000 ∧ slots + 113 ≤ 7000000) (next : ∀ (G' : GG) (ad' : AD) (μ' r' : MM) (H' : Heap) (locs' : List Loc), ad' 0 0 = ad 0 0 → LI s D cy G' ad' adR μ' r' H' → RelK ((k : Int) + 1) G' μ' r' → va_S (AL s) s.heap H' locs' → W p l e room_1 s m #[Value.ref b] below meth c H' locs' (cells + 3) (slots + 113) Qf (F0 m 2307 ls [])) : W p l e room_1 s m #[Value.ref b] below meth c H locs cells slots Qf (F0 m 1143 ls []) := by
  have hx := C.1.1
  have hb := C.1.2.1
  have hL0 := C.2.2.2.2
  have hk2 : (k : Int) < 512 := by omega
  refine lv_aload_n hx hb dL_law_1143 rfl (lv_at hl 2 rfl) ?_
  refine l_ld (j := 1) C hS rfl hl (by omega) dL_law_1144 dL_law_1145 dL_law_1146 dL_law_1147 dL_law_1148 ?_
  refine l_ld (j := 2) C hS rfl hl (by omega) dL_law_1149 dL_law_1150 dL_law_1151 dL_law_1152 dL_law_1153 ?_
  refine l_callC (rest := []) C hLI (kX10_windGoing (rel_windGoing hR hk2 _ (XI_rg _ _) _ (XI_rg _ _))) 2 tw3_212 tw3_210 tw3_211 tw3_209 hdX10_windGoing rfl ⟨by decide, by decide⟩ hS rfl hl.1 rfl (Nat.le_of_ble_eq_true rfl) dL_law_1154 ⟨by omega, by omega⟩ (fun v μ H locs hK hLI hS => ?_)
  refine lv_aload_n hx hb dL_law_1157 rfl (lv_at hl 1 rfl) ?_
  refine l_ld (j := 1) C hS rfl hl (by omega) dL_law_1158 dL_law_1159 dL_law_1160 dL_law_1161 dL_law_1162 ?_
  refine l_ld (j := 2) C hS rfl hl (by omega) dL_law_1163 dL_law_1164 dL_law_1165 dL_law_1166 dL_law_1167 ?_
  refine l_callR (rest := [.int (iI v)]) C hLI (kX11_windGoing hK) 2 tw7_27 tw7_25 tw7_26 tw7_24 hdX11_windGoing rfl ⟨by decide, by decide⟩ hS rfl hl.1 rfl (Nat.le_of_ble_eq_true rfl) dL_law_1168 ⟨by omega, by omega⟩ (fun v' r H locs hK2 hLI hS => ?_)
  obtain ⟨ev, hR2⟩ := hK2 ()
  subst ev
  refine lv_icmp_eq (tgt := 2307) hx hb dL_law_1171 (by decide) (fun _ => ?_) (fun q => absurd rfl q)
  exact W.widen (Nat.le_add_right _ _) (Nat.le_add_right _ _) (next _ _ _ _ _ _ rfl hLI hR2 hS)
set_option maxRecDepth 100000 in
set_option maxHeartbeats 4000000 in
theorem lc_26 (C : LC p s m c b L xs D cy) {k : Nat} (hi : 6 * k + 6 ≤ L) (hLI : LI s D cy G ad adR μ r H) (hR : RelK (k : Int) G μ r) (hS : va_S (AL s) s.heap H locs) (hl : lv_has ls 4 [(3, .int (iI ((6 * k : Nat) : Int))), (2, .ref (adR 0 0)), (1, .ref (ad 0 0)), (0, .ref b)]) (hc : cells + 3 ≤ 500000 ∧ slots + 113 ≤ 7000000) (next : ∀ (G' : GG) (ad' : AD) (μ' r' : MM) (H' : Heap) (locs' : List Loc), ad' 0 0 = ad 0 0 → LI s D cy G' ad' adR μ' r' H' → RelK ((k : Int) + 1) G' μ' r' → va_S (AL s) s.heap H' locs' → W p l e room_1 s m #[Value.ref b] below meth c H' locs' (cells + 3) (slots + 113) Qf (F0 m 2307 ls [])) : W p l e room_1 s m #[Value.ref b] below meth c H locs cells slots Qf (F0 m 1176 ls []) := by
  have hx := C.1.1
  have hb := C.1.2.1
  have hL0 := C.2.2.2.2
  have hk2 : (k : Int) < 512 := by omega
  refine lv_aload_n hx hb dL_law_1176 rfl (lv_at hl 2 rfl) ?_
  refine l_ld (j := 1) C hS rfl hl (by omega) dL_law_1177 dL_law_1178 dL_law_1179 dL_law_1180 dL_law_1181 ?_
  refine l_ld (j := 2) C hS rfl hl (by omega) dL_law_1182 dL_law_1183 dL_law_1184 dL_law_1185 dL_law_1186 ?_
  refine l_ld (j := 3) C hS rfl hl (by omega) dL_law_1187 dL_law_1188 dL_law_1189 dL_law_1190 dL_law_1191 ?_
  refine l_ld (j := 4) C hS rfl hl (by omega) dL_law_1192 dL_law_1193 dL_law_1194 dL_law_1195 dL_law_1196 ?_
  refine l_callC (rest := []) C hLI (kX10_silence (rel_silence hR hk2 _ (XI_rg _ _) _ (XI_rg _ _) _ (XI_rg _ _) _ (XI_rg _ _))) 4 tw3_216 tw3_214 tw3_215 tw3_213 hdX10_silence rfl ⟨by decide, by decide⟩ hS rfl hl.1 rfl (Nat.le_of_ble_eq_true rfl) dL_law_1197 ⟨by omega, by omega⟩ (fun v μ H locs hK hLI hS => ?_)
  refine lv_aload_n hx hb dL_law_1200 rfl (lv_at hl 1 rfl) ?_
  refine l_ld (j := 1) C hS rfl hl (by omega) dL_law_1201 dL_law_1202 dL_law_1203 dL_law_1204 dL_law_1205 ?_
  refine l_ld (j := 2) C hS rfl hl (by omega) dL_law_1206 dL_law_1207 dL_law_1208 dL_law_1209 dL_law_1210 ?_
  refine l_ld (j := 3) C hS rfl hl (by omega) dL_law_1211 dL_law_1212 dL_law_1213 dL_law_1214 dL_law_1215 ?_
  refine l_ld (j := 4) C hS rfl hl (by omega) dL_law_1216 dL_law_1217 dL_law_1218 dL_law_1219 dL_law_1220 ?_
  refine l_callR (rest := [.int (iI v)]) C hLI (kX11_silence hK) 4 tw7_31 tw7_29 tw7_30 tw7_28 hdX11_silence rfl ⟨by decide, by decide⟩ hS rfl hl.1 rfl (Nat.le_of_ble_eq_true rfl) dL_law_1221 ⟨by omega, by omega⟩ (fun v' r H locs hK2 hLI hS => ?_)
  obtain ⟨ev, hR2⟩ := hK2 ()
  subst ev
  refine lv_icmp_eq (tgt := 2307) hx hb dL_law_1224 (by decide) (fun _ => ?_) (fun q => absurd rfl q)
  exact W.widen (Nat.le_add_right _ _) (Nat.le_add_right _ _) (next _ _ _ _ _ _ rfl hLI hR2 hS)
set_option maxRecDepth 100000 in
set_option maxHeartbeats 4000000 in
theorem lc_27 (C : LC p s m c b L xs D cy) {k : Nat} (hi : 6 * k + 6 ≤ L) (hLI : LI s D cy G ad adR μ r H) (hR : RelK (k : Int) G μ r) (hS : va_S (AL s) s.heap H locs) (hl : lv_has ls 4 [(3, .int (iI ((6 * k : Nat) : Int))), (2, .ref (adR 0 0)), (1, .ref (ad 0 0)), (0, .ref b)]) (hc : cells + 3 ≤ 500000 ∧ slots + 113 ≤ 7000000) (next : ∀ (G' : GG) (ad' : AD) (μ' r' : MM) (H' : Heap) (locs' : List Loc), ad' 0 0 = ad 0 0 → LI s D cy G' ad' adR μ' r' H' → RelK ((k : Int) + 1) G' μ' r' → va_S (AL s) s.heap H' locs' → W p l e room_1 s m #[Value.ref b] below meth c H' locs' (cells + 3) (slots + 113) Qf (F0 m 2307 ls [])) : W p l e room_1 s m #[Value.ref b] below meth c H locs cells slots Qf (F0 m 1229 ls []) := by
  have hx := C.1.1
  have hb := C.1.2.1
  have hL0 := C.2.2.2.2
  have hk2 : (k : Int) < 512 := by omega
  refine lv_aload_n hx hb dL_law_1229 rfl (lv_at hl 2 rfl) ?_
  refine l_ld (j := 1) C hS rfl hl (by omega) dL_law_1230 dL_law_1231 dL_law_1232 dL_law_1233 dL_law_1234 ?_
  refine l_ld (j := 2) C hS rfl hl (by omega) dL_law_1235 dL_law_1236 dL_law_1237 dL_law_1238 dL_law_1239 ?_
  refine l_bz C (XI_rg _ _) dL_law_1240 dL_law_1243 dL_law_1244 dL_law_1247 (by decide) (by decide) ?_
  refine l_callC (rest := []) C hLI (kX10_letOff (rel_letOff hR hk2 _ (XI_rg _ _) _ (bz01 _))) 2 tw3_224 tw3_222 tw3_223 tw3_221 hdX10_letOff rfl ⟨by decide, by decide⟩ hS rfl hl.1 rfl (Nat.le_of_ble_eq_true rfl) dL_law_1248 ⟨by omega, by omega⟩ (fun v μ H locs hK hLI hS => ?_)
  refine lv_aload_n hx hb dL_law_1251 rfl (lv_at hl 1 rfl) ?_
  refine l_ld (j := 1) C hS rfl hl (by omega) dL_law_1252 dL_law_1253 dL_law_1254 dL_law_1255 dL_law_1256 ?_
  refine l_ld (j := 2) C hS rfl hl (by omega) dL_law_1257 dL_law_1258 dL_law_1259 dL_law_1260 dL_law_1261 ?_
  refine l_bz C (XI_rg _ _) dL_law_1262 dL_law_1265 dL_law_1266 dL_law_1269 (by decide) (by decide) ?_
  refine l_callR (rest := [.int (iI v)]) C hLI (kX11_letOff hK) 2 tw7_35 tw7_33 tw7_34 tw7_32 hdX11_letOff rfl ⟨by decide, by decide⟩ hS rfl hl.1 rfl (Nat.le_of_ble_eq_true rfl) dL_law_1270 ⟨by omega, by omega⟩ (fun v' r H locs hK2 hLI hS => ?_)
  obtain ⟨ev, hR2⟩ := hK2 ()
  subst ev
  refine lv_icmp_eq (tgt := 2307) hx hb dL_law_1273 (by decide) (fun _ => ?_) (fun q => absurd rfl q)
  exact W.widen (Nat.le_add_right _ _) (Nat.le_add_right _ _) (next _ _ _ _ _ _ rfl hLI hR2 hS)
set_option maxRecDepth 100000 in
set_option maxHeartbeats 4000000 in
theorem lc_28 (C : LC p s m c b L xs D cy) {k : Nat} (hi : 6 * k + 6 ≤ L) (hLI : LI s D cy G ad adR μ r H) (hR : RelK (k : Int) G μ r) (hS : va_S (AL s) s.heap H locs) (hl : lv_has ls 4 [(3, .int (iI ((6 * k : Nat) : Int))), (2, .ref (adR 0 0)), (1, .ref (ad 0 0)), (0, .ref b)]) (hc : cells + 3 ≤ 500000 ∧ slots + 113 ≤ 7000000) (next : ∀ (G' : GG) (ad' : AD) (μ' r' : MM) (H' : Heap) (locs' : List Loc), ad' 0 0 = ad 0 0 → LI s D cy G' ad' adR μ' r' H' → RelK ((k : Int) + 1) G' μ' r' → va_S (AL s) s.heap H' locs' → W p l e room_1 s m #[Value.ref b] below meth c H' locs' (cells + 3) (slots + 113) Qf (F0 m 2307 ls [])) : W p l e room_1 s m #[Value.ref b] below meth c H locs cells slots Qf (F0 m 1278 ls []) := by
  have hx := C.1.1
  have hb := C.1.2.1
  have hL0 := C.2.2.2.2
  have hk2 : (k : Int) < 512 := by omega
  refine lv_aload_n hx hb dL_law_1278 rfl (lv_at hl 2 rfl) ?_
  refine l_ld (j := 1) C hS rfl hl (by omega) dL_law_1279 dL_law_1280 dL_law_1281 dL_law_1282 dL_law_1283 ?_
  refine l_ld (j := 2) C hS rfl hl (by omega) dL_law_1284 dL_law_1285 dL_law_1286 dL_law_1287 dL_law_1288 ?_
  refine l_bz C (XI_rg _ _) dL_law_1289 dL_law_1292 dL_law_1293 dL_law_1296 (by decide) (by decide) ?_
  refine l_callC (rest := []) C hLI (kX10_runOut (rel_runOut hR hk2 _ (XI_rg _ _) _ (bz01 _))) 2 tw3_229 tw3_227 tw3_228 tw3_226 hdX10_runOut rfl ⟨by decide, by decide⟩ hS rfl hl.1 rfl (Nat.le_of_ble_eq_true rfl) dL_law_1297 ⟨by omega, by omega⟩ (fun v μ H locs hK hLI hS => ?_)
  refine lv_aload_n hx hb dL_law_1300 rfl (lv_at hl 1 rfl) ?_
  refine l_ld (j := 1) C hS rfl hl (by omega) dL_law_1301 dL_law_1302 dL_law_1303 dL_law_1304 dL_law_1305 ?_
  refine l_ld (j := 2) C hS rfl hl (by omega) dL_law_1306 dL_law_1307 dL_law_1308 dL_law_1309 dL_law_1310 ?_
  refine l_bz C (XI_rg _ _) dL_law_1311 dL_law_1314 dL_law_1315 dL_law_1318 (by decide) (by decide) ?_
  refine l_callR (rest := [.int (iI v)]) C hLI (kX11_runOut hK) 2 tw7_39 tw7_37 tw7_38 tw7_36 hdX11_runOut rfl ⟨by decide, by decide⟩ hS rfl hl.1 rfl (Nat.le_of_ble_eq_true rfl) dL_law_1319 ⟨by omega, by omega⟩ (fun v' r H locs hK2 hLI hS => ?_)
  obtain ⟨ev, hR2⟩ := hK2 ()
  subst ev
  refine lv_icmp_eq (tgt := 2307) hx hb dL_law_1322 (by decide) (fun _ => ?_) (fun q => absurd rfl q)
  exact W.widen (Nat.le_add_right _ _) (Nat.le_add_right _ _) (next _ _ _ _ _ _ rfl hLI hR2 hS)
set_option maxRecDepth 100000 in
set_option maxHeartbeats 4000000 in
theorem lc_29 (C : LC p s m c b L xs D cy) {k : Nat} (hi : 6 * k + 6 ≤ L) (hLI : LI s D cy G ad adR μ r H) (hR : RelK (k : Int) G μ r) (hS : va_S (AL s) s.heap H locs) (hl : lv_has ls 4 [(3, .int (iI ((6 * k : Nat) : Int))), (2, .ref (adR 0 0)), (1, .ref (ad 0 0)), (0, .ref b)]) (hc : cells + 3 ≤ 500000 ∧ slots + 113 ≤ 7000000) (next : ∀ (G' : GG) (ad' : AD) (μ' r' : MM) (H' : Heap) (locs' : List Loc), ad' 0 0 = ad 0 0 → LI s D cy G' ad' adR μ' r' H' → RelK ((k : Int) + 1) G' μ' r' → va_S (AL s) s.heap H' locs' → W p l e room_1 s m #[Value.ref b] below meth c H' locs' (cells + 3) (slots + 113) Qf (F0 m 2307 ls [])) : W p l e room_1 s m #[Value.ref b] below meth c H locs cells slots Qf (F0 m 1327 ls []) := by
  have hx := C.1.1
  have hb := C.1.2.1
  have hL0 := C.2.2.2.2
  have hk2 : (k : Int) < 512 := by omega
  refine lv_aload_n hx hb dL_law_1327 rfl (lv_at hl 2 rfl) ?_
  refine l_ld (j := 1) C hS rfl hl (by omega) dL_law_1328 dL_law_1329 dL_law_1330 dL_law_1331 dL_law_1332 ?_
  refine l_callC (rest := []) C hLI (kX10_pass (rel_pass hR hk2 _ (XI_rg _ _))) 1 tw4_26 tw4_24 tw4_25 tw4_23 hdX10_pass rfl ⟨by decide, by decide⟩ hS rfl hl.1 rfl (Nat.le_of_ble_eq_true rfl) dL_law_1333 ⟨by omega, by omega⟩ (fun v μ H locs hK hLI hS => ?_)
  refine lv_aload_n hx hb dL_law_1336 rfl (lv_at hl 1 rfl) ?_
  refine l_ld (j := 1) C hS rfl hl (by omega) dL_law_1337 dL_law_1338 dL_law_1339 dL_law_1340 dL_law_1341 ?_
  refine l_callR (rest := [.int (iI v)]) C hLI (kX11_pass hK) 1 tw7_52 tw7_50 tw7_51 tw7_49 hdX11_pass rfl ⟨by decide, by decide⟩ hS rfl hl.1 rfl (Nat.le_of_ble_eq_true rfl) dL_law_1342 ⟨by omega, by omega⟩ (fun v' r H locs hK2 hLI hS => ?_)
  obtain ⟨ev, hR2⟩ := hK2 ()
  subst ev
  refine lv_icmp_eq (tgt := 2307) hx hb dL_law_1345 (by decide) (fun _ => ?_) (fun q => absurd rfl q)
  exact W.widen (Nat.le_add_right _ _) (Nat.le_add_right _ _) (next _ _ _ _ _ _ rfl hLI hR2 hS)
set_option maxRecDepth 100000 in
set_option maxHeartbeats 4000000 in
theorem lc_30 (C : LC p s m c b L xs D cy) {k : Nat} (hi : 6 * k + 6 ≤ L) (hLI : LI s D cy G ad adR μ r H) (hR : RelK (k : Int) G μ r) (hS : va_S (AL s) s.heap H locs) (hl : lv_has ls 4 [(3, .int (iI ((6 * k : Nat) : Int))), (2, .ref (adR 0 0)), (1, .ref (ad 0 0)), (0, .ref b)]) (hc : cells + 3 ≤ 500000 ∧ slots + 113 ≤ 7000000) (next : ∀ (G' : GG) (ad' : AD) (μ' r' : MM) (H' : Heap) (locs' : List Loc), ad' 0 0 = ad 0 0 → LI s D cy G' ad' adR μ' r' H' → RelK ((k : Int) + 1) G' μ' r' → va_S (AL s) s.heap H' locs' → W p l e room_1 s m #[Value.ref b] below meth c H' locs' (cells + 3) (slots + 113) Qf (F0 m 2307 ls [])) : W p l e room_1 s m #[Value.ref b] below meth c H locs cells slots Qf (F0 m 1350 ls []) := by
  have hx := C.1.1
  have hb := C.1.2.1
  have hL0 := C.2.2.2.2
  have hk2 : (k : Int) < 512 := by omega
  refine lv_aload_n hx hb dL_law_1350 rfl (lv_at hl 2 rfl) ?_
  refine l_ld (j := 1) C hS rfl hl (by omega) dL_law_1351 dL_law_1352 dL_law_1353 dL_law_1354 dL_law_1355 ?_
  refine l_ld (j := 2) C hS rfl hl (by omega) dL_law_1356 dL_law_1357 dL_law_1358 dL_law_1359 dL_law_1360 ?_
  refine l_callC (rest := []) C hLI (kX10_tells (rel_tells hR hk2 _ (XI_rg _ _) _ (XI_rg _ _))) 2 tw4_38 tw4_36 tw4_37 tw4_35 hdX10_tells rfl ⟨by decide, by decide⟩ hS rfl hl.1 rfl (Nat.le_of_ble_eq_true rfl) dL_law_1361 ⟨by omega, by omega⟩ (fun v μ H locs hK hLI hS => ?_)
  refine lv_aload_n hx hb dL_law_1364 rfl (lv_at hl 1 rfl) ?_
  refine l_ld (j := 1) C hS rfl hl (by omega) dL_law_1365 dL_law_1366 dL_law_1367 dL_law_1368 dL_law_1369 ?_
  refine l_ld (j := 2) C hS rfl hl (by omega) dL_law_1370 dL_law_1371 dL_law_1372 dL_law_1373 dL_law_1374 ?_
  refine l_callR (rest := [.int (iI v)]) C hLI (kX11_tells hK) 2 tw7_62 tw7_60 tw7_61 tw7_59 hdX11_tells rfl ⟨by decide, by decide⟩ hS rfl hl.1 rfl (Nat.le_of_ble_eq_true rfl) dL_law_1375 ⟨by omega, by omega⟩ (fun v' r H locs hK2 hLI hS => ?_)
  obtain ⟨ev, hR2⟩ := hK2 ()
  subst ev
  refine lv_icmp_eq (tgt := 2307) hx hb dL_law_1378 (by decide) (fun _ => ?_) (fun q => absurd rfl q)
  exact W.widen (Nat.le_add_right _ _) (Nat.le_add_right _ _) (next _ _ _ _ _ _ rfl hLI hR2 hS)
set_option maxRecDepth 100000 in
set_option maxHeartbeats 4000000 in
theorem lc_31 (C : LC p s m c b L xs D cy) {k : Nat} (hi : 6 * k + 6 ≤ L) (hLI : LI s D cy G ad adR μ r H) (hR : RelK (k : Int) G μ r) (hS : va_S (AL s) s.heap H locs) (hl : lv_has ls 4 [(3, .int (iI ((6 * k : Nat) : Int))), (2, .ref (adR 0 0)), (1, .ref (ad 0 0)), (0, .ref b)]) (hc : cells + 3 ≤ 500000 ∧ slots + 113 ≤ 7000000) (next : ∀ (G' : GG) (ad' : AD) (μ' r' : MM) (H' : Heap) (locs' : List Loc), ad' 0 0 = ad 0 0 → LI s D cy G' ad' adR μ' r' H' → RelK ((k : Int) + 1) G' μ' r' → va_S (AL s) s.heap H' locs' → W p l e room_1 s m #[Value.ref b] below meth c H' locs' (cells + 3) (slots + 113) Qf (F0 m 2307 ls [])) : W p l e room_1 s m #[Value.ref b] below meth c H locs cells slots Qf (F0 m 1383 ls []) := by
  have hx := C.1.1
  have hb := C.1.2.1
  have hL0 := C.2.2.2.2
  have hk2 : (k : Int) < 512 := by omega
  refine lv_aload_n hx hb dL_law_1383 rfl (lv_at hl 2 rfl) ?_
  refine l_ld (j := 1) C hS rfl hl (by omega) dL_law_1384 dL_law_1385 dL_law_1386 dL_law_1387 dL_law_1388 ?_
  refine l_ld (j := 2) C hS rfl hl (by omega) dL_law_1389 dL_law_1390 dL_law_1391 dL_law_1392 dL_law_1393 ?_
  refine l_ld (j := 3) C hS rfl hl (by omega) dL_law_1394 dL_law_1395 dL_law_1396 dL_law_1397 dL_law_1398 ?_
  refine l_callC (rest := []) C hLI (kX10_log (rel_log hR hk2 _ (XI_rg _ _) _ (XI_rg _ _) _ (XI_rg _ _))) 3 tw4_51 tw4_49 tw4_50 tw4_48 hdX10_log rfl ⟨by decide, by decide⟩ hS rfl hl.1 rfl (Nat.le_of_ble_eq_true rfl) dL_law_1399 ⟨by omega, by omega⟩ (fun v μ H locs hK hLI hS => ?_)
  refine lv_aload_n hx hb dL_law_1402 rfl (lv_at hl 1 rfl) ?_
  refine l_ld (j := 1) C hS rfl hl (by omega) dL_law_1403 dL_law_1404 dL_law_1405 dL_law_1406 dL_law_1407 ?_
  refine l_ld (j := 2) C hS rfl hl (by omega) dL_law_1408 dL_law_1409 dL_law_1410 dL_law_1411 dL_law_1412 ?_
  refine l_ld (j := 3) C hS rfl hl (by omega) dL_law_1413 dL_law_1414 dL_law_1415 dL_law_1416 dL_law_1417 ?_
  refine l_callR (rest := [.int (iI v)]) C hLI (kX11_log hK) 3 tw7_70 tw7_68 tw7_69 tw7_67 hdX11_log rfl ⟨by decide, by decide⟩ hS rfl hl.1 rfl (Nat.le_of_ble_eq_true rfl) dL_law_1418 ⟨by omega, by omega⟩ (fun v' r H locs hK2 hLI hS => ?_)
  obtain ⟨ev, hR2⟩ := hK2 ()
  subst ev
  refine lv_icmp_eq (tgt := 2307) hx hb dL_law_1421 (by decide) (fun _ => ?_) (fun q => absurd rfl q)
  exact W.widen (Nat.le_add_right _ _) (Nat.le_add_right _ _) (next _ _ _ _ _ _ rfl hLI hR2 hS)
set_option maxRecDepth 100000 in
set_option maxHeartbeats 4000000 in
theorem lc_32 (C : LC p s m c b L xs D cy) {k : Nat} (hi : 6 * k + 6 ≤ L) (hLI : LI s D cy G ad adR μ r H) (hR : RelK (k : Int) G μ r) (hS : va_S (AL s) s.heap H locs) (hl : lv_has ls 4 [(3, .int (iI ((6 * k : Nat) : Int))), (2, .ref (adR 0 0)), (1, .ref (ad 0 0)), (0, .ref b)]) (hc : cells + 3 ≤ 500000 ∧ slots + 113 ≤ 7000000) (next : ∀ (G' : GG) (ad' : AD) (μ' r' : MM) (H' : Heap) (locs' : List Loc), ad' 0 0 = ad 0 0 → LI s D cy G' ad' adR μ' r' H' → RelK ((k : Int) + 1) G' μ' r' → va_S (AL s) s.heap H' locs' → W p l e room_1 s m #[Value.ref b] below meth c H' locs' (cells + 3) (slots + 113) Qf (F0 m 2307 ls [])) : W p l e room_1 s m #[Value.ref b] below meth c H locs cells slots Qf (F0 m 1426 ls []) := by
  have hx := C.1.1
  have hb := C.1.2.1
  have hL0 := C.2.2.2.2
  have hk2 : (k : Int) < 512 := by omega
  refine lv_aload_n hx hb dL_law_1426 rfl (lv_at hl 2 rfl) ?_
  refine l_ld (j := 1) C hS rfl hl (by omega) dL_law_1427 dL_law_1428 dL_law_1429 dL_law_1430 dL_law_1431 ?_
  refine l_ld (j := 2) C hS rfl hl (by omega) dL_law_1432 dL_law_1433 dL_law_1434 dL_law_1435 dL_law_1436 ?_
  refine l_ld (j := 3) C hS rfl hl (by omega) dL_law_1437 dL_law_1438 dL_law_1439 dL_law_1440 dL_law_1441 ?_
  refine l_callC (rest := []) C hLI (kX10_heard (rel_heard hR hk2 _ (XI_rg _ _) _ (XI_rg _ _) _ (XI_rg _ _))) 3 tw4_60 tw4_58 tw4_59 tw4_57 hdX10_heard rfl ⟨by decide, by decide⟩ hS rfl hl.1 rfl (Nat.le_of_ble_eq_true rfl) dL_law_1442 ⟨by omega, by omega⟩ (fun v μ H locs hK hLI hS => ?_)
  refine lv_aload_n hx hb dL_law_1445 rfl (lv_at hl 1 rfl) ?_
  refine l_ld (j := 1) C hS rfl hl (by omega) dL_law_1446 dL_law_1447 dL_law_1448 dL_law_1449 dL_law_1450 ?_
  refine l_ld (j := 2) C hS rfl hl (by omega) dL_law_1451 dL_law_1452 dL_law_1453 dL_law_1454 dL_law_1455 ?_
  refine l_ld (j := 3) C hS rfl hl (by omega) dL_law_1456 dL_law_1457 dL_law_1458 dL_law_1459 dL_law_1460 ?_
  refine l_callR (rest := [.int (iI v)]) C hLI (kX11_heard hK) 3 tw7_74 tw7_72 tw7_73 tw7_71 hdX11_heard rfl ⟨by decide, by decide⟩ hS rfl hl.1 rfl (Nat.le_of_ble_eq_true rfl) dL_law_1461 ⟨by omega, by omega⟩ (fun v' r H locs hK2 hLI hS => ?_)
  obtain ⟨ev, hR2⟩ := hK2 ()
  subst ev
  refine lv_icmp_eq (tgt := 2307) hx hb dL_law_1464 (by decide) (fun _ => ?_) (fun q => absurd rfl q)
  exact W.widen (Nat.le_add_right _ _) (Nat.le_add_right _ _) (next _ _ _ _ _ _ rfl hLI hR2 hS)
set_option maxRecDepth 100000 in
set_option maxHeartbeats 4000000 in
theorem lc_33 (C : LC p s m c b L xs D cy) {k : Nat} (hi : 6 * k + 6 ≤ L) (hLI : LI s D cy G ad adR μ r H) (hR : RelK (k : Int) G μ r) (hS : va_S (AL s) s.heap H locs) (hl : lv_has ls 4 [(3, .int (iI ((6 * k : Nat) : Int))), (2, .ref (adR 0 0)), (1, .ref (ad 0 0)), (0, .ref b)]) (hc : cells + 3 ≤ 500000 ∧ slots + 113 ≤ 7000000) (next : ∀ (G' : GG) (ad' : AD) (μ' r' : MM) (H' : Heap) (locs' : List Loc), ad' 0 0 = ad 0 0 → LI s D cy G' ad' adR μ' r' H' → RelK ((k : Int) + 1) G' μ' r' → va_S (AL s) s.heap H' locs' → W p l e room_1 s m #[Value.ref b] below meth c H' locs' (cells + 3) (slots + 113) Qf (F0 m 2307 ls [])) : W p l e room_1 s m #[Value.ref b] below meth c H locs cells slots Qf (F0 m 1469 ls []) := by
  have hx := C.1.1
  have hb := C.1.2.1
  have hL0 := C.2.2.2.2
  have hk2 : (k : Int) < 512 := by omega
  refine lv_aload_n hx hb dL_law_1469 rfl (lv_at hl 2 rfl) ?_
  refine l_ld (j := 1) C hS rfl hl (by omega) dL_law_1470 dL_law_1471 dL_law_1472 dL_law_1473 dL_law_1474 ?_
  refine l_ld (j := 2) C hS rfl hl (by omega) dL_law_1475 dL_law_1476 dL_law_1477 dL_law_1478 dL_law_1479 ?_
  refine l_callC (rest := []) C hLI (kX10_ahead (rel_ahead hR hk2 _ (XI_rg _ _) _ (XI_rg _ _))) 2 tw4_68 tw4_66 tw4_67 tw4_65 hdX10_ahead rfl ⟨by decide, by decide⟩ hS rfl hl.1 rfl (Nat.le_of_ble_eq_true rfl) dL_law_1480 ⟨by omega, by omega⟩ (fun v μ H locs hK hLI hS => ?_)
  refine lv_aload_n hx hb dL_law_1483 rfl (lv_at hl 1 rfl) ?_
  refine l_ld (j := 1) C hS rfl hl (by omega) dL_law_1484 dL_law_1485 dL_law_1486 dL_law_1487 dL_law_1488 ?_
  refine l_ld (j := 2) C hS rfl hl (by omega) dL_law_1489 dL_law_1490 dL_law_1491 dL_law_1492 dL_law_1493 ?_
  refine l_callR (rest := [.int (iI v)]) C hLI (kX11_ahead hK) 2 tw7_78 tw7_76 tw7_77 tw7_75 hdX11_ahead rfl ⟨by decide, by decide⟩ hS rfl hl.1 rfl (Nat.le_of_ble_eq_true rfl) dL_law_1494 ⟨by omega, by omega⟩ (fun v' r H locs hK2 hLI hS => ?_)
  obtain ⟨ev, hR2⟩ := hK2 ()
  subst ev
  refine lv_icmp_eq (tgt := 2307) hx hb dL_law_1497 (by decide) (fun _ => ?_) (fun q => absurd rfl q)
  exact W.widen (Nat.le_add_right _ _) (Nat.le_add_right _ _) (next _ _ _ _ _ _ rfl hLI hR2 hS)
set_option maxRecDepth 100000 in
set_option maxHeartbeats 4000000 in
theorem lc_34 (C : LC p s m c b L xs D cy) {k : Nat} (hi : 6 * k + 6 ≤ L) (hLI : LI s D cy G ad adR μ r H) (hR : RelK (k : Int) G μ r) (hS : va_S (AL s) s.heap H locs) (hl : lv_has ls 4 [(3, .int (iI ((6 * k : Nat) : Int))), (2, .ref (adR 0 0)), (1, .ref (ad 0 0)), (0, .ref b)]) (hc : cells + 3 ≤ 500000 ∧ slots + 113 ≤ 7000000) (next : ∀ (G' : GG) (ad' : AD) (μ' r' : MM) (H' : Heap) (locs' : List Loc), ad' 0 0 = ad 0 0 → LI s D cy G' ad' adR μ' r' H' → RelK ((k : Int) + 1) G' μ' r' → va_S (AL s) s.heap H' locs' → W p l e room_1 s m #[Value.ref b] below meth c H' locs' (cells + 3) (slots + 113) Qf (F0 m 2307 ls [])) : W p l e room_1 s m #[Value.ref b] below meth c H locs cells slots Qf (F0 m 1502 ls []) := by
  have hx := C.1.1
  have hb := C.1.2.1
  have hL0 := C.2.2.2.2
  have hk2 : (k : Int) < 512 := by omega
  refine lv_aload_n hx hb dL_law_1502 rfl (lv_at hl 2 rfl) ?_
  refine l_ld (j := 1) C hS rfl hl (by omega) dL_law_1503 dL_law_1504 dL_law_1505 dL_law_1506 dL_law_1507 ?_
  refine l_ld (j := 2) C hS rfl hl (by omega) dL_law_1508 dL_law_1509 dL_law_1510 dL_law_1511 dL_law_1512 ?_
  refine l_callC (rest := []) C hLI (kX10_meet (rel_meet hR hk2 _ (XI_rg _ _) _ (XI_rg _ _))) 2 tw4_72 tw4_70 tw4_71 tw4_69 hdX10_meet rfl ⟨by decide, by decide⟩ hS rfl hl.1 rfl (Nat.le_of_ble_eq_true rfl) dL_law_1513 ⟨by omega, by omega⟩ (fun v μ H locs hK hLI hS => ?_)
  refine lv_aload_n hx hb dL_law_1516 rfl (lv_at hl 1 rfl) ?_
  refine l_ld (j := 1) C hS rfl hl (by omega) dL_law_1517 dL_law_1518 dL_law_1519 dL_law_1520 dL_law_1521 ?_
  refine l_ld (j := 2) C hS rfl hl (by omega) dL_law_1522 dL_law_1523 dL_law_1524 dL_law_1525 dL_law_1526 ?_
  refine l_callR (rest := [.int (iI v)]) C hLI (kX11_meet hK) 2 tw7_86 tw7_84 tw7_85 tw7_83 hdX11_meet rfl ⟨by decide, by decide⟩ hS rfl hl.1 rfl (Nat.le_of_ble_eq_true rfl) dL_law_1527 ⟨by omega, by omega⟩ (fun v' r H locs hK2 hLI hS => ?_)
  obtain ⟨ev, hR2⟩ := hK2 ()
  subst ev
  refine lv_icmp_eq (tgt := 2307) hx hb dL_law_1530 (by decide) (fun _ => ?_) (fun q => absurd rfl q)
  exact W.widen (Nat.le_add_right _ _) (Nat.le_add_right _ _) (next _ _ _ _ _ _ rfl hLI hR2 hS)
set_option maxRecDepth 100000 in
set_option maxHeartbeats 4000000 in
theorem lc_35 (C : LC p s m c b L xs D cy) {k : Nat} (hi : 6 * k + 6 ≤ L) (hLI : LI s D cy G ad adR μ r H) (hR : RelK (k : Int) G μ r) (hS : va_S (AL s) s.heap H locs) (hl : lv_has ls 4 [(3, .int (iI ((6 * k : Nat) : Int))), (2, .ref (adR 0 0)), (1, .ref (ad 0 0)), (0, .ref b)]) (hc : cells + 3 ≤ 500000 ∧ slots + 113 ≤ 7000000) (next : ∀ (G' : GG) (ad' : AD) (μ' r' : MM) (H' : Heap) (locs' : List Loc), ad' 0 0 = ad 0 0 → LI s D cy G' ad' adR μ' r' H' → RelK ((k : Int) + 1) G' μ' r' → va_S (AL s) s.heap H' locs' → W p l e room_1 s m #[Value.ref b] below meth c H' locs' (cells + 3) (slots + 113) Qf (F0 m 2307 ls [])) : W p l e room_1 s m #[Value.ref b] below meth c H locs cells slots Qf (F0 m 1535 ls []) := by
  have hx := C.1.1
  have hb := C.1.2.1
  have hL0 := C.2.2.2.2
  have hk2 : (k : Int) < 512 := by omega
  refine lv_aload_n hx hb dL_law_1535 rfl (lv_at hl 2 rfl) ?_
  refine l_ld (j := 1) C hS rfl hl (by omega) dL_law_1536 dL_law_1537 dL_law_1538 dL_law_1539 dL_law_1540 ?_
  refine l_ld (j := 2) C hS rfl hl (by omega) dL_law_1541 dL_law_1542 dL_law_1543 dL_law_1544 dL_law_1545 ?_
  refine l_bz C (XI_rg _ _) dL_law_1546 dL_law_1549 dL_law_1550 dL_law_1553 (by decide) (by decide) ?_
  refine l_callC (rest := []) C hLI (kX10_right (rel_right hR hk2 _ (XI_rg _ _) _ (bz01 _))) 2 tw4_91 tw4_89 tw4_90 tw4_88 hdX10_right rfl ⟨by decide, by decide⟩ hS rfl hl.1 rfl (Nat.le_of_ble_eq_true rfl) dL_law_1554 ⟨by omega, by omega⟩ (fun v μ H locs hK hLI hS => ?_)
  refine lv_aload_n hx hb dL_law_1557 rfl (lv_at hl 1 rfl) ?_
  refine l_ld (j := 1) C hS rfl hl (by omega) dL_law_1558 dL_law_1559 dL_law_1560 dL_law_1561 dL_law_1562 ?_
  refine l_ld (j := 2) C hS rfl hl (by omega) dL_law_1563 dL_law_1564 dL_law_1565 dL_law_1566 dL_law_1567 ?_
  refine l_bz C (XI_rg _ _) dL_law_1568 dL_law_1571 dL_law_1572 dL_law_1575 (by decide) (by decide) ?_
  refine l_callR (rest := [.int (iI v)]) C hLI (kX11_right hK) 2 tw7_92 tw7_90 tw7_91 tw7_89 hdX11_right rfl ⟨by decide, by decide⟩ hS rfl hl.1 rfl (Nat.le_of_ble_eq_true rfl) dL_law_1576 ⟨by omega, by omega⟩ (fun v' r H locs hK2 hLI hS => ?_)
  obtain ⟨ev, hR2⟩ := hK2 ()
  subst ev
  refine lv_icmp_eq (tgt := 2307) hx hb dL_law_1579 (by decide) (fun _ => ?_) (fun q => absurd rfl q)
  exact W.widen (Nat.le_add_right _ _) (Nat.le_add_right _ _) (next _ _ _ _ _ _ rfl hLI hR2 hS)
set_option maxRecDepth 100000 in
set_option maxHeartbeats 4000000 in
theorem lc_36 (C : LC p s m c b L xs D cy) {k : Nat} (hi : 6 * k + 6 ≤ L) (hLI : LI s D cy G ad adR μ r H) (hR : RelK (k : Int) G μ r) (hS : va_S (AL s) s.heap H locs) (hl : lv_has ls 4 [(3, .int (iI ((6 * k : Nat) : Int))), (2, .ref (adR 0 0)), (1, .ref (ad 0 0)), (0, .ref b)]) (hc : cells + 3 ≤ 500000 ∧ slots + 113 ≤ 7000000) (next : ∀ (G' : GG) (ad' : AD) (μ' r' : MM) (H' : Heap) (locs' : List Loc), ad' 0 0 = ad 0 0 → LI s D cy G' ad' adR μ' r' H' → RelK ((k : Int) + 1) G' μ' r' → va_S (AL s) s.heap H' locs' → W p l e room_1 s m #[Value.ref b] below meth c H' locs' (cells + 3) (slots + 113) Qf (F0 m 2307 ls [])) : W p l e room_1 s m #[Value.ref b] below meth c H locs cells slots Qf (F0 m 1584 ls []) := by
  have hx := C.1.1
  have hb := C.1.2.1
  have hL0 := C.2.2.2.2
  have hk2 : (k : Int) < 512 := by omega
  refine lv_aload_n hx hb dL_law_1584 rfl (lv_at hl 2 rfl) ?_
  refine l_ld (j := 1) C hS rfl hl (by omega) dL_law_1585 dL_law_1586 dL_law_1587 dL_law_1588 dL_law_1589 ?_
  refine l_ld (j := 2) C hS rfl hl (by omega) dL_law_1590 dL_law_1591 dL_law_1592 dL_law_1593 dL_law_1594 ?_
  refine l_bz C (XI_rg _ _) dL_law_1595 dL_law_1598 dL_law_1599 dL_law_1602 (by decide) (by decide) ?_
  refine l_callC (rest := []) C hLI (kX10_off (rel_off hR hk2 _ (XI_rg _ _) _ (bz01 _))) 2 tw4_95 tw4_93 tw4_94 tw4_104 hdX10_off rfl ⟨by decide, by decide⟩ hS rfl hl.1 rfl (Nat.le_of_ble_eq_true rfl) dL_law_1603 ⟨by omega, by omega⟩ (fun v μ H locs hK hLI hS => ?_)
  refine lv_aload_n hx hb dL_law_1606 rfl (lv_at hl 1 rfl) ?_
  refine l_ld (j := 1) C hS rfl hl (by omega) dL_law_1607 dL_law_1608 dL_law_1609 dL_law_1610 dL_law_1611 ?_
  refine l_ld (j := 2) C hS rfl hl (by omega) dL_law_1612 dL_law_1613 dL_law_1614 dL_law_1615 dL_law_1616 ?_
  refine l_bz C (XI_rg _ _) dL_law_1617 dL_law_1620 dL_law_1621 dL_law_1624 (by decide) (by decide) ?_
  refine l_callR (rest := [.int (iI v)]) C hLI (kX11_off hK) 2 tw7_108 tw7_106 tw7_107 tw7_105 hdX11_off rfl ⟨by decide, by decide⟩ hS rfl hl.1 rfl (Nat.le_of_ble_eq_true rfl) dL_law_1625 ⟨by omega, by omega⟩ (fun v' r H locs hK2 hLI hS => ?_)
  obtain ⟨ev, hR2⟩ := hK2 ()
  subst ev
  refine lv_icmp_eq (tgt := 2307) hx hb dL_law_1628 (by decide) (fun _ => ?_) (fun q => absurd rfl q)
  exact W.widen (Nat.le_add_right _ _) (Nat.le_add_right _ _) (next _ _ _ _ _ _ rfl hLI hR2 hS)
set_option maxRecDepth 100000 in
set_option maxHeartbeats 4000000 in
theorem lc_37 (C : LC p s m c b L xs D cy) {k : Nat} (hi : 6 * k + 6 ≤ L) (hLI : LI s D cy G ad adR μ r H) (hR : RelK (k : Int) G μ r) (hS : va_S (AL s) s.heap H locs) (hl : lv_has ls 4 [(3, .int (iI ((6 * k : Nat) : Int))), (2, .ref (adR 0 0)), (1, .ref (ad 0 0)), (0, .ref b)]) (hc : cells + 3 ≤ 500000 ∧ slots + 113 ≤ 7000000) (next : ∀ (G' : GG) (ad' : AD) (μ' r' : MM) (H' : Heap) (locs' : List Loc), ad' 0 0 = ad 0 0 → LI s D cy G' ad' adR μ' r' H' → RelK ((k : Int) + 1) G' μ' r' → va_S (AL s) s.heap H' locs' → W p l e room_1 s m #[Value.ref b] below meth c H' locs' (cells + 3) (slots + 113) Qf (F0 m 2307 ls [])) : W p l e room_1 s m #[Value.ref b] below meth c H locs cells slots Qf (F0 m 1633 ls []) := by
  have hx := C.1.1
  have hb := C.1.2.1
  have hL0 := C.2.2.2.2
  have hk2 : (k : Int) < 512 := by omega
  refine lv_aload_n hx hb dL_law_1633 rfl (lv_at hl 2 rfl) ?_
  refine l_ld (j := 1) C hS rfl hl (by omega) dL_law_1634 dL_law_1635 dL_law_1636 dL_law_1637 dL_law_1638 ?_
  refine l_ld (j := 2) C hS rfl hl (by omega) dL_law_1639 dL_law_1640 dL_law_1641 dL_law_1642 dL_law_1643 ?_
  refine l_callC (rest := []) C hLI (kX10_putRight (rel_putRight hR hk2 _ (XI_rg _ _) _ (XI_rg _ _))) 2 tw4_108 tw4_106 tw4_107 tw4_105 hdX10_putRight rfl ⟨by decide, by decide⟩ hS rfl hl.1 rfl (Nat.le_of_ble_eq_true rfl) dL_law_1644 ⟨by omega, by omega⟩ (fun v μ H locs hK hLI hS => ?_)
  refine lv_aload_n hx hb dL_law_1647 rfl (lv_at hl 1 rfl) ?_
  refine l_ld (j := 1) C hS rfl hl (by omega) dL_law_1648 dL_law_1649 dL_law_1650 dL_law_1651 dL_law_1652 ?_
  refine l_ld (j := 2) C hS rfl hl (by omega) dL_law_1653 dL_law_1654 dL_law_1655 dL_law_1656 dL_law_1657 ?_
  refine l_callR (rest := [.int (iI v)]) C hLI (kX11_putRight hK) 2 tw7_112 tw7_110 tw7_111 tw7_109 hdX11_putRight rfl ⟨by decide, by decide⟩ hS rfl hl.1 rfl (Nat.le_of_ble_eq_true rfl) dL_law_1658 ⟨by omega, by omega⟩ (fun v' r H locs hK2 hLI hS => ?_)
  obtain ⟨ev, hR2⟩ := hK2 ()
  subst ev
  refine lv_icmp_eq (tgt := 2307) hx hb dL_law_1661 (by decide) (fun _ => ?_) (fun q => absurd rfl q)
  exact W.widen (Nat.le_add_right _ _) (Nat.le_add_right _ _) (next _ _ _ _ _ _ rfl hLI hR2 hS)
set_option maxRecDepth 100000 in
set_option maxHeartbeats 4000000 in
theorem lc_38 (C : LC p s m c b L xs D cy) {k : Nat} (hi : 6 * k + 6 ≤ L) (hLI : LI s D cy G ad adR μ r H) (hR : RelK (k : Int) G μ r) (hS : va_S (AL s) s.heap H locs) (hl : lv_has ls 4 [(3, .int (iI ((6 * k : Nat) : Int))), (2, .ref (adR 0 0)), (1, .ref (ad 0 0)), (0, .ref b)]) (hc : cells + 3 ≤ 500000 ∧ slots + 113 ≤ 7000000) (next : ∀ (G' : GG) (ad' : AD) (μ' r' : MM) (H' : Heap) (locs' : List Loc), ad' 0 0 = ad 0 0 → LI s D cy G' ad' adR μ' r' H' → RelK ((k : Int) + 1) G' μ' r' → va_S (AL s) s.heap H' locs' → W p l e room_1 s m #[Value.ref b] below meth c H' locs' (cells + 3) (slots + 113) Qf (F0 m 2307 ls [])) : W p l e room_1 s m #[Value.ref b] below meth c H locs cells slots Qf (F0 m 1666 ls []) := by
  have hx := C.1.1
  have hb := C.1.2.1
  have hL0 := C.2.2.2.2
  have hk2 : (k : Int) < 512 := by omega
  refine lv_aload_n hx hb dL_law_1666 rfl (lv_at hl 2 rfl) ?_
  refine l_ld (j := 1) C hS rfl hl (by omega) dL_law_1667 dL_law_1668 dL_law_1669 dL_law_1670 dL_law_1671 ?_
  refine l_callC (rest := []) C hLI (kX10_act (rel_act hR hk2 _ (XI_rg _ _))) 1 tw4_125 tw4_123 tw4_124 tw4_122 hdX10_act rfl ⟨by decide, by decide⟩ hS rfl hl.1 rfl (Nat.le_of_ble_eq_true rfl) dL_law_1672 ⟨by omega, by omega⟩ (fun v μ H locs hK hLI hS => ?_)
  refine lv_aload_n hx hb dL_law_1675 rfl (lv_at hl 1 rfl) ?_
  refine l_ld (j := 1) C hS rfl hl (by omega) dL_law_1676 dL_law_1677 dL_law_1678 dL_law_1679 dL_law_1680 ?_
  refine l_callR (rest := [.int (iI v)]) C hLI (kX11_act hK) 1 tw7_124 tw7_122 tw7_123 tw7_121 hdX11_act rfl ⟨by decide, by decide⟩ hS rfl hl.1 rfl (Nat.le_of_ble_eq_true rfl) dL_law_1681 ⟨by omega, by omega⟩ (fun v' r H locs hK2 hLI hS => ?_)
  obtain ⟨ev, hR2⟩ := hK2 ()
  subst ev
  refine lv_icmp_eq (tgt := 2307) hx hb dL_law_1684 (by decide) (fun _ => ?_) (fun q => absurd rfl q)
  exact W.widen (Nat.le_add_right _ _) (Nat.le_add_right _ _) (next _ _ _ _ _ _ rfl hLI hR2 hS)
set_option maxRecDepth 100000 in
set_option maxHeartbeats 4000000 in
theorem lc_39 (C : LC p s m c b L xs D cy) {k : Nat} (hi : 6 * k + 6 ≤ L) (hLI : LI s D cy G ad adR μ r H) (hR : RelK (k : Int) G μ r) (hS : va_S (AL s) s.heap H locs) (hl : lv_has ls 4 [(3, .int (iI ((6 * k : Nat) : Int))), (2, .ref (adR 0 0)), (1, .ref (ad 0 0)), (0, .ref b)]) (hc : cells + 3 ≤ 500000 ∧ slots + 113 ≤ 7000000) (next : ∀ (G' : GG) (ad' : AD) (μ' r' : MM) (H' : Heap) (locs' : List Loc), ad' 0 0 = ad 0 0 → LI s D cy G' ad' adR μ' r' H' → RelK ((k : Int) + 1) G' μ' r' → va_S (AL s) s.heap H' locs' → W p l e room_1 s m #[Value.ref b] below meth c H' locs' (cells + 3) (slots + 113) Qf (F0 m 2307 ls [])) : W p l e room_1 s m #[Value.ref b] below meth c H locs cells slots Qf (F0 m 1689 ls []) := by
  have hx := C.1.1
  have hb := C.1.2.1
  have hL0 := C.2.2.2.2
  have hk2 : (k : Int) < 512 := by omega
  refine lv_aload_n hx hb dL_law_1689 rfl (lv_at hl 2 rfl) ?_
  refine l_ld (j := 1) C hS rfl hl (by omega) dL_law_1690 dL_law_1691 dL_law_1692 dL_law_1693 dL_law_1694 ?_
  refine l_ld (j := 2) C hS rfl hl (by omega) dL_law_1695 dL_law_1696 dL_law_1697 dL_law_1698 dL_law_1699 ?_
  refine l_ld (j := 3) C hS rfl hl (by omega) dL_law_1700 dL_law_1701 dL_law_1702 dL_law_1703 dL_law_1704 ?_
  refine l_ld (j := 4) C hS rfl hl (by omega) dL_law_1705 dL_law_1706 dL_law_1707 dL_law_1708 dL_law_1709 ?_
  refine l_ld (j := 5) C hS rfl hl (by omega) dL_law_1710 dL_law_1711 dL_law_1712 dL_law_1713 dL_law_1714 ?_
  refine l_callC (rest := []) C hLI (kX10_due (rel_due hR hk2 _ (XI_rg _ _) _ (XI_rg _ _) _ (XI_rg _ _) _ (XI_rg _ _) _ (XI_rg _ _))) 5 tw4_133 tw4_131 tw4_132 tw4_130 hdX10_due rfl ⟨by decide, by decide⟩ hS rfl hl.1 rfl (Nat.le_of_ble_eq_true rfl) dL_law_1715 ⟨by omega, by omega⟩ (fun v μ H locs hK hLI hS => ?_)
  refine lv_aload_n hx hb dL_law_1718 rfl (lv_at hl 1 rfl) ?_
  refine l_ld (j := 1) C hS rfl hl (by omega) dL_law_1719 dL_law_1720 dL_law_1721 dL_law_1722 dL_law_1723 ?_
  refine l_ld (j := 2) C hS rfl hl (by omega) dL_law_1724 dL_law_1725 dL_law_1726 dL_law_1727 dL_law_1728 ?_
  refine l_ld (j := 3) C hS rfl hl (by omega) dL_law_1729 dL_law_1730 dL_law_1731 dL_law_1732 dL_law_1733 ?_
  refine l_ld (j := 4) C hS rfl hl (by omega) dL_law_1734 dL_law_1735 dL_law_1736 dL_law_1737 dL_law_1738 ?_
  refine l_ld (j := 5) C hS rfl hl (by omega) dL_law_1739 dL_law_1740 dL_law_1741 dL_law_1742 dL_law_1743 ?_
  refine l_callR (rest := [.int (iI v)]) C hLI (kX11_due hK) 5 tw7_128 tw7_126 tw7_127 tw7_125 hdX11_due rfl ⟨by decide, by decide⟩ hS rfl hl.1 rfl (Nat.le_of_ble_eq_true rfl) dL_law_1744 ⟨by omega, by omega⟩ (fun v' r H locs hK2 hLI hS => ?_)
  obtain ⟨ev, hR2⟩ := hK2 ()
  subst ev
  refine lv_icmp_eq (tgt := 2307) hx hb dL_law_1747 (by decide) (fun _ => ?_) (fun q => absurd rfl q)
  exact W.widen (Nat.le_add_right _ _) (Nat.le_add_right _ _) (next _ _ _ _ _ _ rfl hLI hR2 hS)
end
