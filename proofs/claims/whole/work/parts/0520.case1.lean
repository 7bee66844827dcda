section
variable {p : Program} {l : Launch} {e : Env} {s : State} {m : MethodId} {below : List Frame} {meth : Method} {c : Code} {H : Heap} {locs : List Loc} {Qf : State → Prop} {ls : Array Slot} {cells slots b L : Nat} {xs : Nat → Int32} {D : va_G} {cy : Nat → ClassId} {G : GG} {ad adR : AD} {μ r : MM}
set_option maxRecDepth 100000 in
set_option maxHeartbeats 4000000 in
theorem lc_0 (C : LC p s m c b L xs D cy) {k : Nat} (hi : 6 * k + 6 ≤ L) (hLI : LI s D cy G ad adR μ r H) (hR : RelK (k : Int) G μ r) (hS : va_S (AL s) s.heap H locs) (hl : lv_has ls 4 [(3, .int (iI ((6 * k : Nat) : Int))), (2, .ref (adR 0 0)), (1, .ref (ad 0 0)), (0, .ref b)]) (hc : cells + 3 ≤ 500000 ∧ slots + 113 ≤ 7000000) (next : ∀ (G' : GG) (ad' : AD) (μ' r' : MM) (H' : Heap) (locs' : List Loc), ad' 0 0 = ad 0 0 → LI s D cy G' ad' adR μ' r' H' → RelK ((k : Int) + 1) G' μ' r' → va_S (AL s) s.heap H' locs' → W p l e room_1 s m #[Value.ref b] below meth c H' locs' (cells + 3) (slots + 113) Qf (F0 m 2307 ls [])) : W p l e room_1 s m #[Value.ref b] below meth c H locs cells slots Qf (F0 m 280 ls []) := by
  have hx := C.1.1
  have hb := C.1.2.1
  have hL0 := C.2.2.2.2
  have hk2 : (k : Int) < 512 := by omega
  refine lv_aload_n hx hb dL_law_280 rfl (lv_at hl 2 rfl) ?_
  refine l_ld (j := 1) C hS rfl hl (by omega) dL_law_281 dL_law_282 dL_law_283 dL_law_284 dL_law_285 ?_
  refine l_ld (j := 2) C hS rfl hl (by omega) dL_law_286 dL_law_287 dL_law_288 dL_law_289 dL_law_290 ?_
  refine l_callC (rest := []) C hLI (kX10_row (rel_row hR hk2 _ (XI_rg _ _) _ (XI_rg _ _))) 2 tw2_12 tw2_10 tw2_11 tw2_9 hdX10_row rfl ⟨by decide, by decide⟩ hS rfl hl.1 rfl (Nat.le_of_ble_eq_true rfl) dL_law_291 ⟨by omega, by omega⟩ (fun v μ H locs hK hLI hS => ?_)
  refine lv_aload_n hx hb dL_law_294 rfl (lv_at hl 1 rfl) ?_
  refine l_ld (j := 1) C hS rfl hl (by omega) dL_law_295 dL_law_296 dL_law_297 dL_law_298 dL_law_299 ?_
  refine l_ld (j := 2) C hS rfl hl (by omega) dL_law_300 dL_law_301 dL_law_302 dL_law_303 dL_law_304 ?_
  refine l_callR (rest := [.int (iI v)]) C hLI (kX11_row hK) 2 tw6_71 tw6_69 tw6_70 tw6_68 hdX11_row rfl ⟨by decide, by decide⟩ hS rfl hl.1 rfl (Nat.le_of_ble_eq_true rfl) dL_law_305 ⟨by omega, by omega⟩ (fun v' r H locs hK2 hLI hS => ?_)
  obtain ⟨ev, hR2⟩ := hK2 ()
  subst ev
  refine lv_icmp_eq (tgt := 2307) hx hb dL_law_308 (by decide) (fun _ => ?_) (fun q => absurd rfl q)
  exact W.widen (Nat.le_add_right _ _) (Nat.le_add_right _ _) (next _ _ _ _ _ _ rfl hLI hR2 hS)
set_option maxRecDepth 100000 in
set_option maxHeartbeats 4000000 in
theorem lc_1 (C : LC p s m c b L xs D cy) {k : Nat} (hi : 6 * k + 6 ≤ L) (hLI : LI s D cy G ad adR μ r H) (hR : RelK (k : Int) G μ r) (hS : va_S (AL s) s.heap H locs) (hl : lv_has ls 4 [(3, .int (iI ((6 * k : Nat) : Int))), (2, .ref (adR 0 0)), (1, .ref (ad 0 0)), (0, .ref b)]) (hc : cells + 3 ≤ 500000 ∧ slots + 113 ≤ 7000000) (next : ∀ (G' : GG) (ad' : AD) (μ' r' : MM) (H' : Heap) (locs' : List Loc), ad' 0 0 = ad 0 0 → LI s D cy G' ad' adR μ' r' H' → RelK ((k : Int) + 1) G' μ' r' → va_S (AL s) s.heap H' locs' → W p l e room_1 s m #[Value.ref b] below meth c H' locs' (cells + 3) (slots + 113) Qf (F0 m 2307 ls [])) : W p l e room_1 s m #[Value.ref b] below meth c H locs cells slots Qf (F0 m 313 ls []) := by
  have hx := C.1.1
  have hb := C.1.2.1
  have hL0 := C.2.2.2.2
  have hk2 : (k : Int) < 512 := by omega
  refine lv_aload_n hx hb dL_law_313 rfl (lv_at hl 2 rfl) ?_
  refine l_ld (j := 1) C hS rfl hl (by omega) dL_law_314 dL_law_315 dL_law_316 dL_law_317 dL_law_318 ?_
  refine l_ld (j := 2) C hS rfl hl (by omega) dL_law_319 dL_law_320 dL_law_321 dL_law_322 dL_law_323 ?_
  refine l_ld (j := 3) C hS rfl hl (by omega) dL_law_324 dL_law_325 dL_law_326 dL_law_327 dL_law_328 ?_
  refine l_callC (rest := []) C hLI (kX10_lay (rel_lay hR hk2 _ (XI_rg _ _) _ (XI_rg _ _) _ (XI_rg _ _))) 3 tw2_31 tw2_29 tw2_30 tw2_28 hdX10_lay rfl ⟨by decide, by decide⟩ hS rfl hl.1 rfl (Nat.le_of_ble_eq_true rfl) dL_law_329 ⟨by omega, by omega⟩ (fun v μ H locs hK hLI hS => ?_)
  refine lv_aload_n hx hb dL_law_332 rfl (lv_at hl 1 rfl) ?_
  refine l_ld (j := 1) C hS rfl hl (by omega) dL_law_333 dL_law_334 dL_law_335 dL_law_336 dL_law_337 ?_
  refine l_ld (j := 2) C hS rfl hl (by omega) dL_law_338 dL_law_339 dL_law_340 dL_law_341 dL_law_342 ?_
  refine l_ld (j := 3) C hS rfl hl (by omega) dL_law_343 dL_law_344 dL_law_345 dL_law_346 dL_law_347 ?_
  refine l_callR (rest := [.int (iI v)]) C hLI (kX11_lay hK) 3 tw6_85 tw6_83 tw6_84 tw6_82 hdX11_lay rfl ⟨by decide, by decide⟩ hS rfl hl.1 rfl (Nat.le_of_ble_eq_true rfl) dL_law_348 ⟨by omega, by omega⟩ (fun v' r H locs hK2 hLI hS => ?_)
  obtain ⟨ev, hR2⟩ := hK2 ()
  subst ev
  refine lv_icmp_eq (tgt := 2307) hx hb dL_law_351 (by decide) (fun _ => ?_) (fun q => absurd rfl q)
  exact W.widen (Nat.le_add_right _ _) (Nat.le_add_right _ _) (next _ _ _ _ _ _ rfl hLI hR2 hS)
set_option maxRecDepth 100000 in
set_option maxHeartbeats 4000000 in
theorem lc_2 (C : LC p s m c b L xs D cy) {k : Nat} (hi : 6 * k + 6 ≤ L) (hLI : LI s D cy G ad adR μ r H) (hR : RelK (k : Int) G μ r) (hS : va_S (AL s) s.heap H locs) (hl : lv_has ls 4 [(3, .int (iI ((6 * k : Nat) : Int))), (2, .ref (adR 0 0)), (1, .ref (ad 0 0)), (0, .ref b)]) (hc : cells + 3 ≤ 500000 ∧ slots + 113 ≤ 7000000) (next : ∀ (G' : GG) (ad' : AD) (μ' r' : MM) (H' : Heap) (locs' : List Loc), ad' 0 0 = ad 0 0 → LI s D cy G' ad' adR μ' r' H' → RelK ((k : Int) + 1) G' μ' r' → va_S (AL s) s.heap H' locs' → W p l e room_1 s m #[Value.ref b] below meth c H' locs' (cells + 3) (slots + 113) Qf (F0 m 2307 ls [])) : W p l e room_1 s m #[Value.ref b] below meth c H locs cells slots Qf (F0 m 356 ls []) := by
  have hx := C.1.1
  have hb := C.1.2.1
  have hL0 := C.2.2.2.2
  have hk2 : (k : Int) < 512 := by omega
  refine lv_aload_n hx hb dL_law_356 rfl (lv_at hl 2 rfl) ?_
  refine l_ld (j := 1) C hS rfl hl (by omega) dL_law_357 dL_law_358 dL_law_359 dL_law_360 dL_law_361 ?_
  refine l_callC (rest := []) C hLI (kX10_tear (rel_tear hR hk2 _ (XI_rg _ _))) 1 tw2_51 tw2_49 tw2_50 tw2_48 hdX10_tear rfl ⟨by decide, by decide⟩ hS rfl hl.1 rfl (Nat.le_of_ble_eq_true rfl) dL_law_362 ⟨by omega, by omega⟩ (fun v μ H locs hK hLI hS => ?_)
  refine lv_aload_n hx hb dL_law_365 rfl (lv_at hl 1 rfl) ?_
  refine l_ld (j := 1) C hS rfl hl (by omega) dL_law_366 dL_law_367 dL_law_368 dL_law_369 dL_law_370 ?_
  refine l_callR (rest := [.int (iI v)]) C hLI (kX11_tear hK) 1 tw6_93 tw6_91 tw6_92 tw6_90 hdX11_tear rfl ⟨by decide, by decide⟩ hS rfl hl.1 rfl (Nat.le_of_ble_eq_true rfl) dL_law_371 ⟨by omega, by omega⟩ (fun v' r H locs hK2 hLI hS => ?_)
  obtain ⟨ev, hR2⟩ := hK2 ()
  subst ev
  refine lv_icmp_eq (tgt := 2307) hx hb dL_law_374 (by decide) (fun _ => ?_) (fun q => absurd rfl q)
  exact W.widen (Nat.le_add_right _ _) (Nat.le_add_right _ _) (next _ _ _ _ _ _ rfl hLI hR2 hS)
set_option maxRecDepth 100000 in
set_option maxHeartbeats 4000000 in
theorem lc_3 (C : LC p s m c b L xs D cy) {k : Nat} (hi : 6 * k + 6 ≤ L) (hLI : LI s D cy G ad adR μ r H) (hR : RelK (k : Int) G μ r) (hS : va_S (AL s) s.heap H locs) (hl : lv_has ls 4 [(3, .int (iI ((6 * k : Nat) : Int))), (2, .ref (adR 0 0)), (1, .ref (ad 0 0)), (0, .ref b)]) (hc : cells + 3 ≤ 500000 ∧ slots + 113 ≤ 7000000) (next : ∀ (G' : GG) (ad' : AD) (μ' r' : MM) (H' : Heap) (locs' : List Loc), ad' 0 0 = ad 0 0 → LI s D cy G' ad' adR μ' r' H' → RelK ((k : Int) + 1) G' μ' r' → va_S (AL s) s.heap H' locs' → W p l e room_1 s m #[Value.ref b] below meth c H' locs' (cells + 3) (slots + 113) Qf (F0 m 2307 ls [])) : W p l e room_1 s m #[Value.ref b] below meth c H locs cells slots Qf (F0 m 379 ls []) := by
  have hx := C.1.1
  have hb := C.1.2.1
  have hL0 := C.2.2.2.2
  have hk2 : (k : Int) < 512 := by omega
  refine lv_aload_n hx hb dL_law_379 rfl (lv_at hl 2 rfl) ?_
  refine l_ld (j := 1) C hS rfl hl (by omega) dL_law_380 dL_law_381 dL_law_382 dL_law_383 dL_law_384 ?_
  refine l_ld (j := 2) C hS rfl hl (by omega) dL_law_385 dL_law_386 dL_law_387 dL_law_388 dL_law_389 ?_
  refine l_ld (j := 3) C hS rfl hl (by omega) dL_law_390 dL_law_391 dL_law_392 dL_law_393 dL_law_394 ?_
  refine l_ld (j := 4) C hS rfl hl (by omega) dL_law_395 dL_law_396 dL_law_397 dL_law_398 dL_law_399 ?_
  refine l_ld (j := 5) C hS rfl hl (by omega) dL_law_400 dL_law_401 dL_law_402 dL_law_403 dL_law_404 ?_
  refine l_callC (rest := []) C hLI (kX10_copy (rel_copy hR hk2 _ (XI_rg _ _) _ (XI_rg _ _) _ (XI_rg _ _) _ (XI_rg _ _) _ (XI_rg _ _))) 5 tw2_55 tw2_53 tw2_54 tw2_52 hdX10_copy rfl ⟨by decide, by decide⟩ hS rfl hl.1 rfl (Nat.le_of_ble_eq_true rfl) dL_law_405 ⟨by omega, by omega⟩ (fun v μ H locs hK hLI hS => ?_)
  refine lv_aload_n hx hb dL_law_408 rfl (lv_at hl 1 rfl) ?_
  refine l_ld (j := 1) C hS rfl hl (by omega) dL_law_409 dL_law_410 dL_law_411 dL_law_412 dL_law_413 ?_
  refine l_ld (j := 2) C hS rfl hl (by omega) dL_law_414 dL_law_415 dL_law_416 dL_law_417 dL_law_418 ?_
  refine l_ld (j := 3) C hS rfl hl (by omega) dL_law_419 dL_law_420 dL_law_421 dL_law_422 dL_law_423 ?_
  refine l_ld (j := 4) C hS rfl hl (by omega) dL_law_424 dL_law_425 dL_law_426 dL_law_427 dL_law_428 ?_
  refine l_ld (j := 5) C hS rfl hl (by omega) dL_law_429 dL_law_430 dL_law_431 dL_law_432 dL_law_433 ?_
  refine l_callR (rest := [.int (iI v)]) C hLI (kX11_copy hK) 5 tw6_97 tw6_95 tw6_96 tw6_94 hdX11_copy rfl ⟨by decide, by decide⟩ hS rfl hl.1 rfl (Nat.le_of_ble_eq_true rfl) dL_law_434 ⟨by omega, by omega⟩ (fun v' r H locs hK2 hLI hS => ?_)
  obtain ⟨ev, hR2⟩ := hK2 ()
  subst ev
  refine lv_icmp_eq (tgt := 2307) hx hb dL_law_437 (by decide) (fun _ => ?_) (fun q => absurd rfl q)
  exact W.widen (Nat.le_add_right _ _) (Nat.le_add_right _ _) (next _ _ _ _ _ _ rfl hLI hR2 hS)
set_option maxRecDepth 100000 in
set_option maxHeartbeats 4000000 in
theorem lc_4 (C : LC p s m c b L xs D cy) {k : Nat} (hi : 6 * k + 6 ≤ L) (hLI : LI s D cy G ad adR μ r H) (hR : RelK (k : Int) G μ r) (hS : va_S (AL s) s.heap H locs) (hl : lv_has ls 4 [(3, .int (iI ((6 * k : Nat) : Int))), (2, .ref (adR 0 0)), (1, .ref (ad 0 0)), (0, .ref b)]) (hc : cells + 3 ≤ 500000 ∧ slots + 113 ≤ 7000000) (next : ∀ (G' : GG) (ad' : AD) (μ' r' : MM) (H' : Heap) (locs' : List Loc), ad' 0 0 = ad 0 0 → LI s D cy G' ad' adR μ' r' H' → RelK ((k : Int) + 1) G' μ' r' → va_S (AL s) s.heap H' locs' → W p l e room_1 s m #[Value.ref b] below meth c H' locs' (cells + 3) (slots + 113) Qf (F0 m 2307 ls [])) : W p l e room_1 s m #[Value.ref b] below meth c H locs cells slots Qf (F0 m 442 ls []) := by
  have hx := C.1.1
  have hb := C.1.2.1
  have hL0 := C.2.2.2.2
  have hk2 : (k : Int) < 512 := by omega
  refine lv_aload_n hx hb dL_law_442 rfl (lv_at hl 2 rfl) ?_
  refine l_callG (rest := []) C hLI (kX10_train (rel_train hR hk2)) ⟨by decide, by decide⟩ 0 tw2_62 tw2_60 tw2_61 tw2_59 hdX10_train rfl ⟨by decide, by decide⟩ hS rfl hl.1 rfl (Nat.le_of_ble_eq_true rfl) dL_law_443 ⟨by omega, by omega⟩ (fun v μ G' ad' H locs hK he hLI hS => ?_)
  rw [← he] at hl
  have hc : cells + 3 ≤ 500000 ∧ slots + 113 ≤ 7000000 := ⟨by omega, by omega⟩
  refine lv_aload_n hx hb dL_law_446 rfl (lv_at hl 1 rfl) ?_
  refine l_callR (rest := [.int (iI v)]) C hLI (kX11_train hK) 0 tw6_101 tw6_99 tw6_100 tw6_98 hdX11_train rfl ⟨by decide, by decide⟩ hS rfl hl.1 rfl (Nat.le_of_ble_eq_true rfl) dL_law_447 hc (fun v' r H locs hK2 hLI hS => ?_)
  obtain ⟨ev, hR2⟩ := hK2 ()
  subst ev
  refine lv_icmp_eq (tgt := 2307) hx hb dL_law_450 (by decide) (fun _ => ?_) (fun q => absurd rfl q)
  exact next _ _ _ _ _ _ he hLI hR2 hS
set_option maxRecDepth 100000 in
set_option maxHeartbeats 4000000 in
theorem lc_5 (C : LC p s m c b L xs D cy) {k : Nat} (hi : 6 * k + 6 ≤ L) (hLI : LI s D cy G ad adR μ r H) (hR : RelK (k : Int) G μ r) (hS : va_S (AL s) s.heap H locs) (hl : lv_has ls 4 [(3, .int (iI ((6 * k : Nat) : Int))), (2, .ref (adR 0 0)), (1, .ref (ad 0 0)), (0, .ref b)]) (hc : cells + 3 ≤ 500000 ∧ slots + 113 ≤ 7000000) (next : ∀ (G' : GG) (ad' : AD) (μ' r' : MM) (H' : Heap) (locs' : List Loc), ad' 0 0 = ad 0 0 → LI s D cy G' ad' adR μ' r' H' → RelK ((k : Int) + 1) G' μ' r' → va_S (AL s) s.heap H' locs' → W p l e room_1 s m #[Value.ref b] below meth c H' locs' (cells + 3) (slots + 113) Qf (F0 m 2307 ls [])) : W p l e room_1 s m #[Value.ref b] below meth c H locs cells slots Qf (F0 m 455 ls []) := by
  have hx := C.1.1
  have hb := C.1.2.1
  have hL0 := C.2.2.2.2
  have hk2 : (k : Int) < 512 := by omega
  refine lv_aload_n hx hb dL_law_455 rfl (lv_at hl 2 rfl) ?_
  refine l_ld (j := 1) C hS rfl hl (by omega) dL_law_456 dL_law_457 dL_law_458 dL_law_459 dL_law_460 ?_
  refine l_callG (rest := []) C hLI (kX10_plate (rel_plate hR hk2 _ (XI_rg _ _))) ⟨by decide, by decide⟩ 1 tw2_149 tw2_147 tw2_148 tw2_146 hdX10_plate rfl ⟨by decide, by decide⟩ hS rfl hl.1 rfl (Nat.le_of_ble_eq_true rfl) dL_law_461 ⟨by omega, by omega⟩ (fun v μ G' ad' H locs hK he hLI hS => ?_)
  rw [← he] at hl
  have hc : cells + 3 ≤ 500000 ∧ slots + 113 ≤ 7000000 := ⟨by omega, by omega⟩
  refine lv_aload_n hx hb dL_law_464 rfl (lv_at hl 1 rfl) ?_
  refine l_ld (j := 1) C hS rfl hl (by omega) dL_law_465 dL_law_466 dL_law_467 dL_law_468 dL_law_469 ?_
  refine l_callR (rest := [.int (iI v)]) C hLI (kX11_plate hK) 1 tw6_109 tw6_107 tw6_108 tw6_106 hdX11_plate rfl ⟨by decide, by decide⟩ hS rfl hl.1 rfl (Nat.le_of_ble_eq_true rfl) dL_law_470 hc (fun v' r H locs hK2 hLI hS => ?_)
  obtain ⟨ev, hR2⟩ := hK2 ()
  subst ev
  refine lv_icmp_eq (tgt := 2307) hx hb dL_law_473 (by decide) (fun _ => ?_) (fun q => absurd rfl q)
  exact next _ _ _ _ _ _ he hLI hR2 hS
set_option maxRecDepth 100000 in
set_option maxHeartbeats 4000000 in
theorem lc_6 (C : LC p s m c b L xs D cy) {k : Nat} (hi : 6 * k + 6 ≤ L) (hLI : LI s D cy G ad adR μ r H) (hR : RelK (k : Int) G μ r) (hS : va_S (AL s) s.heap H locs) (hl : lv_has ls 4 [(3, .int (iI ((6 * k : Nat) : Int))), (2, .ref (adR 0 0)), (1, .ref (ad 0 0)), (0, .ref b)]) (hc : cells + 3 ≤ 500000 ∧ slots + 113 ≤ 7000000) (next : ∀ (G' : GG) (ad' : AD) (μ' r' : MM) (H' : Heap) (locs' : List Loc), ad' 0 0 = ad 0 0 → LI s D cy G' ad' adR μ' r' H' → RelK ((k : Int) + 1) G' μ' r' → va_S (AL s) s.heap H' locs' → W p l e room_1 s m #[Value.ref b] below meth c H' locs' (cells + 3) (slots + 113) Qf (F0 m 2307 ls [])) : W p l e room_1 s m #[Value.ref b] below meth c H locs cells slots Qf (F0 m 478 ls []) := by
  have hx := C.1.1
  have hb := C.1.2.1
  have hL0 := C.2.2.2.2
  have hk2 : (k : Int) < 512 := by omega
  refine lv_aload_n hx hb dL_law_478 rfl (lv_at hl 2 rfl) ?_
  refine l_ld (j := 1) C hS rfl hl (by omega) dL_law_479 dL_law_480 dL_law_481 dL_law_482 dL_law_483 ?_
  refine l_callG (rest := []) C hLI (kX10_snail (rel_snail hR hk2 _ (XI_rg _ _))) ⟨by decide, by decide⟩ 1 tw2_195 tw2_193 tw2_194 tw2_192 hdX10_snail rfl ⟨by decide, by decide⟩ hS rfl hl.1 rfl (Nat.le_of_ble_eq_true rfl) dL_law_484 ⟨by omega, by omega⟩ (fun v μ G' ad' H locs hK he hLI hS => ?_)
  rw [← he] at hl
  have hc : cells + 3 ≤ 500000 ∧ slots + 113 ≤ 7000000 := ⟨by omega, by omega⟩
  refine lv_aload_n hx hb dL_law_487 rfl (lv_at hl 1 rfl) ?_
  refine l_ld (j := 1) C hS rfl hl (by omega) dL_law_488 dL_law_489 dL_law_490 dL_law_491 dL_law_492 ?_
  refine l_callR (rest := [.int (iI v)]) C hLI (kX11_snail hK) 1 tw6_125 tw6_123 tw6_124 tw6_122 hdX11_snail rfl ⟨by decide, by decide⟩ hS rfl hl.1 rfl (Nat.le_of_ble_eq_true rfl) dL_law_493 hc (fun v' r H locs hK2 hLI hS => ?_)
  obtain ⟨ev, hR2⟩ := hK2 ()
  subst ev
  refine lv_icmp_eq (tgt := 2307) hx hb dL_law_496 (by decide) (fun _ => ?_) (fun q => absurd rfl q)
  exact next _ _ _ _ _ _ he hLI hR2 hS
set_option maxRecDepth 100000 in
set_option maxHeartbeats 4000000 in
theorem lc_7 (C : LC p s m c b L xs D cy) {k : Nat} (hi : 6 * k + 6 ≤ L) (hLI : LI s D cy G ad adR μ r H) (hR : RelK (k : Int) G μ r) (hS : va_S (AL s) s.heap H locs) (hl : lv_has ls 4 [(3, .int (iI ((6 * k : Nat) : Int))), (2, .ref (adR 0 0)), (1, .ref (ad 0 0)), (0, .ref b)]) (hc : cells + 3 ≤ 500000 ∧ slots + 113 ≤ 7000000) (next : ∀ (G' : GG) (ad' : AD) (μ' r' : MM) (H' : Heap) (locs' : List Loc), ad' 0 0 = ad 0 0 → LI s D cy G' ad' adR μ' r' H' → RelK ((k : Int) + 1) G' μ' r' → va_S (AL s) s.heap H' locs' → W p l e room_1 s m #[Value.ref b] below meth c H' locs' (cells + 3) (slots + 113) Qf (F0 m 2307 ls [])) : W p l e room_1 s m #[Value.ref b] below meth c H locs cells slots Qf (F0 m 501 ls []) := by
  have hx := C.1.1
  have hb := C.1.2.1
  have hL0 := C.2.2.2.2
  have hk2 : (k : Int) < 512 := by omega
  refine lv_aload_n hx hb dL_law_501 rfl (lv_at hl 2 rfl) ?_
  refine l_ld (j := 1) C hS rfl hl (by omega) dL_law_502 dL_law_503 dL_law_504 dL_law_505 dL_law_506 ?_
  refine l_ld (j := 2) C hS rfl hl (by omega) dL_law_507 dL_law_508 dL_law_509 dL_law_510 dL_law_511 ?_
  refine l_callG (rest := []) C hLI (kX10_barrel (rel_barrel hR hk2 _ (XI_rg _ _) _ (XI_rg _ _))) ⟨by decide, by decide⟩ 2 tw2_220 tw2_218 tw2_219 tw2_217 hdX10_barrel rfl ⟨by decide, by decide⟩ hS rfl hl.1 rfl (Nat.le_of_ble_eq_true rfl) dL_law_512 ⟨by omega, by omega⟩ (fun v μ G' ad' H locs hK he hLI hS => ?_)
  rw [← he] at hl
  have hc : cells + 3 ≤ 500000 ∧ slots + 113 ≤ 7000000 := ⟨by omega, by omega⟩
  refine lv_aload_n hx hb dL_law_515 rfl (lv_at hl 1 rfl) ?_
  refine l_ld (j := 1) C hS rfl hl (by omega) dL_law_516 dL_law_517 dL_law_518 dL_law_519 dL_law_520 ?_
  refine l_ld (j := 2) C hS rfl hl (by omega) dL_law_521 dL_law_522 dL_law_523 dL_law_524 dL_law_525 ?_
  refine l_callR (rest := [.int (iI v)]) C hLI (kX11_barrel hK) 2 tw6_129 tw6_127 tw6_128 tw6_126 hdX11_barrel rfl ⟨by decide, by decide⟩ hS rfl hl.1 rfl (Nat.le_of_ble_eq_true rfl) dL_law_526 hc (fun v' r H locs hK2 hLI hS => ?_)
  obtain ⟨ev, hR2⟩ := hK2 ()
  subst ev
  refine lv_icmp_eq (tgt := 2307) hx hb dL_law_529 (by decide) (fun _ => ?_) (fun q => absurd rfl q)
  exact next _ _ _ _ _ _ he hLI hR2 hS
set_option maxRecDepth 100000 in
set_option maxHeartbeats 4000000 in
theorem lc_8 (C : LC p s m c b L xs D cy) {k : Nat} (hi : 6 * k + 6 ≤ L) (hLI : LI s D cy G ad adR μ r H) (hR : RelK (k : Int) G μ r) (hS : va_S (AL s) s.heap H locs) (hl : lv_has ls 4 [(3, .int (iI ((6 * k : Nat) : Int))), (2, .ref (adR 0 0)), (1, .ref (ad 0 0)), (0, .ref b)]) (hc : cells + 3 ≤ 500000 ∧ slots + 113 ≤ 7000000) (next : ∀ (G' : GG) (ad' : AD) (μ' r' : MM) (H' : Heap) (locs' : List Loc), ad' 0 0 = ad 0 0 → LI s D cy G' ad' adR μ' r' H' → RelK ((k : Int) + 1) G' μ' r' → va_S (AL s) s.heap H' locs' → W p l e room_1 s m #[Value.ref b] below meth c H' locs' (cells + 3) (slots + 113) Qf (F0 m 2307 ls [])) : W p l e room_1 s m #[Value.ref b] below meth c H locs cells slots Qf (F0 m 534 ls []) := by
  have hx := C.1.1
  have hb := C.1.2.1
  have hL0 := C.2.2.2.2
  have hk2 : (k : Int) < 512 := by omega
  refine lv_aload_n hx hb dL_law_534 rfl (lv_at hl 2 rfl) ?_
  refine l_ld (j := 1) C hS rfl hl (by omega) dL_law_535 dL_law_536 dL_law_537 dL_law_538 dL_law_539 ?_
  refine l_ld (j := 2) C hS rfl hl (by omega) dL_law_540 dL_law_541 dL_law_542 dL_law_543 dL_law_544 ?_
  refine l_ld (j := 3) C hS rfl hl (by omega) dL_law_545 dL_law_546 dL_law_547 dL_law_548 dL_law_549 ?_
  refine l_callC (rest := []) C hLI (kX10_gear (rel_gear hR hk2 _ (XI_rg _ _) _ (XI_rg _ _) _ (XI_rg _ _))) 3 tw3_14 tw3_12 tw3_13 tw3_11 hdX10_gear rfl ⟨by decide, by decide⟩ hS rfl hl.1 rfl (Nat.le_of_ble_eq_true rfl) dL_law_550 ⟨by omega, by omega⟩ (fun v μ H locs hK hLI hS => ?_)
  refine lv_aload_n hx hb dL_law_553 rfl (lv_at hl 1 rfl) ?_
  refine l_ld (j := 1) C hS rfl hl (by omega) dL_law_554 dL_law_555 dL_law_556 dL_law_557 dL_law_558 ?_
  refine l_ld (j := 2) C hS rfl hl (by omega) dL_law_559 dL_law_560 dL_law_561 dL_law_562 dL_law_563 ?_
  refine l_ld (j := 3) C hS rfl hl (by omega) dL_law_564 dL_law_565 dL_law_566 dL_law_567 dL_law_568 ?_
  refine l_callR (rest := [.int (iI v)]) C hLI (kX11_gear hK) 3 tw6_133 tw6_131 tw6_132 tw6_130 hdX11_gear rfl ⟨by decide, by decide⟩ hS rfl hl.1 rfl (Nat.le_of_ble_eq_true rfl) dL_law_569 ⟨by omega, by omega⟩ (fun v' r H locs hK2 hLI hS => ?_)
  obtain ⟨ev, hR2⟩ := hK2 ()
  subst ev
  refine lv_icmp_eq (tgt := 2307) hx hb dL_law_572 (by decide) (fun _ => ?_) (fun q => absurd rfl q)
  exact W.widen (Nat.le_add_right _ _) (Nat.le_add_right _ _) (next _ _ _ _ _ _ rfl hLI hR2 hS)
set_option maxRecDepth 100000 in
set_option maxHeartbeats 4000000 in
theorem lc_9 (C : LC p s m c b L xs D cy) {k : Nat} (hi : 6 * k + 6 ≤ L) (hLI : LI s D cy G ad adR μ r H) (hR : RelK (k : Int) G μ r) (hS : va_S (AL s) s.heap H locs) (hl : lv_has ls 4 [(3, .int (iI ((6 * k : Nat) : Int))), (2, .ref (adR 0 0)), (1, .ref (ad 0 0)), (0, .ref b)]) (hc : cells + 3 ≤ 500000 ∧ slots + 113 ≤ 7000000) (next : ∀ (G' : GG) (ad' : AD) (μ' r' : MM) (H' : Heap) (locs' : List Loc), ad' 0 0 = ad 0 0 → LI s D cy G' ad' adR μ' r' H' → RelK ((k : Int) + 1) G' μ' r' → va_S (AL s) s.heap H' locs' → W p l e room_1 s m #[Value.ref b] below meth c H' locs' (cells + 3) (slots + 113) Qf (F0 m 2307 ls [])) : W p l e room_1 s m #[Value.ref b] below meth c H locs cells slots Qf (F0 m 577 ls []) := by
  have hx := C.1.1
  have hb := C.1.2.1
  have hL0 := C.2.2.2.2
  have hk2 : (k : Int) < 512 := by omega
  refine lv_aload_n hx hb dL_law_577 rfl (lv_at hl 2 rfl) ?_
  refine l_ld (j := 1) C hS rfl hl (by omega) dL_law_578 dL_law_579 dL_law_580 dL_law_581 dL_law_582 ?_
  refine l_callC (rest := []) C hLI (kX10_wind (rel_wind hR hk2 _ (XI_rg _ _))) 1 tw3_23 tw3_21 tw3_22 tw3_20 hdX10_wind rfl ⟨by decide, by decide⟩ hS rfl hl.1 rfl (Nat.le_of_ble_eq_true rfl) dL_law_583 ⟨by omega, by omega⟩ (fun v μ H locs hK hLI hS => ?_)
  refine lv_aload_n hx hb dL_law_586 rfl (lv_at hl 1 rfl) ?_
  refine l_ld (j := 1) C hS rfl hl (by omega) dL_law_587 dL_law_588 dL_law_589 dL_law_590 dL_law_591 ?_
  refine l_callR (rest := [.int (iI v)]) C hLI (kX11_wind hK) 1 tw6_142 tw6_140 tw6_141 tw6_139 hdX11_wind rfl ⟨by decide, by decide⟩ hS rfl hl.1 rfl (Nat.le_of_ble_eq_true rfl) dL_law_592 ⟨by omega, by omega⟩ (fun v' r H locs hK2 hLI hS => ?_)
  obtain ⟨ev, hR2⟩ := hK2 ()
  subst ev
  refine lv_icmp_eq (tgt := 2307) hx hb dL_law_595 (by decide) (fun _ => ?_) (fun q => absurd rfl q)
  exact W.widen (Nat.le_add_right _ _) (Nat.le_add_right _ _) (next _ _ _ _ _ _ rfl hLI hR2 hS)
set_option maxRecDepth 100000 in
set_option maxHeartbeats 4000000 in
theorem lc_10 (C : LC p s m c b L xs D cy) {k : Nat} (hi : 6 * k + 6 ≤ L) (hLI : LI s D cy G ad adR μ r H) (hR : RelK (k : Int) G μ r) (hS : va_S (AL s) s.heap H locs) (hl : lv_has ls 4 [(3, .int (iI ((6 * k : Nat) : Int))), (2, .ref (adR 0 0)), (1, .ref (ad 0 0)), (0, .ref b)]) (hc : cells + 3 ≤ 500000 ∧ slots + 113 ≤ 7000000) (next : ∀ (G' : GG) (ad' : AD) (μ' r' : MM) (H' : Heap) (locs' : List Loc), ad' 0 0 = ad 0 0 → LI s D cy G' ad' adR μ' r' H' → RelK ((k : Int) + 1) G' μ' r' → va_S (AL s) s.heap H' locs' → W p l e room_1 s m #[Value.ref b] below meth c H' locs' (cells + 3) (slots + 113) Qf (F0 m 2307 ls [])) : W p l e room_1 s m #[Value.ref b] below meth c H locs cells slots Qf (F0 m 600 ls []) := by
  have hx := C.1.1
  have hb := C.1.2.1
  have hL0 := C.2.2.2.2
  have hk2 : (k : Int) < 512 := by omega
  refine lv_aload_n hx hb dL_law_600 rfl (lv_at hl 2 rfl) ?_
  refine l_ld (j := 1) C hS rfl hl (by omega) dL_law_601 dL_law_602 dL_law_603 dL_law_604 dL_law_605 ?_
  refine l_ld (j := 2) C hS rfl hl (by omega) dL_law_606 dL_law_607 dL_law_608 dL_law_609 dL_law_610 ?_
  refine l_callC (rest := []) C hLI (kX10_broken (rel_broken hR hk2 _ (XI_rg _ _) _ (XI_rg _ _))) 2 tw3_27 tw3_25 tw3_26 tw3_24 hdX10_broken rfl ⟨by decide, by decide⟩ hS rfl hl.1 rfl (Nat.le_of_ble_eq_true rfl) dL_law_611 ⟨by omega, by omega⟩ (fun v μ H locs hK hLI hS => ?_)
  refine lv_aload_n hx hb dL_law_614 rfl (lv_at hl 1 rfl) ?_
  refine l_ld (j := 1) C hS rfl hl (by omega) dL_law_615 dL_law_616 dL_law_617 dL_law_618 dL_law_619 ?_
  refine l_ld (j := 2) C hS rfl hl (by omega) dL_law_620 dL_law_621 dL_law_622 dL_law_623 dL_law_624 ?_
  refine l_callR (rest := [.int (iI v)]) C hLI (kX11_broken hK) 2 tw6_146 tw6_144 tw6_145 tw6_143 hdX11_broken rfl ⟨by decide, by decide⟩ hS rfl hl.1 rfl (Nat.le_of_ble_eq_true rfl) dL_law_625 ⟨by omega, by omega⟩ (fun v' r H locs hK2 hLI hS => ?_)
  obtain ⟨ev, hR2⟩ := hK2 ()
  subst ev
  refine lv_icmp_eq (tgt := 2307) hx hb dL_law_628 (by decide) (fun _ => ?_) (fun q => absurd rfl q)
  exact W.widen (Nat.le_add_right _ _) (Nat.le_add_right _ _) (next _ _ _ _ _ _ rfl hLI hR2 hS)
set_option maxRecDepth 100000 in
set_option maxHeartbeats 4000000 in
theorem lc_11 (C : LC p s m c b L xs D cy) {k : Nat} (hi : 6 * k + 6 ≤ L) (hLI : LI s D cy G ad adR μ r H) (hR : RelK (k : Int) G μ r) (hS : va_S (AL s) s.heap H locs) (hl : lv_has ls 4 [(3, .int (iI ((6 * k : Nat) : Int))), (2, .ref (adR 0 0)), (1, .ref (ad 0 0)), (0, .ref b)]) (hc : cells + 3 ≤ 500000 ∧ slots + 113 ≤ 7000000) (next : ∀ (G' : GG) (ad' : AD) (μ' r' : MM) (H' : Heap) (locs' : List Loc), ad' 0 0 = ad 0 0 → LI s D cy G' ad' adR μ' r' H' → RelK ((k : Int) + 1) G' μ' r' → va_S (AL s) s.heap H' locs' → W p l e room_1 s m #[Value.ref b] below meth c H' locs' (cells + 3) (slots + 113) Qf (F0 m 2307 ls [])) : W p l e room_1 s m #[Value.ref b] below meth c H locs cells slots Qf (F0 m 633 ls []) := by
  have hx := C.1.1
  have hb := C.1.2.1
  have hL0 := C.2.2.2.2
  have hk2 : (k : Int) < 512 := by omega
  refine lv_aload_n hx hb dL_law_633 rfl (lv_at hl 2 rfl) ?_
  refine l_ld (j := 1) C hS rfl hl (by omega) dL_law_634 dL_law_635 dL_law_636 dL_law_637 dL_law_638 ?_
  refine l_ld (j := 2) C hS rfl hl (by omega) dL_law_639 dL_law_640 dL_law_641 dL_law_642 dL_law_643 ?_
  refine l_callC (rest := []) C hLI (kX10_told (rel_told hR hk2 _ (XI_rg _ _) _ (XI_rg _ _))) 2 tw3_31 tw3_29 tw3_30 tw3_28 hdX10_told rfl ⟨by decide, by decide⟩ hS rfl hl.1 rfl (Nat.le_of_ble_eq_true rfl) dL_law_644 ⟨by omega, by omega⟩ (fun v μ H locs hK hLI hS => ?_)
  refine lv_aload_n hx hb dL_law_647 rfl (lv_at hl 1 rfl) ?_
  refine l_ld (j := 1) C hS rfl hl (by omega) dL_law_648 dL_law_649 dL_law_650 dL_law_651 dL_law_652 ?_
  refine l_ld (j := 2) C hS rfl hl (by omega) dL_law_653 dL_law_654 dL_law_655 dL_law_656 dL_law_657 ?_
  refine l_callR (rest := [.int (iI v)]) C hLI (kX11_told hK) 2 tw6_150 tw6_148 tw6_149 tw6_147 hdX11_told rfl ⟨by decide, by decide⟩ hS rfl hl.1 rfl (Nat.le_of_ble_eq_true rfl) dL_law_658 ⟨by omega, by omega⟩ (fun v' r H locs hK2 hLI hS => ?_)
  obtain ⟨ev, hR2⟩ := hK2 ()
  subst ev
  refine lv_icmp_eq (tgt := 2307) hx hb dL_law_661 (by decide) (fun _ => ?_) (fun q => absurd rfl q)
  exact W.widen (Nat.le_add_right _ _) (Nat.le_add_right _ _) (next _ _ _ _ _ _ rfl hLI hR2 hS)
set_option maxRecDepth 100000 in
set_option maxHeartbeats 4000000 in
theorem lc_12 (C : LC p s m c b L xs D cy) {k : Nat} (hi : 6 * k + 6 ≤ L) (hLI : LI s D cy G ad adR μ r H) (hR : RelK (k : Int) G μ r) (hS : va_S (AL s) s.heap H locs) (hl : lv_has ls 4 [(3, .int (iI ((6 * k : Nat) : Int))), (2, .ref (adR 0 0)), (1, .ref (ad 0 0)), (0, .ref b)]) (hc : cells + 3 ≤ 500000 ∧ slots + 113 ≤ 7000000) (next : ∀ (G' : GG) (ad' : AD) (μ' r' : MM) (H' : Heap) (locs' : List Loc), ad' 0 0 = ad 0 0 → LI s D cy G' ad' adR μ' r' H' → RelK ((k : Int) + 1) G' μ' r' → va_S (AL s) s.heap H' locs' → W p l e room_1 s m #[Value.ref b] below meth c H' locs' (cells + 3) (slots + 113) Qf (F0 m 2307 ls [])) : W p l e room_1 s m #[Value.ref b] below meth c H locs cells slots Qf (F0 m 666 ls []) := by
  have hx := C.1.1
  have hb := C.1.2.1
  have hL0 := C.2.2.2.2
  have hk2 : (k : Int) < 512 := by omega
  refine lv_aload_n hx hb dL_law_666 rfl (lv_at hl 2 rfl) ?_
  refine l_ld (j := 1) C hS rfl hl (by omega) dL_law_667 dL_law_668 dL_law_669 dL_law_670 dL_law_671 ?_
  refine l_ld (j := 2) C hS rfl hl (by omega) dL_law_672 dL_law_673 dL_law_674 dL_law_675 dL_law_676 ?_
  refine l_callC (rest := []) C hLI (kX10_mark (rel_mark hR hk2 _ (XI_rg _ _) _ (XI_rg _ _))) 2 tw3_45 tw3_43 tw3_44 tw3_42 hdX10_mark rfl ⟨by decide, by decide⟩ hS rfl hl.1 rfl (Nat.le_of_ble_eq_true rfl) dL_law_677 ⟨by omega, by omega⟩ (fun v μ H locs hK hLI hS => ?_)
  refine lv_aload_n hx hb dL_law_680 rfl (lv_at hl 1 rfl) ?_
  refine l_ld (j := 1) C hS rfl hl (by omega) dL_law_681 dL_law_682 dL_law_683 dL_law_684 dL_law_685 ?_
  refine l_ld (j := 2) C hS rfl hl (by omega) dL_law_686 dL_law_687 dL_law_688 dL_law_689 dL_law_690 ?_
  refine l_callR (rest := [.int (iI v)]) C hLI (kX11_mark hK) 2 tw6_162 tw6_160 tw6_161 tw6_159 hdX11_mark rfl ⟨by decide, by decide⟩ hS rfl hl.1 rfl (Nat.le_of_ble_eq_true rfl) dL_law_691 ⟨by omega, by omega⟩ (fun v' r H locs hK2 hLI hS => ?_)
  obtain ⟨ev, hR2⟩ := hK2 ()
  subst ev
  refine lv_icmp_eq (tgt := 2307) hx hb dL_law_694 (by decide) (fun _ => ?_) (fun q => absurd rfl q)
  exact W.widen (Nat.le_add_right _ _) (Nat.le_add_right _ _) (next _ _ _ _ _ _ rfl hLI hR2 hS)
set_option maxRecDepth 100000 in
set_option maxHeartbeats 4000000 in
theorem lc_13 (C : LC p s m c b L xs D cy) {k : Nat} (hi : 6 * k + 6 ≤ L) (hLI : LI s D cy G ad adR μ r H) (hR : RelK (k : Int) G μ r) (hS : va_S (AL s) s.heap H locs) (hl : lv_has ls 4 [(3, .int (iI ((6 * k : Nat) : Int))), (2, .ref (adR 0 0)), (1, .ref (ad 0 0)), (0, .ref b)]) (hc : cells + 3 ≤ 500000 ∧ slots + 113 ≤ 7000000) (next : ∀ (G' : GG) (ad' : AD) (μ' r' : MM) (H' : Heap) (locs' : List Loc), ad' 0 0 = ad 0 0 → LI s D cy G' ad' adR μ' r' H' → RelK ((k : Int) + 1) G' μ' r' → va_S (AL s) s.heap H' locs' → W p l e room_1 s m #[Value.ref b] below meth c H' locs' (cells + 3) (slots + 113) Qf (F0 m 2307 ls [])) : W p l e room_1 s m #[Value.ref b] below meth c H locs cells slots Qf (F0 m 699 ls []) := by
  have hx := C.1.1
  have hb := C.1.2.1
  have hL0 := C.2.2.2.2
  have hk2 : (k : Int) < 512 := by omega
  refine lv_aload_n hx hb dL_law_699 rfl (lv_at hl 2 rfl) ?_
  refine l_ld (j := 1) C hS rfl hl (by omega) dL_law_700 dL_law_701 dL_law_702 dL_law_703 dL_law_704 ?_
  refine l_ld (j := 2) C hS rfl hl (by omega) dL_law_705 dL_law_706 dL_law_707 dL_law_708 dL_law_709 ?_
  refine l_callC (rest := []) C hLI (kX10_notch (rel_notch hR hk2 _ (XI_rg _ _) _ (XI_rg _ _))) 2 tw3_66 tw3_64 tw3_65 tw3_63 hdX10_notch rfl ⟨by decide, by decide⟩ hS rfl hl.1 rfl (Nat.le_of_ble_eq_true rfl) dL_law_710 ⟨by omega, by omega⟩ (fun v μ H locs hK hLI hS => ?_)
  refine lv_aload_n hx hb dL_law_713 rfl (lv_at hl 1 rfl) ?_
  refine l_ld (j := 1) C hS rfl hl (by omega) dL_law_714 dL_law_715 dL_law_716 dL_law_717 dL_law_718 ?_
  refine l_ld (j := 2) C hS rfl hl (by omega) dL_law_719 dL_law_720 dL_law_721 dL_law_722 dL_law_723 ?_
  refine l_callR (rest := [.int (iI v)]) C hLI (kX11_notch hK) 2 tw6_170 tw6_168 tw6_169 tw6_167 hdX11_notch rfl ⟨by decide, by decide⟩ hS rfl hl.1 rfl (Nat.le_of_ble_eq_true rfl) dL_law_724 ⟨by omega, by omega⟩ (fun v' r H locs hK2 hLI hS => ?_)
  obtain ⟨ev, hR2⟩ := hK2 ()
  subst ev
  refine lv_icmp_eq (tgt := 2307) hx hb dL_law_727 (by decide) (fun _ => ?_) (fun q => absurd rfl q)
  exact W.widen (Nat.le_add_right _ _) (Nat.le_add_right _ _) (next _ _ _ _ _ _ rfl hLI hR2 hS)
set_option maxRecDepth 100000 in
set_option maxHeartbeats 4000000 in
theorem lc_14 (C : LC p s m c b L xs D cy) {k : Nat} (hi : 6 * k + 6 ≤ L) (hLI : LI s D cy G ad adR μ r H) (hR : RelK (k : Int) G μ r) (hS : va_S (AL s) s.heap H locs) (hl : lv_has ls 4 [(3, .int (iI ((6 * k : Nat) : Int))), (2, .ref (adR 0 0)), (1, .ref (ad 0 0)), (0, .ref b)]) (hc : cells + 3 ≤ 500000 ∧ slots + 113 ≤ 7000000) (next : ∀ (G' : GG) (ad' : AD) (μ' r' : MM) (H' : Heap) (locs' : List Loc), ad' 0 0 = ad 0 0 → LI s D cy G' ad' adR μ' r' H' → RelK ((k : Int) + 1) G' μ' r' → va_S (AL s) s.heap H' locs' → W p l e room_1 s m #[Value.ref b] below meth c H' locs' (cells + 3) (slots + 113) Qf (F0 m 2307 ls [])) : W p l e room_1 s m #[Value.ref b] below meth c H locs cells slots Qf (F0 m 732 ls []) := by
  have hx := C.1.1
  have hb := C.1.2.1
  have hL0 := C.2.2.2.2
  have hk2 : (k : Int) < 512 := by omega
  refine lv_aload_n hx hb dL_law_732 rfl (lv_at hl 2 rfl) ?_
  refine l_ld (j := 1) C hS rfl hl (by omega) dL_law_733 dL_law_734 dL_law_735 dL_law_736 dL_law_737 ?_
  refine l_ld (j := 2) C hS rfl hl (by omega) dL_law_738 dL_law_739 dL_law_740 dL_law_741 dL_law_742 ?_
  refine l_ld (j := 3) C hS rfl hl (by omega) dL_law_743 dL_law_744 dL_law_745 dL_law_746 dL_law_747 ?_
  refine l_callC (rest := []) C hLI (kX10_cut (rel_cut hR hk2 _ (XI_rg _ _) _ (XI_rg _ _) _ (XI_rg _ _))) 3 tw3_78 tw3_76 tw3_77 tw3_75 hdX10_cut rfl ⟨by decide, by decide⟩ hS rfl hl.1 rfl (Nat.le_of_ble_eq_true rfl) dL_law_748 ⟨by omega, by omega⟩ (fun v μ H locs hK hLI hS => ?_)
  refine lv_aload_n hx hb dL_law_751 rfl (lv_at hl 1 rfl) ?_
  refine l_ld (j := 1) C hS rfl hl (by omega) dL_law_752 dL_law_753 dL_law_754 dL_law_755 dL_law_756 ?_
  refine l_ld (j := 2) C hS rfl hl (by omega) dL_law_757 dL_law_758 dL_law_759 dL_law_760 dL_law_761 ?_
  refine l_ld (j := 3) C hS rfl hl (by omega) dL_law_762 dL_law_763 dL_law_764 dL_law_765 dL_law_766 ?_
  refine l_callR (rest := [.int (iI v)]) C hLI (kX11_cut hK) 3 tw6_178 tw6_176 tw6_177 tw6_175 hdX11_cut rfl ⟨by decide, by decide⟩ hS rfl hl.1 rfl (Nat.le_of_ble_eq_true rfl) dL_law_767 ⟨by omega, by omega⟩ (fun v' r H locs hK2 hLI hS => ?_)
  obtain ⟨ev, hR2⟩ := hK2 ()
  subst ev
  refine lv_icmp_eq (tgt := 2307) hx hb dL_law_770 (by decide) (fun _ => ?_) (fun q => absurd rfl q)
  exact W.widen (Nat.le_add_right _ _) (Nat.le_add_right _ _) (next _ _ _ _ _ _ rfl hLI hR2 hS)
set_option maxRecDepth 100000 in
set_option maxHeartbeats 4000000 in
theorem lc_15 (C : LC p s m c b L xs D cy) {k : Nat} (hi : 6 * k + 6 ≤ L) (hLI : LI s D cy G ad adR μ r H) (hR : RelK (k : Int) G μ r) (hS : va_S (AL s) s.heap H locs) (hl : lv_has ls 4 [(3, .int (iI ((6 * k : Nat) : Int))), (2, .ref (adR 0 0)), (1, .ref (ad 0 0)), (0, .ref b)]) (hc : cells + 3 ≤ 500000 ∧ slots + 113 ≤ 7000000) (next : ∀ (G' : GG) (ad' : AD) (μ' r' : MM) (H' : Heap) (locs' : List Loc), ad' 0 0 = ad 0 0 → LI s D cy G' ad' adR μ' r' H' → RelK ((k : Int) + 1) G' μ' r' → va_S (AL s) s.heap H' locs' → W p l e room_1 s m #[Value.ref b] below meth c H' locs' (cells + 3) (slots + 113) Qf (F0 m 2307 ls [])) : W p l e room_1 s m #[Value.ref b] below meth c H locs cells slots Qf (F0 m 775 ls []) := by
  have hx := C.1.1
  have hb := C.1.2.1
  have hL0 := C.2.2.2.2
  have hk2 : (k : Int) < 512 := by omega
  refine lv_aload_n hx hb dL_law_775 rfl (lv_at hl 2 rfl) ?_
  refine l_ld (j := 1) C hS rfl hl (by omega) dL_law_776 dL_law_777 dL_law_778 dL_law_779 dL_law_780 ?_
  refine l_ld (j := 2) C hS rfl hl (by omega) dL_law_781 dL_law_782 dL_law_783 dL_law_784 dL_law_785 ?_
  refine l_callC (rest := []) C hLI (kX10_put (rel_put hR hk2 _ (XI_rg _ _) _ (XI_rg _ _))) 2 tw3_82 tw3_80 tw3_81 tw3_79 hdX10_put rfl ⟨by decide, by decide⟩ hS rfl hl.1 rfl (Nat.le_of_ble_eq_true rfl) dL_law_786 ⟨by omega, by omega⟩ (fun v μ H locs hK hLI hS => ?_)
  refine lv_aload_n hx hb dL_law_789 rfl (lv_at hl 1 rfl) ?_
  refine l_ld (j := 1) C hS rfl hl (by omega) dL_law_790 dL_law_791 dL_law_792 dL_law_793 dL_law_794 ?_
  refine l_ld (j := 2) C hS rfl hl (by omega) dL_law_795 dL_law_796 dL_law_797 dL_law_798 dL_law_799 ?_
  refine l_callR (rest := [.int (iI v)]) C hLI (kX11_put hK) 2 tw6_182 tw6_180 tw6_181 tw6_179 hdX11_put rfl ⟨by decide, by decide⟩ hS rfl hl.1 rfl (Nat.le_of_ble_eq_true rfl) dL_law_800 ⟨by omega, by omega⟩ (fun v' r H locs hK2 hLI hS => ?_)
  obtain ⟨ev, hR2⟩ := hK2 ()
  subst ev
  refine lv_icmp_eq (tgt := 2307) hx hb dL_law_803 (by decide) (fun _ => ?_) (fun q => absurd rfl q)
  exact W.widen (Nat.le_add_right _ _) (Nat.le_add_right _ _) (next _ _ _ _ _ _ rfl hLI hR2 hS)
set_option maxRecDepth 100000 in
set_option maxHeartbeats 4000000 in
theorem lc_16 (C : LC p s m c b L xs D cy) {k : Nat} (hi : 6 * k + 6 ≤ L) (hLI : LI s D cy G ad adR μ r H) (hR : RelK (k : Int) G μ r) (hS : va_S (AL s) s.heap H locs) (hl : lv_has ls 4 [(3, .int (iI ((6 * k : Nat) : Int))), (2, .ref (adR 0 0)), (1, .ref (ad 0 0)), (0, .ref b)]) (hc : cells + 3 ≤ 500000 ∧ slots + 113 ≤ 7000000) (next : ∀ (G' : GG) (ad' : AD) (μ' r' : MM) (H' : Heap) (locs' : List Loc), ad' 0 0 = ad 0 0 → LI s D cy G' ad' adR μ' r' H' → RelK ((k : Int) + 1) G' μ' r' → va_S (AL s) s.heap H' locs' → W p l e room_1 s m #[Value.ref b] below meth c H' locs' (cells + 3) (slots + 113) Qf (F0 m 2307 ls [])) : W p l e room_1 s m #[Value.ref b] below meth c H locs cells slots Qf (F0 m 808 ls []) := by
  have hx := C.1.1
  have hb := C.1.2.1
  have hL0 := C.2.2.2.2
  have hk2 : (k : Int) < 512 := by omega
  refine lv_aload_n hx hb dL_law_808 rfl (lv_at hl 2 rfl) ?_
  refine l_ld (j := 1) C hS rfl hl (by omega) dL_law_809 dL_law_810 dL_law_811 dL_law_812 dL_law_813 ?_
  refine l_callC (rest := []) C hLI (kX10_mean (rel_mean hR hk2 _ (XI_rg _ _))) 1 tw3_91 tw3_89 tw3_90 tw3_88 hdX10_mean rfl ⟨by decide, by decide⟩ hS rfl hl.1 rfl (Nat.le_of_ble_eq_true rfl) dL_law_814 ⟨by omega, by omega⟩ (fun v μ H locs hK hLI hS => ?_)
  refine lv_aload_n hx hb dL_law_817 rfl (lv_at hl 1 rfl) ?_
  refine l_ld (j := 1) C hS rfl hl (by omega) dL_law_818 dL_law_819 dL_law_820 dL_law_821 dL_law_822 ?_
  refine l_callR (rest := [.int (iI v)]) C hLI (kX11_mean hK) 1 tw6_186 tw6_184 tw6_185 tw6_183 hdX11_mean rfl ⟨by decide, by decide⟩ hS rfl hl.1 rfl (Nat.le_of_ble_eq_true rfl) dL_law_823 ⟨by omega, by omega⟩ (fun v' r H locs hK2 hLI hS => ?_)
  obtain ⟨ev, hR2⟩ := hK2 ()
  subst ev
  refine lv_icmp_eq (tgt := 2307) hx hb dL_law_826 (by decide) (fun _ => ?_) (fun q => absurd rfl q)
  exact W.widen (Nat.le_add_right _ _) (Nat.le_add_right _ _) (next _ _ _ _ _ _ rfl hLI hR2 hS)
set_option maxRecDepth 100000 in
set_option maxHeartbeats 4000000 in
theorem lc_17 (C : LC p s m c b L xs D cy) {k : Nat} (hi : 6 * k + 6 ≤ L) (hLI : LI s D cy G ad adR μ r H) (hR : RelK (k : Int) G μ r) (hS : va_S (AL s) s.heap H locs) (hl : lv_has ls 4 [(3, .int (iI ((6 * k : Nat) : Int))), (2, .ref (adR 0 0)), (1, .ref (ad 0 0)), (0, .ref b)]) (hc : cells + 3 ≤ 500000 ∧ slots + 113 ≤ 7000000) (next : ∀ (G' : GG) (ad' : AD) (μ' r' : MM) (H' : Heap) (locs' : List Loc), ad' 0 0 = ad 0 0 → LI s D cy G' ad' adR μ' r' H' → RelK ((k : Int) + 1) G' μ' r' → va_S (AL s) s.heap H' locs' → W p l e room_1 s m #[Value.ref b] below meth c H' locs' (cells + 3) (slots + 113) Qf (F0 m 2307 ls [])) : W p l e room_1 s m #[Value.ref b] below meth c H locs cells slots Qf (F0 m 831 ls []) := by
  have hx := C.1.1
  have hb := C.1.2.1
  have hL0 := C.2.2.2.2
  have hk2 : (k : Int) < 512 := by omega
  refine lv_aload_n hx hb dL_law_831 rfl (lv_at hl 2 rfl) ?_
  refine l_ld (j := 1) C hS rfl hl (by omega) dL_law_832 dL_law_833 dL_law_834 dL_law_835 dL_law_836 ?_
  refine l_callC (rest := []) C hLI (kX10_tower (rel_tower hR hk2 _ (XI_rg _ _))) 1 tw3_95 tw3_93 tw3_94 tw3_92 hdX10_tower rfl ⟨by decide, by decide⟩ hS rfl hl.1 rfl (Nat.le_of_ble_eq_true rfl) dL_law_837 ⟨by omega, by omega⟩ (fun v μ H locs hK hLI hS => ?_)
  refine lv_aload_n hx hb dL_law_840 rfl (lv_at hl 1 rfl) ?_
  refine l_ld (j := 1) C hS rfl hl (by omega) dL_law_841 dL_law_842 dL_law_843 dL_law_844 dL_law_845 ?_
  refine l_callR (rest := [.int (iI v)]) C hLI (kX11_tower hK) 1 tw6_190 tw6_188 tw6_189 tw6_187 hdX11_tower rfl ⟨by decide, by decide⟩ hS rfl hl.1 rfl (Nat.le_of_ble_eq_true rfl) dL_law_846 ⟨by omega, by omega⟩ (fun v' r H locs hK2 hLI hS => ?_)
  obtain ⟨ev, hR2⟩ := hK2 ()
  subst ev
  refine lv_icmp_eq (tgt := 2307) hx hb dL_law_849 (by decide) (fun _ => ?_) (fun q => absurd rfl q)
  exact W.widen (Nat.le_add_right _ _) (Nat.le_add_right _ _) (next _ _ _ _ _ _ rfl hLI hR2 hS)
set_option maxRecDepth 100000 in
set_option maxHeartbeats 4000000 in
theorem lc_18 (C : LC p s m c b L xs D cy) {k : Nat} (hi : 6 * k + 6 ≤ L) (hLI : LI s D cy G ad adR μ r H) (hR : RelK (k : Int) G μ r) (hS : va_S (AL s) s.heap H locs) (hl : lv_has ls 4 [(3, .int (iI ((6 * k : Nat) : Int))), (2, .ref (adR 0 0)), (1, .ref (ad 0 0)), (0, .ref b)]) (hc : cells + 3 ≤ 500000 ∧ slots + 113 ≤ 7000000) (next : ∀ (G' : GG) (ad' : AD) (μ' r' : MM) (H' : Heap) (locs' : List Loc), ad' 0 0 = ad 0 0 → LI s D cy G' ad' adR μ' r' H' → RelK ((k : Int) + 1) G' μ' r' → va_S (AL s) s.heap H' locs' → W p l e room_1 s m #[Value.ref b] below meth c H' locs' (cells + 3) (slots + 113) Qf (F0 m 2307 ls [])) : W p l e room_1 s m #[Value.ref b] below meth c H locs cells slots Qf (F0 m 854 ls []) := by
  have hx := C.1.1
  have hb := C.1.2.1
  have hL0 := C.2.2.2.2
  have hk2 : (k : Int) < 512 := by omega
  refine lv_aload_n hx hb dL_law_854 rfl (lv_at hl 2 rfl) ?_
  refine l_ld (j := 1) C hS rfl hl (by omega) dL_law_855 dL_law_856 dL_law_857 dL_law_858 dL_law_859 ?_
  refine l_ld (j := 2) C hS rfl hl (by omega) dL_law_860 dL_law_861 dL_law_862 dL_law_863 dL_law_864 ?_
  refine l_ld (j := 3) C hS rfl hl (by omega) dL_law_865 dL_law_866 dL_law_867 dL_law_868 dL_law_869 ?_
  refine l_bz C (XI_rg _ _) dL_law_870 dL_law_873 dL_law_874 dL_law_877 (by decide) (by decide) ?_
  refine l_callC (rest := []) C hLI (kX10_hang (rel_hang hR hk2 _ (XI_rg _ _) _ (XI_rg _ _) _ (bz01 _))) 3 tw3_127 tw3_125 tw3_126 tw3_124 hdX10_hang rfl ⟨by decide, by decide⟩ hS rfl hl.1 rfl (Nat.le_of_ble_eq_true rfl) dL_law_878 ⟨by omega, by omega⟩ (fun v μ H locs hK hLI hS => ?_)
  refine lv_aload_n hx hb dL_law_881 rfl (lv_at hl 1 rfl) ?_
  refine l_ld (j := 1) C hS rfl hl (by omega) dL_law_882 dL_law_883 dL_law_884 dL_law_885 dL_law_886 ?_
  refine l_ld (j := 2) C hS rfl hl (by omega) dL_law_887 dL_law_888 dL_law_889 dL_law_890 dL_law_891 ?_
  refine l_ld (j := 3) C hS rfl hl (by omega) dL_law_892 dL_law_893 dL_law_894 dL_law_895 dL_law_896 ?_
  refine l_bz C (XI_rg _ _) dL_law_897 dL_law_900 dL_law_901 dL_law_904 (by decide) (by decide) ?_
  refine l_callR (rest := [.int (iI v)]) C hLI (kX11_hang hK) 3 tw6_201 tw6_199 tw6_200 tw6_198 hdX11_hang rfl ⟨by decide, by decide⟩ hS rfl hl.1 rfl (Nat.le_of_ble_eq_true rfl) dL_law_905 ⟨by omega, by omega⟩ (fun v' r H locs hK2 hLI hS => ?_)
  obtain ⟨ev, hR2⟩ := hK2 ()
  subst ev
  refine lv_icmp_eq (tgt := 2307) hx hb dL_law_908 (by decide) (fun _ => ?_) (fun q => absurd rfl q)
  exact W.widen (Nat.le_add_right _ _) (Nat.le_add_right _ _) (next _ _ _ _ _ _ rfl hLI hR2 hS)
set_option maxRecDepth 100000 in
set_option maxHeartbeats 4000000 in
theorem lc_19 (C : LC p s m c b L xs D cy) {k : Nat} (hi : 6 * k + 6 ≤ L) (hLI : LI s D cy G ad adR μ r H) (hR : RelK (k : Int) G μ r) (hS : va_S (AL s) s.heap H locs) (hl : lv_has ls 4 [(3, .int (iI ((6 * k : Nat) : Int))), (2, .ref (adR 0 0)), (1, .ref (ad 0 0)), (0, .ref b)]) (hc : cells + 3 ≤ 500000 ∧ slots + 113 ≤ 7000000) (next : ∀ (G' : GG) (ad' : AD) (μ' r' : MM) (H' : Heap) (locs' : List Loc), ad' 0 0 = ad 0 0 → LI s D cy G' ad' adR μ' r' H' → RelK ((k : Int) + 1) G' μ' r' → va_S (AL s) s.heap H' locs' → W p l e room_1 s m #[Value.ref b] below meth c H' locs' (cells + 3) (slots + 113) Qf (F0 m 2307 ls [])) : W p l e room_1 s m #[Value.ref b] below meth c H locs cells slots Qf (F0 m 913 ls []) := by
  have hx := C.1.1
  have hb := C.1.2.1
  have hL0 := C.2.2.2.2
  have hk2 : (k : Int) < 512 := by omega
  refine lv_aload_n hx hb dL_law_913 rfl (lv_at hl 2 rfl) ?_
  refine l_ld (j := 1) C hS rfl hl (by omega) dL_law_914 dL_law_915 dL_law_916 dL_law_917 dL_law_918 ?_
  refine l_ld (j := 2) C hS rfl hl (by omega) dL_law_919 dL_law_920 dL_law_921 dL_law_922 dL_law_923 ?_
  refine l_bz C (XI_rg _ _) dL_law_924 dL_law_927 dL_law_928 dL_law_931 (by decide) (by decide) ?_
  refine l_callC (rest := []) C hLI (kX10_unhang (rel_unhang hR hk2 _ (XI_rg _ _) _ (bz01 _))) 2 tw3_141 tw3_139 tw3_140 tw3_138 hdX10_unhang rfl ⟨by decide, by decide⟩ hS rfl hl.1 rfl (Nat.le_of_ble_eq_true rfl) dL_law_932 ⟨by omega, by omega⟩ (fun v μ H locs hK hLI hS => ?_)
  refine lv_aload_n hx hb dL_law_935 rfl (lv_at hl 1 rfl) ?_
  refine l_ld (j := 1) C hS rfl hl (by omega) dL_law_936 dL_law_937 dL_law_938 dL_law_939 dL_law_940 ?_
  refine l_ld (j := 2) C hS rfl hl (by omega) dL_law_941 dL_law_942 dL_law_943 dL_law_944 dL_law_945 ?_
  refine l_bz C (XI_rg _ _) dL_law_946 dL_law_949 dL_law_950 dL_law_953 (by decide) (by decide) ?_
  refine l_callR (rest := [.int (iI v)]) C hLI (kX11_unhang hK) 2 tw6_208 tw6_206 tw6_207 tw6_205 hdX11_unhang rfl ⟨by decide, by decide⟩ hS rfl hl.1 rfl (Nat.le_of_ble_eq_true rfl) dL_law_954 ⟨by omega, by omega⟩ (fun v' r H locs hK2 hLI hS => ?_)
  obtain ⟨ev, hR2⟩ := hK2 ()
  subst ev
  refine lv_icmp_eq (tgt := 2307) hx hb dL_law_957 (by decide) (fun _ => ?_) (fun q => absurd rfl q)
  exact W.widen (Nat.le_add_right _ _) (Nat.le_add_right _ _) (next _ _ _ _ _ _ rfl hLI hR2 hS)
end
