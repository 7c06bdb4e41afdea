section LAWC1
variable {p : Program} {e : Env} {s : State} {m : MethodId} {below : List Frame} {meth : Method} {c : Code} {D : va_G} {cT : Nat → ClassId} {ao am : Nat → Nat} {b L i cells slots : Nat} {xs : Nat → Int32} {T : Nat → Nat → Int32} {n : Nat → Nat} {H : Heap} {locs : List Loc} {ls : Array Slot}
set_option maxHeartbeats 4000000 in
set_option maxRecDepth 100000 in
theorem law_358 (l : Launch) (hL : L ≤ 2560) (C0 : lw_At p s m meth c b L xs) (hE : EV D cT s) (hWD : WD s s.heap) (hi : i + 5 ≤ L) (hc : cells + 1 ≤ 600000) (hs : slots + 11 ≤ 7302249) (hI : lwI D cT ao am s T n H locs) (hl : lv_has ls 4 [(0, .ref b), (1, .ref (ao 0)), (2, .ref (am 0)), (3, .int (nI i))]) (kk : lwK p l e s m below meth c D cT ao am b i (cells + 1) (slots + 11)) : W p l e room_1 s m #[Value.ref b] below meth c H locs cells slots (lw_Z below #[Value.ref b] s) (F0 m 358 ls []) := by
  obtain ⟨hx, hb, hr, hml, hown, htT, hX, hbl, hlocks, hgv⟩ := C0
  have hts : ∀ w ∈ wsL_law, w.before #[Value.ref b] s = true := fun w h => htT w (wsL_law_in w h)
  have hA : ∀ q : Nat, s.heap.size ≤ q → (fun q : Nat => s.heap.size ≤ q) q := fun _ h => h
  have hbA : ¬ (fun q : Nat => s.heap.size ≤ q) b := Nat.not_le.mpr hbl
  obtain ⟨bo, P, z, hJ, hpr, hO, hM, hD, hS⟩ := hI
  have hH : ∀ q : Nat, H.size ≤ q → (fun q : Nat => s.heap.size ≤ q) q := fun q h => Nat.le_trans hS.1 h
  refine lv_aload_n hx hb dL_law_358 rfl (lv_at hl 1 rfl) ?_
  refine lv_aload_n hx hb dL_law_359 rfl (lv_at hl 0 rfl) ?_
  refine lv_iload_n hx hb dL_law_360 rfl (lv_at hl 3 rfl) ?_
  refine lv_iconst (v := 1) hx hb dL_law_361 (by decide) ?_
  refine lv_iadd hx hb dL_law_362 ?_
  refine topi_eq (nI_add _ 1) ?_
  refine my_sld (k := i + 1) hx hb hX hbl hbA hS (by omega) (by omega) dL_law_363 ?_
  refine lv_aload_n hx hb dL_law_364 rfl (lv_at hl 0 rfl) ?_
  refine lv_iload_n hx hb dL_law_365 rfl (lv_at hl 3 rfl) ?_
  refine lv_iconst (v := 2) hx hb dL_law_366 (by decide) ?_
  refine lv_iadd hx hb dL_law_367 ?_
  refine topi_eq (nI_add _ 2) ?_
  refine my_sld (k := i + 2) hx hb hX hbl hbA hS (by omega) (by omega) dL_law_368 ?_
  refine rw_V1 (As := [.int (xs (i + 1)), .int (xs (i + 2))]) (rest := []) ⟨hx, hb, hml, hown, hts⟩ (c_X9_size l D cT H.size ao bo T P n (xs (i + 1)) (xs (i + 2)) hJ.1 hJ.2.1 hpr) (cwV 2 hts gL_law_X9_size rfl rfl rfl (by decide +kernel) ⟨Nat.le_of_ble_eq_true rfl, Nat.le_of_ble_eq_true rfl⟩) hE hO (lw_lft hD) hS hA 0 9 ofl_0 rfl rfl rfl hl.1 rfl (Nat.le_of_ble_eq_true rfl) dL_law_369 ⟨(show cells + 0 ≤ 600000 by omega), (show slots + 0 ≤ 7302249 by omega)⟩ (fun H1 locs1 hB hz1 hk1 hS => ?_)
  obtain ⟨bo2, P2, hpr2, hO, hM, hD⟩ := mid9 hB hM hD hH hk1
  have hH : ∀ q : Nat, H1.size ≤ q → (fun q : Nat => s.heap.size ≤ q) q := fun q h => Nat.le_trans hS.1 h
  refine lv_aload_n hx hb dL_law_372 rfl (lv_at hl 2 rfl) ?_
  refine lv_aload_n hx hb dL_law_373 rfl (lv_at hl 0 rfl) ?_
  refine lv_iload_n hx hb dL_law_374 rfl (lv_at hl 3 rfl) ?_
  refine lv_iconst (v := 1) hx hb dL_law_375 (by decide) ?_
  refine lv_iadd hx hb dL_law_376 ?_
  refine topi_eq (nI_add _ 1) ?_
  refine my_sld (k := i + 1) hx hb hX hbl hbA hS (by omega) (by omega) dL_law_377 ?_
  refine lv_aload_n hx hb dL_law_378 rfl (lv_at hl 0 rfl) ?_
  refine lv_iload_n hx hb dL_law_379 rfl (lv_at hl 3 rfl) ?_
  refine lv_iconst (v := 2) hx hb dL_law_380 (by decide) ?_
  refine lv_iadd hx hb dL_law_381 ?_
  refine topi_eq (nI_add _ 2) ?_
  refine my_sld (k := i + 2) hx hb hX hbl hbA hS (by omega) (by omega) dL_law_382 ?_
  refine rw_V1 (As := [.int (xs (i + 1)), .int (xs (i + 2))]) (rest := [_]) ⟨hx, hb, hml, hown, hts⟩ (c_X10_size l D cT H1.size am T n z (xs (i + 1)) (xs (i + 2)) hJ.1 hJ.2.1) (cwV 2 hts gL_law_X10_size rfl rfl rfl (by decide +kernel) ⟨Nat.le_of_ble_eq_true rfl, Nat.le_of_ble_eq_true rfl⟩) hE hM (lw_rgt hD) hS hA 0 10 mol_0 rfl rfl rfl hl.1 rfl (Nat.le_of_ble_eq_true rfl) dL_law_383 ⟨(show cells + 0 + 0 ≤ 600000 by omega), (show slots + 0 + 0 ≤ 7302249 by omega)⟩ (fun H2 locs2 hB hz2 hk2 hS => ?_)
  obtain ⟨z2, hO, hM, hD⟩ := mid10M hB hO hD hH hk2
  refine lv_icmp_eq (tgt := 869) hx hb dL_law_386 (by decide) (fun _ => ?_) (fun q => absurd rfl q)
  refine W.widen (k := cells + 1) (n := slots + 11) (by omega) (by omega) ?_
  exact kk _ _ _ _ ⟨bo2, P2, z2, hJ, hpr2, hO, hM, hD, hS⟩ ls hl
set_option maxHeartbeats 4000000 in
set_option maxRecDepth 100000 in
theorem law_391 (l : Launch) (hL : L ≤ 2560) (C0 : lw_At p s m meth c b L xs) (hE : EV D cT s) (hWD : WD s s.heap) (hi : i + 5 ≤ L) (hc : cells + 1 ≤ 600000) (hs : slots + 11 ≤ 7302249) (hI : lwI D cT ao am s T n H locs) (hl : lv_has ls 4 [(0, .ref b), (1, .ref (ao 0)), (2, .ref (am 0)), (3, .int (nI i))]) (kk : lwK p l e s m below meth c D cT ao am b i (cells + 1) (slots + 11)) : W p l e room_1 s m #[Value.ref b] below meth c H locs cells slots (lw_Z below #[Value.ref b] s) (F0 m 391 ls []) := by
  obtain ⟨hx, hb, hr, hml, hown, htT, hX, hbl, hlocks, hgv⟩ := C0
  have hts : ∀ w ∈ wsL_law, w.before #[Value.ref b] s = true := fun w h => htT w (wsL_law_in w h)
  have hA : ∀ q : Nat, s.heap.size ≤ q → (fun q : Nat => s.heap.size ≤ q) q := fun _ h => h
  have hbA : ¬ (fun q : Nat => s.heap.size ≤ q) b := Nat.not_le.mpr hbl
  obtain ⟨bo, P, z, hJ, hpr, hO, hM, hD, hS⟩ := hI
  have hH : ∀ q : Nat, H.size ≤ q → (fun q : Nat => s.heap.size ≤ q) q := fun q h => Nat.le_trans hS.1 h
  refine lv_aload_n hx hb dL_law_391 rfl (lv_at hl 1 rfl) ?_
  refine lv_aload_n hx hb dL_law_392 rfl (lv_at hl 0 rfl) ?_
  refine lv_iload_n hx hb dL_law_393 rfl (lv_at hl 3 rfl) ?_
  refine lv_iconst (v := 1) hx hb dL_law_394 (by decide) ?_
  refine lv_iadd hx hb dL_law_395 ?_
  refine topi_eq (nI_add _ 1) ?_
  refine my_sld (k := i + 1) hx hb hX hbl hbA hS (by omega) (by omega) dL_law_396 ?_
  refine rw_V1 (As := [.int (xs (i + 1))]) (rest := []) ⟨hx, hb, hml, hown, hts⟩ (c_X9_counts l D cT H.size ao bo T P n (xs (i + 1)) hJ.1 hJ.2.1 hpr) (cwV 1 hts gL_law_X9_counts rfl rfl rfl (by decide +kernel) ⟨Nat.le_of_ble_eq_true rfl, Nat.le_of_ble_eq_true rfl⟩) hE hO (lw_lft hD) hS hA 0 9 ofl_0 rfl rfl rfl hl.1 rfl (Nat.le_of_ble_eq_true rfl) dL_law_397 ⟨(show cells + 0 ≤ 600000 by omega), (show slots + 0 ≤ 7302249 by omega)⟩ (fun H1 locs1 hB hz1 hk1 hS => ?_)
  obtain ⟨bo2, P2, hpr2, hO, hM, hD⟩ := mid9 hB hM hD hH hk1
  have hH : ∀ q : Nat, H1.size ≤ q → (fun q : Nat => s.heap.size ≤ q) q := fun q h => Nat.le_trans hS.1 h
  refine lv_aload_n hx hb dL_law_400 rfl (lv_at hl 2 rfl) ?_
  refine lv_aload_n hx hb dL_law_401 rfl (lv_at hl 0 rfl) ?_
  refine lv_iload_n hx hb dL_law_402 rfl (lv_at hl 3 rfl) ?_
  refine lv_iconst (v := 1) hx hb dL_law_403 (by decide) ?_
  refine lv_iadd hx hb dL_law_404 ?_
  refine topi_eq (nI_add _ 1) ?_
  refine my_sld (k := i + 1) hx hb hX hbl hbA hS (by omega) (by omega) dL_law_405 ?_
  refine rw_V1 (As := [.int (xs (i + 1))]) (rest := [_]) ⟨hx, hb, hml, hown, hts⟩ (c_X10_counts l D cT H1.size am T n z (xs (i + 1)) hJ.1 hJ.2.1) (cwV 1 hts gL_law_X10_counts rfl rfl rfl (by decide +kernel) ⟨Nat.le_of_ble_eq_true rfl, Nat.le_of_ble_eq_true rfl⟩) hE hM (lw_rgt hD) hS hA 0 10 mol_0 rfl rfl rfl hl.1 rfl (Nat.le_of_ble_eq_true rfl) dL_law_406 ⟨(show cells + 0 + 0 ≤ 600000 by omega), (show slots + 0 + 0 ≤ 7302249 by omega)⟩ (fun H2 locs2 hB hz2 hk2 hS => ?_)
  obtain ⟨z2, hO, hM, hD⟩ := mid10M hB hO hD hH hk2
  refine lv_icmp_eq (tgt := 869) hx hb dL_law_409 (by decide) (fun _ => ?_) (fun q => absurd rfl q)
  refine W.widen (k := cells + 1) (n := slots + 11) (by omega) (by omega) ?_
  exact kk _ _ _ _ ⟨bo2, P2, z2, hJ, hpr2, hO, hM, hD, hS⟩ ls hl
set_option maxHeartbeats 4000000 in
set_option maxRecDepth 100000 in
theorem law_414 (l : Launch) (hL : L ≤ 2560) (C0 : lw_At p s m meth c b L xs) (hE : EV D cT s) (hWD : WD s s.heap) (hi : i + 5 ≤ L) (hc : cells + 1 ≤ 600000) (hs : slots + 11 ≤ 7302249) (hI : lwI D cT ao am s T n H locs) (hl : lv_has ls 4 [(0, .ref b), (1, .ref (ao 0)), (2, .ref (am 0)), (3, .int (nI i))]) (kk : lwK p l e s m below meth c D cT ao am b i (cells + 1) (slots + 11)) : W p l e room_1 s m #[Value.ref b] below meth c H locs cells slots (lw_Z below #[Value.ref b] s) (F0 m 414 ls []) := by
  obtain ⟨hx, hb, hr, hml, hown, htT, hX, hbl, hlocks, hgv⟩ := C0
  have hts : ∀ w ∈ wsL_law, w.before #[Value.ref b] s = true := fun w h => htT w (wsL_law_in w h)
  have hA : ∀ q : Nat, s.heap.size ≤ q → (fun q : Nat => s.heap.size ≤ q) q := fun _ h => h
  have hbA : ¬ (fun q : Nat => s.heap.size ≤ q) b := Nat.not_le.mpr hbl
  obtain ⟨bo, P, z, hJ, hpr, hO, hM, hD, hS⟩ := hI
  have hH : ∀ q : Nat, H.size ≤ q → (fun q : Nat => s.heap.size ≤ q) q := fun q h => Nat.le_trans hS.1 h
  refine lv_aload_n hx hb dL_law_414 rfl (lv_at hl 1 rfl) ?_
  refine lv_aload_n hx hb dL_law_415 rfl (lv_at hl 0 rfl) ?_
  refine lv_iload_n hx hb dL_law_416 rfl (lv_at hl 3 rfl) ?_
  refine lv_iconst (v := 1) hx hb dL_law_417 (by decide) ?_
  refine lv_iadd hx hb dL_law_418 ?_
  refine topi_eq (nI_add _ 1) ?_
  refine my_sld (k := i + 1) hx hb hX hbl hbA hS (by omega) (by omega) dL_law_419 ?_
  refine lv_aload_n hx hb dL_law_420 rfl (lv_at hl 0 rfl) ?_
  refine lv_iload_n hx hb dL_law_421 rfl (lv_at hl 3 rfl) ?_
  refine lv_iconst (v := 2) hx hb dL_law_422 (by decide) ?_
  refine lv_iadd hx hb dL_law_423 ?_
  refine topi_eq (nI_add _ 2) ?_
  refine my_sld (k := i + 2) hx hb hX hbl hbA hS (by omega) (by omega) dL_law_424 ?_
  refine rw_V1 (As := [.int (xs (i + 1)), .int (xs (i + 2))]) (rest := []) ⟨hx, hb, hml, hown, hts⟩ (c_X9_counted l D cT H.size ao bo T P n (xs (i + 1)) (xs (i + 2)) hJ.1 hJ.2.1 hpr) (cwV 2 hts gL_law_X9_counted rfl rfl rfl (by decide +kernel) ⟨Nat.le_of_ble_eq_true rfl, Nat.le_of_ble_eq_true rfl⟩) hE hO (lw_lft hD) hS hA 0 9 ofl_0 rfl rfl rfl hl.1 rfl (Nat.le_of_ble_eq_true rfl) dL_law_425 ⟨(show cells + 0 ≤ 600000 by omega), (show slots + 0 ≤ 7302249 by omega)⟩ (fun H1 locs1 hB hz1 hk1 hS => ?_)
  obtain ⟨bo2, P2, hpr2, hO, hM, hD⟩ := mid9 hB hM hD hH hk1
  have hH : ∀ q : Nat, H1.size ≤ q → (fun q : Nat => s.heap.size ≤ q) q := fun q h => Nat.le_trans hS.1 h
  refine lv_aload_n hx hb dL_law_428 rfl (lv_at hl 2 rfl) ?_
  refine lv_aload_n hx hb dL_law_429 rfl (lv_at hl 0 rfl) ?_
  refine lv_iload_n hx hb dL_law_430 rfl (lv_at hl 3 rfl) ?_
  refine lv_iconst (v := 1) hx hb dL_law_431 (by decide) ?_
  refine lv_iadd hx hb dL_law_432 ?_
  refine topi_eq (nI_add _ 1) ?_
  refine my_sld (k := i + 1) hx hb hX hbl hbA hS (by omega) (by omega) dL_law_433 ?_
  refine lv_aload_n hx hb dL_law_434 rfl (lv_at hl 0 rfl) ?_
  refine lv_iload_n hx hb dL_law_435 rfl (lv_at hl 3 rfl) ?_
  refine lv_iconst (v := 2) hx hb dL_law_436 (by decide) ?_
  refine lv_iadd hx hb dL_law_437 ?_
  refine topi_eq (nI_add _ 2) ?_
  refine my_sld (k := i + 2) hx hb hX hbl hbA hS (by omega) (by omega) dL_law_438 ?_
  refine rw_V1 (As := [.int (xs (i + 1)), .int (xs (i + 2))]) (rest := [_]) ⟨hx, hb, hml, hown, hts⟩ (c_X10_counted l D cT H1.size am T n z (xs (i + 1)) (xs (i + 2)) hJ.1 hJ.2.1) (cwV 2 hts gL_law_X10_counted rfl rfl rfl (by decide +kernel) ⟨Nat.le_of_ble_eq_true rfl, Nat.le_of_ble_eq_true rfl⟩) hE hM (lw_rgt hD) hS hA 0 10 mol_0 rfl rfl rfl hl.1 rfl (Nat.le_of_ble_eq_true rfl) dL_law_439 ⟨(show cells + 0 + 0 ≤ 600000 by omega), (show slots + 0 + 0 ≤ 7302249 by omega)⟩ (fun H2 locs2 hB hz2 hk2 hS => ?_)
  obtain ⟨z2, hO, hM, hD⟩ := mid10M hB hO hD hH hk2
  refine lv_icmp_eq (tgt := 869) hx hb dL_law_442 (by decide) (fun _ => ?_) (fun q => absurd rfl q)
  refine W.widen (k := cells + 1) (n := slots + 11) (by omega) (by omega) ?_
  exact kk _ _ _ _ ⟨bo2, P2, z2, hJ, hpr2, hO, hM, hD, hS⟩ ls hl
set_option maxHeartbeats 4000000 in
set_option maxRecDepth 100000 in
theorem law_447 (l : Launch) (hL : L ≤ 2560) (C0 : lw_At p s m meth c b L xs) (hE : EV D cT s) (hWD : WD s s.heap) (hi : i + 5 ≤ L) (hc : cells + 1 ≤ 600000) (hs : slots + 11 ≤ 7302249) (hI : lwI D cT ao am s T n H locs) (hl : lv_has ls 4 [(0, .ref b), (1, .ref (ao 0)), (2, .ref (am 0)), (3, .int (nI i))]) (kk : lwK p l e s m below meth c D cT ao am b i (cells + 1) (slots + 11)) : W p l e room_1 s m #[Value.ref b] below meth c H locs cells slots (lw_Z below #[Value.ref b] s) (F0 m 447 ls []) := by
  obtain ⟨hx, hb, hr, hml, hown, htT, hX, hbl, hlocks, hgv⟩ := C0
  have hts : ∀ w ∈ wsL_law, w.before #[Value.ref b] s = true := fun w h => htT w (wsL_law_in w h)
  have hA : ∀ q : Nat, s.heap.size ≤ q → (fun q : Nat => s.heap.size ≤ q) q := fun _ h => h
  have hbA : ¬ (fun q : Nat => s.heap.size ≤ q) b := Nat.not_le.mpr hbl
  obtain ⟨bo, P, z, hJ, hpr, hO, hM, hD, hS⟩ := hI
  have hH : ∀ q : Nat, H.size ≤ q → (fun q : Nat => s.heap.size ≤ q) q := fun q h => Nat.le_trans hS.1 h
  refine lv_aload_n hx hb dL_law_447 rfl (lv_at hl 1 rfl) ?_
  refine lv_aload_n hx hb dL_law_448 rfl (lv_at hl 0 rfl) ?_
  refine lv_iload_n hx hb dL_law_449 rfl (lv_at hl 3 rfl) ?_
  refine lv_iconst (v := 1) hx hb dL_law_450 (by decide) ?_
  refine lv_iadd hx hb dL_law_451 ?_
  refine topi_eq (nI_add _ 1) ?_
  refine my_sld (k := i + 1) hx hb hX hbl hbA hS (by omega) (by omega) dL_law_452 ?_
  refine lv_aload_n hx hb dL_law_453 rfl (lv_at hl 0 rfl) ?_
  refine lv_iload_n hx hb dL_law_454 rfl (lv_at hl 3 rfl) ?_
  refine lv_iconst (v := 2) hx hb dL_law_455 (by decide) ?_
  refine lv_iadd hx hb dL_law_456 ?_
  refine topi_eq (nI_add _ 2) ?_
  refine my_sld (k := i + 2) hx hb hX hbl hbA hS (by omega) (by omega) dL_law_457 ?_
  refine ro_V (As := [.int (xs (i + 1)), .int (xs (i + 2))]) (rest := []) ⟨hx, hb, hml, hown, hts⟩ (c_X9_told l D cT ao bo T P n (xs (i + 1)) (xs (i + 2)) hJ.1 hJ.2.1.2.2.2.2.2.1) (cwV 2 hts gL_law_X9_told rfl rfl rfl (by decide +kernel) ⟨Nat.le_of_ble_eq_true rfl, Nat.le_of_ble_eq_true rfl⟩) hE hO 0 9 ofl_0 rfl rfl rfl hl.1 rfl (Nat.le_of_ble_eq_true rfl) dL_law_458 ⟨(show cells ≤ 600000 by omega), (show slots ≤ 7302249 by omega)⟩ ?_
  refine lv_aload_n hx hb dL_law_461 rfl (lv_at hl 2 rfl) ?_
  refine lv_aload_n hx hb dL_law_462 rfl (lv_at hl 0 rfl) ?_
  refine lv_iload_n hx hb dL_law_463 rfl (lv_at hl 3 rfl) ?_
  refine lv_iconst (v := 1) hx hb dL_law_464 (by decide) ?_
  refine lv_iadd hx hb dL_law_465 ?_
  refine topi_eq (nI_add _ 1) ?_
  refine my_sld (k := i + 1) hx hb hX hbl hbA hS (by omega) (by omega) dL_law_466 ?_
  refine lv_aload_n hx hb dL_law_467 rfl (lv_at hl 0 rfl) ?_
  refine lv_iload_n hx hb dL_law_468 rfl (lv_at hl 3 rfl) ?_
  refine lv_iconst (v := 2) hx hb dL_law_469 (by decide) ?_
  refine lv_iadd hx hb dL_law_470 ?_
  refine topi_eq (nI_add _ 2) ?_
  refine my_sld (k := i + 2) hx hb hX hbl hbA hS (by omega) (by omega) dL_law_471 ?_
  refine ro_V (As := [.int (xs (i + 1)), .int (xs (i + 2))]) (rest := [_]) ⟨hx, hb, hml, hown, hts⟩ (c_X10_told l D cT am T n z (xs (i + 1)) (xs (i + 2)) hJ.1) (cwV 2 hts gL_law_X10_told rfl rfl rfl (by decide +kernel) ⟨Nat.le_of_ble_eq_true rfl, Nat.le_of_ble_eq_true rfl⟩) hE hM 0 10 mol_0 rfl rfl rfl hl.1 rfl (Nat.le_of_ble_eq_true rfl) dL_law_472 ⟨(show cells ≤ 600000 by omega), (show slots ≤ 7302249 by omega)⟩ ?_
  refine lv_icmp_eq (tgt := 869) hx hb dL_law_475 (by decide) (fun _ => ?_) (fun q => absurd rfl q)
  refine W.widen (k := cells + 1) (n := slots + 11) (by omega) (by omega) ?_
  exact kk T n _ _ ⟨bo, P, z, hJ, hpr, hO, hM, hD, hS⟩ ls hl
set_option maxHeartbeats 4000000 in
set_option maxRecDepth 100000 in
theorem law_480 (l : Launch) (hL : L ≤ 2560) (C0 : lw_At p s m meth c b L xs) (hE : EV D cT s) (hWD : WD s s.heap) (hi : i + 5 ≤ L) (hc : cells + 1 ≤ 600000) (hs : slots + 11 ≤ 7302249) (hI : lwI D cT ao am s T n H locs) (hl : lv_has ls 4 [(0, .ref b), (1, .ref (ao 0)), (2, .ref (am 0)), (3, .int (nI i))]) (kk : lwK p l e s m below meth c D cT ao am b i (cells + 1) (slots + 11)) : W p l e room_1 s m #[Value.ref b] below meth c H locs cells slots (lw_Z below #[Value.ref b] s) (F0 m 480 ls []) := by
  obtain ⟨hx, hb, hr, hml, hown, htT, hX, hbl, hlocks, hgv⟩ := C0
  have hts : ∀ w ∈ wsL_law, w.before #[Value.ref b] s = true := fun w h => htT w (wsL_law_in w h)
  have hA : ∀ q : Nat, s.heap.size ≤ q → (fun q : Nat => s.heap.size ≤ q) q := fun _ h => h
  have hbA : ¬ (fun q : Nat => s.heap.size ≤ q) b := Nat.not_le.mpr hbl
  obtain ⟨bo, P, z, hJ, hpr, hO, hM, hD, hS⟩ := hI
  have hH : ∀ q : Nat, H.size ≤ q → (fun q : Nat => s.heap.size ≤ q) q := fun q h => Nat.le_trans hS.1 h
  refine lv_aload_n hx hb dL_law_480 rfl (lv_at hl 1 rfl) ?_
  refine lv_aload_n hx hb dL_law_481 rfl (lv_at hl 0 rfl) ?_
  refine lv_iload_n hx hb dL_law_482 rfl (lv_at hl 3 rfl) ?_
  refine lv_iconst (v := 1) hx hb dL_law_483 (by decide) ?_
  refine lv_iadd hx hb dL_law_484 ?_
  refine topi_eq (nI_add _ 1) ?_
  refine my_sld (k := i + 1) hx hb hX hbl hbA hS (by omega) (by omega) dL_law_485 ?_
  refine lv_aload_n hx hb dL_law_486 rfl (lv_at hl 0 rfl) ?_
  refine lv_iload_n hx hb dL_law_487 rfl (lv_at hl 3 rfl) ?_
  refine lv_iconst (v := 2) hx hb dL_law_488 (by decide) ?_
  refine lv_iadd hx hb dL_law_489 ?_
  refine topi_eq (nI_add _ 2) ?_
  refine my_sld (k := i + 2) hx hb hX hbl hbA hS (by omega) (by omega) dL_law_490 ?_
  refine rw_V1 (As := [.int (xs (i + 1)), .int (xs (i + 2))]) (rest := []) ⟨hx, hb, hml, hown, hts⟩ (c_X9_index l D cT H.size ao bo T P n (xs (i + 1)) (xs (i + 2)) hJ.1 hJ.2.1 hpr) (cwV 2 hts gL_law_X9_index rfl rfl rfl (by decide +kernel) ⟨Nat.le_of_ble_eq_true rfl, Nat.le_of_ble_eq_true rfl⟩) hE hO (lw_lft hD) hS hA 0 9 ofl_0 rfl rfl rfl hl.1 rfl (Nat.le_of_ble_eq_true rfl) dL_law_491 ⟨(show cells + 0 ≤ 600000 by omega), (show slots + 0 ≤ 7302249 by omega)⟩ (fun H1 locs1 hB hz1 hk1 hS => ?_)
  obtain ⟨bo2, P2, hpr2, hO, hM, hD⟩ := mid9 hB hM hD hH hk1
  have hH : ∀ q : Nat, H1.size ≤ q → (fun q : Nat => s.heap.size ≤ q) q := fun q h => Nat.le_trans hS.1 h
  refine lv_aload_n hx hb dL_law_494 rfl (lv_at hl 2 rfl) ?_
  refine lv_aload_n hx hb dL_law_495 rfl (lv_at hl 0 rfl) ?_
  refine lv_iload_n hx hb dL_law_496 rfl (lv_at hl 3 rfl) ?_
  refine lv_iconst (v := 1) hx hb dL_law_497 (by decide) ?_
  refine lv_iadd hx hb dL_law_498 ?_
  refine topi_eq (nI_add _ 1) ?_
  refine my_sld (k := i + 1) hx hb hX hbl hbA hS (by omega) (by omega) dL_law_499 ?_
  refine lv_aload_n hx hb dL_law_500 rfl (lv_at hl 0 rfl) ?_
  refine lv_iload_n hx hb dL_law_501 rfl (lv_at hl 3 rfl) ?_
  refine lv_iconst (v := 2) hx hb dL_law_502 (by decide) ?_
  refine lv_iadd hx hb dL_law_503 ?_
  refine topi_eq (nI_add _ 2) ?_
  refine my_sld (k := i + 2) hx hb hX hbl hbA hS (by omega) (by omega) dL_law_504 ?_
  refine rw_V1 (As := [.int (xs (i + 1)), .int (xs (i + 2))]) (rest := [_]) ⟨hx, hb, hml, hown, hts⟩ (c_X10_index l D cT H1.size am T n z (xs (i + 1)) (xs (i + 2)) hJ.1) (cwV 2 hts gL_law_X10_index rfl rfl rfl (by decide +kernel) ⟨Nat.le_of_ble_eq_true rfl, Nat.le_of_ble_eq_true rfl⟩) hE hM (lw_rgt hD) hS hA 0 10 mol_0 rfl rfl rfl hl.1 rfl (Nat.le_of_ble_eq_true rfl) dL_law_505 ⟨(show cells + 0 + 0 ≤ 600000 by omega), (show slots + 0 + 0 ≤ 7302249 by omega)⟩ (fun H2 locs2 hB hz2 hk2 hS => ?_)
  obtain ⟨z2, hO, hM, hD⟩ := mid10 hB hO hD hH hk2
  refine lv_icmp_eq (tgt := 869) hx hb dL_law_508 (by decide) (fun _ => ?_) (fun q => absurd rfl q)
  refine W.widen (k := cells + 1) (n := slots + 11) (by omega) (by omega) ?_
  exact kk _ _ _ _ ⟨bo2, P2, z2, keep_index hJ, hpr2, hO, hM, hD, hS⟩ ls hl
set_option maxHeartbeats 4000000 in
set_option maxRecDepth 100000 in
theorem law_513 (l : Launch) (hL : L ≤ 2560) (C0 : lw_At p s m meth c b L xs) (hE : EV D cT s) (hWD : WD s s.heap) (hi : i + 5 ≤ L) (hc : cells + 1 ≤ 600000) (hs : slots + 11 ≤ 7302249) (hI : lwI D cT ao am s T n H locs) (hl : lv_has ls 4 [(0, .ref b), (1, .ref (ao 0)), (2, .ref (am 0)), (3, .int (nI i))]) (kk : lwK p l e s m below meth c D cT ao am b i (cells + 1) (slots + 11)) : W p l e room_1 s m #[Value.ref b] below meth c H locs cells slots (lw_Z below #[Value.ref b] s) (F0 m 513 ls []) := by
  obtain ⟨hx, hb, hr, hml, hown, htT, hX, hbl, hlocks, hgv⟩ := C0
  have hts : ∀ w ∈ wsL_law, w.before #[Value.ref b] s = true := fun w h => htT w (wsL_law_in w h)
  have hA : ∀ q : Nat, s.heap.size ≤ q → (fun q : Nat => s.heap.size ≤ q) q := fun _ h => h
  have hbA : ¬ (fun q : Nat => s.heap.size ≤ q) b := Nat.not_le.mpr hbl
  obtain ⟨bo, P, z, hJ, hpr, hO, hM, hD, hS⟩ := hI
  have hH : ∀ q : Nat, H.size ≤ q → (fun q : Nat => s.heap.size ≤ q) q := fun q h => Nat.le_trans hS.1 h
  refine lv_aload_n hx hb dL_law_513 rfl (lv_at hl 1 rfl) ?_
  refine lv_aload_n hx hb dL_law_514 rfl (lv_at hl 0 rfl) ?_
  refine lv_iload_n hx hb dL_law_515 rfl (lv_at hl 3 rfl) ?_
  refine lv_iconst (v := 1) hx hb dL_law_516 (by decide) ?_
  refine lv_iadd hx hb dL_law_517 ?_
  refine topi_eq (nI_add _ 1) ?_
  refine my_sld (k := i + 1) hx hb hX hbl hbA hS (by omega) (by omega) dL_law_518 ?_
  refine lv_aload_n hx hb dL_law_519 rfl (lv_at hl 0 rfl) ?_
  refine lv_iload_n hx hb dL_law_520 rfl (lv_at hl 3 rfl) ?_
  refine lv_iconst (v := 2) hx hb dL_law_521 (by decide) ?_
  refine lv_iadd hx hb dL_law_522 ?_
  refine topi_eq (nI_add _ 2) ?_
  refine my_sld (k := i + 2) hx hb hX hbl hbA hS (by omega) (by omega) dL_law_523 ?_
  refine lv_aload_n hx hb dL_law_524 rfl (lv_at hl 0 rfl) ?_
  refine lv_iload_n hx hb dL_law_525 rfl (lv_at hl 3 rfl) ?_
  refine lv_iconst (v := 3) hx hb dL_law_526 (by decide) ?_
  refine lv_iadd hx hb dL_law_527 ?_
  refine topi_eq (nI_add _ 3) ?_
  refine my_sld (k := i + 3) hx hb hX hbl hbA hS (by omega) (by omega) dL_law_528 ?_
  refine lv_aload_n hx hb dL_law_529 rfl (lv_at hl 0 rfl) ?_
  refine lv_iload_n hx hb dL_law_530 rfl (lv_at hl 3 rfl) ?_
  refine lv_iconst (v := 4) hx hb dL_law_531 (by decide) ?_
  refine lv_iadd hx hb dL_law_532 ?_
  refine topi_eq (nI_add _ 4) ?_
  refine my_sld (k := i + 4) hx hb hX hbl hbA hS (by omega) (by omega) dL_law_533 ?_
  refine rw_V1 (As := [.int (xs (i + 1)), .int (xs (i + 2)), .int (xs (i + 3)), .int (xs (i + 4))]) (rest := []) ⟨hx, hb, hml, hown, hts⟩ (c_X9_sale l D cT H.size ao bo T P n (xs (i + 1)) (xs (i + 2)) (xs (i + 3)) (xs (i + 4)) hJ.1 hJ.2.1 hpr) (cwV 4 hts gL_law_X9_sale rfl rfl rfl (by decide +kernel) ⟨Nat.le_of_ble_eq_true rfl, Nat.le_of_ble_eq_true rfl⟩) hE hO (lw_lft hD) hS hA 0 9 ofl_0 rfl rfl rfl hl.1 rfl (Nat.le_of_ble_eq_true rfl) dL_law_534 ⟨(show cells + 1 ≤ 600000 by omega), (show slots + 4 ≤ 7302249 by omega)⟩ (fun H1 locs1 hB hz1 hk1 hS => ?_)
  obtain ⟨bo2, P2, hpr2, hO, hM, hD⟩ := mid9 hB hM hD hH hk1
  have hH : ∀ q : Nat, H1.size ≤ q → (fun q : Nat => s.heap.size ≤ q) q := fun q h => Nat.le_trans hS.1 h
  refine lv_aload_n hx hb dL_law_537 rfl (lv_at hl 2 rfl) ?_
  refine lv_aload_n hx hb dL_law_538 rfl (lv_at hl 0 rfl) ?_
  refine lv_iload_n hx hb dL_law_539 rfl (lv_at hl 3 rfl) ?_
  refine lv_iconst (v := 1) hx hb dL_law_540 (by decide) ?_
  refine lv_iadd hx hb dL_law_541 ?_
  refine topi_eq (nI_add _ 1) ?_
  refine my_sld (k := i + 1) hx hb hX hbl hbA hS (by omega) (by omega) dL_law_542 ?_
  refine lv_aload_n hx hb dL_law_543 rfl (lv_at hl 0 rfl) ?_
  refine lv_iload_n hx hb dL_law_544 rfl (lv_at hl 3 rfl) ?_
  refine lv_iconst (v := 2) hx hb dL_law_545 (by decide) ?_
  refine lv_iadd hx hb dL_law_546 ?_
  refine topi_eq (nI_add _ 2) ?_
  refine my_sld (k := i + 2) hx hb hX hbl hbA hS (by omega) (by omega) dL_law_547 ?_
  refine lv_aload_n hx hb dL_law_548 rfl (lv_at hl 0 rfl) ?_
  refine lv_iload_n hx hb dL_law_549 rfl (lv_at hl 3 rfl) ?_
  refine lv_iconst (v := 3) hx hb dL_law_550 (by decide) ?_
  refine lv_iadd hx hb dL_law_551 ?_
  refine topi_eq (nI_add _ 3) ?_
  refine my_sld (k := i + 3) hx hb hX hbl hbA hS (by omega) (by omega) dL_law_552 ?_
  refine lv_aload_n hx hb dL_law_553 rfl (lv_at hl 0 rfl) ?_
  refine lv_iload_n hx hb dL_law_554 rfl (lv_at hl 3 rfl) ?_
  refine lv_iconst (v := 4) hx hb dL_law_555 (by decide) ?_
  refine lv_iadd hx hb dL_law_556 ?_
  refine topi_eq (nI_add _ 4) ?_
  refine my_sld (k := i + 4) hx hb hX hbl hbA hS (by omega) (by omega) dL_law_557 ?_
  refine rw_V1 (As := [.int (xs (i + 1)), .int (xs (i + 2)), .int (xs (i + 3)), .int (xs (i + 4))]) (rest := [_]) ⟨hx, hb, hml, hown, hts⟩ (c_X10_sale l D cT H1.size am T n z (xs (i + 1)) (xs (i + 2)) (xs (i + 3)) (xs (i + 4)) hJ.1) (cwV 4 hts gL_law_X10_sale rfl rfl rfl (by decide +kernel) ⟨Nat.le_of_ble_eq_true rfl, Nat.le_of_ble_eq_true rfl⟩) hE hM (lw_rgt hD) hS hA 0 10 mol_0 rfl rfl rfl hl.1 rfl (Nat.le_of_ble_eq_true rfl) dL_law_558 ⟨(show cells + 1 + 0 ≤ 600000 by omega), (show slots + 4 + 0 ≤ 7302249 by omega)⟩ (fun H2 locs2 hB hz2 hk2 hS => ?_)
  obtain ⟨z2, hO, hM, hD⟩ := mid10 hB hO hD hH hk2
  refine lv_icmp_eq (tgt := 869) hx hb dL_law_561 (by decide) (fun _ => ?_) (fun q => absurd rfl q)
  refine W.widen (k := cells + 1) (n := slots + 11) (by omega) (by omega) ?_
  exact kk _ _ _ _ ⟨bo2, P2, z2, keep_sale hJ, hpr2, hO, hM, hD, hS⟩ ls hl
end LAWC1
