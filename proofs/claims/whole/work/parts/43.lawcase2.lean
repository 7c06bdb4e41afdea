section LAWC2
variable {p : Program} {e : Env} {s : State} {m : MethodId} {below : List Frame} {meth : Method} {c : Code} {D : va_G} {cT : Nat → ClassId} {ao am : Nat → Nat} {b L i cells slots : Nat} {xs : Nat → Int32} {T : Nat → Nat → Int32} {n : Nat → Nat} {H : Heap} {locs : List Loc} {ls : Array Slot}
set_option maxHeartbeats 4000000 in
set_option maxRecDepth 100000 in
theorem law_566 (l : Launch) (hL : L ≤ 2560) (C0 : lw_At p s m meth c b L xs) (hE : EV D cT s) (hWD : WD s s.heap) (hi : i + 5 ≤ L) (hc : cells + 1 ≤ 600000) (hs : slots + 11 ≤ 7302249) (hI : lwI D cT ao am s T n H locs) (hl : lv_has ls 4 [(0, .ref b), (1, .ref (ao 0)), (2, .ref (am 0)), (3, .int (nI i))]) (kk : lwK p l e s m below meth c D cT ao am b i (cells + 1) (slots + 11)) : W p l e room_1 s m #[Value.ref b] below meth c H locs cells slots (lw_Z below #[Value.ref b] s) (F0 m 566 ls []) := by
  obtain ⟨hx, hb, hr, hml, hown, htT, hX, hbl, hlocks, hgv⟩ := C0
  have hts : ∀ w ∈ wsL_law, w.before #[Value.ref b] s = true := fun w h => htT w (wsL_law_in w h)
  have hA : ∀ q : Nat, s.heap.size ≤ q → (fun q : Nat => s.heap.size ≤ q) q := fun _ h => h
  have hbA : ¬ (fun q : Nat => s.heap.size ≤ q) b := Nat.not_le.mpr hbl
  obtain ⟨bo, P, z, hJ, hpr, hO, hM, hD, hS⟩ := hI
  have hH : ∀ q : Nat, H.size ≤ q → (fun q : Nat => s.heap.size ≤ q) q := fun q h => Nat.le_trans hS.1 h
  refine lv_aload_n hx hb dL_law_566 rfl (lv_at hl 1 rfl) ?_
  refine lv_aload_n hx hb dL_law_567 rfl (lv_at hl 0 rfl) ?_
  refine lv_iload_n hx hb dL_law_568 rfl (lv_at hl 3 rfl) ?_
  refine lv_iconst (v := 1) hx hb dL_law_569 (by decide) ?_
  refine lv_iadd hx hb dL_law_570 ?_
  refine topi_eq (nI_add _ 1) ?_
  refine my_sld (k := i + 1) hx hb hX hbl hbA hS (by omega) (by omega) dL_law_571 ?_
  refine ro_V (As := [.int (xs (i + 1))]) (rest := []) ⟨hx, hb, hml, hown, hts⟩ (c_X9_worth l D cT ao bo T P n (xs (i + 1)) hJ.1) (cwV 1 hts gL_law_X9_worth rfl rfl rfl (by decide +kernel) ⟨Nat.le_of_ble_eq_true rfl, Nat.le_of_ble_eq_true rfl⟩) hE hO 0 9 ofl_0 rfl rfl rfl hl.1 rfl (Nat.le_of_ble_eq_true rfl) dL_law_572 ⟨(show cells ≤ 600000 by omega), (show slots ≤ 7302249 by omega)⟩ ?_
  refine lv_aload_n hx hb dL_law_575 rfl (lv_at hl 2 rfl) ?_
  refine lv_aload_n hx hb dL_law_576 rfl (lv_at hl 0 rfl) ?_
  refine lv_iload_n hx hb dL_law_577 rfl (lv_at hl 3 rfl) ?_
  refine lv_iconst (v := 1) hx hb dL_law_578 (by decide) ?_
  refine lv_iadd hx hb dL_law_579 ?_
  refine topi_eq (nI_add _ 1) ?_
  refine my_sld (k := i + 1) hx hb hX hbl hbA hS (by omega) (by omega) dL_law_580 ?_
  refine ro_V (As := [.int (xs (i + 1))]) (rest := [_]) ⟨hx, hb, hml, hown, hts⟩ (c_X10_worth l D cT am T n z (xs (i + 1)) hJ.1 hJ.2.1) (cwV 1 hts gL_law_X10_worth rfl rfl rfl (by decide +kernel) ⟨Nat.le_of_ble_eq_true rfl, Nat.le_of_ble_eq_true rfl⟩) hE hM 0 10 mol_0 rfl rfl rfl hl.1 rfl (Nat.le_of_ble_eq_true rfl) dL_law_581 ⟨(show cells ≤ 600000 by omega), (show slots ≤ 7302249 by omega)⟩ ?_
  refine lv_icmp_eq (tgt := 869) hx hb dL_law_584 (by decide) (fun _ => ?_) (fun q => absurd rfl q)
  refine W.widen (k := cells + 1) (n := slots + 11) (by omega) (by omega) ?_
  exact kk T n _ _ ⟨bo, P, z, hJ, hpr, hO, hM, hD, hS⟩ ls hl
set_option maxHeartbeats 4000000 in
set_option maxRecDepth 100000 in
theorem law_589 (l : Launch) (hL : L ≤ 2560) (C0 : lw_At p s m meth c b L xs) (hE : EV D cT s) (hWD : WD s s.heap) (hi : i + 5 ≤ L) (hc : cells + 1 ≤ 600000) (hs : slots + 11 ≤ 7302249) (hI : lwI D cT ao am s T n H locs) (hl : lv_has ls 4 [(0, .ref b), (1, .ref (ao 0)), (2, .ref (am 0)), (3, .int (nI i))]) (kk : lwK p l e s m below meth c D cT ao am b i (cells + 1) (slots + 11)) : W p l e room_1 s m #[Value.ref b] below meth c H locs cells slots (lw_Z below #[Value.ref b] s) (F0 m 589 ls []) := by
  obtain ⟨hx, hb, hr, hml, hown, htT, hX, hbl, hlocks, hgv⟩ := C0
  have hts : ∀ w ∈ wsL_law, w.before #[Value.ref b] s = true := fun w h => htT w (wsL_law_in w h)
  have hA : ∀ q : Nat, s.heap.size ≤ q → (fun q : Nat => s.heap.size ≤ q) q := fun _ h => h
  have hbA : ¬ (fun q : Nat => s.heap.size ≤ q) b := Nat.not_le.mpr hbl
  obtain ⟨bo, P, z, hJ, hpr, hO, hM, hD, hS⟩ := hI
  have hH : ∀ q : Nat, H.size ≤ q → (fun q : Nat => s.heap.size ≤ q) q := fun q h => Nat.le_trans hS.1 h
  refine lv_aload_n hx hb dL_law_589 rfl (lv_at hl 1 rfl) ?_
  refine lv_aload_n hx hb dL_law_590 rfl (lv_at hl 0 rfl) ?_
  refine lv_iload_n hx hb dL_law_591 rfl (lv_at hl 3 rfl) ?_
  refine lv_iconst (v := 1) hx hb dL_law_592 (by decide) ?_
  refine lv_iadd hx hb dL_law_593 ?_
  refine topi_eq (nI_add _ 1) ?_
  refine my_sld (k := i + 1) hx hb hX hbl hbA hS (by omega) (by omega) dL_law_594 ?_
  refine lv_aload_n hx hb dL_law_595 rfl (lv_at hl 0 rfl) ?_
  refine lv_iload_n hx hb dL_law_596 rfl (lv_at hl 3 rfl) ?_
  refine lv_iconst (v := 2) hx hb dL_law_597 (by decide) ?_
  refine lv_iadd hx hb dL_law_598 ?_
  refine topi_eq (nI_add _ 2) ?_
  refine my_sld (k := i + 2) hx hb hX hbl hbA hS (by omega) (by omega) dL_law_599 ?_
  refine rw_V1 (As := [.int (xs (i + 1)), .int (xs (i + 2))]) (rest := []) ⟨hx, hb, hml, hown, hts⟩ (c_X9_share l D cT H.size ao bo T P n (xs (i + 1)) (xs (i + 2)) hJ.1 hJ.2.1 hpr) (cwV 2 hts gL_law_X9_share rfl rfl rfl (by decide +kernel) ⟨Nat.le_of_ble_eq_true rfl, Nat.le_of_ble_eq_true rfl⟩) hE hO (lw_lft hD) hS hA 0 9 ofl_0 rfl rfl rfl hl.1 rfl (Nat.le_of_ble_eq_true rfl) dL_law_600 ⟨(show cells + 0 ≤ 600000 by omega), (show slots + 0 ≤ 7302249 by omega)⟩ (fun H1 locs1 hB hz1 hk1 hS => ?_)
  obtain ⟨bo2, P2, hpr2, hO, hM, hD⟩ := mid9 hB hM hD hH hk1
  have hH : ∀ q : Nat, H1.size ≤ q → (fun q : Nat => s.heap.size ≤ q) q := fun q h => Nat.le_trans hS.1 h
  refine lv_aload_n hx hb dL_law_603 rfl (lv_at hl 2 rfl) ?_
  refine lv_aload_n hx hb dL_law_604 rfl (lv_at hl 0 rfl) ?_
  refine lv_iload_n hx hb dL_law_605 rfl (lv_at hl 3 rfl) ?_
  refine lv_iconst (v := 1) hx hb dL_law_606 (by decide) ?_
  refine lv_iadd hx hb dL_law_607 ?_
  refine topi_eq (nI_add _ 1) ?_
  refine my_sld (k := i + 1) hx hb hX hbl hbA hS (by omega) (by omega) dL_law_608 ?_
  refine lv_aload_n hx hb dL_law_609 rfl (lv_at hl 0 rfl) ?_
  refine lv_iload_n hx hb dL_law_610 rfl (lv_at hl 3 rfl) ?_
  refine lv_iconst (v := 2) hx hb dL_law_611 (by decide) ?_
  refine lv_iadd hx hb dL_law_612 ?_
  refine topi_eq (nI_add _ 2) ?_
  refine my_sld (k := i + 2) hx hb hX hbl hbA hS (by omega) (by omega) dL_law_613 ?_
  refine rw_V1 (As := [.int (xs (i + 1)), .int (xs (i + 2))]) (rest := [_]) ⟨hx, hb, hml, hown, hts⟩ (c_X10_share l D cT H1.size am T n z (xs (i + 1)) (xs (i + 2)) hJ.1 hJ.2.1) (cwV 2 hts gL_law_X10_share rfl rfl rfl (by decide +kernel) ⟨Nat.le_of_ble_eq_true rfl, Nat.le_of_ble_eq_true rfl⟩) hE hM (lw_rgt hD) hS hA 0 10 mol_0 rfl rfl rfl hl.1 rfl (Nat.le_of_ble_eq_true rfl) dL_law_614 ⟨(show cells + 0 + 0 ≤ 600000 by omega), (show slots + 0 + 0 ≤ 7302249 by omega)⟩ (fun H2 locs2 hB hz2 hk2 hS => ?_)
  obtain ⟨z2, hO, hM, hD⟩ := mid10M hB hO hD hH hk2
  refine lv_icmp_eq (tgt := 869) hx hb dL_law_617 (by decide) (fun _ => ?_) (fun q => absurd rfl q)
  refine W.widen (k := cells + 1) (n := slots + 11) (by omega) (by omega) ?_
  exact kk _ _ _ _ ⟨bo2, P2, z2, hJ, hpr2, hO, hM, hD, hS⟩ ls hl
set_option maxHeartbeats 4000000 in
set_option maxRecDepth 100000 in
theorem law_622 (l : Launch) (hL : L ≤ 2560) (C0 : lw_At p s m meth c b L xs) (hE : EV D cT s) (hWD : WD s s.heap) (hi : i + 5 ≤ L) (hc : cells + 1 ≤ 600000) (hs : slots + 11 ≤ 7302249) (hI : lwI D cT ao am s T n H locs) (hl : lv_has ls 4 [(0, .ref b), (1, .ref (ao 0)), (2, .ref (am 0)), (3, .int (nI i))]) (kk : lwK p l e s m below meth c D cT ao am b i (cells + 1) (slots + 11)) : W p l e room_1 s m #[Value.ref b] below meth c H locs cells slots (lw_Z below #[Value.ref b] s) (F0 m 622 ls []) := by
  obtain ⟨hx, hb, hr, hml, hown, htT, hX, hbl, hlocks, hgv⟩ := C0
  have hts : ∀ w ∈ wsL_law, w.before #[Value.ref b] s = true := fun w h => htT w (wsL_law_in w h)
  have hA : ∀ q : Nat, s.heap.size ≤ q → (fun q : Nat => s.heap.size ≤ q) q := fun _ h => h
  have hbA : ¬ (fun q : Nat => s.heap.size ≤ q) b := Nat.not_le.mpr hbl
  obtain ⟨bo, P, z, hJ, hpr, hO, hM, hD, hS⟩ := hI
  have hH : ∀ q : Nat, H.size ≤ q → (fun q : Nat => s.heap.size ≤ q) q := fun q h => Nat.le_trans hS.1 h
  refine lv_aload_n hx hb dL_law_622 rfl (lv_at hl 1 rfl) ?_
  refine lv_aload_n hx hb dL_law_623 rfl (lv_at hl 0 rfl) ?_
  refine lv_iload_n hx hb dL_law_624 rfl (lv_at hl 3 rfl) ?_
  refine lv_iconst (v := 1) hx hb dL_law_625 (by decide) ?_
  refine lv_iadd hx hb dL_law_626 ?_
  refine topi_eq (nI_add _ 1) ?_
  refine my_sld (k := i + 1) hx hb hX hbl hbA hS (by omega) (by omega) dL_law_627 ?_
  refine rw_V1 (As := [.int (xs (i + 1))]) (rest := []) ⟨hx, hb, hml, hown, hts⟩ (c_X9_due l D cT H.size ao bo T P n (xs (i + 1)) hJ.1 hJ.2.1 hpr) (cwV 1 hts gL_law_X9_due rfl rfl rfl (by decide +kernel) ⟨Nat.le_of_ble_eq_true rfl, Nat.le_of_ble_eq_true rfl⟩) hE hO (lw_lft hD) hS hA 0 9 ofl_0 rfl rfl rfl hl.1 rfl (Nat.le_of_ble_eq_true rfl) dL_law_628 ⟨(show cells + 0 ≤ 600000 by omega), (show slots + 0 ≤ 7302249 by omega)⟩ (fun H1 locs1 hB hz1 hk1 hS => ?_)
  obtain ⟨bo2, P2, hpr2, hO, hM, hD⟩ := mid9 hB hM hD hH hk1
  have hH : ∀ q : Nat, H1.size ≤ q → (fun q : Nat => s.heap.size ≤ q) q := fun q h => Nat.le_trans hS.1 h
  refine lv_aload_n hx hb dL_law_631 rfl (lv_at hl 2 rfl) ?_
  refine lv_aload_n hx hb dL_law_632 rfl (lv_at hl 0 rfl) ?_
  refine lv_iload_n hx hb dL_law_633 rfl (lv_at hl 3 rfl) ?_
  refine lv_iconst (v := 1) hx hb dL_law_634 (by decide) ?_
  refine lv_iadd hx hb dL_law_635 ?_
  refine topi_eq (nI_add _ 1) ?_
  refine my_sld (k := i + 1) hx hb hX hbl hbA hS (by omega) (by omega) dL_law_636 ?_
  refine rw_V1 (As := [.int (xs (i + 1))]) (rest := [_]) ⟨hx, hb, hml, hown, hts⟩ (c_X10_due l D cT H1.size am T n z (xs (i + 1)) hJ.1 hJ.2.1) (cwV 1 hts gL_law_X10_due rfl rfl rfl (by decide +kernel) ⟨Nat.le_of_ble_eq_true rfl, Nat.le_of_ble_eq_true rfl⟩) hE hM (lw_rgt hD) hS hA 0 10 mol_0 rfl rfl rfl hl.1 rfl (Nat.le_of_ble_eq_true rfl) dL_law_637 ⟨(show cells + 0 + 0 ≤ 600000 by omega), (show slots + 0 + 0 ≤ 7302249 by omega)⟩ (fun H2 locs2 hB hz2 hk2 hS => ?_)
  obtain ⟨z2, hO, hM, hD⟩ := mid10M hB hO hD hH hk2
  refine lv_icmp_eq (tgt := 869) hx hb dL_law_640 (by decide) (fun _ => ?_) (fun q => absurd rfl q)
  refine W.widen (k := cells + 1) (n := slots + 11) (by omega) (by omega) ?_
  exact kk _ _ _ _ ⟨bo2, P2, z2, hJ, hpr2, hO, hM, hD, hS⟩ ls hl
set_option maxHeartbeats 4000000 in
set_option maxRecDepth 100000 in
theorem law_645 (l : Launch) (hL : L ≤ 2560) (C0 : lw_At p s m meth c b L xs) (hE : EV D cT s) (hWD : WD s s.heap) (hi : i + 5 ≤ L) (hc : cells + 1 ≤ 600000) (hs : slots + 11 ≤ 7302249) (hI : lwI D cT ao am s T n H locs) (hl : lv_has ls 4 [(0, .ref b), (1, .ref (ao 0)), (2, .ref (am 0)), (3, .int (nI i))]) (kk : lwK p l e s m below meth c D cT ao am b i (cells + 1) (slots + 11)) : W p l e room_1 s m #[Value.ref b] below meth c H locs cells slots (lw_Z below #[Value.ref b] s) (F0 m 645 ls []) := by
  obtain ⟨hx, hb, hr, hml, hown, htT, hX, hbl, hlocks, hgv⟩ := C0
  have hts : ∀ w ∈ wsL_law, w.before #[Value.ref b] s = true := fun w h => htT w (wsL_law_in w h)
  have hA : ∀ q : Nat, s.heap.size ≤ q → (fun q : Nat => s.heap.size ≤ q) q := fun _ h => h
  have hbA : ¬ (fun q : Nat => s.heap.size ≤ q) b := Nat.not_le.mpr hbl
  obtain ⟨bo, P, z, hJ, hpr, hO, hM, hD, hS⟩ := hI
  have hH : ∀ q : Nat, H.size ≤ q → (fun q : Nat => s.heap.size ≤ q) q := fun q h => Nat.le_trans hS.1 h
  refine lv_aload_n hx hb dL_law_645 rfl (lv_at hl 1 rfl) ?_
  refine lv_aload_n hx hb dL_law_646 rfl (lv_at hl 0 rfl) ?_
  refine lv_iload_n hx hb dL_law_647 rfl (lv_at hl 3 rfl) ?_
  refine lv_iconst (v := 1) hx hb dL_law_648 (by decide) ?_
  refine lv_iadd hx hb dL_law_649 ?_
  refine topi_eq (nI_add _ 1) ?_
  refine my_sld (k := i + 1) hx hb hX hbl hbA hS (by omega) (by omega) dL_law_650 ?_
  refine rw_V1 (As := [.int (xs (i + 1))]) (rest := []) ⟨hx, hb, hml, hown, hts⟩ (c_X9_settle l D cT H.size ao bo T P n (xs (i + 1)) hJ.1 hJ.2.1 hpr) (cwV 1 hts gL_law_X9_settle rfl rfl rfl (by decide +kernel) ⟨Nat.le_of_ble_eq_true rfl, Nat.le_of_ble_eq_true rfl⟩) hE hO (lw_lft hD) hS hA 0 9 ofl_0 rfl rfl rfl hl.1 rfl (Nat.le_of_ble_eq_true rfl) dL_law_651 ⟨(show cells + 0 ≤ 600000 by omega), (show slots + 0 ≤ 7302249 by omega)⟩ (fun H1 locs1 hB hz1 hk1 hS => ?_)
  obtain ⟨bo2, P2, hpr2, hO, hM, hD⟩ := mid9 hB hM hD hH hk1
  have hH : ∀ q : Nat, H1.size ≤ q → (fun q : Nat => s.heap.size ≤ q) q := fun q h => Nat.le_trans hS.1 h
  refine lv_aload_n hx hb dL_law_654 rfl (lv_at hl 2 rfl) ?_
  refine lv_aload_n hx hb dL_law_655 rfl (lv_at hl 0 rfl) ?_
  refine lv_iload_n hx hb dL_law_656 rfl (lv_at hl 3 rfl) ?_
  refine lv_iconst (v := 1) hx hb dL_law_657 (by decide) ?_
  refine lv_iadd hx hb dL_law_658 ?_
  refine topi_eq (nI_add _ 1) ?_
  refine my_sld (k := i + 1) hx hb hX hbl hbA hS (by omega) (by omega) dL_law_659 ?_
  refine rw_V1 (As := [.int (xs (i + 1))]) (rest := [_]) ⟨hx, hb, hml, hown, hts⟩ (c_X10_settle l D cT H1.size am T n z (xs (i + 1)) hJ.1 hJ.2.1) (cwV 1 hts gL_law_X10_settle rfl rfl rfl (by decide +kernel) ⟨Nat.le_of_ble_eq_true rfl, Nat.le_of_ble_eq_true rfl⟩) hE hM (lw_rgt hD) hS hA 0 10 mol_0 rfl rfl rfl hl.1 rfl (Nat.le_of_ble_eq_true rfl) dL_law_660 ⟨(show cells + 0 + 0 ≤ 600000 by omega), (show slots + 0 + 0 ≤ 7302249 by omega)⟩ (fun H2 locs2 hB hz2 hk2 hS => ?_)
  obtain ⟨z2, hO, hM, hD⟩ := mid10 hB hO hD hH hk2
  refine lv_icmp_eq (tgt := 869) hx hb dL_law_663 (by decide) (fun _ => ?_) (fun q => absurd rfl q)
  refine W.widen (k := cells + 1) (n := slots + 11) (by omega) (by omega) ?_
  exact kk _ _ _ _ ⟨bo2, P2, z2, keep_settle hJ, hpr2, hO, hM, hD, hS⟩ ls hl
set_option maxHeartbeats 4000000 in
set_option maxRecDepth 100000 in
theorem law_668 (l : Launch) (hL : L ≤ 2560) (C0 : lw_At p s m meth c b L xs) (hE : EV D cT s) (hWD : WD s s.heap) (hi : i + 5 ≤ L) (hc : cells + 1 ≤ 600000) (hs : slots + 11 ≤ 7302249) (hI : lwI D cT ao am s T n H locs) (hl : lv_has ls 4 [(0, .ref b), (1, .ref (ao 0)), (2, .ref (am 0)), (3, .int (nI i))]) (kk : lwK p l e s m below meth c D cT ao am b i (cells + 1) (slots + 11)) : W p l e room_1 s m #[Value.ref b] below meth c H locs cells slots (lw_Z below #[Value.ref b] s) (F0 m 668 ls []) := by
  obtain ⟨hx, hb, hr, hml, hown, htT, hX, hbl, hlocks, hgv⟩ := C0
  have hts : ∀ w ∈ wsL_law, w.before #[Value.ref b] s = true := fun w h => htT w (wsL_law_in w h)
  have hA : ∀ q : Nat, s.heap.size ≤ q → (fun q : Nat => s.heap.size ≤ q) q := fun _ h => h
  have hbA : ¬ (fun q : Nat => s.heap.size ≤ q) b := Nat.not_le.mpr hbl
  obtain ⟨bo, P, z, hJ, hpr, hO, hM, hD, hS⟩ := hI
  have hH : ∀ q : Nat, H.size ≤ q → (fun q : Nat => s.heap.size ≤ q) q := fun q h => Nat.le_trans hS.1 h
  refine lv_aload_n hx hb dL_law_668 rfl (lv_at hl 1 rfl) ?_
  refine lv_aload_n hx hb dL_law_669 rfl (lv_at hl 0 rfl) ?_
  refine lv_iload_n hx hb dL_law_670 rfl (lv_at hl 3 rfl) ?_
  refine lv_iconst (v := 1) hx hb dL_law_671 (by decide) ?_
  refine lv_iadd hx hb dL_law_672 ?_
  refine topi_eq (nI_add _ 1) ?_
  refine my_sld (k := i + 1) hx hb hX hbl hbA hS (by omega) (by omega) dL_law_673 ?_
  refine ro_V (As := [.int (xs (i + 1))]) (rest := []) ⟨hx, hb, hml, hown, hts⟩ (c_X9_paid l D cT ao bo T P n (xs (i + 1)) hJ.1) (cwV 1 hts gL_law_X9_paid rfl rfl rfl (by decide +kernel) ⟨Nat.le_of_ble_eq_true rfl, Nat.le_of_ble_eq_true rfl⟩) hE hO 0 9 ofl_0 rfl rfl rfl hl.1 rfl (Nat.le_of_ble_eq_true rfl) dL_law_674 ⟨(show cells ≤ 600000 by omega), (show slots ≤ 7302249 by omega)⟩ ?_
  refine lv_aload_n hx hb dL_law_677 rfl (lv_at hl 2 rfl) ?_
  refine lv_aload_n hx hb dL_law_678 rfl (lv_at hl 0 rfl) ?_
  refine lv_iload_n hx hb dL_law_679 rfl (lv_at hl 3 rfl) ?_
  refine lv_iconst (v := 1) hx hb dL_law_680 (by decide) ?_
  refine lv_iadd hx hb dL_law_681 ?_
  refine topi_eq (nI_add _ 1) ?_
  refine my_sld (k := i + 1) hx hb hX hbl hbA hS (by omega) (by omega) dL_law_682 ?_
  refine ro_V (As := [.int (xs (i + 1))]) (rest := [_]) ⟨hx, hb, hml, hown, hts⟩ (c_X10_paid l D cT am T n z (xs (i + 1)) hJ.1) (cwV 1 hts gL_law_X10_paid rfl rfl rfl (by decide +kernel) ⟨Nat.le_of_ble_eq_true rfl, Nat.le_of_ble_eq_true rfl⟩) hE hM 0 10 mol_0 rfl rfl rfl hl.1 rfl (Nat.le_of_ble_eq_true rfl) dL_law_683 ⟨(show cells ≤ 600000 by omega), (show slots ≤ 7302249 by omega)⟩ ?_
  refine lv_icmp_eq (tgt := 869) hx hb dL_law_686 (by decide) (fun _ => ?_) (fun q => absurd rfl q)
  refine W.widen (k := cells + 1) (n := slots + 11) (by omega) (by omega) ?_
  exact kk T n _ _ ⟨bo, P, z, hJ, hpr, hO, hM, hD, hS⟩ ls hl
set_option maxHeartbeats 4000000 in
set_option maxRecDepth 100000 in
theorem law_691 (l : Launch) (hL : L ≤ 2560) (C0 : lw_At p s m meth c b L xs) (hE : EV D cT s) (hWD : WD s s.heap) (hi : i + 5 ≤ L) (hc : cells + 1 ≤ 600000) (hs : slots + 11 ≤ 7302249) (hI : lwI D cT ao am s T n H locs) (hl : lv_has ls 4 [(0, .ref b), (1, .ref (ao 0)), (2, .ref (am 0)), (3, .int (nI i))]) (kk : lwK p l e s m below meth c D cT ao am b i (cells + 1) (slots + 11)) : W p l e room_1 s m #[Value.ref b] below meth c H locs cells slots (lw_Z below #[Value.ref b] s) (F0 m 691 ls []) := by
  obtain ⟨hx, hb, hr, hml, hown, htT, hX, hbl, hlocks, hgv⟩ := C0
  have hts : ∀ w ∈ wsL_law, w.before #[Value.ref b] s = true := fun w h => htT w (wsL_law_in w h)
  have hA : ∀ q : Nat, s.heap.size ≤ q → (fun q : Nat => s.heap.size ≤ q) q := fun _ h => h
  have hbA : ¬ (fun q : Nat => s.heap.size ≤ q) b := Nat.not_le.mpr hbl
  obtain ⟨bo, P, z, hJ, hpr, hO, hM, hD, hS⟩ := hI
  have hH : ∀ q : Nat, H.size ≤ q → (fun q : Nat => s.heap.size ≤ q) q := fun q h => Nat.le_trans hS.1 h
  refine lv_aload_n hx hb dL_law_691 rfl (lv_at hl 1 rfl) ?_
  refine lv_aload_n hx hb dL_law_692 rfl (lv_at hl 0 rfl) ?_
  refine lv_iload_n hx hb dL_law_693 rfl (lv_at hl 3 rfl) ?_
  refine lv_iconst (v := 1) hx hb dL_law_694 (by decide) ?_
  refine lv_iadd hx hb dL_law_695 ?_
  refine topi_eq (nI_add _ 1) ?_
  refine my_sld (k := i + 1) hx hb hX hbl hbA hS (by omega) (by omega) dL_law_696 ?_
  refine lv_aload_n hx hb dL_law_697 rfl (lv_at hl 0 rfl) ?_
  refine lv_iload_n hx hb dL_law_698 rfl (lv_at hl 3 rfl) ?_
  refine lv_iconst (v := 2) hx hb dL_law_699 (by decide) ?_
  refine lv_iadd hx hb dL_law_700 ?_
  refine topi_eq (nI_add _ 2) ?_
  refine my_sld (k := i + 2) hx hb hX hbl hbA hS (by omega) (by omega) dL_law_701 ?_
  refine rd_V (As := [.int (xs (i + 1)), .int (xs (i + 2))]) (rest := []) ⟨hx, hb, hml, hown, hts⟩ (c_X9_place l D cT ao bo T P n (xs (i + 1)) (xs (i + 2)) hJ.1) (cwV 2 hts gL_law_X9_place rfl rfl rfl (by decide +kernel) ⟨Nat.le_of_ble_eq_true rfl, Nat.le_of_ble_eq_true rfl⟩) hE hO (hWD.kept (fun a ha => hS.2.1 a ha (Nat.not_le.mpr ha))) 0 9 ofl_0 rfl rfl rfl hl.1 rfl (Nat.le_of_ble_eq_true rfl) dL_law_702 ⟨(show cells ≤ 600000 by omega), (show slots ≤ 7302249 by omega)⟩ ?_
  refine lv_aload_n hx hb dL_law_705 rfl (lv_at hl 2 rfl) ?_
  refine lv_aload_n hx hb dL_law_706 rfl (lv_at hl 0 rfl) ?_
  refine lv_iload_n hx hb dL_law_707 rfl (lv_at hl 3 rfl) ?_
  refine lv_iconst (v := 1) hx hb dL_law_708 (by decide) ?_
  refine lv_iadd hx hb dL_law_709 ?_
  refine topi_eq (nI_add _ 1) ?_
  refine my_sld (k := i + 1) hx hb hX hbl hbA hS (by omega) (by omega) dL_law_710 ?_
  refine lv_aload_n hx hb dL_law_711 rfl (lv_at hl 0 rfl) ?_
  refine lv_iload_n hx hb dL_law_712 rfl (lv_at hl 3 rfl) ?_
  refine lv_iconst (v := 2) hx hb dL_law_713 (by decide) ?_
  refine lv_iadd hx hb dL_law_714 ?_
  refine topi_eq (nI_add _ 2) ?_
  refine my_sld (k := i + 2) hx hb hX hbl hbA hS (by omega) (by omega) dL_law_715 ?_
  refine ro_V (As := [.int (xs (i + 1)), .int (xs (i + 2))]) (rest := [_]) ⟨hx, hb, hml, hown, hts⟩ (c_X10_place l D cT am T n z (xs (i + 1)) (xs (i + 2)) hJ.1) (cwV 2 hts gL_law_X10_place rfl rfl rfl (by decide +kernel) ⟨Nat.le_of_ble_eq_true rfl, Nat.le_of_ble_eq_true rfl⟩) hE hM 0 10 mol_0 rfl rfl rfl hl.1 rfl (Nat.le_of_ble_eq_true rfl) dL_law_716 ⟨(show cells ≤ 600000 by omega), (show slots ≤ 7302249 by omega)⟩ ?_
  refine lv_icmp_eq (tgt := 869) hx hb dL_law_719 (by decide) (fun _ => ?_) (fun q => absurd rfl q)
  refine W.widen (k := cells + 1) (n := slots + 11) (by omega) (by omega) ?_
  exact kk T n _ _ ⟨bo, P, z, hJ, hpr, hO, hM, hD, hS⟩ ls hl
end LAWC2
