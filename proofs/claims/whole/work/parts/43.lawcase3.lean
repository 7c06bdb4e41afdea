section LAWC3
variable {p : Program} {e : Env} {s : State} {m : MethodId} {below : List Frame} {meth : Method} {c : Code} {D : va_G} {cT : Nat → ClassId} {ao am : Nat → Nat} {b L i cells slots : Nat} {xs : Nat → Int32} {T : Nat → Nat → Int32} {n : Nat → Nat} {H : Heap} {locs : List Loc} {ls : Array Slot}
set_option maxHeartbeats 4000000 in
set_option maxRecDepth 100000 in
theorem law_724 (l : Launch) (hL : L ≤ 2560) (C0 : lw_At p s m meth c b L xs) (hE : EV D cT s) (hWD : WD s s.heap) (hi : i + 5 ≤ L) (hc : cells + 1 ≤ 600000) (hs : slots + 11 ≤ 7302249) (hI : lwI D cT ao am s T n H locs) (hl : lv_has ls 4 [(0, .ref b), (1, .ref (ao 0)), (2, .ref (am 0)), (3, .int (nI i))]) (kk : lwK p l e s m below meth c D cT ao am b i (cells + 1) (slots + 11)) : W p l e room_1 s m #[Value.ref b] below meth c H locs cells slots (lw_Z below #[Value.ref b] s) (F0 m 724 ls []) := by
  obtain ⟨hx, hb, hr, hml, hown, htT, hX, hbl, hlocks, hgv⟩ := C0
  have hts : ∀ w ∈ wsL_law, w.before #[Value.ref b] s = true := fun w h => htT w (wsL_law_in w h)
  have hA : ∀ q : Nat, s.heap.size ≤ q → (fun q : Nat => s.heap.size ≤ q) q := fun _ h => h
  have hbA : ¬ (fun q : Nat => s.heap.size ≤ q) b := Nat.not_le.mpr hbl
  obtain ⟨bo, P, z, hJ, hpr, hO, hM, hD, hS⟩ := hI
  have hH : ∀ q : Nat, H.size ≤ q → (fun q : Nat => s.heap.size ≤ q) q := fun q h => Nat.le_trans hS.1 h
  refine lv_aload_n hx hb dL_law_724 rfl (lv_at hl 1 rfl) ?_
  refine lv_aload_n hx hb dL_law_725 rfl (lv_at hl 0 rfl) ?_
  refine lv_iload_n hx hb dL_law_726 rfl (lv_at hl 3 rfl) ?_
  refine lv_iconst (v := 1) hx hb dL_law_727 (by decide) ?_
  refine lv_iadd hx hb dL_law_728 ?_
  refine topi_eq (nI_add _ 1) ?_
  refine my_sld (k := i + 1) hx hb hX hbl hbA hS (by omega) (by omega) dL_law_729 ?_
  refine lv_aload_n hx hb dL_law_730 rfl (lv_at hl 0 rfl) ?_
  refine lv_iload_n hx hb dL_law_731 rfl (lv_at hl 3 rfl) ?_
  refine lv_iconst (v := 2) hx hb dL_law_732 (by decide) ?_
  refine lv_iadd hx hb dL_law_733 ?_
  refine topi_eq (nI_add _ 2) ?_
  refine my_sld (k := i + 2) hx hb hX hbl hbA hS (by omega) (by omega) dL_law_734 ?_
  refine lv_aload_n hx hb dL_law_735 rfl (lv_at hl 0 rfl) ?_
  refine lv_iload_n hx hb dL_law_736 rfl (lv_at hl 3 rfl) ?_
  refine lv_iconst (v := 3) hx hb dL_law_737 (by decide) ?_
  refine lv_iadd hx hb dL_law_738 ?_
  refine topi_eq (nI_add _ 3) ?_
  refine my_sld (k := i + 3) hx hb hX hbl hbA hS (by omega) (by omega) dL_law_739 ?_
  refine rd_V (As := [.int (xs (i + 1)), .int (xs (i + 2)), .int (xs (i + 3))]) (rest := []) ⟨hx, hb, hml, hown, hts⟩ (c_X9_within l D cT ao bo T P n (xs (i + 1)) (xs (i + 2)) (xs (i + 3)) hJ.1) (cwV 3 hts gL_law_X9_within rfl rfl rfl (by decide +kernel) ⟨Nat.le_of_ble_eq_true rfl, Nat.le_of_ble_eq_true rfl⟩) hE hO (hWD.kept (fun a ha => hS.2.1 a ha (Nat.not_le.mpr ha))) 0 9 ofl_0 rfl rfl rfl hl.1 rfl (Nat.le_of_ble_eq_true rfl) dL_law_740 ⟨(show cells ≤ 600000 by omega), (show slots ≤ 7302249 by omega)⟩ ?_
  refine lv_aload_n hx hb dL_law_743 rfl (lv_at hl 2 rfl) ?_
  refine lv_aload_n hx hb dL_law_744 rfl (lv_at hl 0 rfl) ?_
  refine lv_iload_n hx hb dL_law_745 rfl (lv_at hl 3 rfl) ?_
  refine lv_iconst (v := 1) hx hb dL_law_746 (by decide) ?_
  refine lv_iadd hx hb dL_law_747 ?_
  refine topi_eq (nI_add _ 1) ?_
  refine my_sld (k := i + 1) hx hb hX hbl hbA hS (by omega) (by omega) dL_law_748 ?_
  refine lv_aload_n hx hb dL_law_749 rfl (lv_at hl 0 rfl) ?_
  refine lv_iload_n hx hb dL_law_750 rfl (lv_at hl 3 rfl) ?_
  refine lv_iconst (v := 2) hx hb dL_law_751 (by decide) ?_
  refine lv_iadd hx hb dL_law_752 ?_
  refine topi_eq (nI_add _ 2) ?_
  refine my_sld (k := i + 2) hx hb hX hbl hbA hS (by omega) (by omega) dL_law_753 ?_
  refine lv_aload_n hx hb dL_law_754 rfl (lv_at hl 0 rfl) ?_
  refine lv_iload_n hx hb dL_law_755 rfl (lv_at hl 3 rfl) ?_
  refine lv_iconst (v := 3) hx hb dL_law_756 (by decide) ?_
  refine lv_iadd hx hb dL_law_757 ?_
  refine topi_eq (nI_add _ 3) ?_
  refine my_sld (k := i + 3) hx hb hX hbl hbA hS (by omega) (by omega) dL_law_758 ?_
  refine ro_V (As := [.int (xs (i + 1)), .int (xs (i + 2)), .int (xs (i + 3))]) (rest := [_]) ⟨hx, hb, hml, hown, hts⟩ (c_X10_within l D cT am T n z (xs (i + 1)) (xs (i + 2)) (xs (i + 3)) hJ.1) (cwV 3 hts gL_law_X10_within rfl rfl rfl (by decide +kernel) ⟨Nat.le_of_ble_eq_true rfl, Nat.le_of_ble_eq_true rfl⟩) hE hM 0 10 mol_0 rfl rfl rfl hl.1 rfl (Nat.le_of_ble_eq_true rfl) dL_law_759 ⟨(show cells ≤ 600000 by omega), (show slots ≤ 7302249 by omega)⟩ ?_
  refine lv_icmp_eq (tgt := 869) hx hb dL_law_762 (by decide) (fun _ => ?_) (fun q => absurd rfl q)
  refine W.widen (k := cells + 1) (n := slots + 11) (by omega) (by omega) ?_
  exact kk T n _ _ ⟨bo, P, z, hJ, hpr, hO, hM, hD, hS⟩ ls hl
set_option maxHeartbeats 4000000 in
set_option maxRecDepth 100000 in
theorem law_767 (l : Launch) (hL : L ≤ 2560) (C0 : lw_At p s m meth c b L xs) (hE : EV D cT s) (hWD : WD s s.heap) (hi : i + 5 ≤ L) (hc : cells + 1 ≤ 600000) (hs : slots + 11 ≤ 7302249) (hI : lwI D cT ao am s T n H locs) (hl : lv_has ls 4 [(0, .ref b), (1, .ref (ao 0)), (2, .ref (am 0)), (3, .int (nI i))]) (kk : lwK p l e s m below meth c D cT ao am b i (cells + 1) (slots + 11)) : W p l e room_1 s m #[Value.ref b] below meth c H locs cells slots (lw_Z below #[Value.ref b] s) (F0 m 767 ls []) := by
  obtain ⟨hx, hb, hr, hml, hown, htT, hX, hbl, hlocks, hgv⟩ := C0
  have hts : ∀ w ∈ wsL_law, w.before #[Value.ref b] s = true := fun w h => htT w (wsL_law_in w h)
  have hA : ∀ q : Nat, s.heap.size ≤ q → (fun q : Nat => s.heap.size ≤ q) q := fun _ h => h
  have hbA : ¬ (fun q : Nat => s.heap.size ≤ q) b := Nat.not_le.mpr hbl
  obtain ⟨bo, P, z, hJ, hpr, hO, hM, hD, hS⟩ := hI
  have hH : ∀ q : Nat, H.size ≤ q → (fun q : Nat => s.heap.size ≤ q) q := fun q h => Nat.le_trans hS.1 h
  refine lv_aload_n hx hb dL_law_767 rfl (lv_at hl 1 rfl) ?_
  refine lv_aload_n hx hb dL_law_768 rfl (lv_at hl 0 rfl) ?_
  refine lv_iload_n hx hb dL_law_769 rfl (lv_at hl 3 rfl) ?_
  refine lv_iconst (v := 1) hx hb dL_law_770 (by decide) ?_
  refine lv_iadd hx hb dL_law_771 ?_
  refine topi_eq (nI_add _ 1) ?_
  refine my_sld (k := i + 1) hx hb hX hbl hbA hS (by omega) (by omega) dL_law_772 ?_
  refine lv_aload_n hx hb dL_law_773 rfl (lv_at hl 0 rfl) ?_
  refine lv_iload_n hx hb dL_law_774 rfl (lv_at hl 3 rfl) ?_
  refine lv_iconst (v := 2) hx hb dL_law_775 (by decide) ?_
  refine lv_iadd hx hb dL_law_776 ?_
  refine topi_eq (nI_add _ 2) ?_
  refine my_sld (k := i + 2) hx hb hX hbl hbA hS (by omega) (by omega) dL_law_777 ?_
  refine rw_V1 (As := [.int (xs (i + 1)), .int (xs (i + 2))]) (rest := []) ⟨hx, hb, hml, hown, hts⟩ (c_X9_museum l D cT H.size ao bo T P n (xs (i + 1)) (xs (i + 2)) hJ.1 hJ.2.1 hpr (hJ.2.2 _ (Nat.le_refl _))) (cwV 2 hts gL_law_X9_museum rfl rfl rfl (by decide +kernel) ⟨Nat.le_of_ble_eq_true rfl, Nat.le_of_ble_eq_true rfl⟩) hE hO (lw_lft hD) hS hA 0 9 ofl_0 rfl rfl rfl hl.1 rfl (Nat.le_of_ble_eq_true rfl) dL_law_778 ⟨(show cells + 1 ≤ 600000 by omega), (show slots + 3 ≤ 7302249 by omega)⟩ (fun H1 locs1 hB hz1 hk1 hS => ?_)
  obtain ⟨bo2, P2, hpr2, hO, hM, hD⟩ := mid9 hB hM hD hH hk1
  have hH : ∀ q : Nat, H1.size ≤ q → (fun q : Nat => s.heap.size ≤ q) q := fun q h => Nat.le_trans hS.1 h
  refine lv_aload_n hx hb dL_law_781 rfl (lv_at hl 2 rfl) ?_
  refine lv_aload_n hx hb dL_law_782 rfl (lv_at hl 0 rfl) ?_
  refine lv_iload_n hx hb dL_law_783 rfl (lv_at hl 3 rfl) ?_
  refine lv_iconst (v := 1) hx hb dL_law_784 (by decide) ?_
  refine lv_iadd hx hb dL_law_785 ?_
  refine topi_eq (nI_add _ 1) ?_
  refine my_sld (k := i + 1) hx hb hX hbl hbA hS (by omega) (by omega) dL_law_786 ?_
  refine lv_aload_n hx hb dL_law_787 rfl (lv_at hl 0 rfl) ?_
  refine lv_iload_n hx hb dL_law_788 rfl (lv_at hl 3 rfl) ?_
  refine lv_iconst (v := 2) hx hb dL_law_789 (by decide) ?_
  refine lv_iadd hx hb dL_law_790 ?_
  refine topi_eq (nI_add _ 2) ?_
  refine my_sld (k := i + 2) hx hb hX hbl hbA hS (by omega) (by omega) dL_law_791 ?_
  refine rw_V1 (As := [.int (xs (i + 1)), .int (xs (i + 2))]) (rest := [_]) ⟨hx, hb, hml, hown, hts⟩ (c_X10_museum l D cT H1.size am T n z (xs (i + 1)) (xs (i + 2)) hJ.1) (cwV 2 hts gL_law_X10_museum rfl rfl rfl (by decide +kernel) ⟨Nat.le_of_ble_eq_true rfl, Nat.le_of_ble_eq_true rfl⟩) hE hM (lw_rgt hD) hS hA 0 10 mol_0 rfl rfl rfl hl.1 rfl (Nat.le_of_ble_eq_true rfl) dL_law_792 ⟨(show cells + 1 + 0 ≤ 600000 by omega), (show slots + 3 + 0 ≤ 7302249 by omega)⟩ (fun H2 locs2 hB hz2 hk2 hS => ?_)
  obtain ⟨z2, hO, hM, hD⟩ := mid10 hB hO hD hH hk2
  refine lv_icmp_eq (tgt := 869) hx hb dL_law_795 (by decide) (fun _ => ?_) (fun q => absurd rfl q)
  refine W.widen (k := cells + 1) (n := slots + 11) (by omega) (by omega) ?_
  exact kk _ _ _ _ ⟨bo2, P2, z2, keep_museum hJ, hpr2, hO, hM, hD, hS⟩ ls hl
set_option maxHeartbeats 4000000 in
set_option maxRecDepth 100000 in
theorem law_800 (l : Launch) (hL : L ≤ 2560) (C0 : lw_At p s m meth c b L xs) (hE : EV D cT s) (hWD : WD s s.heap) (hi : i + 5 ≤ L) (hc : cells + 1 ≤ 600000) (hs : slots + 11 ≤ 7302249) (hI : lwI D cT ao am s T n H locs) (hl : lv_has ls 4 [(0, .ref b), (1, .ref (ao 0)), (2, .ref (am 0)), (3, .int (nI i))]) (kk : lwK p l e s m below meth c D cT ao am b i (cells + 1) (slots + 11)) : W p l e room_1 s m #[Value.ref b] below meth c H locs cells slots (lw_Z below #[Value.ref b] s) (F0 m 800 ls []) := by
  obtain ⟨hx, hb, hr, hml, hown, htT, hX, hbl, hlocks, hgv⟩ := C0
  have hts : ∀ w ∈ wsL_law, w.before #[Value.ref b] s = true := fun w h => htT w (wsL_law_in w h)
  have hA : ∀ q : Nat, s.heap.size ≤ q → (fun q : Nat => s.heap.size ≤ q) q := fun _ h => h
  have hbA : ¬ (fun q : Nat => s.heap.size ≤ q) b := Nat.not_le.mpr hbl
  obtain ⟨bo, P, z, hJ, hpr, hO, hM, hD, hS⟩ := hI
  have hH : ∀ q : Nat, H.size ≤ q → (fun q : Nat => s.heap.size ≤ q) q := fun q h => Nat.le_trans hS.1 h
  refine lv_aload_n hx hb dL_law_800 rfl (lv_at hl 1 rfl) ?_
  refine lv_aload_n hx hb dL_law_801 rfl (lv_at hl 0 rfl) ?_
  refine lv_iload_n hx hb dL_law_802 rfl (lv_at hl 3 rfl) ?_
  refine lv_iconst (v := 1) hx hb dL_law_803 (by decide) ?_
  refine lv_iadd hx hb dL_law_804 ?_
  refine topi_eq (nI_add _ 1) ?_
  refine my_sld (k := i + 1) hx hb hX hbl hbA hS (by omega) (by omega) dL_law_805 ?_
  refine rw_V1 (As := [.int (xs (i + 1))]) (rest := []) ⟨hx, hb, hml, hown, hts⟩ (c_X9_offer l D cT H.size ao bo T P n (xs (i + 1)) hJ.1 hJ.2.1 hpr) (cwV 1 hts gL_law_X9_offer rfl rfl rfl (by decide +kernel) ⟨Nat.le_of_ble_eq_true rfl, Nat.le_of_ble_eq_true rfl⟩) hE hO (lw_lft hD) hS hA 0 9 ofl_0 rfl rfl rfl hl.1 rfl (Nat.le_of_ble_eq_true rfl) dL_law_806 ⟨(show cells + 0 ≤ 600000 by omega), (show slots + 0 ≤ 7302249 by omega)⟩ (fun H1 locs1 hB hz1 hk1 hS => ?_)
  obtain ⟨bo2, P2, hpr2, hO, hM, hD⟩ := mid9 hB hM hD hH hk1
  have hH : ∀ q : Nat, H1.size ≤ q → (fun q : Nat => s.heap.size ≤ q) q := fun q h => Nat.le_trans hS.1 h
  refine lv_aload_n hx hb dL_law_809 rfl (lv_at hl 2 rfl) ?_
  refine lv_aload_n hx hb dL_law_810 rfl (lv_at hl 0 rfl) ?_
  refine lv_iload_n hx hb dL_law_811 rfl (lv_at hl 3 rfl) ?_
  refine lv_iconst (v := 1) hx hb dL_law_812 (by decide) ?_
  refine lv_iadd hx hb dL_law_813 ?_
  refine topi_eq (nI_add _ 1) ?_
  refine my_sld (k := i + 1) hx hb hX hbl hbA hS (by omega) (by omega) dL_law_814 ?_
  refine rw_V1 (As := [.int (xs (i + 1))]) (rest := [_]) ⟨hx, hb, hml, hown, hts⟩ (c_X10_offer l D cT H1.size am T n z (xs (i + 1)) hJ.1 hJ.2.1) (cwV 1 hts gL_law_X10_offer rfl rfl rfl (by decide +kernel) ⟨Nat.le_of_ble_eq_true rfl, Nat.le_of_ble_eq_true rfl⟩) hE hM (lw_rgt hD) hS hA 0 10 mol_0 rfl rfl rfl hl.1 rfl (Nat.le_of_ble_eq_true rfl) dL_law_815 ⟨(show cells + 0 + 0 ≤ 600000 by omega), (show slots + 0 + 0 ≤ 7302249 by omega)⟩ (fun H2 locs2 hB hz2 hk2 hS => ?_)
  obtain ⟨z2, hO, hM, hD⟩ := mid10 hB hO hD hH hk2
  refine lv_icmp_eq (tgt := 869) hx hb dL_law_818 (by decide) (fun _ => ?_) (fun q => absurd rfl q)
  refine W.widen (k := cells + 1) (n := slots + 11) (by omega) (by omega) ?_
  exact kk _ _ _ _ ⟨bo2, P2, z2, keep_offer hJ, hpr2, hO, hM, hD, hS⟩ ls hl
set_option maxHeartbeats 4000000 in
set_option maxRecDepth 100000 in
theorem law_823 (l : Launch) (hL : L ≤ 2560) (C0 : lw_At p s m meth c b L xs) (hE : EV D cT s) (hWD : WD s s.heap) (hi : i + 5 ≤ L) (hc : cells + 1 ≤ 600000) (hs : slots + 11 ≤ 7302249) (hI : lwI D cT ao am s T n H locs) (hl : lv_has ls 4 [(0, .ref b), (1, .ref (ao 0)), (2, .ref (am 0)), (3, .int (nI i))]) (kk : lwK p l e s m below meth c D cT ao am b i (cells + 1) (slots + 11)) : W p l e room_1 s m #[Value.ref b] below meth c H locs cells slots (lw_Z below #[Value.ref b] s) (F0 m 823 ls []) := by
  obtain ⟨hx, hb, hr, hml, hown, htT, hX, hbl, hlocks, hgv⟩ := C0
  have hts : ∀ w ∈ wsL_law, w.before #[Value.ref b] s = true := fun w h => htT w (wsL_law_in w h)
  have hA : ∀ q : Nat, s.heap.size ≤ q → (fun q : Nat => s.heap.size ≤ q) q := fun _ h => h
  have hbA : ¬ (fun q : Nat => s.heap.size ≤ q) b := Nat.not_le.mpr hbl
  obtain ⟨bo, P, z, hJ, hpr, hO, hM, hD, hS⟩ := hI
  have hH : ∀ q : Nat, H.size ≤ q → (fun q : Nat => s.heap.size ≤ q) q := fun q h => Nat.le_trans hS.1 h
  refine lv_aload_n hx hb dL_law_823 rfl (lv_at hl 1 rfl) ?_
  refine lv_aload_n hx hb dL_law_824 rfl (lv_at hl 0 rfl) ?_
  refine lv_iload_n hx hb dL_law_825 rfl (lv_at hl 3 rfl) ?_
  refine lv_iconst (v := 1) hx hb dL_law_826 (by decide) ?_
  refine lv_iadd hx hb dL_law_827 ?_
  refine topi_eq (nI_add _ 1) ?_
  refine my_sld (k := i + 1) hx hb hX hbl hbA hS (by omega) (by omega) dL_law_828 ?_
  refine ro_V (As := [.int (xs (i + 1))]) (rest := []) ⟨hx, hb, hml, hown, hts⟩ (c_X9_spent l D cT ao bo T P n (xs (i + 1)) hJ.1) (cwV 1 hts gL_law_X9_spent rfl rfl rfl (by decide +kernel) ⟨Nat.le_of_ble_eq_true rfl, Nat.le_of_ble_eq_true rfl⟩) hE hO 0 9 ofl_0 rfl rfl rfl hl.1 rfl (Nat.le_of_ble_eq_true rfl) dL_law_829 ⟨(show cells ≤ 600000 by omega), (show slots ≤ 7302249 by omega)⟩ ?_
  refine lv_aload_n hx hb dL_law_832 rfl (lv_at hl 2 rfl) ?_
  refine lv_aload_n hx hb dL_law_833 rfl (lv_at hl 0 rfl) ?_
  refine lv_iload_n hx hb dL_law_834 rfl (lv_at hl 3 rfl) ?_
  refine lv_iconst (v := 1) hx hb dL_law_835 (by decide) ?_
  refine lv_iadd hx hb dL_law_836 ?_
  refine topi_eq (nI_add _ 1) ?_
  refine my_sld (k := i + 1) hx hb hX hbl hbA hS (by omega) (by omega) dL_law_837 ?_
  refine ro_V (As := [.int (xs (i + 1))]) (rest := [_]) ⟨hx, hb, hml, hown, hts⟩ (c_X10_spent l D cT am T n z (xs (i + 1)) hJ.1) (cwV 1 hts gL_law_X10_spent rfl rfl rfl (by decide +kernel) ⟨Nat.le_of_ble_eq_true rfl, Nat.le_of_ble_eq_true rfl⟩) hE hM 0 10 mol_0 rfl rfl rfl hl.1 rfl (Nat.le_of_ble_eq_true rfl) dL_law_838 ⟨(show cells ≤ 600000 by omega), (show slots ≤ 7302249 by omega)⟩ ?_
  refine lv_icmp_eq (tgt := 869) hx hb dL_law_841 (by decide) (fun _ => ?_) (fun q => absurd rfl q)
  refine W.widen (k := cells + 1) (n := slots + 11) (by omega) (by omega) ?_
  exact kk T n _ _ ⟨bo, P, z, hJ, hpr, hO, hM, hD, hS⟩ ls hl
set_option maxHeartbeats 4000000 in
set_option maxRecDepth 100000 in
theorem law_846 (l : Launch) (hL : L ≤ 2560) (C0 : lw_At p s m meth c b L xs) (hE : EV D cT s) (hWD : WD s s.heap) (hi : i + 5 ≤ L) (hc : cells + 1 ≤ 600000) (hs : slots + 11 ≤ 7302249) (hI : lwI D cT ao am s T n H locs) (hl : lv_has ls 4 [(0, .ref b), (1, .ref (ao 0)), (2, .ref (am 0)), (3, .int (nI i))]) (kk : lwK p l e s m below meth c D cT ao am b i (cells + 1) (slots + 11)) : W p l e room_1 s m #[Value.ref b] below meth c H locs cells slots (lw_Z below #[Value.ref b] s) (F0 m 846 ls []) := by
  obtain ⟨hx, hb, hr, hml, hown, htT, hX, hbl, hlocks, hgv⟩ := C0
  have hts : ∀ w ∈ wsL_law, w.before #[Value.ref b] s = true := fun w h => htT w (wsL_law_in w h)
  have hA : ∀ q : Nat, s.heap.size ≤ q → (fun q : Nat => s.heap.size ≤ q) q := fun _ h => h
  have hbA : ¬ (fun q : Nat => s.heap.size ≤ q) b := Nat.not_le.mpr hbl
  obtain ⟨bo, P, z, hJ, hpr, hO, hM, hD, hS⟩ := hI
  have hH : ∀ q : Nat, H.size ≤ q → (fun q : Nat => s.heap.size ≤ q) q := fun q h => Nat.le_trans hS.1 h
  refine lv_aload_n hx hb dL_law_846 rfl (lv_at hl 1 rfl) ?_
  refine lv_aload_n hx hb dL_law_847 rfl (lv_at hl 0 rfl) ?_
  refine lv_iload_n hx hb dL_law_848 rfl (lv_at hl 3 rfl) ?_
  refine lv_iconst (v := 1) hx hb dL_law_849 (by decide) ?_
  refine lv_iadd hx hb dL_law_850 ?_
  refine topi_eq (nI_add _ 1) ?_
  refine my_sld (k := i + 1) hx hb hX hbl hbA hS (by omega) (by omega) dL_law_851 ?_
  refine rw_V1 (As := [.int (xs (i + 1))]) (rest := []) ⟨hx, hb, hml, hown, hts⟩ (c_X9_count l D cT H.size ao bo T P n (xs (i + 1)) hJ.1 hJ.2.1 hpr) (cwV 1 hts gL_law_X9_count rfl rfl rfl (by decide +kernel) ⟨Nat.le_of_ble_eq_true rfl, Nat.le_of_ble_eq_true rfl⟩) hE hO (lw_lft hD) hS hA 0 9 ofl_0 rfl rfl rfl hl.1 rfl (Nat.le_of_ble_eq_true rfl) dL_law_852 ⟨(show cells + 0 ≤ 600000 by omega), (show slots + 0 ≤ 7302249 by omega)⟩ (fun H1 locs1 hB hz1 hk1 hS => ?_)
  obtain ⟨bo2, P2, hpr2, hO, hM, hD⟩ := mid9 hB hM hD hH hk1
  have hH : ∀ q : Nat, H1.size ≤ q → (fun q : Nat => s.heap.size ≤ q) q := fun q h => Nat.le_trans hS.1 h
  refine lv_aload_n hx hb dL_law_855 rfl (lv_at hl 2 rfl) ?_
  refine lv_aload_n hx hb dL_law_856 rfl (lv_at hl 0 rfl) ?_
  refine lv_iload_n hx hb dL_law_857 rfl (lv_at hl 3 rfl) ?_
  refine lv_iconst (v := 1) hx hb dL_law_858 (by decide) ?_
  refine lv_iadd hx hb dL_law_859 ?_
  refine topi_eq (nI_add _ 1) ?_
  refine my_sld (k := i + 1) hx hb hX hbl hbA hS (by omega) (by omega) dL_law_860 ?_
  refine rw_V1 (As := [.int (xs (i + 1))]) (rest := [_]) ⟨hx, hb, hml, hown, hts⟩ (c_X10_count l D cT H1.size am T n z (xs (i + 1)) hJ.1 hJ.2.1) (cwV 1 hts gL_law_X10_count rfl rfl rfl (by decide +kernel) ⟨Nat.le_of_ble_eq_true rfl, Nat.le_of_ble_eq_true rfl⟩) hE hM (lw_rgt hD) hS hA 0 10 mol_0 rfl rfl rfl hl.1 rfl (Nat.le_of_ble_eq_true rfl) dL_law_861 ⟨(show cells + 0 + 0 ≤ 600000 by omega), (show slots + 0 + 0 ≤ 7302249 by omega)⟩ (fun H2 locs2 hB hz2 hk2 hS => ?_)
  obtain ⟨z2, hO, hM, hD⟩ := mid10M hB hO hD hH hk2
  refine lv_icmp_eq (tgt := 869) hx hb dL_law_864 (by decide) (fun _ => ?_) (fun q => absurd rfl q)
  refine W.widen (k := cells + 1) (n := slots + 11) (by omega) (by omega) ?_
  exact kk _ _ _ _ ⟨bo2, P2, z2, hJ, hpr2, hO, hM, hD, hS⟩ ls hl
end LAWC3
