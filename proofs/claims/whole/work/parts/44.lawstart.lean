set_option maxRecDepth 20000 in
theorem nest_in : ∀ q ∈ nestQ, Cond.methodLinkNest q.1 q.2.1 q.2.2.1 q.2.2.2 ∈ lw_tbl := List.forall_mem_cons.mpr ⟨List.mem_of_getElem? (i := 42) (by decide +kernel), List.forall_mem_cons.mpr ⟨List.mem_of_getElem? (i := 58) (by decide +kernel), List.forall_mem_cons.mpr ⟨List.mem_of_getElem? (i := 133) (by decide +kernel), List.forall_mem_cons.mpr ⟨List.mem_of_getElem? (i := 219) (by decide +kernel), List.forall_mem_cons.mpr ⟨List.mem_of_getElem? (i := 222) (by decide +kernel), List.forall_mem_cons.mpr ⟨List.mem_of_getElem? (i := 231) (by decide +kernel), List.forall_mem_cons.mpr ⟨List.mem_of_getElem? (i := 232) (by decide +kernel), List.forall_mem_cons.mpr ⟨List.mem_of_getElem? (i := 233) (by decide +kernel), List.forall_mem_cons.mpr ⟨List.mem_of_getElem? (i := 307) (by decide +kernel), List.forall_mem_cons.mpr ⟨List.mem_of_getElem? (i := 308) (by decide +kernel), List.forall_mem_cons.mpr ⟨List.mem_of_getElem? (i := 311) (by decide +kernel), List.forall_mem_cons.mpr ⟨List.mem_of_getElem? (i := 404) (by decide +kernel), List.forall_mem_cons.mpr ⟨List.mem_of_getElem? (i := 436) (by decide +kernel), List.forall_mem_cons.mpr ⟨List.mem_of_getElem? (i := 472) (by decide +kernel), List.forall_mem_cons.mpr ⟨List.mem_of_getElem? (i := 473) (by decide +kernel), List.forall_mem_cons.mpr ⟨List.mem_of_getElem? (i := 474) (by decide +kernel), List.forall_mem_cons.mpr ⟨List.mem_of_getElem? (i := 497) (by decide +kernel), List.forall_mem_cons.mpr ⟨List.mem_of_getElem? (i := 555) (by decide +kernel), List.forall_mem_cons.mpr ⟨List.mem_of_getElem? (i := 586) (by decide +kernel), fun _ h => absurd h List.not_mem_nil⟩⟩⟩⟩⟩⟩⟩⟩⟩⟩⟩⟩⟩⟩⟩⟩⟩⟩⟩
set_option maxRecDepth 20000 in
theorem tbl_int : (.arrayClass .int : Cond) ∈ lw_tbl := List.mem_of_getElem? (i := 75) (by decide +kernel)
set_option maxRecDepth 20000 in
theorem tbl_bool : (.arrayClass .boolean : Cond) ∈ lw_tbl := List.mem_of_getElem? (i := 748) (by decide +kernel)
set_option maxRecDepth 20000 in
theorem tbl_Law : (.arrayOver (.object "FindsOffice$Law") : Cond) ∈ lw_tbl := List.mem_of_getElem? (i := 47) (by decide +kernel)
set_option maxRecDepth 20000 in
theorem tbl_Find : (.arrayOver (.object "FindsOffice$Find") : Cond) ∈ lw_tbl := List.mem_of_getElem? (i := 83) (by decide +kernel)
set_option maxRecDepth 20000 in
theorem tbl_Sale : (.arrayOver (.object "FindsOffice$Sale") : Cond) ∈ lw_tbl := List.mem_of_getElem? (i := 118) (by decide +kernel)
set_option maxRecDepth 20000 in
theorem tbl_Museum : (.arrayOver (.object "FindsOffice$Museum") : Cond) ∈ lw_tbl := List.mem_of_getElem? (i := 138) (by decide +kernel)
set_option maxRecDepth 20000 in
theorem tbl_lays : (.laysStatic "FindsOffice" "WIDTHS" "[I" : Cond) ∈ lw_tbl := List.mem_of_getElem? (i := 539) (by decide +kernel)
theorem arrI {args : Array Value} {s : State} (h : (Cond.arrayClass .int).before args s = true) : ∃ cA : ClassId, ArrOfT s cA .int ∧ va_RA s cA .int := by
  obtain ⟨cA, kA, comp, h1, h2, h3⟩ := Cond.arrayClass_spec h
  exact ⟨cA, fun n z => ⟨fun k h => (by cases h), kA, h2, comp, h3⟩, h1⟩
theorem arrZ {args : Array Value} {s : State} (h : (Cond.arrayClass .boolean).before args s = true) : ∃ cA : ClassId, ArrOfT s cA .boolean ∧ va_RA s cA .boolean := by
  obtain ⟨cA, kA, comp, h1, h2, h3⟩ := Cond.arrayClass_spec h
  exact ⟨cA, fun n z => ⟨fun k h => (by cases h), kA, h2, comp, h3⟩, h1⟩
theorem arrO {args : Array Value} {s : State} {C : String} (h : (Cond.arrayOver (.object C)).before args s = true) : ∃ cA : ClassId, ArrOfT s cA (.object C) ∧ va_RA s cA (.object C) := by
  obtain ⟨comp, cA, kA, h1, h2, h3, h4, h5⟩ := Cond.arrayOver_spec h
  exact ⟨cA, fun n z => ⟨fun k h => (by cases h), kA, h3, comp, h4⟩, kA, comp, h3, h4, h1, h5⟩
set_option maxHeartbeats 4000000 in
set_option maxRecDepth 100000 in
/-- what the tables say, in our words -/
theorem law_env {s : State} {b : Nat} (hts : ∀ w ∈ lw_tbl, w.before #[Value.ref b] s = true) : ∃ (D : va_G) (cT : Nat → ClassId), EV D cT s := by
  obtain ⟨c0, i0, k0⟩ := u_known (C := RX0) (T := TX0) (N := 3) (n := 3) hts inX0 (hts (.instantiable RX0 3) (List.mem_of_getElem? (i := 132) (by decide +kernel)))
  obtain ⟨c1, i1, k1⟩ := u_known (C := RX1) (T := TX1) (N := 11) (n := 11) hts inX1 (hts (.instantiable RX1 11) (List.mem_of_getElem? (i := 241) (by decide +kernel)))
  obtain ⟨c2, i2, k2⟩ := u_known (C := RX2) (T := TX2) (N := 7) (n := 7) hts inX2 (hts (.instantiable RX2 7) (List.mem_of_getElem? (i := 77) (by decide +kernel)))
  obtain ⟨c3, i3, k3⟩ := u_known (C := RX3) (T := TX3) (N := 4) (n := 4) hts inX3 (hts (.instantiable RX3 4) (List.mem_of_getElem? (i := 57) (by decide +kernel)))
  obtain ⟨c4, i4, k4⟩ := u_known (C := RX4) (T := TX4) (N := 5) (n := 5) hts inX4 (hts (.instantiable RX4 5) (List.mem_of_getElem? (i := 187) (by decide +kernel)))
  obtain ⟨c5, i5, k5⟩ := u_known (C := RX5) (T := TX5) (N := 2) (n := 2) hts inX5 (hts (.instantiable RX5 2) (List.mem_of_getElem? (i := 41) (by decide +kernel)))
  obtain ⟨c6, i6, k6⟩ := u_known (C := RX6) (T := TX6) (N := 3) (n := 3) hts inX6 (hts (.instantiable RX6 3) (List.mem_of_getElem? (i := 112) (by decide +kernel)))
  obtain ⟨c7, i7, k7⟩ := u_known (C := RX7) (T := TX7) (N := 3) (n := 3) hts inX7 (hts (.instantiable RX7 3) (List.mem_of_getElem? (i := 561) (by decide +kernel)))
  obtain ⟨c8, i8, k8⟩ := u_known (C := RX8) (T := TX8) (N := 4) (n := 4) hts inX8 (hts (.instantiable RX8 4) (List.mem_of_getElem? (i := 442) (by decide +kernel)))
  obtain ⟨c9, i9, k9⟩ := u_known (C := RX9) (T := TX9) (N := 7) (n := 7) hts inX9 (hts (.instantiable RX9 7) (List.mem_of_getElem? (i := 33) (by decide +kernel)))
  obtain ⟨c10, i10, k10⟩ := u_known (C := RX10) (T := TX10) (N := 38) (n := 38) hts inX10 (hts (.instantiable RX10 38) (List.mem_of_getElem? (i := 627) (by decide +kernel)))
  obtain ⟨t0, a0⟩ := arrI (hts _ tbl_int)
  obtain ⟨t1, a1⟩ := arrZ (hts _ tbl_bool)
  obtain ⟨t2, a2⟩ := arrO (hts _ tbl_Law)
  obtain ⟨t3, a3⟩ := arrO (hts _ tbl_Find)
  obtain ⟨t4, a4⟩ := arrO (hts _ tbl_Sale)
  obtain ⟨t5, a5⟩ := arrO (hts _ tbl_Museum)
  refine ⟨(fun k => if k = 0 then c0 else if k = 1 then c1 else if k = 2 then c2 else if k = 3 then c3 else if k = 4 then c4 else if k = 5 then c5 else if k = 6 then c6 else if k = 7 then c7 else if k = 8 then c8 else if k = 9 then c9 else c10, fun k => if k = 0 then i0 else if k = 1 then i1 else if k = 2 then i2 else if k = 3 then i3 else if k = 4 then i4 else if k = 5 then i5 else if k = 6 then i6 else if k = 7 then i7 else if k = 8 then i8 else if k = 9 then i9 else i10), fun k => if k = 0 then t0 else if k = 1 then t1 else if k = 2 then t2 else if k = 3 then t3 else if k = 4 then t4 else t5, ⟨?_, ?_⟩, fun q hq => va_Nw.of rfl (hts _ (nest_in q hq))⟩
  · intro k q hq
    match k, hq with
    | 0, hq => cases hq; exact k0
    | 1, hq => cases hq; exact k1
    | 2, hq => cases hq; exact k2
    | 3, hq => cases hq; exact k3
    | 4, hq => cases hq; exact k4
    | 5, hq => cases hq; exact k5
    | 6, hq => cases hq; exact k6
    | 7, hq => cases hq; exact k7
    | 8, hq => cases hq; exact k8
    | 9, hq => cases hq; exact k9
    | 10, hq => cases hq; exact k10
    | k + 11, hq => simp [vwCl] at hq
  · intro k q hq
    match k, hq with
    | 0, hq => cases hq; exact a0
    | 1, hq => cases hq; exact a1
    | 2, hq => cases hq; exact a2
    | 3, hq => cases hq; exact a3
    | 4, hq => cases hq; exact a4
    | 5, hq => cases hq; exact a5
    | k + 6, hq => simp [tyL] at hq
set_option maxHeartbeats 4000000 in
set_option maxRecDepth 100000 in
theorem law_wd {s : State} {b : Nat} (hts : ∀ w ∈ lw_tbl, w.before #[Value.ref b] s = true) (hgv : (Jvm.Cond.and given_1 narrow_1).before #[Value.ref b] s = true) : WD s s.heap := by
  have hg := flat_of_before _ hgv
  have h0 : (Cond.arrayOf (.static "FindsOffice" "WIDTHS" "[I") .int).before #[Value.ref b] s = true := hg _ (by decide +kernel)
  have h1 := va_eqt (hg (.eq (.length (.static "FindsOffice" "WIDTHS" "[I")) (.int 4)) (by decide +kernel))
  have e0 := va_eqt (hg (.eq (.elem (.static "FindsOffice" "WIDTHS" "[I") (.int 0)) (.int 500)) (by decide +kernel))
  have e1 := va_eqt (hg (.eq (.elem (.static "FindsOffice" "WIDTHS" "[I") (.int 1)) (.int 100)) (by decide +kernel))
  have e2 := va_eqt (hg (.eq (.elem (.static "FindsOffice" "WIDTHS" "[I") (.int 2)) (.int 10)) (by decide +kernel))
  have e3 := va_eqt (hg (.eq (.elem (.static "FindsOffice" "WIDTHS" "[I") (.int 3)) (.int 1)) (by decide +kernel))
  obtain ⟨t, ht, hT⟩ := va_Tof (N := 4) (f := fun j => .int (wid j)) (A := fun _ => False) (by decide) h0 h1 (fun j hj => by
    rcases (show j = 0 ∨ j = 1 ∨ j = 2 ∨ j = 3 by omega) with rfl | rfl | rfl | rfl
    · exact e0
    · exact e1
    · exact e2
    · exact e3) (fun _ _ h => h)
  exact ⟨t, va_Zof (hts _ tbl_lays) (hts (.initialized "FindsOffice") (List.mem_of_getElem? (i := 19) (by decide +kernel))) ht (fun _ _ h => h), hT⟩
section LAWL
variable {p : Program} {e : Env} {s : State} {m : MethodId} {below : List Frame} {meth : Method} {c : Code} {D : va_G} {cT : Nat → ClassId} {ao am : Nat → Nat} {b L i cells slots : Nat} {xs : Nat → Int32} {T : Nat → Nat → Int32} {n : Nat → Nat} {H : Heap} {locs : List Loc} {ls : Array Slot}
set_option maxHeartbeats 4000000 in
set_option maxRecDepth 100000 in
theorem law_loop (l : Launch) (hL : L ≤ 2560) (C0 : lw_At p s m meth c b L xs) (hE : EV D cT s) (hWD : WD s s.heap) : ∀ (f i : Nat) (T : Nat → Nat → Int32) (n : Nat → Nat) (H : Heap) (locs : List Loc), i ≤ L → L + 1 ≤ i + f → lwI D cT ao am s T n H locs → ∀ ls : Array Slot, lv_has ls 4 [(0, .ref b), (1, .ref (ao 0)), (2, .ref (am 0)), (3, .int (nI i))] → W p l e room_1 s m #[Value.ref b] below meth c H locs (50 + i) (5819 + 11 * i) (lw_Z below #[Value.ref b] s) (F0 m 18 ls []) := by
  obtain ⟨hx, hb, hr, hml, hown, htT, hX, hbl, hlocks, hgv⟩ := id C0
  have hbA : ¬ (fun q : Nat => s.heap.size ≤ q) b := Nat.not_le.mpr hbl
  intro f
  induction f with
  | zero =>
    intro i T n H locs h1 h2
    exact absurd h2 (by omega)
  | succ f ih =>
    intro i T n H locs hi hf hI ls hl
    have hS := hI.choose_spec.choose_spec.choose_spec.2.2.2.2.2
    refine lv_iload_n hx hb dL_law_18 rfl (lv_at hl 3 rfl) ?_
    refine lv_aload_n hx hb dL_law_19 rfl (lv_at hl 0 rfl) ?_
    refine va_slen hx hb hX hbl hbA hS dL_law_20 ?_
    refine lv_iconst (v := 5) hx hb dL_law_21 (by decide) ?_
    refine lv_isub hx hb dL_law_22 ?_
    refine lv_icmp_gt (tgt := 875) hx hb dL_law_23 (by decide) (fun q => ?_) (fun q => ?_)
    · refine lv_iconst (v := 1) hx hb dL_law_875 (by decide) ?_
      refine va_forget (fun q hq => hS.2.2 q hq) ?_
      refine W.widen (k := 600000) (n := 7302249) (by omega) (by omega) ?_
      exact lw_ret hx hb hr hlocks dL_law_876
    · have hi5 : i + 5 ≤ L := head_le hL hi q
      have kk : lwK p l e s m below meth c D cT ao am b i (50 + i + 1) (5819 + 11 * i + 11) := by
        intro T n H locs hI ls hl
        refine lv_iinc (v := nI (i + 5)) (lv' := [(3, .int (nI (i + 5))), (0, .ref b), (1, .ref (ao 0)), (2, .ref (am 0))]) hx hb dL_law_869 hl (k := 3) rfl (nI_add _ 5) (by decide) rfl (fun ls hl => ?_)
        refine lv_goto (tgt := 18) hx hb dL_law_872 (by decide) ?_
        refine W.widen (k := 50 + (i + 5)) (n := 5819 + 11 * (i + 5)) (by omega) (by omega) ?_
        exact ih (i + 5) T n H locs (by omega) (by omega) hI ls (lv_sub hl [1, 2, 3, 0] rfl)
      have h1 : 50 + i + 1 ≤ 600000 := by omega
      have h2 : 5819 + 11 * i + 11 ≤ 7302249 := by omega
      refine lv_aload_n hx hb dL_law_26 rfl (lv_at hl 0 rfl) ?_
      refine lv_iload_n hx hb dL_law_27 rfl (lv_at hl 3 rfl) ?_
      refine my_sld (k := i) hx hb hX hbl hbA hS (by omega) (by omega) dL_law_28 ?_
      refine lv_bipush (v := 31) hx hb dL_law_29 (by decide) ?_
      refine lv_iand hx hb dL_law_31 ?_
      rcases pk_ix (xs i &&& 31) (n := 23) (by decide) with hsw | hsw | ⟨j, hj, he⟩
      · refine lv_tableOut (tgt := 869) hx hb dL_law_32 (Or.inl (tsw_lo hsw)) (by decide) ?_
        refine W.widen (k := 50 + i + 1) (n := 5819 + 11 * i + 11) (by omega) (by omega) ?_
        exact kk T n H locs hI ls hl
      · refine lv_tableOut (tgt := 869) hx hb dL_law_32 (Or.inr (tsw_hi (n := 22) hsw (by decide))) (by decide) ?_
        refine W.widen (k := 50 + i + 1) (n := 5819 + 11 * i + 11) (by omega) (by omega) ?_
        exact kk T n H locs hI ls hl
      · refine topi_eq he ?_
        rcases (show j = 0 ∨ j = 1 ∨ j = 2 ∨ j = 3 ∨ j = 4 ∨ j = 5 ∨ j = 6 ∨ j = 7 ∨ j = 8 ∨ j = 9 ∨ j = 10 ∨ j = 11 ∨ j = 12 ∨ j = 13 ∨ j = 14 ∨ j = 15 ∨ j = 16 ∨ j = 17 ∨ j = 18 ∨ j = 19 ∨ j = 20 ∨ j = 21 ∨ j = 22 by omega) with rfl | rfl | rfl | rfl | rfl | rfl | rfl | rfl | rfl | rfl | rfl | rfl | rfl | rfl | rfl | rfl | rfl | rfl | rfl | rfl | rfl | rfl | rfl
        · refine lv_tableIn (x := nI 0) (off := 108) (tgt := 140) hx hb dL_law_32 (by decide) (by decide) rfl (by decide) ?_
          exact law_140 l hL C0 hE hWD hi5 h1 h2 hI hl kk
        · refine lv_tableIn (x := nI 1) (off := 131) (tgt := 163) hx hb dL_law_32 (by decide) (by decide) rfl (by decide) ?_
          exact law_163 l hL C0 hE hWD hi5 h1 h2 hI hl kk
        · refine lv_tableIn (x := nI 2) (off := 174) (tgt := 206) hx hb dL_law_32 (by decide) (by decide) rfl (by decide) ?_
          exact law_206 l hL C0 hE hWD hi5 h1 h2 hI hl kk
        · refine lv_tableIn (x := nI 3) (off := 217) (tgt := 249) hx hb dL_law_32 (by decide) (by decide) rfl (by decide) ?_
          exact law_249 l hL C0 hE hWD hi5 h1 h2 hI hl kk
        · refine lv_tableIn (x := nI 4) (off := 270) (tgt := 302) hx hb dL_law_32 (by decide) (by decide) rfl (by decide) ?_
          exact law_302 l hL C0 hE hWD hi5 h1 h2 hI hl kk
        · refine lv_tableIn (x := nI 5) (off := 303) (tgt := 335) hx hb dL_law_32 (by decide) (by decide) rfl (by decide) ?_
          exact law_335 l hL C0 hE hWD hi5 h1 h2 hI hl kk
        · refine lv_tableIn (x := nI 6) (off := 326) (tgt := 358) hx hb dL_law_32 (by decide) (by decide) rfl (by decide) ?_
          exact law_358 l hL C0 hE hWD hi5 h1 h2 hI hl kk
        · refine lv_tableIn (x := nI 7) (off := 359) (tgt := 391) hx hb dL_law_32 (by decide) (by decide) rfl (by decide) ?_
          exact law_391 l hL C0 hE hWD hi5 h1 h2 hI hl kk
        · refine lv_tableIn (x := nI 8) (off := 382) (tgt := 414) hx hb dL_law_32 (by decide) (by decide) rfl (by decide) ?_
          exact law_414 l hL C0 hE hWD hi5 h1 h2 hI hl kk
        · refine lv_tableIn (x := nI 9) (off := 415) (tgt := 447) hx hb dL_law_32 (by decide) (by decide) rfl (by decide) ?_
          exact law_447 l hL C0 hE hWD hi5 h1 h2 hI hl kk
        · refine lv_tableIn (x := nI 10) (off := 448) (tgt := 480) hx hb dL_law_32 (by decide) (by decide) rfl (by decide) ?_
          exact law_480 l hL C0 hE hWD hi5 h1 h2 hI hl kk
        · refine lv_tableIn (x := nI 11) (off := 481) (tgt := 513) hx hb dL_law_32 (by decide) (by decide) rfl (by decide) ?_
          exact law_513 l hL C0 hE hWD hi5 h1 h2 hI hl kk
        · refine lv_tableIn (x := nI 12) (off := 534) (tgt := 566) hx hb dL_law_32 (by decide) (by decide) rfl (by decide) ?_
          exact law_566 l hL C0 hE hWD hi5 h1 h2 hI hl kk
        · refine lv_tableIn (x := nI 13) (off := 557) (tgt := 589) hx hb dL_law_32 (by decide) (by decide) rfl (by decide) ?_
          exact law_589 l hL C0 hE hWD hi5 h1 h2 hI hl kk
        · refine lv_tableIn (x := nI 14) (off := 590) (tgt := 622) hx hb dL_law_32 (by decide) (by decide) rfl (by decide) ?_
          exact law_622 l hL C0 hE hWD hi5 h1 h2 hI hl kk
        · refine lv_tableIn (x := nI 15) (off := 613) (tgt := 645) hx hb dL_law_32 (by decide) (by decide) rfl (by decide) ?_
          exact law_645 l hL C0 hE hWD hi5 h1 h2 hI hl kk
        · refine lv_tableIn (x := nI 16) (off := 636) (tgt := 668) hx hb dL_law_32 (by decide) (by decide) rfl (by decide) ?_
          exact law_668 l hL C0 hE hWD hi5 h1 h2 hI hl kk
        · refine lv_tableIn (x := nI 17) (off := 659) (tgt := 691) hx hb dL_law_32 (by decide) (by decide) rfl (by decide) ?_
          exact law_691 l hL C0 hE hWD hi5 h1 h2 hI hl kk
        · refine lv_tableIn (x := nI 18) (off := 692) (tgt := 724) hx hb dL_law_32 (by decide) (by decide) rfl (by decide) ?_
          exact law_724 l hL C0 hE hWD hi5 h1 h2 hI hl kk
        · refine lv_tableIn (x := nI 19) (off := 735) (tgt := 767) hx hb dL_law_32 (by decide) (by decide) rfl (by decide) ?_
          exact law_767 l hL C0 hE hWD hi5 h1 h2 hI hl kk
        · refine lv_tableIn (x := nI 20) (off := 768) (tgt := 800) hx hb dL_law_32 (by decide) (by decide) rfl (by decide) ?_
          exact law_800 l hL C0 hE hWD hi5 h1 h2 hI hl kk
        · refine lv_tableIn (x := nI 21) (off := 791) (tgt := 823) hx hb dL_law_32 (by decide) (by decide) rfl (by decide) ?_
          exact law_823 l hL C0 hE hWD hi5 h1 h2 hI hl kk
        · refine lv_tableIn (x := nI 22) (off := 814) (tgt := 846) hx hb dL_law_32 (by decide) (by decide) rfl (by decide) ?_
          exact law_846 l hL C0 hE hWD hi5 h1 h2 hI hl kk
end LAWL
set_option maxHeartbeats 4000000 in
set_option maxRecDepth 100000 in
/-- YOUR PART: from the entry, for every script of at most 2560 ints, the law comes to its end with true -/
theorem whole_start {p : Program} {e : Env} {s : State} {m : MethodId} {below : List Frame} {meth : Method} {c : Code} (l : Launch) {b L : Nat} {xs : Nat → Int32} (hL : L ≤ 2560) (C0 : lw_At p s m meth c b L xs) : W p l e room_1 s m #[Value.ref b] below meth c s.heap [] 0 0 (lw_Z below #[Value.ref b] s) (entryFrame m ([Value.ref b] : List Value).toArray 4) := by
  obtain ⟨hx, hb, hr, hml, hown, htT, hX, hbl, hlocks, hgv⟩ := id C0
  have hts : ∀ w ∈ wsL_law, w.before #[Value.ref b] s = true := fun w h => htT w (wsL_law_in w h)
  have hA : ∀ q : Nat, s.heap.size ≤ q → (fun q : Nat => s.heap.size ≤ q) q := fun _ h => h
  obtain ⟨D, cT, hE⟩ := law_env htT
  have hWD := law_wd htT hgv
  have hAO : AOs s := ⟨va_AO.of (htT _ tbl_Law), va_AO.of (htT _ tbl_Find), va_AO.of (htT _ tbl_Sale), va_AO.of (htT _ tbl_Museum)⟩
  have hS : va_S (fun q : Nat => s.heap.size ≤ q) s.heap s.heap [] := va_S.rf
  have hP : va_P D vwCl [] s.heap := fun k q h => by simp at h
  have hD : va_D (fun q : Nat => s.heap.size ≤ q) [] := ⟨fun i j p q h => by simp at h, fun k q h => by simp at h⟩
  have hl := lv_entry ([.ref b]) (n := 4) (Nat.le_of_ble_eq_true rfl)
  rw [lg_entry_eq]
  generalize (lg_sl ([.ref b]) ++ List.replicate (4 - (lg_sl ([.ref b])).length) Slot.unset).toArray = ls at hl ⊢
  have hl : lv_has ls 4 [(0, .ref b)] := hl
  refine va_new (ci := 9) (fs := [.int 0, .null, .null, .null, .null, .null, .null]) (C := RX9) (T := TX9) (N := 7) hx hb hts inlX9 tyX9 tyX9_ok hown (hts (.classLink RL 7 RX9) (by decide +kernel)) (hts (.instantiable RX9 7) (by decide +kernel)) (hts (.initialized RX9) (by decide +kernel)) hE.1 hP hD hS hA rfl (fun j hj => by rcases (show j = 0 ∨ j = 1 ∨ j = 2 ∨ j = 3 ∨ j = 4 ∨ j = 5 ∨ j = 6 by omega) with rfl | rfl | rfl | rfl | rfl | rfl | rfl <;> rfl) (Nat.le_of_ble_eq_true rfl) (Nat.le_of_ble_eq_true rfl) dL_law_0 (fun q1 H hP hD hS => ?_)
  have hP : va_P D vwCl [(q1, .inr (9, [.int 0, .null, .null, .null, .null, .null, .null]))] H := hP
  have hD : va_D (fun q : Nat => s.heap.size ≤ q) [(q1, .inr (9, [.int 0, .null, .null, .null, .null, .null, .null]))] := hD
  refine W.widen (k := 1) (n := 7) (by omega) (by omega) ?_
  refine lv_dup hx hb dL_law_3 rfl ?_
  have hFr := va_allA hD hS hA
  refine ra_I0 (As := []) (rest := [.ref q1]) ⟨hx, hb, hml, hown, hts⟩ (c_X9_init l D cT H.size q1) (cwI 0 hts gL_law_X9_init rfl rfl rfl (hts (.initialized RX9) (by decide +kernel)) (hts (.methodLink RL 9 yX9_init) (by decide +kernel)) (hts (.instanceMethod yX9_init) (by decide +kernel)) rfl (by decide +kernel) ⟨Nat.le_of_ble_eq_true rfl, Nat.le_of_ble_eq_true rfl⟩) hE hAO hP hD hS hA rfl hl.1 rfl (Nat.le_of_ble_eq_true rfl) dL_law_4 ⟨Nat.le_of_ble_eq_true rfl, Nat.le_of_ble_eq_true rfl⟩ (fun H locs hB hz1 hk1 hS => ?_)
  obtain ⟨ao, hao, hO, hDO⟩ := hB
  have hDo : va_D (fun q : Nat => s.heap.size ≤ q) (offW cT ao (fun _ _ => 0) T0 P0 N0) := hDO.weaken (fun _ q _ z => hFr q.1 z)
  subst hao
  refine W.widen (k := 19) (n := 1926) (by omega) (by omega) ?_
  refine lv_astore_n (lv' := [(1, .ref (ao 0)), (0, .ref b)]) hx hb dL_law_7 rfl hl (by decide) rfl (fun ls hl => ?_)
  refine va_new (ci := 10) (fs := [.int 0, .int 0, .null, .null, .null, .null, .null, .null, .null, .null, .null, .null, .null, .null, .int 0, .int 0, .null, .null, .null, .null, .null, .int 0, .null, .null, .null, .null, .int 0, .null, .null, .null, .null, .null, .int 0, .null, .null, .null, .int 0, .null]) (C := RX10) (T := TX10) (N := 38) hx hb hts inlX10 tyX10 tyX10_ok hown (hts (.classLink RL 10 RX10) (by decide +kernel)) (hts (.instantiable RX10 38) (by decide +kernel)) (hts (.initialized RX10) (by decide +kernel)) hE.1 hO hDo hS hA rfl (fun j hj => by rcases (show j = 0 ∨ j = 1 ∨ j = 2 ∨ j = 3 ∨ j = 4 ∨ j = 5 ∨ j = 6 ∨ j = 7 ∨ j = 8 ∨ j = 9 ∨ j = 10 ∨ j = 11 ∨ j = 12 ∨ j = 13 ∨ j = 14 ∨ j = 15 ∨ j = 16 ∨ j = 17 ∨ j = 18 ∨ j = 19 ∨ j = 20 ∨ j = 21 ∨ j = 22 ∨ j = 23 ∨ j = 24 ∨ j = 25 ∨ j = 26 ∨ j = 27 ∨ j = 28 ∨ j = 29 ∨ j = 30 ∨ j = 31 ∨ j = 32 ∨ j = 33 ∨ j = 34 ∨ j = 35 ∨ j = 36 ∨ j = 37 by omega) with rfl | rfl | rfl | rfl | rfl | rfl | rfl | rfl | rfl | rfl | rfl | rfl | rfl | rfl | rfl | rfl | rfl | rfl | rfl | rfl | rfl | rfl | rfl | rfl | rfl | rfl | rfl | rfl | rfl | rfl | rfl | rfl | rfl | rfl | rfl | rfl | rfl | rfl <;> rfl) (Nat.le_of_ble_eq_true rfl) (Nat.le_of_ble_eq_true rfl) dL_law_8 (fun q2 H hP hD hS => ?_)
  refine W.widen (k := 20) (n := 1964) (by omega) (by omega) ?_
  refine lv_dup hx hb dL_law_11 rfl ?_
  have hD2 := lw_comm hD
  have hO := lw_Plft hP
  have hH : ∀ q : Nat, H.size ≤ q → (fun q : Nat => s.heap.size ≤ q) q := fun q h => Nat.le_trans hS.1 h
  refine rw_I0 (As := []) (rest := [.ref q2]) ⟨hx, hb, hml, hown, hts⟩ (c_X10_init l D cT H.size q2) (cwI 0 hts gL_law_X10_init rfl rfl rfl (hts (.initialized RX10) (by decide +kernel)) (hts (.methodLink RL 12 yX10_init) (by decide +kernel)) (hts (.instanceMethod yX10_init) (by decide +kernel)) rfl (by decide +kernel) ⟨Nat.le_of_ble_eq_true rfl, Nat.le_of_ble_eq_true rfl⟩) hE (lw_Prgt hP) (lw_rgt hD) hS hA rfl hl.1 rfl (Nat.le_of_ble_eq_true rfl) dL_law_12 ⟨Nat.le_of_ble_eq_true rfl, Nat.le_of_ble_eq_true rfl⟩ (fun H locs hB hz1 hk1 hS => ?_)
  obtain ⟨am, ham, hM, hDM⟩ := hB
  obtain ⟨hOz, hDz⟩ := join2 hO hD2 hH hk1 hDM
  have hDy := lw_comm hDz
  subst ham
  refine W.widen (k := 50 + 0) (n := 5819 + 11 * 0) (by omega) (by omega) ?_
  refine lv_astore_n (lv' := [(2, .ref (am 0)), (1, .ref (ao 0)), (0, .ref b)]) hx hb dL_law_15 rfl hl (by decide) rfl (fun ls hl => ?_)
  refine lv_iconst (v := 0) hx hb dL_law_16 (by decide) ?_
  refine lv_istore_n (lv' := [(3, .int 0), (2, .ref (am 0)), (1, .ref (ao 0)), (0, .ref b)]) hx hb dL_law_17 rfl hl (by decide) rfl (fun ls hl => ?_)
  exact law_loop l hL C0 hE hWD (L + 1) 0 T0 N0 H locs (Nat.zero_le L) (by omega) ⟨fun _ _ => 0, P0, fun _ => 0, Jv0, PR0, hOz, hM, hDy, hS⟩ ls (lv_sub hl [3, 2, 1, 0] rfl)
