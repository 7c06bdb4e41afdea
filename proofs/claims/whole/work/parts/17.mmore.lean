set_option maxHeartbeats 4000000 in
set_option maxRecDepth 100000 in
theorem c_X10_hoard (l : Launch) (D : va_G) (cT : Nat → ClassId) (sz : Nat) (a : Nat → Nat) (T : Nat → Nat → Int32) (n : Nat → Nat) (z : Nat → Int32) (i : Int32) (hn : Cnt n) (hI : InvT T n) : Met l yX10_hoard wsX10_hoard ({ frames := 3, cells := 0, slots := 0, locals := 71 }) (va_Pc [.ref (a 0), .int i] (PW D cT (modW cT a T n z) sz)) (QW (some (.int (hoV T n i))) ((poM D cT a T n (fun _ => True)) (va_A (modW cT a T n z) sz)) (va_A (modW cT a T n z) sz)) 0 0 (va_A (modW cT a T n z) sz) := by
  refine RW_of (Bp := (poM D cT a T n (fun _ => True))) (by decide) rfl (Nat.le_of_ble_eq_true rfl) ?_
  intro p e s m below meth c A hx hb hr hts hown hlocks hin hml hE hD hA H locs hP hS ls hl
  have hiX10 : ∀ w ∈ wsX100, w ∈ wsX10_hoard := by decide +kernel
  have hl : lv_has ls 3 [(0, .ref (a 0)), (1, .int i)] := hl
  obtain ⟨hn0, hn1, hn2, hn3, hn4⟩ := id hn
  refine lv_aload_n hx hb dX10_hoard_0 rfl (lv_at hl 0 rfl) ?_
  refine lv_iload_n hx hb dX10_hoard_1 rfl (lv_at hl 1 rfl) ?_
  refine ro_V (As := [.int i]) (rest := []) ⟨hx, hb, hml, hown, hts⟩ (c_X10_isFind l D cT a T n z i hn) (cwV 1 hts gX10_hoard_X10_isFind rfl rfl rfl (by decide +kernel) ⟨Nat.le_of_ble_eq_true rfl, Nat.le_of_ble_eq_true rfl⟩) hE hP 0 10 mol_0 rfl rfl rfl hl.1 rfl (Nat.le_of_ble_eq_true rfl) dX10_hoard_2 ⟨Nat.zero_le _, Nat.zero_le _⟩ ?_
  refine bi_ne (tgt := 10) hx hb dX10_hoard_5 (by decide) (fun c_1 => ?_) (fun c_1 => ?_)
  · obtain ⟨k, hk, rfl⟩ := isT_k c_1 (by omega)
    refine lv_aload_n hx hb dX10_hoard_10 rfl (lv_at hl 0 rfl) ?_
    refine lv_iload_n hx hb dX10_hoard_11 rfl (lv_at hl 1 rfl) ?_
    refine lv_aload_n hx hb dX10_hoard_12 rfl (lv_at hl 0 rfl) ?_
    refine va_get (D := D) (ci := 10) (v := .int (T 0 0)) (C := RX10) (T := TX10) (N := 38) hx hb hts hiX10 hown hE.1 hP 0 mol_0 rfl 0 (by decide) (hts (.fieldLink RX10 113 "FindsOfficeModel" "now" "I") (by decide +kernel)) (fun _ h9 => h9) rfl dX10_hoard_13 ?_
    have hF := va_allA hD hS hA
    refine rw_V1 (As := [.int (nI k), .int (T 0 0)]) (rest := []) ⟨hx, hb, hml, hown, hts⟩ (c_X10_reaches l D cT H.size a T n z (T 0 0) k hn hk (now_vx hI hk).2) (cwV 2 hts gX10_hoard_X10_reaches rfl rfl rfl (by decide +kernel) ⟨Nat.le_of_ble_eq_true rfl, Nat.le_of_ble_eq_true rfl⟩) hE hP hD hS hA 0 10 mol_0 rfl rfl rfl hl.1 rfl (Nat.le_of_ble_eq_true rfl) dX10_hoard_16 ⟨Nat.le_of_ble_eq_true rfl, Nat.le_of_ble_eq_true rfl⟩ (fun H locs hB hz1 hk1 hS => ?_)
    obtain ⟨zR, hzR, hP, hD1⟩ := hB
    have hD := hD1.weaken (fun _ q _ h => hF q.1 h)
    refine lv_pop hx hb dX10_hoard_19 rfl ?_
    refine lv_iconst (v := 0) hx hb dX10_hoard_20 (by decide) ?_
    refine lv_istore_n (lv' := [(2, .int 0), (0, .ref (a 0)), (1, .int (nI k))]) hx hb dX10_hoard_21 rfl hl (by decide) rfl (fun ls hl => ?_)
    have loop_22 : ∀ (fuel_22 : Nat) (j : Nat), j < n 1 → (∀ x, x < j → ¬ Rch T n (T 0 0) k x) → n 1 - j < fuel_22 → ∀ (H : Heap) (locs : List Loc), va_P D vwCl (modW cT a T n zR) H → va_D A (modW cT a T n zR) → va_S A s.heap H locs → ∀ (ls : Array Slot), lv_has ls 3 [(0, .ref (a 0)), (1, .int (nI k)), (2, .int (nI j))] → W p l e ({ frames := 3, cells := 0, slots := 0, locals := 71 }) s m (List.toArray [.ref (a 0), .int (nI k)]) below meth c H locs 0 0 (MQ below (QW (some (.int (hoV T n (nI k)))) ((poM D cT a T n (fun _ => True)) A) A) (List.toArray [.ref (a 0), .int (nI k)]) s 0 0 A) (F0 m 22 ls []) := by
      intro fuel_22
      induction fuel_22 with
      | zero => intro j hj hno hfuel_22; exact absurd hfuel_22 (Nat.not_lt_zero _)
      | succ fuel_22 ih_22 =>
        intro j hj hno hfuel_22 H locs hP hD hS ls hl
        refine lv_aload_n hx hb dX10_hoard_22 rfl (lv_at hl 0 rfl) ?_
        refine va_get (D := D) (ci := 10) (v := .ref (a 37)) (C := RX10) (T := TX10) (N := 38) hx hb hts hiX10 hown hE.1 hP 0 mol_0 rfl 37 (by decide) (hts (.fieldLink RX10 101 "FindsOfficeModel" "isReached" "[Z") (by decide +kernel)) (fun _ h9 => h9) rfl dX10_hoard_23 ?_
        refine lv_iload_n hx hb dX10_hoard_26 rfl (lv_at hl 2 rfl) ?_
        refine my_zald (k := j) hx hb hE.1 hP 30 1 mol_37 rfl rfl (by omega) (by decide) dX10_hoard_27 ?_
        refine lv_if_ne (tgt := 37) hx hb dX10_hoard_28 (by decide) (fun c_2 => ?_) (fun c_2 => ?_)
        · refine lv_iload_n hx hb dX10_hoard_37 rfl (lv_at hl 2 rfl) ?_
          exact rw_iret hx hb hr hlocks (by rw [hoV_at hk hn1, hdN, lstP_uniq hj ((hzR j hj).2.mp ((hzR j hj).1.resolve_left c_2)) hno]) ⟨_, trivial, hP, hD⟩ hS (Nat.le_of_ble_eq_true rfl) (Nat.le_of_ble_eq_true rfl) dX10_hoard_38
        · have hno1 : ∀ x, x < j + 1 → ¬ Rch T n (T 0 0) k x := fun x hx q => by
            by_cases hxj : x = j
            · subst hxj; exact absurd (((hzR x hj).2.mpr q).symm.trans c_2) (by decide)
            · exact hno x (by omega) q
          have hj1 : j + 1 < n 1 := by
            rcases Nat.lt_or_ge k (j + 1) with q | q
            · exact absurd Rch.refl (hno1 k q)
            · omega
          refine lv_iinc (v := nI (j + 1)) (lv' := [(2, .int (nI (j + 1))), (0, .ref (a 0)), (1, .int (nI k))]) hx hb dX10_hoard_31 hl (k := 2) rfl (nI_1 _) (by decide) rfl (fun ls hl => ?_)
          refine lv_goto (tgt := 22) hx hb dX10_hoard_34 (by decide) ?_
          exact ih_22 (j + 1) hj1 hno1 (by omega) H locs hP hD hS ls (lv_sub hl [1, 2, 0] rfl)
    exact loop_22 _ 0 (by omega) (fun x hx => absurd hx (by omega)) (Nat.lt_succ_self _) H locs hP hD hS ls (lv_sub hl [1, 2, 0] rfl)
  · refine lv_iconst (v := (-1)) hx hb dX10_hoard_8 (by decide) ?_
    exact rw_iret hx hb hr hlocks (by rw [hoV, if_neg (by rw [c_1]; decide)]) ⟨_, trivial, hP, hD⟩ hS (Nat.le_of_ble_eq_true rfl) (Nat.le_of_ble_eq_true rfl) dX10_hoard_9
set_option maxHeartbeats 4000000 in
set_option maxRecDepth 100000 in
theorem c_X10_size (l : Launch) (D : va_G) (cT : Nat → ClassId) (sz : Nat) (a : Nat → Nat) (T : Nat → Nat → Int32) (n : Nat → Nat) (z : Nat → Int32) (i day : Int32) (hn : Cnt n) (hI : InvT T n) : Met l yX10_size wsX10_size ({ frames := 3, cells := 0, slots := 0, locals := 71 }) (va_Pc [.ref (a 0), .int i, .int day] (PW D cT (modW cT a T n z) sz)) (QW (some (.int (szV T n i day))) ((poM D cT a T n (fun _ => True)) (va_A (modW cT a T n z) sz)) (va_A (modW cT a T n z) sz)) 0 0 (va_A (modW cT a T n z) sz) := by
  refine RW_of (Bp := (poM D cT a T n (fun _ => True))) (by decide) rfl (Nat.le_of_ble_eq_true rfl) ?_
  intro p e s m below meth c A hx hb hr hts hown hlocks hin hml hE hD hA H locs hP hS ls hl
  have hl : lv_has ls 3 [(0, .ref (a 0)), (1, .int i), (2, .int day)] := hl
  obtain ⟨hn0, hn1, hn2, hn3, hn4⟩ := id hn
  refine lv_aload_n hx hb dX10_size_0 rfl (lv_at hl 0 rfl) ?_
  refine lv_iload_n hx hb dX10_size_1 rfl (lv_at hl 1 rfl) ?_
  refine lv_iload_n hx hb dX10_size_2 rfl (lv_at hl 2 rfl) ?_
  refine ro_V (As := [.int i, .int day]) (rest := []) ⟨hx, hb, hml, hown, hts⟩ (c_X10_isKnown l D cT a T n z i day hn) (cwV 2 hts gX10_size_X10_isKnown rfl rfl rfl (by decide +kernel) ⟨Nat.le_of_ble_eq_true rfl, Nat.le_of_ble_eq_true rfl⟩) hE hP 0 10 mol_0 rfl rfl rfl hl.1 rfl (Nat.le_of_ble_eq_true rfl) dX10_size_3 ⟨Nat.zero_le _, Nat.zero_le _⟩ ?_
  refine bi_eq (tgt := 18) hx hb dX10_size_6 (by decide) (fun c_1 => ?_) (fun c_1 => ?_)
  · refine lv_iconst (v := (-1)) hx hb dX10_size_18 (by decide) ?_
    exact rw_iret hx hb hr hlocks (szV_no c_1).symm ⟨_, trivial, hP, hD⟩ hS (Nat.le_of_ble_eq_true rfl) (Nat.le_of_ble_eq_true rfl) dX10_size_19
  · obtain ⟨k, hk, rfl, hkd, hkn⟩ := knB_k c_1 hn1
    refine lv_aload_n hx hb dX10_size_9 rfl (lv_at hl 0 rfl) ?_
    refine lv_iload_n hx hb dX10_size_10 rfl (lv_at hl 1 rfl) ?_
    refine lv_iload_n hx hb dX10_size_11 rfl (lv_at hl 2 rfl) ?_
    have hF := va_allA hD hS hA
    refine rw_V1 (As := [.int (nI k), .int day]) (rest := []) ⟨hx, hb, hml, hown, hts⟩ (c_X10_reaches l D cT H.size a T n z day k hn hk hkn) (cwV 2 hts gX10_size_X10_reaches rfl rfl rfl (by decide +kernel) ⟨Nat.le_of_ble_eq_true rfl, Nat.le_of_ble_eq_true rfl⟩) hE hP hD hS hA 0 10 mol_0 rfl rfl rfl hl.1 rfl (Nat.le_of_ble_eq_true rfl) dX10_size_12 ⟨Nat.le_of_ble_eq_true rfl, Nat.le_of_ble_eq_true rfl⟩ (fun H locs hB hz1 hk1 hS => ?_)
    obtain ⟨zR, hzR, hP, hD1⟩ := hB
    have hD := hD1.weaken (fun _ q _ h => hF q.1 h)
    refine lv_goto (tgt := 19) hx hb dX10_size_15 (by decide) ?_
    exact rw_iret hx hb hr hlocks (szV_at hk hn1 c_1).symm ⟨_, trivial, hP, hD⟩ hS (Nat.le_of_ble_eq_true rfl) (Nat.le_of_ble_eq_true rfl) dX10_size_19
set_option maxHeartbeats 4000000 in
set_option maxRecDepth 100000 in
theorem c_X10_counted (l : Launch) (D : va_G) (cT : Nat → ClassId) (sz : Nat) (a : Nat → Nat) (T : Nat → Nat → Int32) (n : Nat → Nat) (z : Nat → Int32) (i day : Int32) (hn : Cnt n) (hI : InvT T n) : Met l yX10_counted wsX10_counted ({ frames := 3, cells := 0, slots := 0, locals := 71 }) (va_Pc [.ref (a 0), .int i, .int day] (PW D cT (modW cT a T n z) sz)) (QW (some (.int (b2 (cdB T n i day)))) ((poM D cT a T n (fun _ => True)) (va_A (modW cT a T n z) sz)) (va_A (modW cT a T n z) sz)) 0 0 (va_A (modW cT a T n z) sz) := by
  refine RW_of (Bp := (poM D cT a T n (fun _ => True))) (by decide) rfl (Nat.le_of_ble_eq_true rfl) ?_
  intro p e s m below meth c A hx hb hr hts hown hlocks hin hml hE hD hA H locs hP hS ls hl
  have hiX10 : ∀ w ∈ wsX100, w ∈ wsX10_counted := by decide +kernel
  have hl : lv_has ls 4 [(0, .ref (a 0)), (1, .int i), (2, .int day)] := hl
  obtain ⟨hn0, hn1, hn2, hn3, hn4⟩ := id hn
  refine lv_aload_n hx hb dX10_counted_0 rfl (lv_at hl 0 rfl) ?_
  refine lv_iload_n hx hb dX10_counted_1 rfl (lv_at hl 1 rfl) ?_
  refine lv_iload_n hx hb dX10_counted_2 rfl (lv_at hl 2 rfl) ?_
  refine ro_V (As := [.int i, .int day]) (rest := []) ⟨hx, hb, hml, hown, hts⟩ (c_X10_isKnown l D cT a T n z i day hn) (cwV 2 hts gX10_counted_X10_isKnown rfl rfl rfl (by decide +kernel) ⟨Nat.le_of_ble_eq_true rfl, Nat.le_of_ble_eq_true rfl⟩) hE hP 0 10 mol_0 rfl rfl rfl hl.1 rfl (Nat.le_of_ble_eq_true rfl) dX10_counted_3 ⟨Nat.zero_le _, Nat.zero_le _⟩ ?_
  refine bi_ne (tgt := 11) hx hb dX10_counted_6 (by decide) (fun c_1 => ?_) (fun c_1 => ?_)
  · obtain ⟨k, hk, rfl, hkd, hkn⟩ := knB_k c_1 hn1
    refine lv_aload_n hx hb dX10_counted_11 rfl (lv_at hl 0 rfl) ?_
    refine lv_aload_n hx hb dX10_counted_12 rfl (lv_at hl 0 rfl) ?_
    refine va_get (D := D) (ci := 10) (v := .ref (a 10)) (C := RX10) (T := TX10) (N := 38) hx hb hts hiX10 hown hE.1 hP 0 mol_0 rfl 10 (by decide) (hts (.fieldLink RX10 34 "FindsOfficeModel" "foundOn" "[I") (by decide +kernel)) (fun _ h9 => h9) rfl dX10_counted_13 ?_
    refine lv_iload_n hx hb dX10_counted_16 rfl (lv_at hl 1 rfl) ?_
    refine my_iald (k := k) hx hb hE.1 hP 9 0 mol_10 rfl rfl (by omega) (by decide) dX10_counted_17 ?_
    refine ro_V (As := [.int (T 10 k)]) (rest := []) ⟨hx, hb, hml, hown, hts⟩ (c_X10_lawOf l D cT a T n z (T 10 k) hn) (cwV 1 hts gX10_counted_X10_lawOf rfl rfl rfl (by decide +kernel) ⟨Nat.le_of_ble_eq_true rfl, Nat.le_of_ble_eq_true rfl⟩) hE hP 0 10 mol_0 rfl rfl rfl hl.1 rfl (Nat.le_of_ble_eq_true rfl) dX10_counted_18 ⟨Nat.zero_le _, Nat.zero_le _⟩ ?_
    refine lv_istore_n (lv' := [(3, .int (oI (ifN T (T 10 k) (n 0)))), (0, .ref (a 0)), (1, .int (nI k)), (2, .int day)]) hx hb dX10_counted_21 rfl hl (by decide) rfl (fun ls hl => ?_)
    refine lv_iload_n hx hb dX10_counted_22 rfl (lv_at hl 0 rfl) ?_
    refine lv_iconst (v := (-1)) hx hb dX10_counted_23 (by decide) ?_
    refine lv_icmp_eq (tgt := 52) hx hb dX10_counted_24 (by decide) (fun c_2 => ?_) (fun c_2 => ?_)
    · have hqn := oI_no rfl (fun q hq => Nat.lt_trans (ifN_lt hq) (by omega)) c_2
      refine lv_iconst (v := 0) hx hb dX10_counted_52 (by decide) ?_
      exact rw_zret hx hb hr hlocks (by rw [cdB_at hk hn1 c_1, lc_none hqn]; rfl) ⟨_, trivial, hP, hD⟩ hS (Nat.le_of_ble_eq_true rfl) (Nat.le_of_ble_eq_true rfl) dX10_counted_53
    · obtain ⟨q, hqe, hqv⟩ := oI_some rfl c_2
      have hql := ifN_lt hqe
      refine lv_aload_n hx hb dX10_counted_27 rfl (lv_at hl 1 rfl) ?_
      refine va_get (D := D) (ci := 10) (v := .ref (a 10)) (C := RX10) (T := TX10) (N := 38) hx hb hts hiX10 hown hE.1 hP 0 mol_0 rfl 10 (by decide) (hts (.fieldLink RX10 34 "FindsOfficeModel" "foundOn" "[I") (by decide +kernel)) (fun _ h9 => h9) rfl dX10_counted_28 ?_
      refine lv_iload_n hx hb dX10_counted_31 rfl (lv_at hl 2 rfl) ?_
      refine my_iald (k := k) hx hb hE.1 hP 9 0 mol_10 rfl rfl (by omega) (by decide) dX10_counted_32 ?_
      refine ro_S (As := [.int (T 10 k)]) (rest := []) ⟨hx, hb, hml, hown, hts⟩ (c_X10_yearOf l D cT (T 10 k) ) (va_cwS 1 hts gX10_counted_X10_yearOf rfl rfl rfl (by decide +kernel) ⟨Nat.le_of_ble_eq_true rfl, Nat.le_of_ble_eq_true rfl⟩) hE va_P_nil  rfl hl.1 rfl (Nat.le_of_ble_eq_true rfl) dX10_counted_33 ⟨Nat.zero_le _, Nat.zero_le _⟩ ?_
      refine lv_aload_n hx hb dX10_counted_36 rfl (lv_at hl 1 rfl) ?_
      refine va_get (D := D) (ci := 10) (v := .ref (a 8)) (C := RX10) (T := TX10) (N := 38) hx hb hts hiX10 hown hE.1 hP 0 mol_0 rfl 8 (by decide) (hts (.fieldLink RX10 28 "FindsOfficeModel" "to" "[I") (by decide +kernel)) (fun _ h9 => h9) rfl dX10_counted_37 ?_
      refine lv_iload_n hx hb dX10_counted_40 rfl (lv_at hl 2 rfl) ?_
      refine my_iald (k := k) hx hb hE.1 hP 7 0 mol_8 rfl rfl (by omega) (by decide) dX10_counted_41 ?_
      refine lv_isub hx hb dX10_counted_42 ?_
      refine lv_aload_n hx hb dX10_counted_43 rfl (lv_at hl 1 rfl) ?_
      refine va_get (D := D) (ci := 10) (v := .ref (a 17)) (C := RX10) (T := TX10) (N := 38) hx hb hts hiX10 hown hE.1 hP 0 mol_0 rfl 17 (by decide) (hts (.fieldLink RX10 49 "FindsOfficeModel" "age" "[I") (by decide +kernel)) (fun _ h9 => h9) rfl dX10_counted_44 ?_
      refine lv_iload_n hx hb dX10_counted_47 rfl (lv_at hl 0 rfl) ?_
      refine my_iald (k := q) hx hb hE.1 hP 14 0 mol_17 rfl hqv (by omega) (by decide) dX10_counted_48 ?_
      refine lv_icmp_ge (tgt := 54) hx hb dX10_counted_49 (by decide) (fun c_3 => ?_) (fun c_3 => ?_)
      · refine lv_aload_n hx hb dX10_counted_54 rfl (lv_at hl 1 rfl) ?_
        refine va_get (D := D) (ci := 10) (v := .ref (a 4)) (C := RX10) (T := TX10) (N := 38) hx hb hts hiX10 hown hE.1 hP 0 mol_0 rfl 4 (by decide) (hts (.fieldLink RX10 16 "FindsOfficeModel" "metal" "[I") (by decide +kernel)) (fun _ h9 => h9) rfl dX10_counted_55 ?_
        refine lv_iload_n hx hb dX10_counted_58 rfl (lv_at hl 2 rfl) ?_
        refine my_iald (k := k) hx hb hE.1 hP 3 0 mol_4 rfl rfl (by omega) (by decide) dX10_counted_59 ?_
        refine lv_if_eq (tgt := 78) hx hb dX10_counted_60 (by decide) (fun c_4 => ?_) (fun c_4 => ?_)
        · refine lv_aload_n hx hb dX10_counted_78 rfl (lv_at hl 1 rfl) ?_
          refine lv_iload_n hx hb dX10_counted_79 rfl (lv_at hl 2 rfl) ?_
          refine lv_iload_n hx hb dX10_counted_80 rfl (lv_at hl 3 rfl) ?_
          have hF := va_allA hD hS hA
          refine rw_V1 (As := [.int (nI k), .int day]) (rest := []) ⟨hx, hb, hml, hown, hts⟩ (c_X10_reaches l D cT H.size a T n z day k hn hk hkn) (cwV 2 hts gX10_counted_X10_reaches rfl rfl rfl (by decide +kernel) ⟨Nat.le_of_ble_eq_true rfl, Nat.le_of_ble_eq_true rfl⟩) hE hP hD hS hA 0 10 mol_0 rfl rfl rfl hl.1 rfl (Nat.le_of_ble_eq_true rfl) dX10_counted_81 ⟨Nat.le_of_ble_eq_true rfl, Nat.le_of_ble_eq_true rfl⟩ (fun H locs hB hz1 hk1 hS => ?_)
          obtain ⟨zR, hzR, hP, hD1⟩ := hB
          have hD := hD1.weaken (fun _ q _ h => hF q.1 h)
          refine lv_aload_n hx hb dX10_counted_84 rfl (lv_at hl 1 rfl) ?_
          refine va_get (D := D) (ci := 10) (v := .ref (a 20)) (C := RX10) (T := TX10) (N := 38) hx hb hts hiX10 hown hE.1 hP 0 mol_0 rfl 20 (by decide) (hts (.fieldLink RX10 58 "FindsOfficeModel" "together" "[I") (by decide +kernel)) (fun _ h9 => h9) rfl dX10_counted_85 ?_
          refine lv_iload_n hx hb dX10_counted_88 rfl (lv_at hl 0 rfl) ?_
          refine my_iald (k := q) hx hb hE.1 hP 17 0 mol_20 rfl hqv (by omega) (by decide) dX10_counted_89 ?_
          refine lv_icmp_lt (tgt := 97) hx hb dX10_counted_90 (by decide) (fun c_5 => ?_) (fun c_5 => ?_)
          · refine lv_iconst (v := 0) hx hb dX10_counted_97 (by decide) ?_
            exact rw_zret hx hb hr hlocks (by rw [cdB_at hk hn1 c_1, lc_some hqe]; simp [covB, b2, c_2, c_3, c_4, c_5]) ⟨_, trivial, hP, hD⟩ hS (Nat.le_of_ble_eq_true rfl) (Nat.le_of_ble_eq_true rfl) dX10_counted_98
          · refine lv_iconst (v := 1) hx hb dX10_counted_93 (by decide) ?_
            refine lv_goto (tgt := 98) hx hb dX10_counted_94 (by decide) ?_
            exact rw_zret hx hb hr hlocks (by rw [cdB_at hk hn1 c_1, lc_some hqe]; simp [covB, b2, c_2, c_3, c_4, c_5]) ⟨_, trivial, hP, hD⟩ hS (Nat.le_of_ble_eq_true rfl) (Nat.le_of_ble_eq_true rfl) dX10_counted_98
        · refine lv_aload_n hx hb dX10_counted_63 rfl (lv_at hl 1 rfl) ?_
          refine va_get (D := D) (ci := 10) (v := .ref (a 5)) (C := RX10) (T := TX10) (N := 38) hx hb hts hiX10 hown hE.1 hP 0 mol_0 rfl 5 (by decide) (hts (.fieldLink RX10 19 "FindsOfficeModel" "purity" "[I") (by decide +kernel)) (fun _ h9 => h9) rfl dX10_counted_64 ?_
          refine lv_iload_n hx hb dX10_counted_67 rfl (lv_at hl 2 rfl) ?_
          refine my_iald (k := k) hx hb hE.1 hP 4 0 mol_5 rfl rfl (by omega) (by decide) dX10_counted_68 ?_
          refine lv_aload_n hx hb dX10_counted_69 rfl (lv_at hl 1 rfl) ?_
          refine va_get (D := D) (ci := 10) (v := .ref (a 18)) (C := RX10) (T := TX10) (N := 38) hx hb hts hiX10 hown hE.1 hP 0 mol_0 rfl 18 (by decide) (hts (.fieldLink RX10 52 "FindsOfficeModel" "parts" "[I") (by decide +kernel)) (fun _ h9 => h9) rfl dX10_counted_70 ?_
          refine lv_iload_n hx hb dX10_counted_73 rfl (lv_at hl 0 rfl) ?_
          refine my_iald (k := q) hx hb hE.1 hP 15 0 mol_18 rfl hqv (by omega) (by decide) dX10_counted_74 ?_
          refine lv_icmp_ge (tgt := 93) hx hb dX10_counted_75 (by decide) (fun c_6 => ?_) (fun c_6 => ?_)
          · refine lv_iconst (v := 1) hx hb dX10_counted_93 (by decide) ?_
            refine lv_goto (tgt := 98) hx hb dX10_counted_94 (by decide) ?_
            exact rw_zret hx hb hr hlocks (by rw [cdB_at hk hn1 c_1, lc_some hqe]; simp [covB, b2, c_2, c_3, c_4, c_6]) ⟨_, trivial, hP, hD⟩ hS (Nat.le_of_ble_eq_true rfl) (Nat.le_of_ble_eq_true rfl) dX10_counted_98
          · refine lv_aload_n hx hb dX10_counted_78 rfl (lv_at hl 1 rfl) ?_
            refine lv_iload_n hx hb dX10_counted_79 rfl (lv_at hl 2 rfl) ?_
            refine lv_iload_n hx hb dX10_counted_80 rfl (lv_at hl 3 rfl) ?_
            have hF := va_allA hD hS hA
            refine rw_V1 (As := [.int (nI k), .int day]) (rest := []) ⟨hx, hb, hml, hown, hts⟩ (c_X10_reaches l D cT H.size a T n z day k hn hk hkn) (cwV 2 hts gX10_counted_X10_reaches rfl rfl rfl (by decide +kernel) ⟨Nat.le_of_ble_eq_true rfl, Nat.le_of_ble_eq_true rfl⟩) hE hP hD hS hA 0 10 mol_0 rfl rfl rfl hl.1 rfl (Nat.le_of_ble_eq_true rfl) dX10_counted_81 ⟨Nat.le_of_ble_eq_true rfl, Nat.le_of_ble_eq_true rfl⟩ (fun H locs hB hz1 hk1 hS => ?_)
            obtain ⟨zR, hzR, hP, hD1⟩ := hB
            have hD := hD1.weaken (fun _ q _ h => hF q.1 h)
            refine lv_aload_n hx hb dX10_counted_84 rfl (lv_at hl 1 rfl) ?_
            refine va_get (D := D) (ci := 10) (v := .ref (a 20)) (C := RX10) (T := TX10) (N := 38) hx hb hts hiX10 hown hE.1 hP 0 mol_0 rfl 20 (by decide) (hts (.fieldLink RX10 58 "FindsOfficeModel" "together" "[I") (by decide +kernel)) (fun _ h9 => h9) rfl dX10_counted_85 ?_
            refine lv_iload_n hx hb dX10_counted_88 rfl (lv_at hl 0 rfl) ?_
            refine my_iald (k := q) hx hb hE.1 hP 17 0 mol_20 rfl hqv (by omega) (by decide) dX10_counted_89 ?_
            refine lv_icmp_lt (tgt := 97) hx hb dX10_counted_90 (by decide) (fun c_7 => ?_) (fun c_7 => ?_)
            · refine lv_iconst (v := 0) hx hb dX10_counted_97 (by decide) ?_
              exact rw_zret hx hb hr hlocks (by rw [cdB_at hk hn1 c_1, lc_some hqe]; simp [covB, b2, c_2, c_3, c_4, c_6, c_7]) ⟨_, trivial, hP, hD⟩ hS (Nat.le_of_ble_eq_true rfl) (Nat.le_of_ble_eq_true rfl) dX10_counted_98
            · refine lv_iconst (v := 1) hx hb dX10_counted_93 (by decide) ?_
              refine lv_goto (tgt := 98) hx hb dX10_counted_94 (by decide) ?_
              exact rw_zret hx hb hr hlocks (by rw [cdB_at hk hn1 c_1, lc_some hqe]; simp [covB, b2, c_2, c_3, c_4, c_6, c_7]) ⟨_, trivial, hP, hD⟩ hS (Nat.le_of_ble_eq_true rfl) (Nat.le_of_ble_eq_true rfl) dX10_counted_98
      · refine lv_iconst (v := 0) hx hb dX10_counted_52 (by decide) ?_
        exact rw_zret hx hb hr hlocks (by rw [cdB_at hk hn1 c_1, lc_some hqe]; simp [covB, b2, c_2, c_3]) ⟨_, trivial, hP, hD⟩ hS (Nat.le_of_ble_eq_true rfl) (Nat.le_of_ble_eq_true rfl) dX10_counted_53
  · refine lv_iconst (v := 0) hx hb dX10_counted_9 (by decide) ?_
    exact rw_zret hx hb hr hlocks (by rw [cdB_no c_1]; rfl) ⟨_, trivial, hP, hD⟩ hS (Nat.le_of_ble_eq_true rfl) (Nat.le_of_ble_eq_true rfl) dX10_counted_10
set_option maxHeartbeats 4000000 in
set_option maxRecDepth 100000 in
theorem c_X10_counts (l : Launch) (D : va_G) (cT : Nat → ClassId) (sz : Nat) (a : Nat → Nat) (T : Nat → Nat → Int32) (n : Nat → Nat) (z : Nat → Int32) (i : Int32) (hn : Cnt n) (hI : InvT T n) : Met l yX10_counts wsX10_counts ({ frames := 4, cells := 0, slots := 0, locals := 94 }) (va_Pc [.ref (a 0), .int i] (PW D cT (modW cT a T n z) sz)) (QW (some (.int (b2 (cdB T n i (T 0 0))))) ((poM D cT a T n (fun _ => True)) (va_A (modW cT a T n z) sz)) (va_A (modW cT a T n z) sz)) 0 0 (va_A (modW cT a T n z) sz) := by
  refine RW_of (Bp := (poM D cT a T n (fun _ => True))) (by decide) rfl (Nat.le_of_ble_eq_true rfl) ?_
  intro p e s m below meth c A hx hb hr hts hown hlocks hin hml hE hD hA H locs hP hS ls hl
  have hiX10 : ∀ w ∈ wsX100, w ∈ wsX10_counts := by decide +kernel
  have hl : lv_has ls 2 [(0, .ref (a 0)), (1, .int i)] := hl
  obtain ⟨hn0, hn1, hn2, hn3, hn4⟩ := id hn
  refine lv_aload_n hx hb dX10_counts_0 rfl (lv_at hl 0 rfl) ?_
  refine lv_iload_n hx hb dX10_counts_1 rfl (lv_at hl 1 rfl) ?_
  refine lv_aload_n hx hb dX10_counts_2 rfl (lv_at hl 0 rfl) ?_
  refine va_get (D := D) (ci := 10) (v := .int (T 0 0)) (C := RX10) (T := TX10) (N := 38) hx hb hts hiX10 hown hE.1 hP 0 mol_0 rfl 0 (by decide) (hts (.fieldLink RX10 113 "FindsOfficeModel" "now" "I") (by decide +kernel)) (fun _ h9 => h9) rfl dX10_counts_3 ?_
  have hF := va_allA hD hS hA
  refine rw_V1 (As := [.int i, .int (T 0 0)]) (rest := []) ⟨hx, hb, hml, hown, hts⟩ (c_X10_counted l D cT H.size a T n z i (T 0 0) hn hI) (cwV 2 hts gX10_counts_X10_counted rfl rfl rfl (by decide +kernel) ⟨Nat.le_of_ble_eq_true rfl, Nat.le_of_ble_eq_true rfl⟩) hE hP hD hS hA 0 10 mol_0 rfl rfl rfl hl.1 rfl (Nat.le_of_ble_eq_true rfl) dX10_counts_6 ⟨Nat.le_of_ble_eq_true rfl, Nat.le_of_ble_eq_true rfl⟩ (fun H locs hB hz1 hk1 hS => ?_)
  obtain ⟨zR, hzR, hP, hD1⟩ := hB
  have hD := hD1.weaken (fun _ q _ h => hF q.1 h)
  exact rw_zret hx hb hr hlocks rfl ⟨_, trivial, hP, hD⟩ hS (Nat.le_of_ble_eq_true rfl) (Nat.le_of_ble_eq_true rfl) dX10_counts_9
set_option maxHeartbeats 4000000 in
set_option maxRecDepth 100000 in
theorem c_X10_share (l : Launch) (D : va_G) (cT : Nat → ClassId) (sz : Nat) (a : Nat → Nat) (T : Nat → Nat → Int32) (n : Nat → Nat) (z : Nat → Int32) (i pe : Int32) (hn : Cnt n) (hI : InvT T n) : Met l yX10_share wsX10_share ({ frames := 5, cells := 0, slots := 0, locals := 115 }) (va_Pc [.ref (a 0), .int i, .int pe] (PW D cT (modW cT a T n z) sz)) (QW (some (.int (dsV T n i pe))) ((poM D cT a T n (fun _ => True)) (va_A (modW cT a T n z) sz)) (va_A (modW cT a T n z) sz)) 0 0 (va_A (modW cT a T n z) sz) := by
  refine RW_of (Bp := (poM D cT a T n (fun _ => True))) (by decide) rfl (Nat.le_of_ble_eq_true rfl) ?_
  intro p e s m below meth c A hx hb hr hts hown hlocks hin hml hE hD hA H locs hP hS ls hl
  have hiX10 : ∀ w ∈ wsX100, w ∈ wsX10_share := by decide +kernel
  have hl : lv_has ls 5 [(0, .ref (a 0)), (1, .int i), (2, .int pe)] := hl
  obtain ⟨hn0, hn1, hn2, hn3, hn4⟩ := id hn
  refine lv_aload_n hx hb dX10_share_0 rfl (lv_at hl 0 rfl) ?_
  refine lv_iload_n hx hb dX10_share_1 rfl (lv_at hl 1 rfl) ?_
  refine ro_V (As := [.int i]) (rest := []) ⟨hx, hb, hml, hown, hts⟩ (c_X10_isFind l D cT a T n z i hn) (cwV 1 hts gX10_share_X10_isFind rfl rfl rfl (by decide +kernel) ⟨Nat.le_of_ble_eq_true rfl, Nat.le_of_ble_eq_true rfl⟩) hE hP 0 10 mol_0 rfl rfl rfl hl.1 rfl (Nat.le_of_ble_eq_true rfl) dX10_share_2 ⟨Nat.zero_le _, Nat.zero_le _⟩ ?_
  refine bi_eq (tgt := 23) hx hb dX10_share_5 (by decide) (fun c_1 => ?_) (fun c_1 => ?_)
  · refine lv_iconst (v := 0) hx hb dX10_share_23 (by decide) ?_
    exact rw_iret hx hb hr hlocks (dsV_no (by simp [c_1])).symm ⟨_, trivial, hP, hD⟩ hS (Nat.le_of_ble_eq_true rfl) (Nat.le_of_ble_eq_true rfl) dX10_share_24
  · obtain ⟨k, hk, rfl⟩ := isT_k c_1 (by omega)
    refine lv_iload_n hx hb dX10_share_8 rfl (lv_at hl 2 rfl) ?_
    refine ro_S (As := [.int pe]) (rest := []) ⟨hx, hb, hml, hown, hts⟩ (c_X10_isPerson l D cT pe ) (va_cwS 1 hts gX10_share_X10_isPerson rfl rfl rfl (by decide +kernel) ⟨Nat.le_of_ble_eq_true rfl, Nat.le_of_ble_eq_true rfl⟩) hE va_P_nil  rfl hl.1 rfl (Nat.le_of_ble_eq_true rfl) dX10_share_9 ⟨Nat.zero_le _, Nat.zero_le _⟩ ?_
    refine bi_eq (tgt := 23) hx hb dX10_share_12 (by decide) (fun c_2 => ?_) (fun c_2 => ?_)
    · rw [btw29] at c_2
      refine lv_iconst (v := 0) hx hb dX10_share_23 (by decide) ?_
      exact rw_iret hx hb hr hlocks (dsV_no (by simp [c_1, c_2])).symm ⟨_, trivial, hP, hD⟩ hS (Nat.le_of_ble_eq_true rfl) (Nat.le_of_ble_eq_true rfl) dX10_share_24
    · rw [btw29] at c_2
      refine lv_aload_n hx hb dX10_share_15 rfl (lv_at hl 0 rfl) ?_
      refine lv_iload_n hx hb dX10_share_16 rfl (lv_at hl 1 rfl) ?_
      have hF := va_allA hD hS hA
      refine rw_V1 (As := [.int (nI k)]) (rest := []) ⟨hx, hb, hml, hown, hts⟩ (c_X10_counts l D cT H.size a T n z (nI k) hn hI) (cwV 1 hts gX10_share_X10_counts rfl rfl rfl (by decide +kernel) ⟨Nat.le_of_ble_eq_true rfl, Nat.le_of_ble_eq_true rfl⟩) hE hP hD hS hA 0 10 mol_0 rfl rfl rfl hl.1 rfl (Nat.le_of_ble_eq_true rfl) dX10_share_17 ⟨Nat.le_of_ble_eq_true rfl, Nat.le_of_ble_eq_true rfl⟩ (fun H locs hB hz1 hk1 hS => ?_)
      obtain ⟨zR, hzR, hP, hD1⟩ := hB
      have hD := hD1.weaken (fun _ q _ h => hF q.1 h)
      refine bi_ne (tgt := 25) hx hb dX10_share_20 (by decide) (fun c_3 => ?_) (fun c_3 => ?_)
      · obtain ⟨q, hql, hqe, hlc⟩ := cdB_q c_3 hk hn1
        refine lv_aload_n hx hb dX10_share_25 rfl (lv_at hl 0 rfl) ?_
        refine lv_iload_n hx hb dX10_share_26 rfl (lv_at hl 1 rfl) ?_
        refine ro_V (As := [.int (nI k)]) (rest := []) ⟨hx, hb, hml, hown, hts⟩ (c_X10_worth l D cT a T n zR (nI k) hn hI) (cwV 1 hts gX10_share_X10_worth rfl rfl rfl (by decide +kernel) ⟨Nat.le_of_ble_eq_true rfl, Nat.le_of_ble_eq_true rfl⟩) hE hP 0 10 mol_0 rfl rfl rfl hl.1 rfl (Nat.le_of_ble_eq_true rfl) dX10_share_27 ⟨Nat.zero_le _, Nat.zero_le _⟩ ?_
        refine topi_eq (wrV_at hk hn1) ?_
        refine lv_istore_n (lv' := [(3, .int (worV T n k)), (0, .ref (a 0)), (1, .int (nI k)), (2, .int pe)]) hx hb dX10_share_30 rfl hl (by decide) rfl (fun ls hl => ?_)
        refine lv_iload_n hx hb dX10_share_31 rfl (lv_at hl 0 rfl) ?_
        refine lv_i2l (v := (worV T n k).toInt64) hx hb dX10_share_32 rfl ?_
        refine lv_aload_n hx hb dX10_share_33 rfl (lv_at hl 1 rfl) ?_
        refine va_get (D := D) (ci := 10) (v := .ref (a 19)) (C := RX10) (T := TX10) (N := 38) hx hb hts hiX10 hown hE.1 hP 0 mol_0 rfl 19 (by decide) (hts (.fieldLink RX10 55 "FindsOfficeModel" "shareOf" "[I") (by decide +kernel)) (fun _ h9 => h9) rfl dX10_share_34 ?_
        refine lv_aload_n hx hb dX10_share_37 rfl (lv_at hl 1 rfl) ?_
        refine lv_aload_n hx hb dX10_share_38 rfl (lv_at hl 1 rfl) ?_
        refine va_get (D := D) (ci := 10) (v := .ref (a 10)) (C := RX10) (T := TX10) (N := 38) hx hb hts hiX10 hown hE.1 hP 0 mol_0 rfl 10 (by decide) (hts (.fieldLink RX10 34 "FindsOfficeModel" "foundOn" "[I") (by decide +kernel)) (fun _ h9 => h9) rfl dX10_share_39 ?_
        refine lv_iload_n hx hb dX10_share_42 rfl (lv_at hl 2 rfl) ?_
        refine my_iald (k := k) hx hb hE.1 hP 9 0 mol_10 rfl rfl (by omega) (by decide) dX10_share_43 ?_
        refine ro_V (As := [.int (T 10 k)]) (rest := [.ref (a 19), .long ((worV T n k).toInt64)]) ⟨hx, hb, hml, hown, hts⟩ (c_X10_lawOf l D cT a T n zR (T 10 k) hn) (cwV 1 hts gX10_share_X10_lawOf rfl rfl rfl (by decide +kernel) ⟨Nat.le_of_ble_eq_true rfl, Nat.le_of_ble_eq_true rfl⟩) hE hP 0 10 mol_0 rfl rfl rfl hl.1 rfl (Nat.le_of_ble_eq_true rfl) dX10_share_44 ⟨Nat.zero_le _, Nat.zero_le _⟩ ?_
        refine topi_eq (y := nI q) (by rw [hqe]; rfl) ?_
        refine my_iald (k := q) hx hb hE.1 hP 16 0 mol_19 rfl rfl (by omega) (by decide) dX10_share_47 ?_
        refine lv_i2l (v := (T 19 q).toInt64) hx hb dX10_share_48 rfl ?_
        refine lv_lmul hx hb dX10_share_49 ?_
        refine lv_ldc2 (own := RX10) (v := 100) hx hb hown (hts (.constantLong RX10 172 100) (by decide +kernel)) dX10_share_50 ?_
        refine lv_ldiv hx hb dX10_share_53 (by decide) ?_
        refine lv_l2i (v := ((((worV T n k).toInt64) * ((T 19 q).toInt64)) / 100).toInt32) hx hb dX10_share_54 rfl ?_
        refine lv_istore (lv' := [(4, .int (((((worV T n k).toInt64) * ((T 19 q).toInt64)) / 100).toInt32)), (3, .int (worV T n k)), (0, .ref (a 0)), (1, .int (nI k)), (2, .int pe)]) hx hb dX10_share_55 hl (by decide) rfl (fun ls hl => ?_)
        have J_73 : ∀ (jv : Int32), jv = (if T 9 k = pe then ((worV T n k).toInt64 * (T 19 q).toInt64 / 100).toInt32 else 0) → ∀ (ls : Array Slot), lv_has ls 5 [(4, .int (((((worV T n k).toInt64) * ((T 19 q).toInt64)) / 100).toInt32)), (3, .int (worV T n k)), (0, .ref (a 0)), (1, .int (nI k)), (2, .int pe)] → W p l e ({ frames := 5, cells := 0, slots := 0, locals := 115 }) s m (List.toArray [.ref (a 0), .int (nI k), .int pe]) below meth c H locs 0 0 (MQ below (QW (some (.int (dsV T n (nI k) pe))) ((poM D cT a T n (fun _ => True)) A) A) (List.toArray [.ref (a 0), .int (nI k), .int pe]) s 0 0 A) (F0 m 73 ls [.int jv]) := by
          intro jv hjv ls hl
          subst hjv
          have J_90 : ∀ (jv : Int32), jv = (if lndV T n k = pe then worV T n k - ((worV T n k).toInt64 * (T 19 q).toInt64 / 100).toInt32 else 0) → ∀ (ls : Array Slot), lv_has ls 5 [(4, .int (((((worV T n k).toInt64) * ((T 19 q).toInt64)) / 100).toInt32)), (3, .int (worV T n k)), (0, .ref (a 0)), (1, .int (nI k)), (2, .int pe)] → W p l e ({ frames := 5, cells := 0, slots := 0, locals := 115 }) s m (List.toArray [.ref (a 0), .int (nI k), .int pe]) below meth c H locs 0 0 (MQ below (QW (some (.int (dsV T n (nI k) pe))) ((poM D cT a T n (fun _ => True)) A) A) (List.toArray [.ref (a 0), .int (nI k), .int pe]) s 0 0 A) (F0 m 90 ls [.int jv, .int (if T 9 k = pe then ((worV T n k).toInt64 * (T 19 q).toInt64 / 100).toInt32 else 0)]) := by
            intro jv hjv ls hl
            subst hjv
            refine lv_iadd hx hb dX10_share_90 ?_
            exact rw_iret hx hb hr hlocks (by rw [dsV_at hk hn1 c_2 hlc]; exact sh_sum (share_eq (wor_in hn hI hk).1 (wor_in hn hI hk).2 (hI.2.2.2.2.1 q hql))) ⟨_, trivial, hP, hD⟩ hS (Nat.le_of_ble_eq_true rfl) (Nat.le_of_ble_eq_true rfl) dX10_share_91
          refine lv_aload_n hx hb dX10_share_73 rfl (lv_at hl 2 rfl) ?_
          refine lv_iload_n hx hb dX10_share_74 rfl (lv_at hl 3 rfl) ?_
          refine ro_V (As := [.int (nI k)]) (rest := [.int (if T 9 k = pe then ((worV T n k).toInt64 * (T 19 q).toInt64 / 100).toInt32 else 0)]) ⟨hx, hb, hml, hown, hts⟩ (c_X10_ownerOf l D cT a T n zR k hn (by omega)) (cwV 1 hts gX10_share_X10_ownerOf rfl rfl rfl (by decide +kernel) ⟨Nat.le_of_ble_eq_true rfl, Nat.le_of_ble_eq_true rfl⟩) hE hP 0 10 mol_0 rfl rfl rfl hl.1 rfl (Nat.le_of_ble_eq_true rfl) dX10_share_75 ⟨Nat.zero_le _, Nat.zero_le _⟩ ?_
          refine lv_iload_n hx hb dX10_share_78 rfl (lv_at hl 4 rfl) ?_
          refine lv_icmp_ne (tgt := 89) hx hb dX10_share_79 (by decide) (fun c_4 => ?_) (fun c_4 => ?_)
          · refine lv_iconst (v := 0) hx hb dX10_share_89 (by decide) ?_
            exact J_90 _ (by simp [c_1, c_2, c_3, c_4]) ls (lv_sub hl [0, 1, 2, 3, 4] rfl)
          · refine lv_iload_n hx hb dX10_share_82 rfl (lv_at hl 1 rfl) ?_
            refine lv_iload hx hb dX10_share_83 (lv_at hl 0 rfl) ?_
            refine lv_isub hx hb dX10_share_85 ?_
            refine lv_goto (tgt := 90) hx hb dX10_share_86 (by decide) ?_
            exact J_90 _ (by simp [c_1, c_2, c_3, c_4]) ls (lv_sub hl [0, 1, 2, 3, 4] rfl)
        refine lv_aload_n hx hb dX10_share_57 rfl (lv_at hl 2 rfl) ?_
        refine va_get (D := D) (ci := 10) (v := .ref (a 9)) (C := RX10) (T := TX10) (N := 38) hx hb hts hiX10 hown hE.1 hP 0 mol_0 rfl 9 (by decide) (hts (.fieldLink RX10 31 "FindsOfficeModel" "finder" "[I") (by decide +kernel)) (fun _ h9 => h9) rfl dX10_share_58 ?_
        refine lv_iload_n hx hb dX10_share_61 rfl (lv_at hl 3 rfl) ?_
        refine my_iald (k := k) hx hb hE.1 hP 8 0 mol_9 rfl rfl (by omega) (by decide) dX10_share_62 ?_
        refine lv_iload_n hx hb dX10_share_63 rfl (lv_at hl 4 rfl) ?_
        refine lv_icmp_ne (tgt := 72) hx hb dX10_share_64 (by decide) (fun c_5 => ?_) (fun c_5 => ?_)
        · refine lv_iconst (v := 0) hx hb dX10_share_72 (by decide) ?_
          exact J_73 _ (by simp [c_1, c_2, c_3, c_5]) ls (lv_sub hl [0, 1, 2, 3, 4] rfl)
        · refine lv_iload hx hb dX10_share_67 (lv_at hl 0 rfl) ?_
          refine lv_goto (tgt := 73) hx hb dX10_share_69 (by decide) ?_
          exact J_73 _ (by simp [c_1, c_2, c_3, c_5]) ls (lv_sub hl [0, 1, 2, 3, 4] rfl)
      · refine lv_iconst (v := 0) hx hb dX10_share_23 (by decide) ?_
        exact rw_iret hx hb hr hlocks (dsV_none hk hn1 (cdB_f hI c_3 hk hn1)).symm ⟨_, trivial, hP, hD⟩ hS (Nat.le_of_ble_eq_true rfl) (Nat.le_of_ble_eq_true rfl) dX10_share_24
set_option maxHeartbeats 4000000 in
set_option maxRecDepth 100000 in
theorem c_X10_due (l : Launch) (D : va_G) (cT : Nat → ClassId) (sz : Nat) (a : Nat → Nat) (T : Nat → Nat → Int32) (n : Nat → Nat) (z : Nat → Int32) (pe : Int32) (hn : Cnt n) (hI : InvT T n) : Met l yX10_due wsX10_due ({ frames := 6, cells := 0, slots := 0, locals := 139 }) (va_Pc [.ref (a 0), .int pe] (PW D cT (modW cT a T n z) sz)) (QW (some (.int (duV T n pe))) ((poM D cT a T n (fun _ => True)) (va_A (modW cT a T n z) sz)) (va_A (modW cT a T n z) sz)) 0 0 (va_A (modW cT a T n z) sz) := by
  refine RW_of (Bp := (poM D cT a T n (fun _ => True))) (by decide) rfl (Nat.le_of_ble_eq_true rfl) ?_
  intro p e s m below meth c A hx hb hr hts hown hlocks hin hml hE hD hA H locs hP hS ls hl
  have hiX10 : ∀ w ∈ wsX100, w ∈ wsX10_due := by decide +kernel
  have hl : lv_has ls 4 [(0, .ref (a 0)), (1, .int pe)] := hl
  obtain ⟨hn0, hn1, hn2, hn3, hn4⟩ := id hn
  refine lv_iload_n hx hb dX10_due_0 rfl (lv_at hl 1 rfl) ?_
  refine ro_S (As := [.int pe]) (rest := []) ⟨hx, hb, hml, hown, hts⟩ (c_X10_isPerson l D cT pe ) (va_cwS 1 hts gX10_due_X10_isPerson rfl rfl rfl (by decide +kernel) ⟨Nat.le_of_ble_eq_true rfl, Nat.le_of_ble_eq_true rfl⟩) hE va_P_nil  rfl hl.1 rfl (Nat.le_of_ble_eq_true rfl) dX10_due_1 ⟨Nat.zero_le _, Nat.zero_le _⟩ ?_
  refine bi_ne (tgt := 9) hx hb dX10_due_4 (by decide) (fun c_1 => ?_) (fun c_1 => ?_)
  · rw [btw29] at c_1
    obtain ⟨kp, hkp, rfl⟩ := isT_k c_1 (by decide)
    refine lv_aload_n hx hb dX10_due_9 rfl (lv_at hl 0 rfl) ?_
    refine va_get (D := D) (ci := 10) (v := .ref (a 31)) (C := RX10) (T := TX10) (N := 38) hx hb hts hiX10 hown hE.1 hP 0 mol_0 rfl 31 (by decide) (hts (.fieldLink RX10 85 "FindsOfficeModel" "paid" "[I") (by decide +kernel)) (fun _ h9 => h9) rfl dX10_due_10 ?_
    refine lv_iload_n hx hb dX10_due_13 rfl (lv_at hl 1 rfl) ?_
    refine my_iald (k := kp) hx hb hE.1 hP 26 0 mol_31 rfl rfl (by omega) (by decide) dX10_due_14 ?_
    refine lv_ineg hx hb dX10_due_15 ?_
    refine lv_istore_n (lv' := [(2, .int (-(T 31 kp))), (0, .ref (a 0)), (1, .int (nI kp))]) hx hb dX10_due_16 rfl hl (by decide) rfl (fun ls hl => ?_)
    refine lv_iconst (v := 0) hx hb dX10_due_17 (by decide) ?_
    refine lv_istore_n (lv' := [(3, .int 0), (2, .int (-(T 31 kp))), (0, .ref (a 0)), (1, .int (nI kp))]) hx hb dX10_due_18 rfl hl (by decide) rfl (fun ls hl => ?_)
    have loop_19 : ∀ (fuel_19 : Nat) (j : Nat) (v : Int32) (zz : Nat → Int32), j ≤ n 1 → v = duS T n (nI kp) j → n 1 - j < fuel_19 → ∀ (H : Heap) (locs : List Loc), va_P D vwCl (modW cT a T n zz) H → va_D A (modW cT a T n zz) → va_S A s.heap H locs → ∀ (ls : Array Slot), lv_has ls 4 [(0, .ref (a 0)), (1, .int (nI kp)), (2, .int v), (3, .int (nI j))] → W p l e ({ frames := 6, cells := 0, slots := 0, locals := 139 }) s m (List.toArray [.ref (a 0), .int (nI kp)]) below meth c H locs 0 0 (MQ below (QW (some (.int (duV T n (nI kp)))) ((poM D cT a T n (fun _ => True)) A) A) (List.toArray [.ref (a 0), .int (nI kp)]) s 0 0 A) (F0 m 19 ls []) := by
      intro fuel_19
      induction fuel_19 with
      | zero => intro j v zz hj hv hfuel_19; exact absurd hfuel_19 (Nat.not_lt_zero _)
      | succ fuel_19 ih_19 =>
        intro j v zz hj hv hfuel_19 H locs hP hD hS ls hl
        refine lv_iload_n hx hb dX10_due_19 rfl (lv_at hl 3 rfl) ?_
        refine lv_aload_n hx hb dX10_due_20 rfl (lv_at hl 0 rfl) ?_
        refine va_get (D := D) (ci := 10) (v := .int (nI (n 1))) (C := RX10) (T := TX10) (N := 38) hx hb hts hiX10 hown hE.1 hP 0 mol_0 rfl 1 (by decide) (hts (.fieldLink RX10 106 "FindsOfficeModel" "finds" "I") (by decide +kernel)) (fun _ h9 => h9) rfl dX10_due_21 ?_
        refine lv_icmp_ge (tgt := 42) hx hb dX10_due_24 (by decide) (fun c_2 => ?_) (fun c_2 => ?_)
        · have k_2 := nat_le (a := (n 1)) (b := j) c_2 (by omega) (by omega)
          refine lv_iload_n hx hb dX10_due_42 rfl (lv_at hl 2 rfl) ?_
          exact rw_iret hx hb hr hlocks (by rw [duV_at hkp, hv, show j = n 1 by omega]) ⟨_, trivial, hP, hD⟩ hS (Nat.le_of_ble_eq_true rfl) (Nat.le_of_ble_eq_true rfl) dX10_due_43
        · have k_2 := nat_nle (a := (n 1)) (b := j) c_2 (by omega) (by omega)
          refine lv_iload_n hx hb dX10_due_27 rfl (lv_at hl 2 rfl) ?_
          refine lv_aload_n hx hb dX10_due_28 rfl (lv_at hl 0 rfl) ?_
          refine lv_iload_n hx hb dX10_due_29 rfl (lv_at hl 3 rfl) ?_
          refine lv_iload_n hx hb dX10_due_30 rfl (lv_at hl 1 rfl) ?_
          have hF := va_allA hD hS hA
          refine rw_V1 (As := [.int (nI j), .int (nI kp)]) (rest := [.int v]) ⟨hx, hb, hml, hown, hts⟩ (c_X10_share l D cT H.size a T n zz (nI j) (nI kp) hn hI) (cwV 2 hts gX10_due_X10_share rfl rfl rfl (by decide +kernel) ⟨Nat.le_of_ble_eq_true rfl, Nat.le_of_ble_eq_true rfl⟩) hE hP hD hS hA 0 10 mol_0 rfl rfl rfl hl.1 rfl (Nat.le_of_ble_eq_true rfl) dX10_due_31 ⟨Nat.le_of_ble_eq_true rfl, Nat.le_of_ble_eq_true rfl⟩ (fun H locs hB hz1 hk1 hS => ?_)
          obtain ⟨zR, hzR, hP, hD1⟩ := hB
          have hD := hD1.weaken (fun _ q _ h => hF q.1 h)
          refine lv_iadd hx hb dX10_due_34 ?_
          refine lv_istore_n (lv' := [(2, .int (v + (dsV T n (nI j) (nI kp)))), (0, .ref (a 0)), (1, .int (nI kp)), (3, .int (nI j))]) hx hb dX10_due_35 rfl hl (by decide) rfl (fun ls hl => ?_)
          refine lv_iinc (v := nI (j + 1)) (lv' := [(3, .int (nI (j + 1))), (2, .int (v + (dsV T n (nI j) (nI kp)))), (0, .ref (a 0)), (1, .int (nI kp))]) hx hb dX10_due_36 hl (k := 3) rfl (nI_1 _) (by decide) rfl (fun ls hl => ?_)
          refine lv_goto (tgt := 19) hx hb dX10_due_39 (by decide) ?_
          exact ih_19 (j + 1) _ _ (by omega) (by rw [hv, duS]) (by omega) H locs hP hD hS ls (lv_sub hl [2, 3, 1, 0] rfl)
    exact loop_19 _ 0 _ z (by omega) (by rw [duS, nI_clamp (by omega)]) (Nat.lt_succ_self _) H locs hP hD hS ls (lv_sub hl [2, 3, 1, 0] rfl)
  · rw [btw29] at c_1
    refine lv_iconst (v := 0) hx hb dX10_due_7 (by decide) ?_
    exact rw_iret hx hb hr hlocks (by rw [duV, if_neg (by rw [c_1]; decide)]) ⟨_, trivial, hP, hD⟩ hS (Nat.le_of_ble_eq_true rfl) (Nat.le_of_ble_eq_true rfl) dX10_due_8
set_option maxHeartbeats 4000000 in
set_option maxRecDepth 100000 in
theorem c_X10_settle (l : Launch) (D : va_G) (cT : Nat → ClassId) (sz : Nat) (a : Nat → Nat) (T : Nat → Nat → Int32) (n : Nat → Nat) (z : Nat → Int32) (pe : Int32) (hn : Cnt n) (hI : InvT T n) : Met l yX10_settle wsX10_settle ({ frames := 7, cells := 0, slots := 0, locals := 162 }) (va_Pc [.ref (a 0), .int pe] (PW D cT (modW cT a T n z) sz)) (QW (some (.int (duV T n pe))) ((poN D cT a (seT T n pe) n) (va_A (modW cT a T n z) sz)) (va_A (modW cT a T n z) sz)) 0 0 (va_A (modW cT a T n z) sz) := by
  refine RW_of (Bp := (poN D cT a (seT T n pe) n)) (by decide) rfl (Nat.le_of_ble_eq_true rfl) ?_
  intro p e s m below meth c A hx hb hr hts hown hlocks hin hml hE hD hA H locs hP hS ls hl
  have hiX10 : ∀ w ∈ wsX100, w ∈ wsX10_settle := by decide +kernel
  have hl : lv_has ls 3 [(0, .ref (a 0)), (1, .int pe)] := hl
  obtain ⟨hn0, hn1, hn2, hn3, hn4⟩ := id hn
  refine lv_aload_n hx hb dX10_settle_0 rfl (lv_at hl 0 rfl) ?_
  refine lv_iload_n hx hb dX10_settle_1 rfl (lv_at hl 1 rfl) ?_
  have hF := va_allA hD hS hA
  refine rw_V1 (As := [.int pe]) (rest := []) ⟨hx, hb, hml, hown, hts⟩ (c_X10_due l D cT H.size a T n z pe hn hI) (cwV 1 hts gX10_settle_X10_due rfl rfl rfl (by decide +kernel) ⟨Nat.le_of_ble_eq_true rfl, Nat.le_of_ble_eq_true rfl⟩) hE hP hD hS hA 0 10 mol_0 rfl rfl rfl hl.1 rfl (Nat.le_of_ble_eq_true rfl) dX10_settle_2 ⟨Nat.le_of_ble_eq_true rfl, Nat.le_of_ble_eq_true rfl⟩ (fun H locs hB hz1 hk1 hS => ?_)
  obtain ⟨zR, hzR, hP, hD1⟩ := hB
  have hD := hD1.weaken (fun _ q _ h => hF q.1 h)
  refine lv_istore_n (lv' := [(2, .int (duV T n pe)), (0, .ref (a 0)), (1, .int pe)]) hx hb dX10_settle_5 rfl hl (by decide) rfl (fun ls hl => ?_)
  refine lv_iload_n hx hb dX10_settle_6 rfl (lv_at hl 2 rfl) ?_
  refine ro_S (As := [.int pe]) (rest := []) ⟨hx, hb, hml, hown, hts⟩ (c_X10_isPerson l D cT pe ) (va_cwS 1 hts gX10_settle_X10_isPerson rfl rfl rfl (by decide +kernel) ⟨Nat.le_of_ble_eq_true rfl, Nat.le_of_ble_eq_true rfl⟩) hE va_P_nil  rfl hl.1 rfl (Nat.le_of_ble_eq_true rfl) dX10_settle_7 ⟨Nat.zero_le _, Nat.zero_le _⟩ ?_
  refine bi_eq (tgt := 23) hx hb dX10_settle_10 (by decide) (fun c_1 => ?_) (fun c_1 => ?_)
  · rw [btw29] at c_1
    refine lv_iload_n hx hb dX10_settle_23 rfl (lv_at hl 0 rfl) ?_
    exact rw_iret hx hb hr hlocks rfl ⟨_, _, _, ⟨(by rw [seT, if_neg (by rw [c_1]; decide)]), rfl⟩, hP, hD⟩ hS (Nat.le_of_ble_eq_true rfl) (Nat.le_of_ble_eq_true rfl) dX10_settle_24
  · rw [btw29] at c_1
    obtain ⟨kp, hkp, rfl⟩ := isT_k c_1 (by decide)
    refine lv_aload_n hx hb dX10_settle_13 rfl (lv_at hl 1 rfl) ?_
    refine va_get (D := D) (ci := 10) (v := .ref (a 31)) (C := RX10) (T := TX10) (N := 38) hx hb hts hiX10 hown hE.1 hP 0 mol_0 rfl 31 (by decide) (hts (.fieldLink RX10 85 "FindsOfficeModel" "paid" "[I") (by decide +kernel)) (fun _ h9 => h9) rfl dX10_settle_14 ?_
    refine lv_iload_n hx hb dX10_settle_17 rfl (lv_at hl 2 rfl) ?_
    refine lv_dup2_11 hx hb dX10_settle_18 rfl rfl ?_
    refine my_iald (k := kp) hx hb hE.1 hP 26 0 mol_31 rfl rfl (by omega) (by decide) dX10_settle_19 ?_
    refine lv_iload_n hx hb dX10_settle_20 rfl (lv_at hl 0 rfl) ?_
    refine lv_iadd hx hb dX10_settle_21 ?_
    refine my_iast (k := kp) hx hb hE.1 hP hD hS 26 0 mol_31 rfl rfl (by omega) (by decide) dX10_settle_22 (fun H locs hP hD hS => ?_)
    rw [mos_31] at hP hD
    refine lv_iload_n hx hb dX10_settle_23 rfl (lv_at hl 0 rfl) ?_
    exact rw_iret hx hb hr hlocks rfl ⟨_, _, _, ⟨(by rw [seT, if_pos (isT_nI hkp (by decide)), nI_clamp (by omega)]), rfl⟩, hP, hD⟩ hS (Nat.le_of_ble_eq_true rfl) (Nat.le_of_ble_eq_true rfl) dX10_settle_24
set_option maxHeartbeats 4000000 in
set_option maxRecDepth 100000 in
theorem c_X10_count (l : Launch) (D : va_G) (cT : Nat → ClassId) (sz : Nat) (a : Nat → Nat) (T : Nat → Nat → Int32) (n : Nat → Nat) (z : Nat → Int32) (what : Int32) (hn : Cnt n) (hI : InvT T n) : Met l yX10_count wsX10_count ({ frames := 5, cells := 0, slots := 0, locals := 115 }) (va_Pc [.ref (a 0), .int what] (PW D cT (modW cT a T n z) sz)) (QW (some (.int (coV T n what))) ((poM D cT a T n (fun _ => True)) (va_A (modW cT a T n z) sz)) (va_A (modW cT a T n z) sz)) 0 0 (va_A (modW cT a T n z) sz) := by
  refine RW_of (Bp := (poM D cT a T n (fun _ => True))) (by decide) rfl (Nat.le_of_ble_eq_true rfl) ?_
  intro p e s m below meth c A hx hb hr hts hown hlocks hin hml hE hD hA H locs hP hS ls hl
  have hiX10 : ∀ w ∈ wsX100, w ∈ wsX10_count := by decide +kernel
  have hl : lv_has ls 4 [(0, .ref (a 0)), (1, .int what)] := hl
  obtain ⟨hn0, hn1, hn2, hn3, hn4⟩ := id hn
  refine lv_iconst (v := 0) hx hb dX10_count_0 (by decide) ?_
  refine lv_istore_n (lv' := [(2, .int 0), (0, .ref (a 0)), (1, .int what)]) hx hb dX10_count_1 rfl hl (by decide) rfl (fun ls hl => ?_)
  refine lv_iload_n hx hb dX10_count_2 rfl (lv_at hl 2 rfl) ?_
  rcases pk_ix what (n := 9) (by decide) with hsw | hsw | ⟨jsw, hjsw, rfl⟩
  · refine lv_tableOut (tgt := 156) hx hb dX10_count_3 (Or.inl (tsw_lo hsw)) (by decide) ?_
    refine lv_iconst (v := (-1)) hx hb dX10_count_156 (by decide) ?_
    exact rw_iret hx hb hr hlocks (by first | exact (coV_lo hsw).symm | exact (coV_hi hsw).symm) ⟨_, trivial, hP, hD⟩ hS (Nat.le_of_ble_eq_true rfl) (Nat.le_of_ble_eq_true rfl) dX10_count_157
  · refine lv_tableOut (tgt := 156) hx hb dX10_count_3 (Or.inr (tsw_hi (n := 8) hsw (by decide))) (by decide) ?_
    refine lv_iconst (v := (-1)) hx hb dX10_count_156 (by decide) ?_
    exact rw_iret hx hb hr hlocks (by first | exact (coV_lo hsw).symm | exact (coV_hi hsw).symm) ⟨_, trivial, hP, hD⟩ hS (Nat.le_of_ble_eq_true rfl) (Nat.le_of_ble_eq_true rfl) dX10_count_157
  · rcases (show jsw = 0 ∨ jsw = 1 ∨ jsw = 2 ∨ jsw = 3 ∨ jsw = 4 ∨ jsw = 5 ∨ jsw = 6 ∨ jsw = 7 ∨ jsw = 8 by omega) with rfl | rfl | rfl | rfl | rfl | rfl | rfl | rfl | rfl
    · refine lv_tableIn (x := nI 0) (off := 49) (tgt := 52) hx hb dX10_count_3 (by decide) (by decide) rfl (by decide) ?_
      refine lv_aload_n hx hb dX10_count_52 rfl (lv_at hl 1 rfl) ?_
      refine va_get (D := D) (ci := 10) (v := .int (T 0 0)) (C := RX10) (T := TX10) (N := 38) hx hb hts hiX10 hown hE.1 hP 0 mol_0 rfl 0 (by decide) (hts (.fieldLink RX10 113 "FindsOfficeModel" "now" "I") (by decide +kernel)) (fun _ h9 => h9) rfl dX10_count_53 ?_
      exact rw_iret hx hb hr hlocks rfl ⟨_, trivial, hP, hD⟩ hS (Nat.le_of_ble_eq_true rfl) (Nat.le_of_ble_eq_true rfl) dX10_count_56
    · refine lv_tableIn (x := nI 1) (off := 54) (tgt := 57) hx hb dX10_count_3 (by decide) (by decide) rfl (by decide) ?_
      refine lv_aload_n hx hb dX10_count_57 rfl (lv_at hl 1 rfl) ?_
      refine va_get (D := D) (ci := 10) (v := .int (nI (n 1))) (C := RX10) (T := TX10) (N := 38) hx hb hts hiX10 hown hE.1 hP 0 mol_0 rfl 1 (by decide) (hts (.fieldLink RX10 106 "FindsOfficeModel" "finds" "I") (by decide +kernel)) (fun _ h9 => h9) rfl dX10_count_58 ?_
      exact rw_iret hx hb hr hlocks rfl ⟨_, trivial, hP, hD⟩ hS (Nat.le_of_ble_eq_true rfl) (Nat.le_of_ble_eq_true rfl) dX10_count_61
    · refine lv_tableIn (x := nI 2) (off := 59) (tgt := 62) hx hb dX10_count_3 (by decide) (by decide) rfl (by decide) ?_
      refine lv_iconst (v := 0) hx hb dX10_count_62 (by decide) ?_
      refine lv_istore_n (lv' := [(3, .int 0), (2, .int 0), (0, .ref (a 0)), (1, .int (nI 2))]) hx hb dX10_count_63 rfl hl (by decide) rfl (fun ls hl => ?_)
      have loop_64 : ∀ (fuel_64 : Nat) (j : Nat) (v : Int32) (zz : Nat → Int32), j ≤ n 1 → v = nI (hcN T n j) → n 1 - j < fuel_64 → ∀ (H : Heap) (locs : List Loc), va_P D vwCl (modW cT a T n zz) H → va_D A (modW cT a T n zz) → va_S A s.heap H locs → ∀ (ls : Array Slot), lv_has ls 4 [(0, .ref (a 0)), (1, .int (nI 2)), (2, .int v), (3, .int (nI j))] → W p l e ({ frames := 5, cells := 0, slots := 0, locals := 115 }) s m (List.toArray [.ref (a 0), .int (nI 2)]) below meth c H locs 0 0 (MQ below (QW (some (.int (coV T n (nI 2)))) ((poM D cT a T n (fun _ => True)) A) A) (List.toArray [.ref (a 0), .int (nI 2)]) s 0 0 A) (F0 m 64 ls []) := by
        intro fuel_64
        induction fuel_64 with
        | zero => intro j v zz hj hv hfuel_64; exact absurd hfuel_64 (Nat.not_lt_zero _)
        | succ fuel_64 ih_64 =>
          intro j v zz hj hv hfuel_64 H locs hP hD hS ls hl
          refine lv_iload_n hx hb dX10_count_64 rfl (lv_at hl 3 rfl) ?_
          refine lv_aload_n hx hb dX10_count_65 rfl (lv_at hl 0 rfl) ?_
          refine va_get (D := D) (ci := 10) (v := .int (nI (n 1))) (C := RX10) (T := TX10) (N := 38) hx hb hts hiX10 hown hE.1 hP 0 mol_0 rfl 1 (by decide) (hts (.fieldLink RX10 106 "FindsOfficeModel" "finds" "I") (by decide +kernel)) (fun _ h9 => h9) rfl dX10_count_66 ?_
          refine lv_icmp_ge (tgt := 95) hx hb dX10_count_69 (by decide) (fun c_1 => ?_) (fun c_1 => ?_)
          · have k_1 := nat_le (a := (n 1)) (b := j) c_1 (by omega) (by omega)
            refine lv_iload_n hx hb dX10_count_95 rfl (lv_at hl 2 rfl) ?_
            exact rw_iret hx hb hr hlocks (by rw [hv, show j = n 1 by omega]; rfl) ⟨_, trivial, hP, hD⟩ hS (Nat.le_of_ble_eq_true rfl) (Nat.le_of_ble_eq_true rfl) dX10_count_96
          · have k_1 := nat_nle (a := (n 1)) (b := j) c_1 (by omega) (by omega)
            refine lv_iload_n hx hb dX10_count_72 rfl (lv_at hl 2 rfl) ?_
            refine lv_aload_n hx hb dX10_count_73 rfl (lv_at hl 0 rfl) ?_
            refine lv_iload_n hx hb dX10_count_74 rfl (lv_at hl 3 rfl) ?_
            have hF := va_allA hD hS hA
            refine rw_V1 (As := [.int (nI j)]) (rest := [.int v]) ⟨hx, hb, hml, hown, hts⟩ (c_X10_hoard l D cT H.size a T n zz (nI j) hn hI) (cwV 1 hts gX10_count_X10_hoard rfl rfl rfl (by decide +kernel) ⟨Nat.le_of_ble_eq_true rfl, Nat.le_of_ble_eq_true rfl⟩) hE hP hD hS hA 0 10 mol_0 rfl rfl rfl hl.1 rfl (Nat.le_of_ble_eq_true rfl) dX10_count_75 ⟨Nat.le_of_ble_eq_true rfl, Nat.le_of_ble_eq_true rfl⟩ (fun H locs hB hz1 hk1 hS => ?_)
            obtain ⟨zR, hzR, hP, hD1⟩ := hB
            have hD := hD1.weaken (fun _ q _ h => hF q.1 h)
            have J_87 : ∀ (jv : Int32), jv = (b2 (decide (hoV T n (nI j) = nI j))) → ∀ (ls : Array Slot), lv_has ls 4 [(0, .ref (a 0)), (1, .int (nI 2)), (2, .int v), (3, .int (nI j))] → W p l e ({ frames := 5, cells := 0, slots := 0, locals := 115 }) s m (List.toArray [.ref (a 0), .int (nI 2)]) below meth c H locs 0 0 (MQ below (QW (some (.int (coV T n (nI 2)))) ((poM D cT a T n (fun _ => True)) A) A) (List.toArray [.ref (a 0), .int (nI 2)]) s 0 0 A) (F0 m 87 ls [.int jv, .int v]) := by
              intro jv hjv ls hl
              subst hjv
              refine lv_iadd hx hb dX10_count_87 ?_
              refine lv_istore_n (lv' := [(2, .int (v + (b2 (decide (hoV T n (nI j) = nI j))))), (0, .ref (a 0)), (1, .int (nI 2)), (3, .int (nI j))]) hx hb dX10_count_88 rfl hl (by decide) rfl (fun ls hl => ?_)
              refine lv_iinc (v := nI (j + 1)) (lv' := [(3, .int (nI (j + 1))), (2, .int (v + (b2 (decide (hoV T n (nI j) = nI j))))), (0, .ref (a 0)), (1, .int (nI 2))]) hx hb dX10_count_89 hl (k := 3) rfl (nI_1 _) (by decide) rfl (fun ls hl => ?_)
              refine lv_goto (tgt := 64) hx hb dX10_count_92 (by decide) ?_
              exact ih_64 (j + 1) _ _ (by omega) (by rw [hv, hcN]; exact sa_step) (by omega) H locs hP hD hS ls (lv_sub hl [2, 3, 1, 0] rfl)
            refine lv_iload_n hx hb dX10_count_78 rfl (lv_at hl 3 rfl) ?_
            refine lv_icmp_ne (tgt := 86) hx hb dX10_count_79 (by decide) (fun c_2 => ?_) (fun c_2 => ?_)
            · refine lv_iconst (v := 0) hx hb dX10_count_86 (by decide) ?_
              exact J_87 _ (by simp [b2, c_2]) ls (lv_sub hl [0, 1, 2, 3] rfl)
            · refine lv_iconst (v := 1) hx hb dX10_count_82 (by decide) ?_
              refine lv_goto (tgt := 87) hx hb dX10_count_83 (by decide) ?_
              exact J_87 _ (by simp [b2, c_2]) ls (lv_sub hl [0, 1, 2, 3] rfl)
      exact loop_64 _ 0 0 z (by omega) rfl (Nat.lt_succ_self _) H locs hP hD hS ls (lv_sub hl [2, 3, 1, 0] rfl)
    · refine lv_tableIn (x := nI 3) (off := 94) (tgt := 97) hx hb dX10_count_3 (by decide) (by decide) rfl (by decide) ?_
      refine lv_aload_n hx hb dX10_count_97 rfl (lv_at hl 1 rfl) ?_
      refine va_get (D := D) (ci := 10) (v := .int (nI (n 0))) (C := RX10) (T := TX10) (N := 38) hx hb hts hiX10 hown hE.1 hP 0 mol_0 rfl 15 (by decide) (hts (.fieldLink RX10 116 "FindsOfficeModel" "laws" "I") (by decide +kernel)) (fun _ h9 => h9) rfl dX10_count_98 ?_
      exact rw_iret hx hb hr hlocks rfl ⟨_, trivial, hP, hD⟩ hS (Nat.le_of_ble_eq_true rfl) (Nat.le_of_ble_eq_true rfl) dX10_count_101
    · refine lv_tableIn (x := nI 4) (off := 99) (tgt := 102) hx hb dX10_count_3 (by decide) (by decide) rfl (by decide) ?_
      refine lv_aload_n hx hb dX10_count_102 rfl (lv_at hl 1 rfl) ?_
      refine va_get (D := D) (ci := 10) (v := .int (nI (n 2))) (C := RX10) (T := TX10) (N := 38) hx hb hts hiX10 hown hE.1 hP 0 mol_0 rfl 26 (by decide) (hts (.fieldLink RX10 161 "FindsOfficeModel" "sales" "I") (by decide +kernel)) (fun _ h9 => h9) rfl dX10_count_103 ?_
      exact rw_iret hx hb hr hlocks rfl ⟨_, trivial, hP, hD⟩ hS (Nat.le_of_ble_eq_true rfl) (Nat.le_of_ble_eq_true rfl) dX10_count_106
    · refine lv_tableIn (x := nI 5) (off := 104) (tgt := 107) hx hb dX10_count_3 (by decide) (by decide) rfl (by decide) ?_
      refine lv_aload_n hx hb dX10_count_107 rfl (lv_at hl 1 rfl) ?_
      refine va_get (D := D) (ci := 10) (v := .int (nI (n 3))) (C := RX10) (T := TX10) (N := 38) hx hb hts hiX10 hown hE.1 hP 0 mol_0 rfl 32 (by decide) (hts (.fieldLink RX10 184 "FindsOfficeModel" "museums" "I") (by decide +kernel)) (fun _ h9 => h9) rfl dX10_count_108 ?_
      exact rw_iret hx hb hr hlocks rfl ⟨_, trivial, hP, hD⟩ hS (Nat.le_of_ble_eq_true rfl) (Nat.le_of_ble_eq_true rfl) dX10_count_111
    · refine lv_tableIn (x := nI 6) (off := 109) (tgt := 112) hx hb dX10_count_3 (by decide) (by decide) rfl (by decide) ?_
      refine lv_aload_n hx hb dX10_count_112 rfl (lv_at hl 1 rfl) ?_
      refine va_get (D := D) (ci := 10) (v := .int (T 14 0)) (C := RX10) (T := TX10) (N := 38) hx hb hts hiX10 hown hE.1 hP 0 mol_0 rfl 14 (by decide) (hts (.fieldLink RX10 130 "FindsOfficeModel" "partings" "I") (by decide +kernel)) (fun _ h9 => h9) rfl dX10_count_113 ?_
      exact rw_iret hx hb hr hlocks rfl ⟨_, trivial, hP, hD⟩ hS (Nat.le_of_ble_eq_true rfl) (Nat.le_of_ble_eq_true rfl) dX10_count_116
    · refine lv_tableIn (x := nI 7) (off := 114) (tgt := 117) hx hb dX10_count_3 (by decide) (by decide) rfl (by decide) ?_
      refine lv_iconst (v := 0) hx hb dX10_count_117 (by decide) ?_
      refine lv_istore_n (lv' := [(3, .int 0), (2, .int 0), (0, .ref (a 0)), (1, .int (nI 7))]) hx hb dX10_count_118 rfl hl (by decide) rfl (fun ls hl => ?_)
      have loop_119 : ∀ (fuel_119 : Nat) (j : Nat) (v : Int32) (zz : Nat → Int32), j ≤ n 1 → v = nI (tcN T n j) → n 1 - j < fuel_119 → ∀ (H : Heap) (locs : List Loc), va_P D vwCl (modW cT a T n zz) H → va_D A (modW cT a T n zz) → va_S A s.heap H locs → ∀ (ls : Array Slot), lv_has ls 4 [(0, .ref (a 0)), (1, .int (nI 7)), (2, .int v), (3, .int (nI j))] → W p l e ({ frames := 5, cells := 0, slots := 0, locals := 115 }) s m (List.toArray [.ref (a 0), .int (nI 7)]) below meth c H locs 0 0 (MQ below (QW (some (.int (coV T n (nI 7)))) ((poM D cT a T n (fun _ => True)) A) A) (List.toArray [.ref (a 0), .int (nI 7)]) s 0 0 A) (F0 m 119 ls []) := by
        intro fuel_119
        induction fuel_119 with
        | zero => intro j v zz hj hv hfuel_119; exact absurd hfuel_119 (Nat.not_lt_zero _)
        | succ fuel_119 ih_119 =>
          intro j v zz hj hv hfuel_119 H locs hP hD hS ls hl
          refine lv_iload_n hx hb dX10_count_119 rfl (lv_at hl 3 rfl) ?_
          refine lv_aload_n hx hb dX10_count_120 rfl (lv_at hl 0 rfl) ?_
          refine va_get (D := D) (ci := 10) (v := .int (nI (n 1))) (C := RX10) (T := TX10) (N := 38) hx hb hts hiX10 hown hE.1 hP 0 mol_0 rfl 1 (by decide) (hts (.fieldLink RX10 106 "FindsOfficeModel" "finds" "I") (by decide +kernel)) (fun _ h9 => h9) rfl dX10_count_121 ?_
          refine lv_icmp_ge (tgt := 149) hx hb dX10_count_124 (by decide) (fun c_3 => ?_) (fun c_3 => ?_)
          · have k_3 := nat_le (a := (n 1)) (b := j) c_3 (by omega) (by omega)
            refine lv_iload_n hx hb dX10_count_149 rfl (lv_at hl 2 rfl) ?_
            exact rw_iret hx hb hr hlocks (by rw [hv, show j = n 1 by omega]; rfl) ⟨_, trivial, hP, hD⟩ hS (Nat.le_of_ble_eq_true rfl) (Nat.le_of_ble_eq_true rfl) dX10_count_150
          · have k_3 := nat_nle (a := (n 1)) (b := j) c_3 (by omega) (by omega)
            refine lv_iload_n hx hb dX10_count_127 rfl (lv_at hl 2 rfl) ?_
            refine lv_aload_n hx hb dX10_count_128 rfl (lv_at hl 0 rfl) ?_
            refine lv_iload_n hx hb dX10_count_129 rfl (lv_at hl 3 rfl) ?_
            have hF := va_allA hD hS hA
            refine rw_V1 (As := [.int (nI j)]) (rest := [.int v]) ⟨hx, hb, hml, hown, hts⟩ (c_X10_counts l D cT H.size a T n zz (nI j) hn hI) (cwV 1 hts gX10_count_X10_counts rfl rfl rfl (by decide +kernel) ⟨Nat.le_of_ble_eq_true rfl, Nat.le_of_ble_eq_true rfl⟩) hE hP hD hS hA 0 10 mol_0 rfl rfl rfl hl.1 rfl (Nat.le_of_ble_eq_true rfl) dX10_count_130 ⟨Nat.le_of_ble_eq_true rfl, Nat.le_of_ble_eq_true rfl⟩ (fun H locs hB hz1 hk1 hS => ?_)
            obtain ⟨zR, hzR, hP, hD1⟩ := hB
            have hD := hD1.weaken (fun _ q _ h => hF q.1 h)
            have J_141 : ∀ (jv : Int32), jv = (b2 (cdB T n (nI j) (T 0 0))) → ∀ (ls : Array Slot), lv_has ls 4 [(0, .ref (a 0)), (1, .int (nI 7)), (2, .int v), (3, .int (nI j))] → W p l e ({ frames := 5, cells := 0, slots := 0, locals := 115 }) s m (List.toArray [.ref (a 0), .int (nI 7)]) below meth c H locs 0 0 (MQ below (QW (some (.int (coV T n (nI 7)))) ((poM D cT a T n (fun _ => True)) A) A) (List.toArray [.ref (a 0), .int (nI 7)]) s 0 0 A) (F0 m 141 ls [.int jv, .int v]) := by
              intro jv hjv ls hl
              subst hjv
              refine lv_iadd hx hb dX10_count_141 ?_
              refine lv_istore_n (lv' := [(2, .int (v + (b2 (cdB T n (nI j) (T 0 0))))), (0, .ref (a 0)), (1, .int (nI 7)), (3, .int (nI j))]) hx hb dX10_count_142 rfl hl (by decide) rfl (fun ls hl => ?_)
              refine lv_iinc (v := nI (j + 1)) (lv' := [(3, .int (nI (j + 1))), (2, .int (v + (b2 (cdB T n (nI j) (T 0 0))))), (0, .ref (a 0)), (1, .int (nI 7))]) hx hb dX10_count_143 hl (k := 3) rfl (nI_1 _) (by decide) rfl (fun ls hl => ?_)
              refine lv_goto (tgt := 119) hx hb dX10_count_146 (by decide) ?_
              exact ih_119 (j + 1) _ _ (by omega) (by rw [hv, tcN]; exact sb_step) (by omega) H locs hP hD hS ls (lv_sub hl [2, 3, 1, 0] rfl)
            refine bi_eq (tgt := 140) hx hb dX10_count_133 (by decide) (fun c_4 => ?_) (fun c_4 => ?_)
            · refine lv_iconst (v := 0) hx hb dX10_count_140 (by decide) ?_
              exact J_141 _ (by simp [b2, c_4]) ls (lv_sub hl [0, 1, 2, 3] rfl)
            · refine lv_iconst (v := 1) hx hb dX10_count_136 (by decide) ?_
              refine lv_goto (tgt := 141) hx hb dX10_count_137 (by decide) ?_
              exact J_141 _ (by simp [b2, c_4]) ls (lv_sub hl [0, 1, 2, 3] rfl)
      exact loop_119 _ 0 0 z (by omega) rfl (Nat.lt_succ_self _) H locs hP hD hS ls (lv_sub hl [2, 3, 1, 0] rfl)
    · refine lv_tableIn (x := nI 8) (off := 148) (tgt := 151) hx hb dX10_count_3 (by decide) (by decide) rfl (by decide) ?_
      refine lv_aload_n hx hb dX10_count_151 rfl (lv_at hl 1 rfl) ?_
      refine ro_V (As := []) (rest := []) ⟨hx, hb, hml, hown, hts⟩ (c_X10_turn l D cT a T n z hn hI.2.2.2.2.2.2.2.2) (cwV 0 hts gX10_count_X10_turn rfl rfl rfl (by decide +kernel) ⟨Nat.le_of_ble_eq_true rfl, Nat.le_of_ble_eq_true rfl⟩) hE hP 0 10 mol_0 rfl rfl rfl hl.1 rfl (Nat.le_of_ble_eq_true rfl) dX10_count_152 ⟨Nat.zero_le _, Nat.zero_le _⟩ ?_
      exact rw_iret hx hb hr hlocks rfl ⟨_, trivial, hP, hD⟩ hS (Nat.le_of_ble_eq_true rfl) (Nat.le_of_ble_eq_true rfl) dX10_count_155
set_option maxHeartbeats 4000000 in
set_option maxRecDepth 100000 in
theorem c_X10_offer (l : Launch) (D : va_G) (cT : Nat → ClassId) (sz : Nat) (a : Nat → Nat) (T : Nat → Nat → Int32) (n : Nat → Nat) (z : Nat → Int32) (i : Int32) (hn : Cnt n) (hI : InvT T n) : Met l yX10_offer wsX10_offer ({ frames := 5, cells := 0, slots := 0, locals := 115 }) (va_Pc [.ref (a 0), .int i] (PW D cT (modW cT a T n z) sz)) (QW (some (.int (oI (ofR T n i)))) ((poN D cT a (ofT T n i) n) (va_A (modW cT a T n z) sz)) (va_A (modW cT a T n z) sz)) 0 0 (va_A (modW cT a T n z) sz) := by
  refine RW_of (Bp := (poN D cT a (ofT T n i) n)) (by decide) rfl (Nat.le_of_ble_eq_true rfl) ?_
  intro p e s m below meth c A hx hb hr hts hown hlocks hin hml hE hD hA H locs hP hS ls hl
  have hiX10 : ∀ w ∈ wsX100, w ∈ wsX10_offer := by decide +kernel
  have hl : lv_has ls 6 [(0, .ref (a 0)), (1, .int i)] := hl
  obtain ⟨hn0, hn1, hn2, hn3, hn4⟩ := id hn
  refine lv_aload_n hx hb dX10_offer_0 rfl (lv_at hl 0 rfl) ?_
  refine lv_iload_n hx hb dX10_offer_1 rfl (lv_at hl 1 rfl) ?_
  refine ro_V (As := [.int i]) (rest := []) ⟨hx, hb, hml, hown, hts⟩ (c_X10_isFind l D cT a T n z i hn) (cwV 1 hts gX10_offer_X10_isFind rfl rfl rfl (by decide +kernel) ⟨Nat.le_of_ble_eq_true rfl, Nat.le_of_ble_eq_true rfl⟩) hE hP 0 10 mol_0 rfl rfl rfl hl.1 rfl (Nat.le_of_ble_eq_true rfl) dX10_offer_2 ⟨Nat.zero_le _, Nat.zero_le _⟩ ?_
  refine bi_eq (tgt := 26) hx hb dX10_offer_5 (by decide) (fun c_1 => ?_) (fun c_1 => ?_)
  · refine lv_iconst (v := (-1)) hx hb dX10_offer_26 (by decide) ?_
    exact rw_iret hx hb hr hlocks (by rw [ofR_no (by simp [ofB, c_1])]; rfl) ⟨_, _, _, ⟨(ofT_no (ofR_no (by simp [ofB, c_1]))).symm, rfl⟩, hP, hD⟩ hS (Nat.le_of_ble_eq_true rfl) (Nat.le_of_ble_eq_true rfl) dX10_offer_27
  · obtain ⟨k, hk, rfl⟩ := isT_k c_1 (by omega)
    refine lv_aload_n hx hb dX10_offer_8 rfl (lv_at hl 0 rfl) ?_
    refine va_get (D := D) (ci := 10) (v := .ref (a 12)) (C := RX10) (T := TX10) (N := 38) hx hb hts hiX10 hown hE.1 hP 0 mol_0 rfl 12 (by decide) (hts (.fieldLink RX10 40 "FindsOfficeModel" "museumOf" "[I") (by decide +kernel)) (fun _ h9 => h9) rfl dX10_offer_9 ?_
    refine lv_iload_n hx hb dX10_offer_12 rfl (lv_at hl 1 rfl) ?_
    refine my_iald (k := k) hx hb hE.1 hP 11 0 mol_12 rfl rfl (by omega) (by decide) dX10_offer_13 ?_
    refine lv_iconst (v := (-1)) hx hb dX10_offer_14 (by decide) ?_
    refine lv_icmp_ne (tgt := 26) hx hb dX10_offer_15 (by decide) (fun c_2 => ?_) (fun c_2 => ?_)
    · refine lv_iconst (v := (-1)) hx hb dX10_offer_26 (by decide) ?_
      exact rw_iret hx hb hr hlocks (by rw [ofR_no (by rw [ofB_at hk hn1]; simp [c_2])]; rfl) ⟨_, _, _, ⟨(ofT_no (ofR_no (by rw [ofB_at hk hn1]; simp [c_2]))).symm, rfl⟩, hP, hD⟩ hS (Nat.le_of_ble_eq_true rfl) (Nat.le_of_ble_eq_true rfl) dX10_offer_27
    · refine lv_aload_n hx hb dX10_offer_18 rfl (lv_at hl 0 rfl) ?_
      refine lv_iload_n hx hb dX10_offer_19 rfl (lv_at hl 1 rfl) ?_
      have hF := va_allA hD hS hA
      refine rw_V1 (As := [.int (nI k)]) (rest := []) ⟨hx, hb, hml, hown, hts⟩ (c_X10_counts l D cT H.size a T n z (nI k) hn hI) (cwV 1 hts gX10_offer_X10_counts rfl rfl rfl (by decide +kernel) ⟨Nat.le_of_ble_eq_true rfl, Nat.le_of_ble_eq_true rfl⟩) hE hP hD hS hA 0 10 mol_0 rfl rfl rfl hl.1 rfl (Nat.le_of_ble_eq_true rfl) dX10_offer_20 ⟨Nat.le_of_ble_eq_true rfl, Nat.le_of_ble_eq_true rfl⟩ (fun H locs hB hz1 hk1 hS => ?_)
      obtain ⟨zR, hzR, hP, hD1⟩ := hB
      have hD := hD1.weaken (fun _ q _ h => hF q.1 h)
      refine bi_ne (tgt := 28) hx hb dX10_offer_23 (by decide) (fun c_3 => ?_) (fun c_3 => ?_)
      · refine lv_aload_n hx hb dX10_offer_28 rfl (lv_at hl 0 rfl) ?_
        refine lv_iload_n hx hb dX10_offer_29 rfl (lv_at hl 1 rfl) ?_
        refine ro_V (As := [.int (nI k)]) (rest := []) ⟨hx, hb, hml, hown, hts⟩ (c_X10_worth l D cT a T n zR (nI k) hn hI) (cwV 1 hts gX10_offer_X10_worth rfl rfl rfl (by decide +kernel) ⟨Nat.le_of_ble_eq_true rfl, Nat.le_of_ble_eq_true rfl⟩) hE hP 0 10 mol_0 rfl rfl rfl hl.1 rfl (Nat.le_of_ble_eq_true rfl) dX10_offer_30 ⟨Nat.zero_le _, Nat.zero_le _⟩ ?_
        refine topi_eq (wrV_at hk hn1) ?_
        refine lv_istore_n (lv' := [(2, .int (worV T n k)), (0, .ref (a 0)), (1, .int (nI k))]) hx hb dX10_offer_33 rfl hl (by decide) rfl (fun ls hl => ?_)
        refine lv_aload_n hx hb dX10_offer_34 rfl (lv_at hl 1 rfl) ?_
        refine ro_V (As := []) (rest := []) ⟨hx, hb, hml, hown, hts⟩ (c_X10_turn l D cT a T n zR hn hI.2.2.2.2.2.2.2.2) (cwV 0 hts gX10_offer_X10_turn rfl rfl rfl (by decide +kernel) ⟨Nat.le_of_ble_eq_true rfl, Nat.le_of_ble_eq_true rfl⟩) hE hP 0 10 mol_0 rfl rfl rfl hl.1 rfl (Nat.le_of_ble_eq_true rfl) dX10_offer_35 ⟨Nat.zero_le _, Nat.zero_le _⟩ ?_
        refine lv_istore_n (lv' := [(3, .int (nxV (n 3) (T 36 0))), (2, .int (worV T n k)), (0, .ref (a 0)), (1, .int (nI k))]) hx hb dX10_offer_38 rfl hl (by decide) rfl (fun ls hl => ?_)
        refine lv_iconst (v := 0) hx hb dX10_offer_39 (by decide) ?_
        refine lv_istore (lv' := [(4, .int 0), (3, .int (nxV (n 3) (T 36 0))), (2, .int (worV T n k)), (0, .ref (a 0)), (1, .int (nI k))]) hx hb dX10_offer_40 hl (by decide) rfl (fun ls hl => ?_)
        have loop_42 : ∀ (fuel_42 : Nat) (j : Nat), j ≤ n 3 → ofO T n (T 4 k) (worV T n k) (nxV (n 3) (T 36 0)).toNatClampNeg (n 3 - j) = ofO T n (T 4 k) (worV T n k) (nxV (n 3) (T 36 0)).toNatClampNeg (n 3) → n 3 - j < fuel_42 → ∀ (H : Heap) (locs : List Loc), va_P D vwCl (modW cT a T n zR) H → va_D A (modW cT a T n zR) → va_S A s.heap H locs → ∀ (ls : Array Slot), lv_has ls 6 [(0, .ref (a 0)), (1, .int (nI k)), (2, .int (worV T n k)), (3, .int (nxV (n 3) (T 36 0))), (4, .int (nI j))] → W p l e ({ frames := 5, cells := 0, slots := 0, locals := 115 }) s m (List.toArray [.ref (a 0), .int (nI k)]) below meth c H locs 0 0 (MQ below (QW (some (.int (oI (ofR T n (nI k))))) ((poN D cT a (ofT T n (nI k)) n) A) A) (List.toArray [.ref (a 0), .int (nI k)]) s 0 0 A) (F0 m 42 ls []) := by
          intro fuel_42
          induction fuel_42 with
          | zero => intro j hj hs hfuel_42; exact absurd hfuel_42 (Nat.not_lt_zero _)
          | succ fuel_42 ih_42 =>
            intro j hj hs hfuel_42 H locs hP hD hS ls hl
            refine lv_iload hx hb dX10_offer_42 (lv_at hl 4 rfl) ?_
            refine lv_aload_n hx hb dX10_offer_44 rfl (lv_at hl 0 rfl) ?_
            refine va_get (D := D) (ci := 10) (v := .int (nI (n 3))) (C := RX10) (T := TX10) (N := 38) hx hb hts hiX10 hown hE.1 hP 0 mol_0 rfl 32 (by decide) (hts (.fieldLink RX10 184 "FindsOfficeModel" "museums" "I") (by decide +kernel)) (fun _ h9 => h9) rfl dX10_offer_45 ?_
            refine lv_icmp_ge (tgt := 129) hx hb dX10_offer_48 (by decide) (fun c_4 => ?_) (fun c_4 => ?_)
            · have k_4 := nat_le (a := (n 3)) (b := j) c_4 (by omega) (by omega)
              refine lv_iconst (v := (-1)) hx hb dX10_offer_129 (by decide) ?_
              exact rw_iret hx hb hr hlocks (by rw [ofR_at hk hn1 c_2 c_3, ← hs, show n 3 - j = 0 by omega]; rfl) ⟨_, _, _, ⟨(ofT_no (by rw [ofR_at hk hn1 c_2 c_3, ← hs, show n 3 - j = 0 by omega]; rfl)).symm, rfl⟩, hP, hD⟩ hS (Nat.le_of_ble_eq_true rfl) (Nat.le_of_ble_eq_true rfl) dX10_offer_130
            · have k_4 := nat_nle (a := (n 3)) (b := j) c_4 (by omega) (by omega)
              have hjl : j < n 3 := by omega
              obtain ⟨f, hf, hfe⟩ := nx_nat hn3 hI.2.2.2.2.2.2.2.2.1 hI.2.2.2.2.2.2.2.2.2 (show n 3 ≠ 0 by omega)
              rw [hfe, nI_clamp (show f < 2 ^ 31 by omega)] at hs
              refine lv_iload_n hx hb dX10_offer_51 rfl (lv_at hl 3 rfl) ?_
              refine lv_iload hx hb dX10_offer_52 (lv_at hl 4 rfl) ?_
              refine lv_iadd hx hb dX10_offer_54 ?_
              refine lv_aload_n hx hb dX10_offer_55 rfl (lv_at hl 0 rfl) ?_
              refine va_get (D := D) (ci := 10) (v := .int (nI (n 3))) (C := RX10) (T := TX10) (N := 38) hx hb hts hiX10 hown hE.1 hP 0 mol_0 rfl 32 (by decide) (hts (.fieldLink RX10 184 "FindsOfficeModel" "museums" "I") (by decide +kernel)) (fun _ h9 => h9) rfl dX10_offer_56 ?_
              refine lv_irem hx hb dX10_offer_59 (fun q => absurd (nat_eq (a := n 3) (b := 0) q (by omega) (by decide)) (by omega)) ?_
              refine topi_eq (y := nI ((f + j) % n 3)) (by rw [hfe, nI_add, pk_rem (by omega) (by omega) (by omega)]) ?_
              have hml3 : (f + j) % n 3 < n 3 := Nat.mod_lt _ (by omega)
              refine lv_istore (lv' := [(5, .int (nI ((f + j) % n 3))), (0, .ref (a 0)), (1, .int (nI k)), (2, .int (worV T n k)), (3, .int (nxV (n 3) (T 36 0))), (4, .int (nI j))]) hx hb dX10_offer_60 hl (by decide) rfl (fun ls hl => ?_)
              refine lv_aload_n hx hb dX10_offer_62 rfl (lv_at hl 1 rfl) ?_
              refine va_get (D := D) (ci := 10) (v := .ref (a 33)) (C := RX10) (T := TX10) (N := 38) hx hb hts hiX10 hown hE.1 hP 0 mol_0 rfl 33 (by decide) (hts (.fieldLink RX10 88 "FindsOfficeModel" "takes" "[I") (by decide +kernel)) (fun _ h9 => h9) rfl dX10_offer_63 ?_
              refine lv_iload hx hb dX10_offer_66 (lv_at hl 0 rfl) ?_
              refine my_iald (k := (f + j) % n 3) hx hb hE.1 hP 27 0 mol_33 rfl rfl (by omega) (by decide) dX10_offer_68 ?_
              refine lv_aload_n hx hb dX10_offer_69 rfl (lv_at hl 1 rfl) ?_
              refine va_get (D := D) (ci := 10) (v := .ref (a 4)) (C := RX10) (T := TX10) (N := 38) hx hb hts hiX10 hown hE.1 hP 0 mol_0 rfl 4 (by decide) (hts (.fieldLink RX10 16 "FindsOfficeModel" "metal" "[I") (by decide +kernel)) (fun _ h9 => h9) rfl dX10_offer_70 ?_
              refine lv_iload_n hx hb dX10_offer_73 rfl (lv_at hl 2 rfl) ?_
              refine my_iald (k := k) hx hb hE.1 hP 3 0 mol_4 rfl rfl (by omega) (by decide) dX10_offer_74 ?_
              refine lv_ishr hx hb dX10_offer_75 ?_
              refine lv_iconst (v := 1) hx hb dX10_offer_76 (by decide) ?_
              refine lv_iand hx hb dX10_offer_77 ?_
              refine lv_if_eq (tgt := 123) hx hb dX10_offer_78 (by decide) (fun c_5 => ?_) (fun c_5 => ?_)
              · refine lv_iinc (v := nI (j + 1)) (lv' := [(4, .int (nI (j + 1))), (5, .int (nI ((f + j) % n 3))), (0, .ref (a 0)), (1, .int (nI k)), (2, .int (worV T n k)), (3, .int (nxV (n 3) (T 36 0)))]) hx hb dX10_offer_123 hl (k := 5) rfl (nI_1 _) (by decide) rfl (fun ls hl => ?_)
                refine lv_goto (tgt := 42) hx hb dX10_offer_126 (by decide) ?_
                exact ih_42 (j + 1) (by omega) (by rw [hfe, nI_clamp (show f < 2 ^ 31 by omega), ← hs, of_step hjl, if_neg (by rw [tk_no1 c_5]; decide)]) (by omega) H locs hP hD hS ls (lv_sub hl [2, 3, 4, 5, 0] rfl)
              · refine lv_iload_n hx hb dX10_offer_81 rfl (lv_at hl 3 rfl) ?_
                refine lv_aload_n hx hb dX10_offer_82 rfl (lv_at hl 1 rfl) ?_
                refine va_get (D := D) (ci := 10) (v := .ref (a 34)) (C := RX10) (T := TX10) (N := 38) hx hb hts hiX10 hown hE.1 hP 0 mol_0 rfl 34 (by decide) (hts (.fieldLink RX10 91 "FindsOfficeModel" "most" "[I") (by decide +kernel)) (fun _ h9 => h9) rfl dX10_offer_83 ?_
                refine lv_iload hx hb dX10_offer_86 (lv_at hl 0 rfl) ?_
                refine my_iald (k := (f + j) % n 3) hx hb hE.1 hP 28 0 mol_34 rfl rfl (by omega) (by decide) dX10_offer_88 ?_
                refine lv_icmp_le (tgt := 95) hx hb dX10_offer_89 (by decide) (fun c_6 => ?_) (fun c_6 => ?_)
                · have hres : ofR T n (nI k) = some ((f + j) % n 3) := by rw [ofR_at hk hn1 c_2 c_3, hfe, nI_clamp (show f < 2 ^ 31 by omega), ← hs, of_step hjl, if_pos (tk_yes c_5 c_6)]
                  refine lv_aload_n hx hb dX10_offer_95 rfl (lv_at hl 1 rfl) ?_
                  refine va_get (D := D) (ci := 10) (v := .ref (a 12)) (C := RX10) (T := TX10) (N := 38) hx hb hts hiX10 hown hE.1 hP 0 mol_0 rfl 12 (by decide) (hts (.fieldLink RX10 40 "FindsOfficeModel" "museumOf" "[I") (by decide +kernel)) (fun _ h9 => h9) rfl dX10_offer_96 ?_
                  refine lv_iload_n hx hb dX10_offer_99 rfl (lv_at hl 2 rfl) ?_
                  refine lv_iload hx hb dX10_offer_100 (lv_at hl 0 rfl) ?_
                  refine my_iast (k := k) hx hb hE.1 hP hD hS 11 0 mol_12 rfl rfl (by omega) (by decide) dX10_offer_102 (fun H locs hP hD hS => ?_)
                  rw [mos_12] at hP hD
                  refine lv_aload_n hx hb dX10_offer_103 rfl (lv_at hl 1 rfl) ?_
                  refine va_get (D := D) (ci := 10) (v := .ref (a 35)) (C := RX10) (T := TX10) (N := 38) hx hb hts hiX10 hown hE.1 hP 0 mol_0 rfl 35 (by decide) (hts (.fieldLink RX10 94 "FindsOfficeModel" "spent" "[I") (by decide +kernel)) (fun _ h9 => h9) rfl dX10_offer_104 ?_
                  refine lv_iload hx hb dX10_offer_107 (lv_at hl 0 rfl) ?_
                  refine lv_dup2_11 hx hb dX10_offer_109 rfl rfl ?_
                  refine my_iald (k := (f + j) % n 3) hx hb hE.1 hP 29 0 mol_35 rfl rfl (by omega) (by decide) dX10_offer_110 ?_
                  refine lv_iload_n hx hb dX10_offer_111 rfl (lv_at hl 3 rfl) ?_
                  refine lv_iadd hx hb dX10_offer_112 ?_
                  refine my_iast (k := (f + j) % n 3) hx hb hE.1 hP hD hS 29 0 mol_35 rfl rfl (by omega) (by decide) dX10_offer_113 (fun H locs hP hD hS => ?_)
                  rw [mos_35] at hP hD
                  refine lv_aload_n hx hb dX10_offer_114 rfl (lv_at hl 1 rfl) ?_
                  refine lv_iload hx hb dX10_offer_115 (lv_at hl 0 rfl) ?_
                  refine va_put (D := D) (ci := 10) (v := .int (nI ((f + j) % n 3))) (ty := .int) (C := RX10) (T := TX10) (N := 38) hx hb hts hiX10 tyX10 tyX10_ok nmX10 hown hE.1 hP hD hS 0 mol_0 rfl 36 (by decide) (hts (.fieldLink RX10 97 "FindsOfficeModel" "latest" "I") (by decide +kernel)) (fun _ h9 => h9) rfl (by decide +kernel) rfl rfl (Nat.le_of_ble_eq_true rfl) dX10_offer_117 (fun H locs hP hD hS => ?_)
                  rw [mos_36] at hP hD
                  refine lv_iload hx hb dX10_offer_120 (lv_at hl 0 rfl) ?_
                  exact rw_iret hx hb hr hlocks (by rw [hres]; rfl) ⟨_, _, _, ⟨(ofT_at (by omega) hres).symm, rfl⟩, hP, hD⟩ hS (Nat.le_of_ble_eq_true rfl) (Nat.le_of_ble_eq_true rfl) dX10_offer_122
                · refine lv_goto (tgt := 123) hx hb dX10_offer_92 (by decide) ?_
                  refine lv_iinc (v := nI (j + 1)) (lv' := [(4, .int (nI (j + 1))), (5, .int (nI ((f + j) % n 3))), (0, .ref (a 0)), (1, .int (nI k)), (2, .int (worV T n k)), (3, .int (nxV (n 3) (T 36 0)))]) hx hb dX10_offer_123 hl (k := 5) rfl (nI_1 _) (by decide) rfl (fun ls hl => ?_)
                  refine lv_goto (tgt := 42) hx hb dX10_offer_126 (by decide) ?_
                  exact ih_42 (j + 1) (by omega) (by rw [hfe, nI_clamp (show f < 2 ^ 31 by omega), ← hs, of_step hjl, if_neg (by rw [tk_no2 c_6]; decide)]) (by omega) H locs hP hD hS ls (lv_sub hl [2, 3, 4, 5, 0] rfl)
        exact loop_42 _ 0 (by omega) rfl (Nat.lt_succ_self _) H locs hP hD hS ls (lv_sub hl [3, 4, 2, 1, 0] rfl)
      · refine lv_iconst (v := (-1)) hx hb dX10_offer_26 (by decide) ?_
        exact rw_iret hx hb hr hlocks (by rw [ofR_no (by rw [ofB_at hk hn1]; simp [c_2, c_3])]; rfl) ⟨_, _, _, ⟨(ofT_no (ofR_no (by rw [ofB_at hk hn1]; simp [c_2, c_3]))).symm, rfl⟩, hP, hD⟩ hS (Nat.le_of_ble_eq_true rfl) (Nat.le_of_ble_eq_true rfl) dX10_offer_27
