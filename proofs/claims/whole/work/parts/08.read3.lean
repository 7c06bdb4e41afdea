set_option maxHeartbeats 4000000 in
set_option maxRecDepth 100000 in
theorem c_X9_isPast (l : Launch) (D : va_G) (cT : Nat → ClassId) (a : Nat → Nat) (b : Nat → Nat → Nat) (T P : Nat → Nat → Int32) (n : Nat → Nat) (day : Int32) (hn : Cnt n) : Met l yX9_isPast wsX9_isPast ({ frames := 1, cells := 0, slots := 0, locals := 22 }) (va_Pc [.ref (a 0), .int day] (PB D cT (offW cT a b T P n))) (QR (.int (b2 (btw day 0 (T 0 0))))) 0 0 (fun _ => False) := by
  refine RO_of (by decide) rfl (Nat.le_of_ble_eq_true rfl) ?_
  intro p e s m below meth c hx hb hr hts hown hlocks hml hE hP ls hl
  have hiX9 : ∀ w ∈ wsX90, w ∈ wsX9_isPast := by decide +kernel
  have hl : lv_has ls 2 [(0, .ref (a 0)), (1, .int day)] := hl
  obtain ⟨hn0, hn1, hn2, hn3, hn4⟩ := id hn
  refine lv_iload_n hx hb dX9_isPast_0 rfl (lv_at hl 1 rfl) ?_
  refine lv_iconst (v := 0) hx hb dX9_isPast_1 (by decide) ?_
  refine lv_aload_n hx hb dX9_isPast_2 rfl (lv_at hl 0 rfl) ?_
  refine va_get (D := D) (ci := 9) (v := .int (T 0 0)) (C := RX9) (T := TX9) (N := 7) hx hb hts hiX9 hown hE.1 hP 0 ofl_0 rfl 0 (by decide) (hts (.fieldLink RX9 7 "FindsOffice" "now" "I") (by decide +kernel)) (fun _ h9 => h9) rfl dX9_isPast_3 ?_
  refine ro_S (As := [.int day, .int 0, .int (T 0 0)]) (rest := []) ⟨hx, hb, hml, hown, hts⟩ (c_X9_isBetween l D cT day 0 (T 0 0) ) (va_cwS 3 hts gX9_isPast_X9_isBetween rfl rfl rfl (by decide +kernel) ⟨Nat.le_of_ble_eq_true rfl, Nat.le_of_ble_eq_true rfl⟩) hE va_P_nil  rfl hl.1 rfl (Nat.le_of_ble_eq_true rfl) dX9_isPast_6 ⟨Nat.zero_le _, Nat.zero_le _⟩ ?_
  exact ro_zret hx hb hr hlocks (by first | rfl | (simp [b2, btw]; done)) dX9_isPast_9
set_option maxHeartbeats 4000000 in
set_option maxRecDepth 100000 in
theorem c_X9_landownerOf (l : Launch) (D : va_G) (cT : Nat → ClassId) (a : Nat → Nat) (b : Nat → Nat → Nat) (T P : Nat → Nat → Int32) (n : Nat → Nat) (k : Nat) (hn : Cnt n) (hpos : ∀ k, k < n 4 → ¬ T 23 k < 0) (hk : k < n 1) : Met l yX9_landownerOf wsX9_landownerOf ({ frames := 1, cells := 0, slots := 0, locals := 25 }) (va_Pc [.ref (a 0), .ref (b 1 k)] (PB D cT (offW cT a b T P n))) (QR (.int (lndV T n k))) 0 0 (fun _ => False) := by
  refine RO_of (by decide) rfl (Nat.le_of_ble_eq_true rfl) ?_
  intro p e s m below meth c hx hb hr hts hown hlocks hml hE hP ls hl
  have hiX1 : ∀ w ∈ wsX10, w ∈ wsX9_landownerOf := by decide +kernel
  have hiX9 : ∀ w ∈ wsX90, w ∈ wsX9_landownerOf := by decide +kernel
  have hl : lv_has ls 2 [(0, .ref (a 0)), (1, .ref (b 1 k))] := hl
  obtain ⟨hn0, hn1, hn2, hn3, hn4⟩ := id hn
  refine lv_aload_n hx hb dX9_landownerOf_0 rfl (lv_at hl 0 rfl) ?_
  refine va_get (D := D) (ci := 9) (v := .ref (a 3)) (C := RX9) (T := TX9) (N := 7) hx hb hts hiX9 hown hE.1 hP 0 ofl_0 rfl 2 (by decide) (hts (.fieldLink RX9 23 "FindsOffice" "landBook" "LFindsOffice$LandBook;") (by decide +kernel)) (fun _ h9 => h9) rfl dX9_landownerOf_1 ?_
  refine lv_aload_n hx hb dX9_landownerOf_4 rfl (lv_at hl 1 rfl) ?_
  have hq_1 := off_find (k := k) hP (by omega)
  refine ro_V (As := []) (rest := [.ref (a 3)]) ⟨hx, hb, hml, hown, hts⟩ (c_X1_plot l D cT (b 1 k) (T 2 k) (T 3 k) (T 4 k) (T 5 k) (T 6 k) (T 7 k) (T 8 k) (T 10 k) (T 9 k) (T 11 k) (T 12 k) ) (cwV 0 hts gX9_landownerOf_X1_plot rfl rfl rfl (by decide +kernel) ⟨Nat.le_of_ble_eq_true rfl, Nat.le_of_ble_eq_true rfl⟩) hE hq_1 0 1 rfl rfl rfl rfl hl.1 rfl (Nat.le_of_ble_eq_true rfl) dX9_landownerOf_5 ⟨Nat.zero_le _, Nat.zero_le _⟩ ?_
  refine lv_aload_n hx hb dX9_landownerOf_8 rfl (lv_at hl 1 rfl) ?_
  refine va_get (D := D) (ci := 1) (v := .int (T 10 k)) (C := RX1) (T := TX1) (N := 11) hx hb hts hiX1 hown hE.1 hq_1 0 rfl rfl 7 (by decide) (hts (.fieldLink RX9 109 "FindsOffice$Find" "found" "I") (by decide +kernel)) (fun _ h9 => h9) rfl dX9_landownerOf_9 ?_
  refine ro_V (As := [.int ((T 2 k) / 100 * 10 + (T 3 k) / 100), .int (T 10 k)]) (rest := []) ⟨hx, hb, hml, hown, hts⟩ (c_X3_holderOn l D cT a b T P n ((T 2 k) / 100 * 10 + (T 3 k) / 100) (T 10 k) hn hpos) (cwV 2 hts gX9_landownerOf_X3_holderOn rfl rfl rfl (by decide +kernel) ⟨Nat.le_of_ble_eq_true rfl, Nat.le_of_ble_eq_true rfl⟩) hE hP 3 3 ofl_3 rfl rfl rfl hl.1 rfl (Nat.le_of_ble_eq_true rfl) dX9_landownerOf_12 ⟨Nat.zero_le _, Nat.zero_le _⟩ ?_
  exact ro_iret hx hb hr hlocks rfl dX9_landownerOf_15
set_option maxHeartbeats 4000000 in
set_option maxRecDepth 100000 in
theorem c_X9_worthNow (l : Launch) (D : va_G) (cT : Nat → ClassId) (a : Nat → Nat) (b : Nat → Nat → Nat) (T P : Nat → Nat → Int32) (n : Nat → Nat) (k : Nat) (hn : Cnt n) (hk : k < n 1) : Met l yX9_worthNow wsX9_worthNow ({ frames := 3, cells := 0, slots := 0, locals := 74 }) (va_Pc [.ref (a 0), .ref (b 1 k)] (PB D cT (offW cT a b T P n))) (QR (.int (worV T n k))) 0 0 (fun _ => False) := by
  refine RO_of (by decide) rfl (Nat.le_of_ble_eq_true rfl) ?_
  intro p e s m below meth c hx hb hr hts hown hlocks hml hE hP ls hl
  have hiX1 : ∀ w ∈ wsX10, w ∈ wsX9_worthNow := by decide +kernel
  have hiX9 : ∀ w ∈ wsX90, w ∈ wsX9_worthNow := by decide +kernel
  have hl : lv_has ls 2 [(0, .ref (a 0)), (1, .ref (b 1 k))] := hl
  obtain ⟨hn0, hn1, hn2, hn3, hn4⟩ := id hn
  refine lv_aload_n hx hb dX9_worthNow_0 rfl (lv_at hl 0 rfl) ?_
  refine va_get (D := D) (ci := 9) (v := .ref (a 13)) (C := RX9) (T := TX9) (N := 7) hx hb hts hiX9 hown hE.1 hP 0 ofl_0 rfl 4 (by decide) (hts (.fieldLink RX9 37 "FindsOffice" "market" "LFindsOffice$Market;") (by decide +kernel)) (fun _ h9 => h9) rfl dX9_worthNow_1 ?_
  refine lv_aload_n hx hb dX9_worthNow_4 rfl (lv_at hl 1 rfl) ?_
  have hq_1 := off_find (k := k) hP (by omega)
  refine va_get (D := D) (ci := 1) (v := .int (T 4 k)) (C := RX1) (T := TX1) (N := 11) hx hb hts hiX1 hown hE.1 hq_1 0 rfl rfl 2 (by decide) (hts (.fieldLink RX9 115 "FindsOffice$Find" "metal" "I") (by decide +kernel)) (fun _ h9 => h9) rfl dX9_worthNow_5 ?_
  refine lv_aload_n hx hb dX9_worthNow_8 rfl (lv_at hl 1 rfl) ?_
  refine va_get (D := D) (ci := 1) (v := .int (T 6 k)) (C := RX1) (T := TX1) (N := 11) hx hb hts hiX1 hown hE.1 hq_1 0 rfl rfl 4 (by decide) (hts (.fieldLink RX9 121 "FindsOffice$Find" "weight" "I") (by decide +kernel)) (fun _ h9 => h9) rfl dX9_worthNow_9 ?_
  refine lv_aload_n hx hb dX9_worthNow_12 rfl (lv_at hl 0 rfl) ?_
  refine va_get (D := D) (ci := 9) (v := .int (T 0 0)) (C := RX9) (T := TX9) (N := 7) hx hb hts hiX9 hown hE.1 hP 0 ofl_0 rfl 0 (by decide) (hts (.fieldLink RX9 7 "FindsOffice" "now" "I") (by decide +kernel)) (fun _ h9 => h9) rfl dX9_worthNow_13 ?_
  refine ro_S (As := [.int (T 0 0)]) (rest := [.int (T 6 k), .int (T 4 k), .ref (a 13)]) ⟨hx, hb, hml, hown, hts⟩ (c_X9_yearOf l D cT (T 0 0) ) (va_cwS 1 hts gX9_worthNow_X9_yearOf rfl rfl rfl (by decide +kernel) ⟨Nat.le_of_ble_eq_true rfl, Nat.le_of_ble_eq_true rfl⟩) hE va_P_nil  rfl hl.1 rfl (Nat.le_of_ble_eq_true rfl) dX9_worthNow_16 ⟨Nat.zero_le _, Nat.zero_le _⟩ ?_
  refine ro_V (As := [.int (T 4 k), .int (T 6 k), .int (1950 + (T 0 0) / 365)]) (rest := []) ⟨hx, hb, hml, hown, hts⟩ (c_X6_appraise l D cT a b T P n (T 4 k) (T 6 k) (1950 + (T 0 0) / 365) hn) (cwV 3 hts gX9_worthNow_X6_appraise rfl rfl rfl (by decide +kernel) ⟨Nat.le_of_ble_eq_true rfl, Nat.le_of_ble_eq_true rfl⟩) hE hP 13 6 ofl_13 rfl rfl rfl hl.1 rfl (Nat.le_of_ble_eq_true rfl) dX9_worthNow_19 ⟨Nat.zero_le _, Nat.zero_le _⟩ ?_
  exact ro_iret hx hb hr hlocks rfl dX9_worthNow_22
set_option maxHeartbeats 4000000 in
set_option maxRecDepth 100000 in
theorem c_X9_lawThatCounts (l : Launch) (D : va_G) (cT : Nat → ClassId) (a : Nat → Nat) (b : Nat → Nat → Nat) (T P : Nat → Nat → Int32) (n : Nat → Nat) (i : Int32) (hn : Cnt n) : Met l yX9_lawThatCounts wsX9_lawThatCounts ({ frames := 2, cells := 0, slots := 0, locals := 44 }) (va_Pc [.ref (a 0), .int i] (PB D cT (offW cT a b T P n))) (QR (va_rf ((lctO T P n i).map (b 0)))) 0 0 (fun _ => False) := by
  refine RO_of (by decide) rfl (Nat.le_of_ble_eq_true rfl) ?_
  intro p e s m below meth c hx hb hr hts hown hlocks hml hE hP ls hl
  have hiX1 : ∀ w ∈ wsX10, w ∈ wsX9_lawThatCounts := by decide +kernel
  have hiX9 : ∀ w ∈ wsX90, w ∈ wsX9_lawThatCounts := by decide +kernel
  have hl : lv_has ls 5 [(0, .ref (a 0)), (1, .int i)] := hl
  obtain ⟨hn0, hn1, hn2, hn3, hn4⟩ := id hn
  refine lv_aload_n hx hb dX9_lawThatCounts_0 rfl (lv_at hl 0 rfl) ?_
  refine va_get (D := D) (ci := 9) (v := .ref (a 7)) (C := RX9) (T := TX9) (N := 7) hx hb hts hiX9 hown hE.1 hP 0 ofl_0 rfl 3 (by decide) (hts (.fieldLink RX9 30 "FindsOffice" "findBook" "LFindsOffice$FindBook;") (by decide +kernel)) (fun _ h9 => h9) rfl dX9_lawThatCounts_1 ?_
  refine lv_iload_n hx hb dX9_lawThatCounts_4 rfl (lv_at hl 1 rfl) ?_
  refine ro_V (As := [.int i]) (rest := []) ⟨hx, hb, hml, hown, hts⟩ (c_X2_numbered l D cT a b T P n i hn) (cwV 1 hts gX9_lawThatCounts_X2_numbered rfl rfl rfl (by decide +kernel) ⟨Nat.le_of_ble_eq_true rfl, Nat.le_of_ble_eq_true rfl⟩) hE hP 7 2 ofl_7 rfl rfl rfl hl.1 rfl (Nat.le_of_ble_eq_true rfl) dX9_lawThatCounts_5 ⟨Nat.zero_le _, Nat.zero_le _⟩ ?_
  rcases nuV_cases (b 1) (n 1) i (by omega) with ⟨k1, hk1, rfl, hv1⟩ | ⟨hf1, hv1⟩
  · refine topv_eq hv1 ?_
    refine lv_astore_n (lv' := [(2, .ref (b 1 k1)), (0, .ref (a 0)), (1, .int (nI k1))]) hx hb dX9_lawThatCounts_8 rfl hl (by decide) rfl (fun ls hl => ?_)
    refine lv_aload_n hx hb dX9_lawThatCounts_9 rfl (lv_at hl 1 rfl) ?_
    refine va_get (D := D) (ci := 9) (v := .ref (a 7)) (C := RX9) (T := TX9) (N := 7) hx hb hts hiX9 hown hE.1 hP 0 ofl_0 rfl 3 (by decide) (hts (.fieldLink RX9 30 "FindsOffice" "findBook" "LFindsOffice$FindBook;") (by decide +kernel)) (fun _ h9 => h9) rfl dX9_lawThatCounts_10 ?_
    refine lv_iload_n hx hb dX9_lawThatCounts_13 rfl (lv_at hl 2 rfl) ?_
    refine ro_V (As := [.int (nI k1)]) (rest := []) ⟨hx, hb, hml, hown, hts⟩ (c_X2_hoardSize l D cT a b T P n (nI k1) hn) (cwV 1 hts gX9_lawThatCounts_X2_hoardSize rfl rfl rfl (by decide +kernel) ⟨Nat.le_of_ble_eq_true rfl, Nat.le_of_ble_eq_true rfl⟩) hE hP 7 2 ofl_7 rfl rfl rfl hl.1 rfl (Nat.le_of_ble_eq_true rfl) dX9_lawThatCounts_14 ⟨Nat.zero_le _, Nat.zero_le _⟩ ?_
    refine lv_istore_n (lv' := [(3, .int (hoN (n 1) (P 2) (hoN (n 1) (P 1) (nI k1)))), (2, .ref (b 1 k1)), (0, .ref (a 0)), (1, .int (nI k1))]) hx hb dX9_lawThatCounts_17 rfl hl (by decide) rfl (fun ls hl => ?_)
    refine lv_aload_n hx hb dX9_lawThatCounts_18 rfl (lv_at hl 1 rfl) ?_
    refine lv_ifnull hx hb dX9_lawThatCounts_19 ?_
    refine lv_iload_n hx hb dX9_lawThatCounts_22 rfl (lv_at hl 0 rfl) ?_
    refine lv_iconst (v := (-1)) hx hb dX9_lawThatCounts_23 (by decide) ?_
    refine lv_icmp_ne (tgt := 29) hx hb dX9_lawThatCounts_24 (by decide) (fun c_2 => ?_) (fun c_2 => ?_)
    · refine lv_aload_n hx hb dX9_lawThatCounts_29 rfl (lv_at hl 2 rfl) ?_
      refine va_get (D := D) (ci := 9) (v := .ref (a 1)) (C := RX9) (T := TX9) (N := 7) hx hb hts hiX9 hown hE.1 hP 0 ofl_0 rfl 1 (by decide) (hts (.fieldLink RX9 16 "FindsOffice" "lawBook" "LFindsOffice$LawBook;") (by decide +kernel)) (fun _ h9 => h9) rfl dX9_lawThatCounts_30 ?_
      refine lv_aload_n hx hb dX9_lawThatCounts_33 rfl (lv_at hl 1 rfl) ?_
      have hq_3 := off_find (k := k1) hP (by omega)
      refine va_get (D := D) (ci := 1) (v := .int (T 10 k1)) (C := RX1) (T := TX1) (N := 11) hx hb hts hiX1 hown hE.1 hq_3 0 rfl rfl 7 (by decide) (hts (.fieldLink RX9 109 "FindsOffice$Find" "found" "I") (by decide +kernel)) (fun _ h9 => h9) rfl dX9_lawThatCounts_34 ?_
      refine ro_V (As := [.int (T 10 k1)]) (rest := []) ⟨hx, hb, hml, hown, hts⟩ (c_X5_inForce l D cT a b T P n (T 10 k1) hn) (cwV 1 hts gX9_lawThatCounts_X5_inForce rfl rfl rfl (by decide +kernel) ⟨Nat.le_of_ble_eq_true rfl, Nat.le_of_ble_eq_true rfl⟩) hE hP 1 5 ofl_1 rfl rfl rfl hl.1 rfl (Nat.le_of_ble_eq_true rfl) dX9_lawThatCounts_37 ⟨Nat.zero_le _, Nat.zero_le _⟩ ?_
      rcases ho4 : (ifN T (T 10 k1) (n 0)) with _ | q4
      · refine topv_eq (y := .null) rfl ?_
        refine lv_astoreN (lv' := [(4, .null), (3, .int (hoN (n 1) (P 2) (hoN (n 1) (P 1) (nI k1)))), (2, .ref (b 1 k1)), (0, .ref (a 0)), (1, .int (nI k1))]) hx hb dX9_lawThatCounts_40 hl (by decide) rfl (fun ls hl => ?_)
        refine lv_aloadN hx hb dX9_lawThatCounts_42 (lv_at hl 0 rfl) ?_
        refine lv_ifnullN (tgt := 62) hx hb dX9_lawThatCounts_44 (by decide) ?_
        refine lv_null hx hb dX9_lawThatCounts_62 ?_
        exact ro_aret hx hb hr hlocks (by rw [lctO_at hk1 hn1, ← hoN_at (h := P 1) hk1 (by omega)]; simp [lcO, va_rf, c_2, ho4]) (Or.inl rfl) dX9_lawThatCounts_63
      · refine topv_eq (y := .ref (b 0 q4)) rfl ?_
        have hq4 := ifN_lt ho4
        refine lv_astore (lv' := [(4, .ref (b 0 q4)), (3, .int (hoN (n 1) (P 2) (hoN (n 1) (P 1) (nI k1)))), (2, .ref (b 1 k1)), (0, .ref (a 0)), (1, .int (nI k1))]) hx hb dX9_lawThatCounts_40 hl (by decide) rfl (fun ls hl => ?_)
        refine lv_aload hx hb dX9_lawThatCounts_42 (lv_at hl 0 rfl) ?_
        refine lv_ifnull hx hb dX9_lawThatCounts_44 ?_
        refine lv_aload hx hb dX9_lawThatCounts_47 (lv_at hl 0 rfl) ?_
        refine lv_aload_n hx hb dX9_lawThatCounts_49 rfl (lv_at hl 2 rfl) ?_
        refine lv_iload_n hx hb dX9_lawThatCounts_50 rfl (lv_at hl 1 rfl) ?_
        have hq_5 := off_law (k := q4) hP (by omega)
        refine ro_V (As := [.ref (b 1 k1), .int (hoN (n 1) (P 2) (hoN (n 1) (P 1) (nI k1)))]) (rest := []) ⟨hx, hb, hml, hown, hts⟩ (c_X4_covers l D cT (b 0 q4) (b 1 k1) (T 16 q4) (T 17 q4) (T 18 q4) (T 19 q4) (T 20 q4) (T 2 k1) (T 3 k1) (T 4 k1) (T 5 k1) (T 6 k1) (T 7 k1) (T 8 k1) (T 10 k1) (T 9 k1) (T 11 k1) (T 12 k1) (hoN (n 1) (P 2) (hoN (n 1) (P 1) (nI k1)))) (cwV 2 hts gX9_lawThatCounts_X4_covers rfl rfl rfl (by decide +kernel) ⟨Nat.le_of_ble_eq_true rfl, Nat.le_of_ble_eq_true rfl⟩) hE (va_P.two hq_5 hq_3) 0 4 rfl rfl rfl rfl hl.1 rfl (Nat.le_of_ble_eq_true rfl) dX9_lawThatCounts_51 ⟨Nat.zero_le _, Nat.zero_le _⟩ ?_
        refine bi_eq (tgt := 62) hx hb dX9_lawThatCounts_54 (by decide) (fun c_6 => ?_) (fun c_6 => ?_)
        · refine lv_null hx hb dX9_lawThatCounts_62 ?_
          exact ro_aret hx hb hr hlocks (by rw [lctO_at hk1 hn1, ← hoN_at (h := P 1) hk1 (by omega)]; simp [lcO, va_rf, c_2, ho4, c_6]) (Or.inl rfl) dX9_lawThatCounts_63
        · refine lv_aload hx hb dX9_lawThatCounts_57 (lv_at hl 0 rfl) ?_
          refine lv_goto (tgt := 63) hx hb dX9_lawThatCounts_59 (by decide) ?_
          exact ro_aret hx hb hr hlocks (by rw [lctO_at hk1 hn1, ← hoN_at (h := P 1) hk1 (by omega)]; simp [lcO, va_rf, c_2, ho4, c_6]) (Or.inr ⟨_, rfl⟩) dX9_lawThatCounts_63
    · refine lv_null hx hb dX9_lawThatCounts_27 ?_
      exact ro_aret hx hb hr hlocks (by rw [lctO_at hk1 hn1, ← hoN_at (h := P 1) hk1 (by omega)]; simp [lcO, va_rf, c_2]) (Or.inl rfl) dX9_lawThatCounts_28
  · refine topv_eq hv1 ?_
    refine lv_astore_nN (lv' := [(2, .null), (0, .ref (a 0)), (1, .int i)]) hx hb dX9_lawThatCounts_8 rfl hl (by decide) rfl (fun ls hl => ?_)
    refine lv_aload_n hx hb dX9_lawThatCounts_9 rfl (lv_at hl 1 rfl) ?_
    refine va_get (D := D) (ci := 9) (v := .ref (a 7)) (C := RX9) (T := TX9) (N := 7) hx hb hts hiX9 hown hE.1 hP 0 ofl_0 rfl 3 (by decide) (hts (.fieldLink RX9 30 "FindsOffice" "findBook" "LFindsOffice$FindBook;") (by decide +kernel)) (fun _ h9 => h9) rfl dX9_lawThatCounts_10 ?_
    refine lv_iload_n hx hb dX9_lawThatCounts_13 rfl (lv_at hl 2 rfl) ?_
    refine ro_V (As := [.int i]) (rest := []) ⟨hx, hb, hml, hown, hts⟩ (c_X2_hoardSize l D cT a b T P n i hn) (cwV 1 hts gX9_lawThatCounts_X2_hoardSize rfl rfl rfl (by decide +kernel) ⟨Nat.le_of_ble_eq_true rfl, Nat.le_of_ble_eq_true rfl⟩) hE hP 7 2 ofl_7 rfl rfl rfl hl.1 rfl (Nat.le_of_ble_eq_true rfl) dX9_lawThatCounts_14 ⟨Nat.zero_le _, Nat.zero_le _⟩ ?_
    refine lv_istore_n (lv' := [(3, .int (hoN (n 1) (P 2) (hoN (n 1) (P 1) i))), (2, .null), (0, .ref (a 0)), (1, .int i)]) hx hb dX9_lawThatCounts_17 rfl hl (by decide) rfl (fun ls hl => ?_)
    refine lv_aload_nN hx hb dX9_lawThatCounts_18 rfl (lv_at hl 1 rfl) ?_
    refine lv_ifnullN (tgt := 27) hx hb dX9_lawThatCounts_19 (by decide) ?_
    refine lv_null hx hb dX9_lawThatCounts_27 ?_
    exact ro_aret hx hb hr hlocks (by simp [lctO, va_rf, hf1]) (Or.inl rfl) dX9_lawThatCounts_28
set_option maxHeartbeats 4000000 in
set_option maxRecDepth 100000 in
theorem c_X9_rewardFor (l : Launch) (D : va_G) (cT : Nat → ClassId) (a : Nat → Nat) (b : Nat → Nat → Nat) (T P : Nat → Nat → Int32) (n : Nat → Nat) (i pe : Int32) (hn : Cnt n) (hpos : ∀ k, k < n 4 → ¬ T 23 k < 0) : Met l yX9_rewardFor wsX9_rewardFor ({ frames := 4, cells := 0, slots := 0, locals := 95 }) (va_Pc [.ref (a 0), .int i, .int pe] (PB D cT (offW cT a b T P n))) (QR (.int (rwdV T P n i pe))) 0 0 (fun _ => False) := by
  refine RO_of (by decide) rfl (Nat.le_of_ble_eq_true rfl) ?_
  intro p e s m below meth c hx hb hr hts hown hlocks hml hE hP ls hl
  have hiX1 : ∀ w ∈ wsX10, w ∈ wsX9_rewardFor := by decide +kernel
  have hiX4 : ∀ w ∈ wsX40, w ∈ wsX9_rewardFor := by decide +kernel
  have hiX9 : ∀ w ∈ wsX90, w ∈ wsX9_rewardFor := by decide +kernel
  have hl : lv_has ls 8 [(0, .ref (a 0)), (1, .int i), (2, .int pe)] := hl
  obtain ⟨hn0, hn1, hn2, hn3, hn4⟩ := id hn
  refine lv_aload_n hx hb dX9_rewardFor_0 rfl (lv_at hl 0 rfl) ?_
  refine va_get (D := D) (ci := 9) (v := .ref (a 7)) (C := RX9) (T := TX9) (N := 7) hx hb hts hiX9 hown hE.1 hP 0 ofl_0 rfl 3 (by decide) (hts (.fieldLink RX9 30 "FindsOffice" "findBook" "LFindsOffice$FindBook;") (by decide +kernel)) (fun _ h9 => h9) rfl dX9_rewardFor_1 ?_
  refine lv_iload_n hx hb dX9_rewardFor_4 rfl (lv_at hl 1 rfl) ?_
  refine ro_V (As := [.int i]) (rest := []) ⟨hx, hb, hml, hown, hts⟩ (c_X2_numbered l D cT a b T P n i hn) (cwV 1 hts gX9_rewardFor_X2_numbered rfl rfl rfl (by decide +kernel) ⟨Nat.le_of_ble_eq_true rfl, Nat.le_of_ble_eq_true rfl⟩) hE hP 7 2 ofl_7 rfl rfl rfl hl.1 rfl (Nat.le_of_ble_eq_true rfl) dX9_rewardFor_5 ⟨Nat.zero_le _, Nat.zero_le _⟩ ?_
  rcases nuV_cases (b 1) (n 1) i (by omega) with ⟨k1, hk1, rfl, hv1⟩ | ⟨hf1, hv1⟩
  · refine topv_eq hv1 ?_
    refine lv_astore_n (lv' := [(3, .ref (b 1 k1)), (0, .ref (a 0)), (1, .int (nI k1)), (2, .int pe)]) hx hb dX9_rewardFor_8 rfl hl (by decide) rfl (fun ls hl => ?_)
    refine lv_aload_n hx hb dX9_rewardFor_9 rfl (lv_at hl 1 rfl) ?_
    refine lv_iload_n hx hb dX9_rewardFor_10 rfl (lv_at hl 2 rfl) ?_
    refine ro_V (As := [.int (nI k1)]) (rest := []) ⟨hx, hb, hml, hown, hts⟩ (c_X9_lawThatCounts l D cT a b T P n (nI k1) hn) (cwV 1 hts gX9_rewardFor_X9_lawThatCounts rfl rfl rfl (by decide +kernel) ⟨Nat.le_of_ble_eq_true rfl, Nat.le_of_ble_eq_true rfl⟩) hE hP 0 9 ofl_0 rfl rfl rfl hl.1 rfl (Nat.le_of_ble_eq_true rfl) dX9_rewardFor_11 ⟨Nat.zero_le _, Nat.zero_le _⟩ ?_
    rcases ho2 : (lctO T P n (nI k1)) with _ | q2
    · refine topv_eq (y := .null) rfl ?_
      refine lv_astoreN (lv' := [(4, .null), (3, .ref (b 1 k1)), (0, .ref (a 0)), (1, .int (nI k1)), (2, .int pe)]) hx hb dX9_rewardFor_14 hl (by decide) rfl (fun ls hl => ?_)
      refine lv_aload_n hx hb dX9_rewardFor_16 rfl (lv_at hl 1 rfl) ?_
      refine lv_ifnull hx hb dX9_rewardFor_17 ?_
      refine lv_aloadN hx hb dX9_rewardFor_20 (lv_at hl 0 rfl) ?_
      refine lv_ifnonnullN hx hb dX9_rewardFor_22 ?_
      refine lv_iconst (v := 0) hx hb dX9_rewardFor_25 (by decide) ?_
      exact ro_iret hx hb hr hlocks (by simp [rwdV, isT_nI hk1 (show n 1 < 2 ^ 31 by omega), nI_clamp (show k1 < 2 ^ 31 by omega), shV, ho2]) dX9_rewardFor_26
    · refine topv_eq (y := .ref (b 0 q2)) rfl ?_
      have hq2 := lctO_lt ho2
      refine lv_astore (lv' := [(4, .ref (b 0 q2)), (3, .ref (b 1 k1)), (0, .ref (a 0)), (1, .int (nI k1)), (2, .int pe)]) hx hb dX9_rewardFor_14 hl (by decide) rfl (fun ls hl => ?_)
      refine lv_aload_n hx hb dX9_rewardFor_16 rfl (lv_at hl 1 rfl) ?_
      refine lv_ifnull hx hb dX9_rewardFor_17 ?_
      refine lv_aload hx hb dX9_rewardFor_20 (lv_at hl 0 rfl) ?_
      refine lv_ifnonnull (tgt := 27) hx hb dX9_rewardFor_22 (by decide) ?_
      refine lv_aload_n hx hb dX9_rewardFor_27 rfl (lv_at hl 2 rfl) ?_
      refine lv_aload_n hx hb dX9_rewardFor_28 rfl (lv_at hl 1 rfl) ?_
      refine ro_V (As := [.ref (b 1 k1)]) (rest := []) ⟨hx, hb, hml, hown, hts⟩ (c_X9_worthNow l D cT a b T P n k1 hn (by omega)) (cwV 1 hts gX9_rewardFor_X9_worthNow rfl rfl rfl (by decide +kernel) ⟨Nat.le_of_ble_eq_true rfl, Nat.le_of_ble_eq_true rfl⟩) hE hP 0 9 ofl_0 rfl rfl rfl hl.1 rfl (Nat.le_of_ble_eq_true rfl) dX9_rewardFor_29 ⟨Nat.zero_le _, Nat.zero_le _⟩ ?_
      refine lv_istore (lv' := [(5, .int (worV T n k1)), (4, .ref (b 0 q2)), (3, .ref (b 1 k1)), (0, .ref (a 0)), (1, .int (nI k1)), (2, .int pe)]) hx hb dX9_rewardFor_32 hl (by decide) rfl (fun ls hl => ?_)
      refine lv_iload hx hb dX9_rewardFor_34 (lv_at hl 0 rfl) ?_
      refine lv_aload hx hb dX9_rewardFor_36 (lv_at hl 1 rfl) ?_
      have hq_3 := off_law (k := q2) hP (by omega)
      refine va_get (D := D) (ci := 4) (v := .int (T 19 q2)) (C := RX4) (T := TX4) (N := 5) hx hb hts hiX4 hown hE.1 hq_3 0 rfl rfl 3 (by decide) (hts (.fieldLink RX9 248 "FindsOffice$Law" "percent" "I") (by decide +kernel)) (fun _ h9 => h9) rfl dX9_rewardFor_38 ?_
      refine lv_imul hx hb dX9_rewardFor_41 ?_
      refine lv_bipush (v := 100) hx hb dX9_rewardFor_42 (by decide) ?_
      refine lv_idiv hx hb dX9_rewardFor_44 (by decide) ?_
      refine lv_istore (lv' := [(6, .int (((worV T n k1) * (T 19 q2)) / 100)), (5, .int (worV T n k1)), (4, .ref (b 0 q2)), (3, .ref (b 1 k1)), (0, .ref (a 0)), (1, .int (nI k1)), (2, .int pe)]) hx hb dX9_rewardFor_45 hl (by decide) rfl (fun ls hl => ?_)
      have J_61 : ∀ (jv : Int32), jv = (if T 9 k1 = pe then worV T n k1 * T 19 q2 / 100 else 0) → ∀ (ls : Array Slot), lv_has ls 8 [(6, .int (((worV T n k1) * (T 19 q2)) / 100)), (5, .int (worV T n k1)), (4, .ref (b 0 q2)), (3, .ref (b 1 k1)), (0, .ref (a 0)), (1, .int (nI k1)), (2, .int pe)] → W p l e ({ frames := 4, cells := 0, slots := 0, locals := 95 }) s m (List.toArray [.ref (a 0), .int (nI k1), .int pe]) below meth c s.heap [] 0 0 (MQ below (QR (.int (rwdV T P n (nI k1) pe))) (List.toArray [.ref (a 0), .int (nI k1), .int pe]) s 0 0 (fun _ => False)) (F0 m 61 ls [.int jv]) := by
        intro jv hjv ls hl
        subst hjv
        refine lv_istore (lv' := [(7, .int (if T 9 k1 = pe then worV T n k1 * T 19 q2 / 100 else 0)), (6, .int (((worV T n k1) * (T 19 q2)) / 100)), (5, .int (worV T n k1)), (4, .ref (b 0 q2)), (3, .ref (b 1 k1)), (0, .ref (a 0)), (1, .int (nI k1)), (2, .int pe)]) hx hb dX9_rewardFor_61 hl (by decide) rfl (fun ls hl => ?_)
        refine lv_aload_n hx hb dX9_rewardFor_63 rfl (lv_at hl 5 rfl) ?_
        refine lv_aload_n hx hb dX9_rewardFor_64 rfl (lv_at hl 4 rfl) ?_
        refine ro_V (As := [.ref (b 1 k1)]) (rest := []) ⟨hx, hb, hml, hown, hts⟩ (c_X9_landownerOf l D cT a b T P n k1 hn hpos (by omega)) (cwV 1 hts gX9_rewardFor_X9_landownerOf rfl rfl rfl (by decide +kernel) ⟨Nat.le_of_ble_eq_true rfl, Nat.le_of_ble_eq_true rfl⟩) hE hP 0 9 ofl_0 rfl rfl rfl hl.1 rfl (Nat.le_of_ble_eq_true rfl) dX9_rewardFor_65 ⟨Nat.zero_le _, Nat.zero_le _⟩ ?_
        refine lv_iload_n hx hb dX9_rewardFor_68 rfl (lv_at hl 7 rfl) ?_
        refine lv_icmp_ne (tgt := 83) hx hb dX9_rewardFor_69 (by decide) (fun c_4 => ?_) (fun c_4 => ?_)
        · refine lv_iload hx hb dX9_rewardFor_83 (lv_at hl 0 rfl) ?_
          exact ro_iret hx hb hr hlocks (by simp [rwdV, isT_nI hk1 (show n 1 < 2 ^ 31 by omega), nI_clamp (show k1 < 2 ^ 31 by omega), shV, ho2, c_4]) dX9_rewardFor_85
        · refine lv_iload hx hb dX9_rewardFor_72 (lv_at hl 0 rfl) ?_
          refine lv_iload hx hb dX9_rewardFor_74 (lv_at hl 2 rfl) ?_
          refine lv_iadd hx hb dX9_rewardFor_76 ?_
          refine lv_iload hx hb dX9_rewardFor_77 (lv_at hl 1 rfl) ?_
          refine lv_isub hx hb dX9_rewardFor_79 ?_
          refine lv_goto (tgt := 85) hx hb dX9_rewardFor_80 (by decide) ?_
          exact ro_iret hx hb hr hlocks (by simp [rwdV, isT_nI hk1 (show n 1 < 2 ^ 31 by omega), nI_clamp (show k1 < 2 ^ 31 by omega), shV, ho2, c_4]) dX9_rewardFor_85
      refine lv_aload_n hx hb dX9_rewardFor_47 rfl (lv_at hl 3 rfl) ?_
      have hq_5 := off_find (k := k1) hP (by omega)
      refine va_get (D := D) (ci := 1) (v := .int (T 9 k1)) (C := RX1) (T := TX1) (N := 11) hx hb hts hiX1 hown hE.1 hq_5 0 rfl rfl 8 (by decide) (hts (.fieldLink RX9 130 "FindsOffice$Find" "finder" "I") (by decide +kernel)) (fun _ h9 => h9) rfl dX9_rewardFor_48 ?_
      refine lv_iload_n hx hb dX9_rewardFor_51 rfl (lv_at hl 6 rfl) ?_
      refine lv_icmp_ne (tgt := 60) hx hb dX9_rewardFor_52 (by decide) (fun c_6 => ?_) (fun c_6 => ?_)
      · refine lv_iconst (v := 0) hx hb dX9_rewardFor_60 (by decide) ?_
        exact J_61 _ (by first | rfl | (simp [b2, btw, ho2, c_6]; done)) ls (lv_sub hl [0, 1, 2, 3, 4, 5, 6] rfl)
      · refine lv_iload hx hb dX9_rewardFor_55 (lv_at hl 0 rfl) ?_
        refine lv_goto (tgt := 61) hx hb dX9_rewardFor_57 (by decide) ?_
        exact J_61 _ (by first | rfl | (simp [b2, btw, ho2, c_6]; done)) ls (lv_sub hl [0, 1, 2, 3, 4, 5, 6] rfl)
  · refine topv_eq hv1 ?_
    refine lv_astore_nN (lv' := [(3, .null), (0, .ref (a 0)), (1, .int i), (2, .int pe)]) hx hb dX9_rewardFor_8 rfl hl (by decide) rfl (fun ls hl => ?_)
    refine lv_aload_n hx hb dX9_rewardFor_9 rfl (lv_at hl 1 rfl) ?_
    refine lv_iload_n hx hb dX9_rewardFor_10 rfl (lv_at hl 2 rfl) ?_
    refine ro_V (As := [.int i]) (rest := []) ⟨hx, hb, hml, hown, hts⟩ (c_X9_lawThatCounts l D cT a b T P n i hn) (cwV 1 hts gX9_rewardFor_X9_lawThatCounts rfl rfl rfl (by decide +kernel) ⟨Nat.le_of_ble_eq_true rfl, Nat.le_of_ble_eq_true rfl⟩) hE hP 0 9 ofl_0 rfl rfl rfl hl.1 rfl (Nat.le_of_ble_eq_true rfl) dX9_rewardFor_11 ⟨Nat.zero_le _, Nat.zero_le _⟩ ?_
    rcases ho7 : (lctO T P n i) with _ | q7
    · refine topv_eq (y := .null) rfl ?_
      refine lv_astoreN (lv' := [(4, .null), (3, .null), (0, .ref (a 0)), (1, .int i), (2, .int pe)]) hx hb dX9_rewardFor_14 hl (by decide) rfl (fun ls hl => ?_)
      refine lv_aload_nN hx hb dX9_rewardFor_16 rfl (lv_at hl 1 rfl) ?_
      refine lv_ifnullN (tgt := 25) hx hb dX9_rewardFor_17 (by decide) ?_
      refine lv_iconst (v := 0) hx hb dX9_rewardFor_25 (by decide) ?_
      exact ro_iret hx hb hr hlocks (by simp [rwdV, hf1, ho7]) dX9_rewardFor_26
    · refine topv_eq (y := .ref (b 0 q7)) rfl ?_
      have hq7 := lctO_lt ho7
      refine lv_astore (lv' := [(4, .ref (b 0 q7)), (3, .null), (0, .ref (a 0)), (1, .int i), (2, .int pe)]) hx hb dX9_rewardFor_14 hl (by decide) rfl (fun ls hl => ?_)
      refine lv_aload_nN hx hb dX9_rewardFor_16 rfl (lv_at hl 1 rfl) ?_
      refine lv_ifnullN (tgt := 25) hx hb dX9_rewardFor_17 (by decide) ?_
      refine lv_iconst (v := 0) hx hb dX9_rewardFor_25 (by decide) ?_
      exact ro_iret hx hb hr hlocks (by simp [rwdV, hf1, ho7]) dX9_rewardFor_26
set_option maxHeartbeats 4000000 in
set_option maxRecDepth 100000 in
theorem c_X9_told (l : Launch) (D : va_G) (cT : Nat → ClassId) (a : Nat → Nat) (b : Nat → Nat → Nat) (T P : Nat → Nat → Int32) (n : Nat → Nat) (i what : Int32) (hn : Cnt n) (hpos : ∀ k, k < n 4 → ¬ T 23 k < 0) : Met l yX9_told wsX9_told ({ frames := 2, cells := 0, slots := 0, locals := 46 }) (va_Pc [.ref (a 0), .int i, .int what] (PB D cT (offW cT a b T P n))) (QR (.int (tdV T n i what))) 0 0 (fun _ => False) := by
  refine RO_of (by decide) rfl (Nat.le_of_ble_eq_true rfl) ?_
  intro p e s m below meth c hx hb hr hts hown hlocks hml hE hP ls hl
  have hiX1 : ∀ w ∈ wsX10, w ∈ wsX9_told := by decide +kernel
  have hiX9 : ∀ w ∈ wsX90, w ∈ wsX9_told := by decide +kernel
  have hl : lv_has ls 4 [(0, .ref (a 0)), (1, .int i), (2, .int what)] := hl
  obtain ⟨hn0, hn1, hn2, hn3, hn4⟩ := id hn
  refine lv_aload_n hx hb dX9_told_0 rfl (lv_at hl 0 rfl) ?_
  refine va_get (D := D) (ci := 9) (v := .ref (a 7)) (C := RX9) (T := TX9) (N := 7) hx hb hts hiX9 hown hE.1 hP 0 ofl_0 rfl 3 (by decide) (hts (.fieldLink RX9 30 "FindsOffice" "findBook" "LFindsOffice$FindBook;") (by decide +kernel)) (fun _ h9 => h9) rfl dX9_told_1 ?_
  refine lv_iload_n hx hb dX9_told_4 rfl (lv_at hl 1 rfl) ?_
  refine ro_V (As := [.int i]) (rest := []) ⟨hx, hb, hml, hown, hts⟩ (c_X2_numbered l D cT a b T P n i hn) (cwV 1 hts gX9_told_X2_numbered rfl rfl rfl (by decide +kernel) ⟨Nat.le_of_ble_eq_true rfl, Nat.le_of_ble_eq_true rfl⟩) hE hP 7 2 ofl_7 rfl rfl rfl hl.1 rfl (Nat.le_of_ble_eq_true rfl) dX9_told_5 ⟨Nat.zero_le _, Nat.zero_le _⟩ ?_
  rcases nuV_cases (b 1) (n 1) i (by omega) with ⟨k1, hk1, rfl, hv1⟩ | ⟨hf1, hv1⟩
  · refine topv_eq hv1 ?_
    refine lv_astore_n (lv' := [(3, .ref (b 1 k1)), (0, .ref (a 0)), (1, .int (nI k1)), (2, .int what)]) hx hb dX9_told_8 rfl hl (by decide) rfl (fun ls hl => ?_)
    refine lv_aload_n hx hb dX9_told_9 rfl (lv_at hl 0 rfl) ?_
    refine lv_ifnonnull (tgt := 16) hx hb dX9_told_10 (by decide) ?_
    refine lv_iload_n hx hb dX9_told_16 rfl (lv_at hl 3 rfl) ?_
    rcases pk_ix what (n := 10) (by decide) with hsw | hsw | ⟨jsw, hjsw, rfl⟩
    · refine lv_tableOut (tgt := 123) hx hb dX9_told_17 (Or.inl (tsw_lo hsw)) (by decide) ?_
      refine lv_ldc (own := RX9) (v := (-2147483648)) hx hb hown (hts (.constant RX9 108 (-2147483648)) (by decide +kernel)) dX9_told_123 ?_
      exact ro_iret hx hb hr hlocks (by rw [tdV_at hk1 hn1]; first | simp [isT_lo hsw] | (rw [isT_hi (m := 10) hsw]; rfl)) dX9_told_125
    · refine lv_tableOut (tgt := 123) hx hb dX9_told_17 (Or.inr (tsw_hi (n := 9) hsw (by decide))) (by decide) ?_
      refine lv_ldc (own := RX9) (v := (-2147483648)) hx hb hown (hts (.constant RX9 108 (-2147483648)) (by decide +kernel)) dX9_told_123 ?_
      exact ro_iret hx hb hr hlocks (by rw [tdV_at hk1 hn1]; first | simp [isT_lo hsw] | (rw [isT_hi (m := 10) hsw]; rfl)) dX9_told_125
    · rcases (show jsw = 0 ∨ jsw = 1 ∨ jsw = 2 ∨ jsw = 3 ∨ jsw = 4 ∨ jsw = 5 ∨ jsw = 6 ∨ jsw = 7 ∨ jsw = 8 ∨ jsw = 9 by omega) with rfl | rfl | rfl | rfl | rfl | rfl | rfl | rfl | rfl | rfl
      · refine lv_tableIn (x := nI 0) (off := 55) (tgt := 72) hx hb dX9_told_17 (by decide) (by decide) rfl (by decide) ?_
        refine lv_aload_n hx hb dX9_told_72 rfl (lv_at hl 0 rfl) ?_
        have hq_2 := off_find (k := k1) hP (by omega)
        refine va_get (D := D) (ci := 1) (v := .int (T 10 k1)) (C := RX1) (T := TX1) (N := 11) hx hb hts hiX1 hown hE.1 hq_2 0 rfl rfl 7 (by decide) (hts (.fieldLink RX9 109 "FindsOffice$Find" "found" "I") (by decide +kernel)) (fun _ h9 => h9) rfl dX9_told_73 ?_
        exact ro_iret hx hb hr hlocks (by rw [tdV_at hk1 hn1]; rfl) dX9_told_76
      · refine lv_tableIn (x := nI 1) (off := 60) (tgt := 77) hx hb dX9_told_17 (by decide) (by decide) rfl (by decide) ?_
        refine lv_aload_n hx hb dX9_told_77 rfl (lv_at hl 0 rfl) ?_
        have hq_3 := off_find (k := k1) hP (by omega)
        refine va_get (D := D) (ci := 1) (v := .int (T 11 k1)) (C := RX1) (T := TX1) (N := 11) hx hb hts hiX1 hown hE.1 hq_3 0 rfl rfl 9 (by decide) (hts (.fieldLink RX9 112 "FindsOffice$Find" "known" "I") (by decide +kernel)) (fun _ h9 => h9) rfl dX9_told_78 ?_
        exact ro_iret hx hb hr hlocks (by rw [tdV_at hk1 hn1]; rfl) dX9_told_81
      · refine lv_tableIn (x := nI 2) (off := 65) (tgt := 82) hx hb dX9_told_17 (by decide) (by decide) rfl (by decide) ?_
        refine lv_aload_n hx hb dX9_told_82 rfl (lv_at hl 0 rfl) ?_
        have hq_4 := off_find (k := k1) hP (by omega)
        refine va_get (D := D) (ci := 1) (v := .int (T 4 k1)) (C := RX1) (T := TX1) (N := 11) hx hb hts hiX1 hown hE.1 hq_4 0 rfl rfl 2 (by decide) (hts (.fieldLink RX9 115 "FindsOffice$Find" "metal" "I") (by decide +kernel)) (fun _ h9 => h9) rfl dX9_told_83 ?_
        exact ro_iret hx hb hr hlocks (by rw [tdV_at hk1 hn1]; rfl) dX9_told_86
      · refine lv_tableIn (x := nI 3) (off := 70) (tgt := 87) hx hb dX9_told_17 (by decide) (by decide) rfl (by decide) ?_
        refine lv_aload_n hx hb dX9_told_87 rfl (lv_at hl 0 rfl) ?_
        have hq_5 := off_find (k := k1) hP (by omega)
        refine va_get (D := D) (ci := 1) (v := .int (T 5 k1)) (C := RX1) (T := TX1) (N := 11) hx hb hts hiX1 hown hE.1 hq_5 0 rfl rfl 3 (by decide) (hts (.fieldLink RX9 118 "FindsOffice$Find" "purity" "I") (by decide +kernel)) (fun _ h9 => h9) rfl dX9_told_88 ?_
        exact ro_iret hx hb hr hlocks (by rw [tdV_at hk1 hn1]; rfl) dX9_told_91
      · refine lv_tableIn (x := nI 4) (off := 75) (tgt := 92) hx hb dX9_told_17 (by decide) (by decide) rfl (by decide) ?_
        refine lv_aload_n hx hb dX9_told_92 rfl (lv_at hl 0 rfl) ?_
        have hq_6 := off_find (k := k1) hP (by omega)
        refine va_get (D := D) (ci := 1) (v := .int (T 6 k1)) (C := RX1) (T := TX1) (N := 11) hx hb hts hiX1 hown hE.1 hq_6 0 rfl rfl 4 (by decide) (hts (.fieldLink RX9 121 "FindsOffice$Find" "weight" "I") (by decide +kernel)) (fun _ h9 => h9) rfl dX9_told_93 ?_
        exact ro_iret hx hb hr hlocks (by rw [tdV_at hk1 hn1]; rfl) dX9_told_96
      · refine lv_tableIn (x := nI 5) (off := 80) (tgt := 97) hx hb dX9_told_17 (by decide) (by decide) rfl (by decide) ?_
        refine lv_aload_n hx hb dX9_told_97 rfl (lv_at hl 0 rfl) ?_
        have hq_7 := off_find (k := k1) hP (by omega)
        refine va_get (D := D) (ci := 1) (v := .int (T 7 k1)) (C := RX1) (T := TX1) (N := 11) hx hb hts hiX1 hown hE.1 hq_7 0 rfl rfl 5 (by decide) (hts (.fieldLink RX9 124 "FindsOffice$Find" "firstYear" "I") (by decide +kernel)) (fun _ h9 => h9) rfl dX9_told_98 ?_
        exact ro_iret hx hb hr hlocks (by rw [tdV_at hk1 hn1]; rfl) dX9_told_101
      · refine lv_tableIn (x := nI 6) (off := 85) (tgt := 102) hx hb dX9_told_17 (by decide) (by decide) rfl (by decide) ?_
        refine lv_aload_n hx hb dX9_told_102 rfl (lv_at hl 0 rfl) ?_
        have hq_8 := off_find (k := k1) hP (by omega)
        refine va_get (D := D) (ci := 1) (v := .int (T 8 k1)) (C := RX1) (T := TX1) (N := 11) hx hb hts hiX1 hown hE.1 hq_8 0 rfl rfl 6 (by decide) (hts (.fieldLink RX9 127 "FindsOffice$Find" "lastYear" "I") (by decide +kernel)) (fun _ h9 => h9) rfl dX9_told_103 ?_
        exact ro_iret hx hb hr hlocks (by rw [tdV_at hk1 hn1]; rfl) dX9_told_106
      · refine lv_tableIn (x := nI 7) (off := 90) (tgt := 107) hx hb dX9_told_17 (by decide) (by decide) rfl (by decide) ?_
        refine lv_aload_n hx hb dX9_told_107 rfl (lv_at hl 0 rfl) ?_
        have hq_9 := off_find (k := k1) hP (by omega)
        refine va_get (D := D) (ci := 1) (v := .int (T 9 k1)) (C := RX1) (T := TX1) (N := 11) hx hb hts hiX1 hown hE.1 hq_9 0 rfl rfl 8 (by decide) (hts (.fieldLink RX9 130 "FindsOffice$Find" "finder" "I") (by decide +kernel)) (fun _ h9 => h9) rfl dX9_told_108 ?_
        exact ro_iret hx hb hr hlocks (by rw [tdV_at hk1 hn1]; rfl) dX9_told_111
      · refine lv_tableIn (x := nI 8) (off := 95) (tgt := 112) hx hb dX9_told_17 (by decide) (by decide) rfl (by decide) ?_
        refine lv_aload_n hx hb dX9_told_112 rfl (lv_at hl 1 rfl) ?_
        refine lv_aload_n hx hb dX9_told_113 rfl (lv_at hl 0 rfl) ?_
        refine ro_V (As := [.ref (b 1 k1)]) (rest := []) ⟨hx, hb, hml, hown, hts⟩ (c_X9_landownerOf l D cT a b T P n k1 hn hpos (by omega)) (cwV 1 hts gX9_told_X9_landownerOf rfl rfl rfl (by decide +kernel) ⟨Nat.le_of_ble_eq_true rfl, Nat.le_of_ble_eq_true rfl⟩) hE hP 0 9 ofl_0 rfl rfl rfl hl.1 rfl (Nat.le_of_ble_eq_true rfl) dX9_told_114 ⟨Nat.zero_le _, Nat.zero_le _⟩ ?_
        exact ro_iret hx hb hr hlocks (by rw [tdV_at hk1 hn1]; rfl) dX9_told_117
      · refine lv_tableIn (x := nI 9) (off := 101) (tgt := 118) hx hb dX9_told_17 (by decide) (by decide) rfl (by decide) ?_
        refine lv_aload_n hx hb dX9_told_118 rfl (lv_at hl 0 rfl) ?_
        have hq_10 := off_find (k := k1) hP (by omega)
        refine va_get (D := D) (ci := 1) (v := .int (T 12 k1)) (C := RX1) (T := TX1) (N := 11) hx hb hts hiX1 hown hE.1 hq_10 0 rfl rfl 10 (by decide) (hts (.fieldLink RX9 136 "FindsOffice$Find" "keeper" "I") (by decide +kernel)) (fun _ h9 => h9) rfl dX9_told_119 ?_
        exact ro_iret hx hb hr hlocks (by rw [tdV_at hk1 hn1]; rfl) dX9_told_122
  · refine topv_eq hv1 ?_
    refine lv_astore_nN (lv' := [(3, .null), (0, .ref (a 0)), (1, .int i), (2, .int what)]) hx hb dX9_told_8 rfl hl (by decide) rfl (fun ls hl => ?_)
    refine lv_aload_nN hx hb dX9_told_9 rfl (lv_at hl 0 rfl) ?_
    refine lv_ifnonnullN hx hb dX9_told_10 ?_
    refine lv_ldc (own := RX9) (v := (-2147483648)) hx hb hown (hts (.constant RX9 108 (-2147483648)) (by decide +kernel)) dX9_told_13 ?_
    exact ro_iret hx hb hr hlocks (by simp [tdV, hf1]) dX9_told_15
set_option maxHeartbeats 4000000 in
set_option maxRecDepth 100000 in
theorem c_X9_worth (l : Launch) (D : va_G) (cT : Nat → ClassId) (a : Nat → Nat) (b : Nat → Nat → Nat) (T P : Nat → Nat → Int32) (n : Nat → Nat) (i : Int32) (hn : Cnt n) : Met l yX9_worth wsX9_worth ({ frames := 4, cells := 0, slots := 0, locals := 95 }) (va_Pc [.ref (a 0), .int i] (PB D cT (offW cT a b T P n))) (QR (.int (wrV T n i))) 0 0 (fun _ => False) := by
  refine RO_of (by decide) rfl (Nat.le_of_ble_eq_true rfl) ?_
  intro p e s m below meth c hx hb hr hts hown hlocks hml hE hP ls hl
  have hiX9 : ∀ w ∈ wsX90, w ∈ wsX9_worth := by decide +kernel
  have hl : lv_has ls 3 [(0, .ref (a 0)), (1, .int i)] := hl
  obtain ⟨hn0, hn1, hn2, hn3, hn4⟩ := id hn
  refine lv_aload_n hx hb dX9_worth_0 rfl (lv_at hl 0 rfl) ?_
  refine va_get (D := D) (ci := 9) (v := .ref (a 7)) (C := RX9) (T := TX9) (N := 7) hx hb hts hiX9 hown hE.1 hP 0 ofl_0 rfl 3 (by decide) (hts (.fieldLink RX9 30 "FindsOffice" "findBook" "LFindsOffice$FindBook;") (by decide +kernel)) (fun _ h9 => h9) rfl dX9_worth_1 ?_
  refine lv_iload_n hx hb dX9_worth_4 rfl (lv_at hl 1 rfl) ?_
  refine ro_V (As := [.int i]) (rest := []) ⟨hx, hb, hml, hown, hts⟩ (c_X2_numbered l D cT a b T P n i hn) (cwV 1 hts gX9_worth_X2_numbered rfl rfl rfl (by decide +kernel) ⟨Nat.le_of_ble_eq_true rfl, Nat.le_of_ble_eq_true rfl⟩) hE hP 7 2 ofl_7 rfl rfl rfl hl.1 rfl (Nat.le_of_ble_eq_true rfl) dX9_worth_5 ⟨Nat.zero_le _, Nat.zero_le _⟩ ?_
  rcases nuV_cases (b 1) (n 1) i (by omega) with ⟨k1, hk1, rfl, hv1⟩ | ⟨hf1, hv1⟩
  · refine topv_eq hv1 ?_
    refine lv_astore_n (lv' := [(2, .ref (b 1 k1)), (0, .ref (a 0)), (1, .int (nI k1))]) hx hb dX9_worth_8 rfl hl (by decide) rfl (fun ls hl => ?_)
    refine lv_aload_n hx hb dX9_worth_9 rfl (lv_at hl 0 rfl) ?_
    refine lv_ifnonnull (tgt := 17) hx hb dX9_worth_10 (by decide) ?_
    refine lv_aload_n hx hb dX9_worth_17 rfl (lv_at hl 1 rfl) ?_
    refine lv_aload_n hx hb dX9_worth_18 rfl (lv_at hl 0 rfl) ?_
    refine ro_V (As := [.ref (b 1 k1)]) (rest := []) ⟨hx, hb, hml, hown, hts⟩ (c_X9_worthNow l D cT a b T P n k1 hn (by omega)) (cwV 1 hts gX9_worth_X9_worthNow rfl rfl rfl (by decide +kernel) ⟨Nat.le_of_ble_eq_true rfl, Nat.le_of_ble_eq_true rfl⟩) hE hP 0 9 ofl_0 rfl rfl rfl hl.1 rfl (Nat.le_of_ble_eq_true rfl) dX9_worth_19 ⟨Nat.zero_le _, Nat.zero_le _⟩ ?_
    exact ro_iret hx hb hr hlocks (by rw [wrV, if_pos (isT_nI hk1 (by omega)), nI_clamp (by omega)]) dX9_worth_22
  · refine topv_eq hv1 ?_
    refine lv_astore_nN (lv' := [(2, .null), (0, .ref (a 0)), (1, .int i)]) hx hb dX9_worth_8 rfl hl (by decide) rfl (fun ls hl => ?_)
    refine lv_aload_nN hx hb dX9_worth_9 rfl (lv_at hl 0 rfl) ?_
    refine lv_ifnonnullN hx hb dX9_worth_10 ?_
    refine lv_iconst (v := (-1)) hx hb dX9_worth_13 (by decide) ?_
    refine lv_goto (tgt := 22) hx hb dX9_worth_14 (by decide) ?_
    exact ro_iret hx hb hr hlocks (by simp [wrV, hf1]) dX9_worth_22
set_option maxHeartbeats 4000000 in
set_option maxRecDepth 100000 in
theorem c_X9_paid (l : Launch) (D : va_G) (cT : Nat → ClassId) (a : Nat → Nat) (b : Nat → Nat → Nat) (T P : Nat → Nat → Int32) (n : Nat → Nat) (pe : Int32) (hn : Cnt n) : Met l yX9_paid wsX9_paid ({ frames := 2, cells := 0, slots := 0, locals := 42 }) (va_Pc [.ref (a 0), .int pe] (PB D cT (offW cT a b T P n))) (QR (.int (pdV T pe))) 0 0 (fun _ => False) := by
  refine RO_of (by decide) rfl (Nat.le_of_ble_eq_true rfl) ?_
  intro p e s m below meth c hx hb hr hts hown hlocks hml hE hP ls hl
  have hiX9 : ∀ w ∈ wsX90, w ∈ wsX9_paid := by decide +kernel
  have hl : lv_has ls 2 [(0, .ref (a 0)), (1, .int pe)] := hl
  obtain ⟨hn0, hn1, hn2, hn3, hn4⟩ := id hn
  refine lv_iload_n hx hb dX9_paid_0 rfl (lv_at hl 1 rfl) ?_
  refine ro_S (As := [.int pe]) (rest := []) ⟨hx, hb, hml, hown, hts⟩ (c_X9_isPerson l D cT pe ) (va_cwS 1 hts gX9_paid_X9_isPerson rfl rfl rfl (by decide +kernel) ⟨Nat.le_of_ble_eq_true rfl, Nat.le_of_ble_eq_true rfl⟩) hE va_P_nil  rfl hl.1 rfl (Nat.le_of_ble_eq_true rfl) dX9_paid_1 ⟨Nat.zero_le _, Nat.zero_le _⟩ ?_
  refine bi_eq (tgt := 16) hx hb dX9_paid_4 (by decide) (fun c_1 => ?_) (fun c_1 => ?_)
  · rw [btw29] at c_1
    refine lv_iconst (v := 0) hx hb dX9_paid_16 (by decide) ?_
    exact ro_iret hx hb hr hlocks (by simp [pdV, c_1]) dX9_paid_17
  · rw [btw29] at c_1
    obtain ⟨k, hk, rfl⟩ := isT_k c_1 (by decide)
    refine lv_aload_n hx hb dX9_paid_7 rfl (lv_at hl 0 rfl) ?_
    refine va_get (D := D) (ci := 9) (v := .ref (a 18)) (C := RX9) (T := TX9) (N := 7) hx hb hts hiX9 hown hE.1 hP 0 ofl_0 rfl 6 (by decide) (hts (.fieldLink RX9 48 "FindsOffice" "paidTo" "[I") (by decide +kernel)) (fun _ h9 => h9) rfl dX9_paid_8 ?_
    refine lv_iload_n hx hb dX9_paid_11 rfl (lv_at hl 1 rfl) ?_
    refine my_iald (k := k) hx hb hE.1 hP 18 0 ofl_18 rfl rfl (by omega) (by decide) dX9_paid_12 ?_
    refine lv_goto (tgt := 17) hx hb dX9_paid_13 (by decide) ?_
    exact ro_iret hx hb hr hlocks (by rw [pdV, if_pos (isT_nI hk (by decide)), nI_clamp (by omega)]) dX9_paid_17
set_option maxHeartbeats 4000000 in
set_option maxRecDepth 100000 in
theorem c_X9_spent (l : Launch) (D : va_G) (cT : Nat → ClassId) (a : Nat → Nat) (b : Nat → Nat → Nat) (T P : Nat → Nat → Int32) (n : Nat → Nat) (i : Int32) (hn : Cnt n) : Met l yX9_spent wsX9_spent ({ frames := 1, cells := 0, slots := 0, locals := 21 }) (va_Pc [.ref (a 0), .int i] (PB D cT (offW cT a b T P n))) (QR (.int (spV T n i))) 0 0 (fun _ => False) := by
  refine RO_of (by decide) rfl (Nat.le_of_ble_eq_true rfl) ?_
  intro p e s m below meth c hx hb hr hts hown hlocks hml hE hP ls hl
  have hiX7 : ∀ w ∈ wsX70, w ∈ wsX9_spent := by decide +kernel
  have hiX9 : ∀ w ∈ wsX90, w ∈ wsX9_spent := by decide +kernel
  have hl : lv_has ls 3 [(0, .ref (a 0)), (1, .int i)] := hl
  obtain ⟨hn0, hn1, hn2, hn3, hn4⟩ := id hn
  refine lv_aload_n hx hb dX9_spent_0 rfl (lv_at hl 0 rfl) ?_
  refine va_get (D := D) (ci := 9) (v := .ref (a 16)) (C := RX9) (T := TX9) (N := 7) hx hb hts hiX9 hown hE.1 hP 0 ofl_0 rfl 5 (by decide) (hts (.fieldLink RX9 44 "FindsOffice" "circle" "LFindsOffice$Circle;") (by decide +kernel)) (fun _ h9 => h9) rfl dX9_spent_1 ?_
  refine lv_iload_n hx hb dX9_spent_4 rfl (lv_at hl 1 rfl) ?_
  refine ro_V (As := [.int i]) (rest := []) ⟨hx, hb, hml, hown, hts⟩ (c_X0_numbered l D cT a b T P n i hn) (cwV 1 hts gX9_spent_X0_numbered rfl rfl rfl (by decide +kernel) ⟨Nat.le_of_ble_eq_true rfl, Nat.le_of_ble_eq_true rfl⟩) hE hP 16 0 ofl_16 rfl rfl rfl hl.1 rfl (Nat.le_of_ble_eq_true rfl) dX9_spent_5 ⟨Nat.zero_le _, Nat.zero_le _⟩ ?_
  rcases nuV_cases (b 3) (n 3) i (by omega) with ⟨k1, hk1, rfl, hv1⟩ | ⟨hf1, hv1⟩
  · refine topv_eq hv1 ?_
    refine lv_astore_n (lv' := [(2, .ref (b 3 k1)), (0, .ref (a 0)), (1, .int (nI k1))]) hx hb dX9_spent_8 rfl hl (by decide) rfl (fun ls hl => ?_)
    refine lv_aload_n hx hb dX9_spent_9 rfl (lv_at hl 0 rfl) ?_
    refine lv_ifnonnull (tgt := 17) hx hb dX9_spent_10 (by decide) ?_
    refine lv_aload_n hx hb dX9_spent_17 rfl (lv_at hl 0 rfl) ?_
    have hq_2 := off_museum (k := k1) hP (by omega)
    refine va_get (D := D) (ci := 7) (v := .int (T 35 k1)) (C := RX7) (T := TX7) (N := 3) hx hb hts hiX7 hown hE.1 hq_2 0 rfl rfl 2 (by decide) (hts (.fieldLink RX9 195 "FindsOffice$Museum" "outlay" "I") (by decide +kernel)) (fun _ h9 => h9) rfl dX9_spent_18 ?_
    exact ro_iret hx hb hr hlocks (by rw [spV, if_pos (isT_nI hk1 (by omega)), nI_clamp (by omega)]) dX9_spent_21
  · refine topv_eq hv1 ?_
    refine lv_astore_nN (lv' := [(2, .null), (0, .ref (a 0)), (1, .int i)]) hx hb dX9_spent_8 rfl hl (by decide) rfl (fun ls hl => ?_)
    refine lv_aload_nN hx hb dX9_spent_9 rfl (lv_at hl 0 rfl) ?_
    refine lv_ifnonnullN hx hb dX9_spent_10 ?_
    refine lv_iconst (v := (-1)) hx hb dX9_spent_13 (by decide) ?_
    refine lv_goto (tgt := 21) hx hb dX9_spent_14 (by decide) ?_
    exact ro_iret hx hb hr hlocks (by simp [spV, hf1]) dX9_spent_21
