set_option maxHeartbeats 4000000 in
set_option maxRecDepth 100000 in
theorem c_X9_isBetween (l : Launch) (D : va_G) (cT : Nat → ClassId) (v lo hi : Int32) : Met l yX9_isBetween wsX9_isBetween ({ frames := 0, cells := 0, slots := 0, locals := 0 }) (va_Pc [.int v, .int lo, .int hi] (PB D cT ([]))) (QR (.int (b2 (btw v lo hi)))) 0 0 (fun _ => False) := by
  refine RO_of (by decide) rfl (Nat.le_of_ble_eq_true rfl) ?_
  intro p e s m below meth c hx hb hr hts hown hlocks hml hE hP ls hl
  have hl : lv_has ls 3 [(0, .int v), (1, .int lo), (2, .int hi)] := hl
  refine lv_iload_n hx hb dX9_isBetween_0 rfl (lv_at hl 0 rfl) ?_
  refine lv_iload_n hx hb dX9_isBetween_1 rfl (lv_at hl 1 rfl) ?_
  refine lv_icmp_lt (tgt := 14) hx hb dX9_isBetween_2 (by decide) (fun c_1 => ?_) (fun c_1 => ?_)
  · refine lv_iconst (v := 0) hx hb dX9_isBetween_14 (by decide) ?_
    exact ro_zret hx hb hr hlocks (by first | rfl | (simp [b2, btw, c_1]; done)) dX9_isBetween_15
  · refine lv_iload_n hx hb dX9_isBetween_5 rfl (lv_at hl 0 rfl) ?_
    refine lv_iload_n hx hb dX9_isBetween_6 rfl (lv_at hl 2 rfl) ?_
    refine lv_icmp_gt (tgt := 14) hx hb dX9_isBetween_7 (by decide) (fun c_2 => ?_) (fun c_2 => ?_)
    · refine lv_iconst (v := 0) hx hb dX9_isBetween_14 (by decide) ?_
      exact ro_zret hx hb hr hlocks (by first | rfl | (simp [b2, btw, c_1, c_2]; done)) dX9_isBetween_15
    · refine lv_iconst (v := 1) hx hb dX9_isBetween_10 (by decide) ?_
      refine lv_goto (tgt := 15) hx hb dX9_isBetween_11 (by decide) ?_
      exact ro_zret hx hb hr hlocks (by first | rfl | (simp [b2, btw, c_1, c_2]; done)) dX9_isBetween_15
set_option maxHeartbeats 4000000 in
set_option maxRecDepth 100000 in
theorem c_X9_isDay (l : Launch) (D : va_G) (cT : Nat → ClassId) (d : Int32) : Met l yX9_isDay wsX9_isDay ({ frames := 1, cells := 0, slots := 0, locals := 22 }) (va_Pc [.int d] (PB D cT ([]))) (QR (.int (b2 (btw d 0 20000)))) 0 0 (fun _ => False) := by
  refine RO_of (by decide) rfl (Nat.le_of_ble_eq_true rfl) ?_
  intro p e s m below meth c hx hb hr hts hown hlocks hml hE hP ls hl
  have hl : lv_has ls 1 [(0, .int d)] := hl
  refine lv_iload_n hx hb dX9_isDay_0 rfl (lv_at hl 0 rfl) ?_
  refine lv_iconst (v := 0) hx hb dX9_isDay_1 (by decide) ?_
  refine lv_sipush (v := 20000) hx hb dX9_isDay_2 (by decide) ?_
  refine ro_S (As := [.int d, .int 0, .int 20000]) (rest := []) ⟨hx, hb, hml, hown, hts⟩ (c_X9_isBetween l D cT d 0 20000 ) (va_cwS 3 hts gX9_isDay_X9_isBetween rfl rfl rfl (by decide +kernel) ⟨Nat.le_of_ble_eq_true rfl, Nat.le_of_ble_eq_true rfl⟩) hE va_P_nil  rfl hl.1 rfl (Nat.le_of_ble_eq_true rfl) dX9_isDay_5 ⟨Nat.zero_le _, Nat.zero_le _⟩ ?_
  exact ro_zret hx hb hr hlocks (by first | rfl | (simp [b2, btw]; done)) dX9_isDay_8
set_option maxHeartbeats 4000000 in
set_option maxRecDepth 100000 in
theorem c_X9_isPerson (l : Launch) (D : va_G) (cT : Nat → ClassId) (d : Int32) : Met l yX9_isPerson wsX9_isPerson ({ frames := 1, cells := 0, slots := 0, locals := 22 }) (va_Pc [.int d] (PB D cT ([]))) (QR (.int (b2 (btw d 0 29)))) 0 0 (fun _ => False) := by
  refine RO_of (by decide) rfl (Nat.le_of_ble_eq_true rfl) ?_
  intro p e s m below meth c hx hb hr hts hown hlocks hml hE hP ls hl
  have hl : lv_has ls 1 [(0, .int d)] := hl
  refine lv_iload_n hx hb dX9_isPerson_0 rfl (lv_at hl 0 rfl) ?_
  refine lv_iconst (v := 0) hx hb dX9_isPerson_1 (by decide) ?_
  refine lv_bipush (v := 29) hx hb dX9_isPerson_2 (by decide) ?_
  refine ro_S (As := [.int d, .int 0, .int 29]) (rest := []) ⟨hx, hb, hml, hown, hts⟩ (c_X9_isBetween l D cT d 0 29 ) (va_cwS 3 hts gX9_isPerson_X9_isBetween rfl rfl rfl (by decide +kernel) ⟨Nat.le_of_ble_eq_true rfl, Nat.le_of_ble_eq_true rfl⟩) hE va_P_nil  rfl hl.1 rfl (Nat.le_of_ble_eq_true rfl) dX9_isPerson_4 ⟨Nat.zero_le _, Nat.zero_le _⟩ ?_
  exact ro_zret hx hb hr hlocks (by first | rfl | (simp [b2, btw]; done)) dX9_isPerson_7
set_option maxHeartbeats 4000000 in
set_option maxRecDepth 100000 in
theorem c_X9_isMetal (l : Launch) (D : va_G) (cT : Nat → ClassId) (d : Int32) : Met l yX9_isMetal wsX9_isMetal ({ frames := 1, cells := 0, slots := 0, locals := 22 }) (va_Pc [.int d] (PB D cT ([]))) (QR (.int (b2 (btw d 0 2)))) 0 0 (fun _ => False) := by
  refine RO_of (by decide) rfl (Nat.le_of_ble_eq_true rfl) ?_
  intro p e s m below meth c hx hb hr hts hown hlocks hml hE hP ls hl
  have hl : lv_has ls 1 [(0, .int d)] := hl
  refine lv_iload_n hx hb dX9_isMetal_0 rfl (lv_at hl 0 rfl) ?_
  refine lv_iconst (v := 0) hx hb dX9_isMetal_1 (by decide) ?_
  refine lv_iconst (v := 2) hx hb dX9_isMetal_2 (by decide) ?_
  refine ro_S (As := [.int d, .int 0, .int 2]) (rest := []) ⟨hx, hb, hml, hown, hts⟩ (c_X9_isBetween l D cT d 0 2 ) (va_cwS 3 hts gX9_isMetal_X9_isBetween rfl rfl rfl (by decide +kernel) ⟨Nat.le_of_ble_eq_true rfl, Nat.le_of_ble_eq_true rfl⟩) hE va_P_nil  rfl hl.1 rfl (Nat.le_of_ble_eq_true rfl) dX9_isMetal_3 ⟨Nat.zero_le _, Nat.zero_le _⟩ ?_
  exact ro_zret hx hb hr hlocks (by first | rfl | (simp [b2, btw]; done)) dX9_isMetal_6
set_option maxHeartbeats 4000000 in
set_option maxRecDepth 100000 in
theorem c_X9_yearOf (l : Launch) (D : va_G) (cT : Nat → ClassId) (d : Int32) : Met l yX9_yearOf wsX9_yearOf ({ frames := 0, cells := 0, slots := 0, locals := 0 }) (va_Pc [.int d] (PB D cT ([]))) (QR (.int (1950 + d / 365))) 0 0 (fun _ => False) := by
  refine RO_of (by decide) rfl (Nat.le_of_ble_eq_true rfl) ?_
  intro p e s m below meth c hx hb hr hts hown hlocks hml hE hP ls hl
  have hl : lv_has ls 1 [(0, .int d)] := hl
  refine lv_sipush (v := 1950) hx hb dX9_yearOf_0 (by decide) ?_
  refine lv_iload_n hx hb dX9_yearOf_3 rfl (lv_at hl 0 rfl) ?_
  refine lv_sipush (v := 365) hx hb dX9_yearOf_4 (by decide) ?_
  refine lv_idiv hx hb dX9_yearOf_7 (by decide) ?_
  refine lv_iadd hx hb dX9_yearOf_8 ?_
  exact ro_iret hx hb hr hlocks (by first | rfl | (simp [b2, btw]; done)) dX9_yearOf_9
set_option maxHeartbeats 4000000 in
set_option maxRecDepth 100000 in
theorem c_X10_in (l : Launch) (D : va_G) (cT : Nat → ClassId) (v lo hi : Int32) : Met l yX10_in wsX10_in ({ frames := 0, cells := 0, slots := 0, locals := 0 }) (va_Pc [.int v, .int lo, .int hi] (PB D cT ([]))) (QR (.int (b2 (btw v lo hi)))) 0 0 (fun _ => False) := by
  refine RO_of (by decide) rfl (Nat.le_of_ble_eq_true rfl) ?_
  intro p e s m below meth c hx hb hr hts hown hlocks hml hE hP ls hl
  have hl : lv_has ls 3 [(0, .int v), (1, .int lo), (2, .int hi)] := hl
  refine lv_iload_n hx hb dX10_in_0 rfl (lv_at hl 0 rfl) ?_
  refine lv_iload_n hx hb dX10_in_1 rfl (lv_at hl 1 rfl) ?_
  refine lv_icmp_lt (tgt := 14) hx hb dX10_in_2 (by decide) (fun c_1 => ?_) (fun c_1 => ?_)
  · refine lv_iconst (v := 0) hx hb dX10_in_14 (by decide) ?_
    exact ro_zret hx hb hr hlocks (by first | rfl | (simp [b2, btw, c_1]; done)) dX10_in_15
  · refine lv_iload_n hx hb dX10_in_5 rfl (lv_at hl 0 rfl) ?_
    refine lv_iload_n hx hb dX10_in_6 rfl (lv_at hl 2 rfl) ?_
    refine lv_icmp_gt (tgt := 14) hx hb dX10_in_7 (by decide) (fun c_2 => ?_) (fun c_2 => ?_)
    · refine lv_iconst (v := 0) hx hb dX10_in_14 (by decide) ?_
      exact ro_zret hx hb hr hlocks (by first | rfl | (simp [b2, btw, c_1, c_2]; done)) dX10_in_15
    · refine lv_iconst (v := 1) hx hb dX10_in_10 (by decide) ?_
      refine lv_goto (tgt := 15) hx hb dX10_in_11 (by decide) ?_
      exact ro_zret hx hb hr hlocks (by first | rfl | (simp [b2, btw, c_1, c_2]; done)) dX10_in_15
set_option maxHeartbeats 4000000 in
set_option maxRecDepth 100000 in
theorem c_X10_isPerson (l : Launch) (D : va_G) (cT : Nat → ClassId) (d : Int32) : Met l yX10_isPerson wsX10_isPerson ({ frames := 1, cells := 0, slots := 0, locals := 22 }) (va_Pc [.int d] (PB D cT ([]))) (QR (.int (b2 (btw d 0 29)))) 0 0 (fun _ => False) := by
  refine RO_of (by decide) rfl (Nat.le_of_ble_eq_true rfl) ?_
  intro p e s m below meth c hx hb hr hts hown hlocks hml hE hP ls hl
  have hl : lv_has ls 1 [(0, .int d)] := hl
  refine lv_iload_n hx hb dX10_isPerson_0 rfl (lv_at hl 0 rfl) ?_
  refine lv_iconst (v := 0) hx hb dX10_isPerson_1 (by decide) ?_
  refine lv_bipush (v := 29) hx hb dX10_isPerson_2 (by decide) ?_
  refine ro_S (As := [.int d, .int 0, .int 29]) (rest := []) ⟨hx, hb, hml, hown, hts⟩ (c_X10_in l D cT d 0 29 ) (va_cwS 3 hts gX10_isPerson_X10_in rfl rfl rfl (by decide +kernel) ⟨Nat.le_of_ble_eq_true rfl, Nat.le_of_ble_eq_true rfl⟩) hE va_P_nil  rfl hl.1 rfl (Nat.le_of_ble_eq_true rfl) dX10_isPerson_4 ⟨Nat.zero_le _, Nat.zero_le _⟩ ?_
  exact ro_zret hx hb hr hlocks (by first | rfl | (simp [b2, btw]; done)) dX10_isPerson_7
set_option maxHeartbeats 4000000 in
set_option maxRecDepth 100000 in
theorem c_X10_yearOf (l : Launch) (D : va_G) (cT : Nat → ClassId) (d : Int32) : Met l yX10_yearOf wsX10_yearOf ({ frames := 0, cells := 0, slots := 0, locals := 0 }) (va_Pc [.int d] (PB D cT ([]))) (QR (.int (1950 + d / 365))) 0 0 (fun _ => False) := by
  refine RO_of (by decide) rfl (Nat.le_of_ble_eq_true rfl) ?_
  intro p e s m below meth c hx hb hr hts hown hlocks hml hE hP ls hl
  have hl : lv_has ls 1 [(0, .int d)] := hl
  refine lv_sipush (v := 1950) hx hb dX10_yearOf_0 (by decide) ?_
  refine lv_iload_n hx hb dX10_yearOf_3 rfl (lv_at hl 0 rfl) ?_
  refine lv_sipush (v := 365) hx hb dX10_yearOf_4 (by decide) ?_
  refine lv_idiv hx hb dX10_yearOf_7 (by decide) ?_
  refine lv_iadd hx hb dX10_yearOf_8 ?_
  exact ro_iret hx hb hr hlocks (by first | rfl | (simp [b2, btw]; done)) dX10_yearOf_9
set_option maxHeartbeats 4000000 in
set_option maxRecDepth 100000 in
theorem c_X10_wide (l : Launch) (D : va_G) (cT : Nat → ClassId) (d : Int32) : Met l yX10_wide wsX10_wide ({ frames := 0, cells := 0, slots := 0, locals := 0 }) (va_Pc [.int d] (PB D cT ([]))) (QR (.int (if d = 0 then 500 else if d = 1 then 100 else if d = 2 then 10 else 1))) 0 0 (fun _ => False) := by
  refine RO_of (by decide) rfl (Nat.le_of_ble_eq_true rfl) ?_
  intro p e s m below meth c hx hb hr hts hown hlocks hml hE hP ls hl
  have hl : lv_has ls 1 [(0, .int d)] := hl
  refine lv_iload_n hx hb dX10_wide_0 rfl (lv_at hl 0 rfl) ?_
  refine lv_if_ne (tgt := 10) hx hb dX10_wide_1 (by decide) (fun c_1 => ?_) (fun c_1 => ?_)
  · refine lv_iload_n hx hb dX10_wide_10 rfl (lv_at hl 0 rfl) ?_
    refine lv_iconst (v := 1) hx hb dX10_wide_11 (by decide) ?_
    refine lv_icmp_ne (tgt := 20) hx hb dX10_wide_12 (by decide) (fun c_2 => ?_) (fun c_2 => ?_)
    · refine lv_iload_n hx hb dX10_wide_20 rfl (lv_at hl 0 rfl) ?_
      refine lv_iconst (v := 2) hx hb dX10_wide_21 (by decide) ?_
      refine lv_icmp_ne (tgt := 30) hx hb dX10_wide_22 (by decide) (fun c_3 => ?_) (fun c_3 => ?_)
      · refine lv_iconst (v := 1) hx hb dX10_wide_30 (by decide) ?_
        exact ro_iret hx hb hr hlocks (by first | rfl | (simp [b2, btw, c_1, c_2, c_3]; done)) dX10_wide_31
      · refine lv_bipush (v := 10) hx hb dX10_wide_25 (by decide) ?_
        refine lv_goto (tgt := 31) hx hb dX10_wide_27 (by decide) ?_
        exact ro_iret hx hb hr hlocks (by first | rfl | (simp [b2, btw, c_1, c_2, c_3]; done)) dX10_wide_31
    · refine lv_bipush (v := 100) hx hb dX10_wide_15 (by decide) ?_
      refine lv_goto (tgt := 31) hx hb dX10_wide_17 (by decide) ?_
      exact ro_iret hx hb hr hlocks (by first | rfl | (simp [b2, btw, c_1, c_2]; done)) dX10_wide_31
  · refine lv_sipush (v := 500) hx hb dX10_wide_4 (by decide) ?_
    refine lv_goto (tgt := 31) hx hb dX10_wide_7 (by decide) ?_
    exact ro_iret hx hb hr hlocks (by first | rfl | (simp [b2, btw, c_1]; done)) dX10_wide_31
set_option maxHeartbeats 4000000 in
set_option maxRecDepth 100000 in
theorem c_X4_isPossible (l : Launch) (D : va_G) (cT : Nat → ClassId) (h0 : Nat) (u0 u1 u2 u3 u4 : Int32) : Met l yX4_isPossible wsX4_isPossible ({ frames := 2, cells := 0, slots := 0, locals := 42 }) (va_Pc [.ref h0] (PB D cT ([(h0, .inr (4, [.int u0, .int u1, .int u2, .int u3, .int u4]))]))) (QR (.int (b2 (btw u0 0 20000 && (btw u1 0 2000 && (btw u2 0 999 && (btw u3 0 100 && btw u4 1 50))))))) 0 0 (fun _ => False) := by
  refine RO_of (by decide) rfl (Nat.le_of_ble_eq_true rfl) ?_
  intro p e s m below meth c hx hb hr hts hown hlocks hml hE hP ls hl
  have hiX4 : ∀ w ∈ wsX40, w ∈ wsX4_isPossible := by decide +kernel
  have hl : lv_has ls 1 [(0, .ref h0)] := hl
  refine lv_aload_n hx hb dX4_isPossible_0 rfl (lv_at hl 0 rfl) ?_
  refine va_get (D := D) (ci := 4) (v := .int u0) (C := RX4) (T := TX4) (N := 5) hx hb hts hiX4 hown hE.1 hP 0 rfl rfl 0 (by decide) (hts (.fieldLink RX4 7 "FindsOffice$Law" "from" "I") (by decide +kernel)) (fun _ h9 => h9) rfl dX4_isPossible_1 ?_
  refine ro_SN (As := [.int u0]) (rest := []) ⟨hx, hb, hml, hown, hts⟩ (c_X9_isDay l D cT u0 ) ⟨va_cnB (own := RX4) (host := RX9) 1 hts gX4_isPossible_X9_isDay_n26 rfl rfl rfl (hE.2 (RX4, 26, yX9_isDay, RX9) (by decide +kernel)) (hts (.initialized RX9) (by decide +kernel)) (by decide +kernel) ⟨Nat.le_of_ble_eq_true rfl, Nat.le_of_ble_eq_true rfl⟩, hts (.static yX9_isDay) (by decide +kernel), trivial⟩ hE va_P_nil  rfl hl.1 rfl (Nat.le_of_ble_eq_true rfl) dX4_isPossible_4 ⟨Nat.zero_le _, Nat.zero_le _⟩ ?_
  refine bi_eq (tgt := 68) hx hb dX4_isPossible_7 (by decide) (fun c_1 => ?_) (fun c_1 => ?_)
  · refine lv_iconst (v := 0) hx hb dX4_isPossible_68 (by decide) ?_
    exact ro_zret hx hb hr hlocks (by first | rfl | (simp [b2, c_1]; done)) dX4_isPossible_69
  · refine lv_aload_n hx hb dX4_isPossible_10 rfl (lv_at hl 0 rfl) ?_
    refine va_get (D := D) (ci := 4) (v := .int u1) (C := RX4) (T := TX4) (N := 5) hx hb hts hiX4 hown hE.1 hP 0 rfl rfl 1 (by decide) (hts (.fieldLink RX4 14 "FindsOffice$Law" "age" "I") (by decide +kernel)) (fun _ h9 => h9) rfl dX4_isPossible_11 ?_
    refine lv_iconst (v := 0) hx hb dX4_isPossible_14 (by decide) ?_
    refine lv_sipush (v := 2000) hx hb dX4_isPossible_15 (by decide) ?_
    refine ro_SN (As := [.int u1, .int 0, .int 2000]) (rest := []) ⟨hx, hb, hml, hown, hts⟩ (c_X9_isBetween l D cT u1 0 2000 ) ⟨va_cnB (own := RX4) (host := RX9) 3 hts gX4_isPossible_X9_isBetween_n32 rfl rfl rfl (hE.2 (RX4, 32, yX9_isBetween, RX9) (by decide +kernel)) (hts (.initialized RX9) (by decide +kernel)) (by decide +kernel) ⟨Nat.le_of_ble_eq_true rfl, Nat.le_of_ble_eq_true rfl⟩, hts (.static yX9_isBetween) (by decide +kernel), trivial⟩ hE va_P_nil  rfl hl.1 rfl (Nat.le_of_ble_eq_true rfl) dX4_isPossible_18 ⟨Nat.zero_le _, Nat.zero_le _⟩ ?_
    refine bi_eq (tgt := 68) hx hb dX4_isPossible_21 (by decide) (fun c_2 => ?_) (fun c_2 => ?_)
    · refine lv_iconst (v := 0) hx hb dX4_isPossible_68 (by decide) ?_
      exact ro_zret hx hb hr hlocks (by first | rfl | (simp [b2, c_1, c_2]; done)) dX4_isPossible_69
    · refine lv_aload_n hx hb dX4_isPossible_24 rfl (lv_at hl 0 rfl) ?_
      refine va_get (D := D) (ci := 4) (v := .int u2) (C := RX4) (T := TX4) (N := 5) hx hb hts hiX4 hown hE.1 hP 0 rfl rfl 2 (by decide) (hts (.fieldLink RX4 17 "FindsOffice$Law" "parts" "I") (by decide +kernel)) (fun _ h9 => h9) rfl dX4_isPossible_25 ?_
      refine lv_iconst (v := 0) hx hb dX4_isPossible_28 (by decide) ?_
      refine lv_sipush (v := 999) hx hb dX4_isPossible_29 (by decide) ?_
      refine ro_SN (As := [.int u2, .int 0, .int 999]) (rest := []) ⟨hx, hb, hml, hown, hts⟩ (c_X9_isBetween l D cT u2 0 999 ) ⟨va_cnB (own := RX4) (host := RX9) 3 hts gX4_isPossible_X9_isBetween_n32 rfl rfl rfl (hE.2 (RX4, 32, yX9_isBetween, RX9) (by decide +kernel)) (hts (.initialized RX9) (by decide +kernel)) (by decide +kernel) ⟨Nat.le_of_ble_eq_true rfl, Nat.le_of_ble_eq_true rfl⟩, hts (.static yX9_isBetween) (by decide +kernel), trivial⟩ hE va_P_nil  rfl hl.1 rfl (Nat.le_of_ble_eq_true rfl) dX4_isPossible_32 ⟨Nat.zero_le _, Nat.zero_le _⟩ ?_
      refine bi_eq (tgt := 68) hx hb dX4_isPossible_35 (by decide) (fun c_3 => ?_) (fun c_3 => ?_)
      · refine lv_iconst (v := 0) hx hb dX4_isPossible_68 (by decide) ?_
        exact ro_zret hx hb hr hlocks (by first | rfl | (simp [b2, c_1, c_2, c_3]; done)) dX4_isPossible_69
      · refine lv_aload_n hx hb dX4_isPossible_38 rfl (lv_at hl 0 rfl) ?_
        refine va_get (D := D) (ci := 4) (v := .int u3) (C := RX4) (T := TX4) (N := 5) hx hb hts hiX4 hown hE.1 hP 0 rfl rfl 3 (by decide) (hts (.fieldLink RX4 20 "FindsOffice$Law" "percent" "I") (by decide +kernel)) (fun _ h9 => h9) rfl dX4_isPossible_39 ?_
        refine lv_iconst (v := 0) hx hb dX4_isPossible_42 (by decide) ?_
        refine lv_bipush (v := 100) hx hb dX4_isPossible_43 (by decide) ?_
        refine ro_SN (As := [.int u3, .int 0, .int 100]) (rest := []) ⟨hx, hb, hml, hown, hts⟩ (c_X9_isBetween l D cT u3 0 100 ) ⟨va_cnB (own := RX4) (host := RX9) 3 hts gX4_isPossible_X9_isBetween_n32 rfl rfl rfl (hE.2 (RX4, 32, yX9_isBetween, RX9) (by decide +kernel)) (hts (.initialized RX9) (by decide +kernel)) (by decide +kernel) ⟨Nat.le_of_ble_eq_true rfl, Nat.le_of_ble_eq_true rfl⟩, hts (.static yX9_isBetween) (by decide +kernel), trivial⟩ hE va_P_nil  rfl hl.1 rfl (Nat.le_of_ble_eq_true rfl) dX4_isPossible_45 ⟨Nat.zero_le _, Nat.zero_le _⟩ ?_
        refine bi_eq (tgt := 68) hx hb dX4_isPossible_48 (by decide) (fun c_4 => ?_) (fun c_4 => ?_)
        · refine lv_iconst (v := 0) hx hb dX4_isPossible_68 (by decide) ?_
          exact ro_zret hx hb hr hlocks (by first | rfl | (simp [b2, c_1, c_2, c_3, c_4]; done)) dX4_isPossible_69
        · refine lv_aload_n hx hb dX4_isPossible_51 rfl (lv_at hl 0 rfl) ?_
          refine va_get (D := D) (ci := 4) (v := .int u4) (C := RX4) (T := TX4) (N := 5) hx hb hts hiX4 hown hE.1 hP 0 rfl rfl 4 (by decide) (hts (.fieldLink RX4 23 "FindsOffice$Law" "together" "I") (by decide +kernel)) (fun _ h9 => h9) rfl dX4_isPossible_52 ?_
          refine lv_iconst (v := 1) hx hb dX4_isPossible_55 (by decide) ?_
          refine lv_bipush (v := 50) hx hb dX4_isPossible_56 (by decide) ?_
          refine ro_SN (As := [.int u4, .int 1, .int 50]) (rest := []) ⟨hx, hb, hml, hown, hts⟩ (c_X9_isBetween l D cT u4 1 50 ) ⟨va_cnB (own := RX4) (host := RX9) 3 hts gX4_isPossible_X9_isBetween_n32 rfl rfl rfl (hE.2 (RX4, 32, yX9_isBetween, RX9) (by decide +kernel)) (hts (.initialized RX9) (by decide +kernel)) (by decide +kernel) ⟨Nat.le_of_ble_eq_true rfl, Nat.le_of_ble_eq_true rfl⟩, hts (.static yX9_isBetween) (by decide +kernel), trivial⟩ hE va_P_nil  rfl hl.1 rfl (Nat.le_of_ble_eq_true rfl) dX4_isPossible_58 ⟨Nat.zero_le _, Nat.zero_le _⟩ ?_
          refine bi_eq (tgt := 68) hx hb dX4_isPossible_61 (by decide) (fun c_5 => ?_) (fun c_5 => ?_)
          · refine lv_iconst (v := 0) hx hb dX4_isPossible_68 (by decide) ?_
            exact ro_zret hx hb hr hlocks (by first | rfl | (simp [b2, c_1, c_2, c_3, c_4, c_5]; done)) dX4_isPossible_69
          · refine lv_iconst (v := 1) hx hb dX4_isPossible_64 (by decide) ?_
            refine lv_goto (tgt := 69) hx hb dX4_isPossible_65 (by decide) ?_
            exact ro_zret hx hb hr hlocks (by first | rfl | (simp [b2, c_1, c_2, c_3, c_4, c_5]; done)) dX4_isPossible_69
set_option maxHeartbeats 4000000 in
set_option maxRecDepth 100000 in
theorem c_X8_isPossible (l : Launch) (D : va_G) (cT : Nat → ClassId) (h0 : Nat) (u0 u1 u2 u3 : Int32) : Met l yX8_isPossible wsX8_isPossible ({ frames := 2, cells := 0, slots := 0, locals := 42 }) (va_Pc [.ref h0] (PB D cT ([(h0, .inr (8, [.int u0, .int u1, .int u2, .int u3]))]))) (QR (.int (b2 (btw u0 0 2 && (btw u1 0 20000 && (btw u2 1 10000 && btw u3 0 1000000)))))) 0 0 (fun _ => False) := by
  refine RO_of (by decide) rfl (Nat.le_of_ble_eq_true rfl) ?_
  intro p e s m below meth c hx hb hr hts hown hlocks hml hE hP ls hl
  have hiX8 : ∀ w ∈ wsX80, w ∈ wsX8_isPossible := by decide +kernel
  have hl : lv_has ls 1 [(0, .ref h0)] := hl
  refine lv_aload_n hx hb dX8_isPossible_0 rfl (lv_at hl 0 rfl) ?_
  refine va_get (D := D) (ci := 8) (v := .int u0) (C := RX8) (T := TX8) (N := 4) hx hb hts hiX8 hown hE.1 hP 0 rfl rfl 0 (by decide) (hts (.fieldLink RX8 9 "FindsOffice$Sale" "metal" "I") (by decide +kernel)) (fun _ h9 => h9) rfl dX8_isPossible_1 ?_
  refine ro_SN (As := [.int u0]) (rest := []) ⟨hx, hb, hml, hown, hts⟩ (c_X9_isMetal l D cT u0 ) ⟨va_cnB (own := RX8) (host := RX9) 1 hts gX8_isPossible_X9_isMetal_n24 rfl rfl rfl (hE.2 (RX8, 24, yX9_isMetal, RX9) (by decide +kernel)) (hts (.initialized RX9) (by decide +kernel)) (by decide +kernel) ⟨Nat.le_of_ble_eq_true rfl, Nat.le_of_ble_eq_true rfl⟩, hts (.static yX9_isMetal) (by decide +kernel), trivial⟩ hE va_P_nil  rfl hl.1 rfl (Nat.le_of_ble_eq_true rfl) dX8_isPossible_4 ⟨Nat.zero_le _, Nat.zero_le _⟩ ?_
  refine bi_eq (tgt := 51) hx hb dX8_isPossible_7 (by decide) (fun c_1 => ?_) (fun c_1 => ?_)
  · refine lv_iconst (v := 0) hx hb dX8_isPossible_51 (by decide) ?_
    exact ro_zret hx hb hr hlocks (by first | rfl | (simp [b2, c_1]; done)) dX8_isPossible_52
  · refine lv_aload_n hx hb dX8_isPossible_10 rfl (lv_at hl 0 rfl) ?_
    refine va_get (D := D) (ci := 8) (v := .int u1) (C := RX8) (T := TX8) (N := 4) hx hb hts hiX8 hown hE.1 hP 0 rfl rfl 1 (by decide) (hts (.fieldLink RX8 15 "FindsOffice$Sale" "day" "I") (by decide +kernel)) (fun _ h9 => h9) rfl dX8_isPossible_11 ?_
    refine ro_SN (As := [.int u1]) (rest := []) ⟨hx, hb, hml, hown, hts⟩ (c_X9_isDay l D cT u1 ) ⟨va_cnB (own := RX8) (host := RX9) 1 hts gX8_isPossible_X9_isDay_n28 rfl rfl rfl (hE.2 (RX8, 28, yX9_isDay, RX9) (by decide +kernel)) (hts (.initialized RX9) (by decide +kernel)) (by decide +kernel) ⟨Nat.le_of_ble_eq_true rfl, Nat.le_of_ble_eq_true rfl⟩, hts (.static yX9_isDay) (by decide +kernel), trivial⟩ hE va_P_nil  rfl hl.1 rfl (Nat.le_of_ble_eq_true rfl) dX8_isPossible_14 ⟨Nat.zero_le _, Nat.zero_le _⟩ ?_
    refine bi_eq (tgt := 51) hx hb dX8_isPossible_17 (by decide) (fun c_2 => ?_) (fun c_2 => ?_)
    · refine lv_iconst (v := 0) hx hb dX8_isPossible_51 (by decide) ?_
      exact ro_zret hx hb hr hlocks (by first | rfl | (simp [b2, c_1, c_2]; done)) dX8_isPossible_52
    · refine lv_aload_n hx hb dX8_isPossible_20 rfl (lv_at hl 0 rfl) ?_
      refine va_get (D := D) (ci := 8) (v := .int u2) (C := RX8) (T := TX8) (N := 4) hx hb hts hiX8 hown hE.1 hP 0 rfl rfl 2 (by decide) (hts (.fieldLink RX8 18 "FindsOffice$Sale" "weight" "I") (by decide +kernel)) (fun _ h9 => h9) rfl dX8_isPossible_21 ?_
      refine lv_iconst (v := 1) hx hb dX8_isPossible_24 (by decide) ?_
      refine lv_sipush (v := 10000) hx hb dX8_isPossible_25 (by decide) ?_
      refine ro_SN (As := [.int u2, .int 1, .int 10000]) (rest := []) ⟨hx, hb, hml, hown, hts⟩ (c_X9_isBetween l D cT u2 1 10000 ) ⟨va_cnB (own := RX8) (host := RX9) 3 hts gX8_isPossible_X9_isBetween_n31 rfl rfl rfl (hE.2 (RX8, 31, yX9_isBetween, RX9) (by decide +kernel)) (hts (.initialized RX9) (by decide +kernel)) (by decide +kernel) ⟨Nat.le_of_ble_eq_true rfl, Nat.le_of_ble_eq_true rfl⟩, hts (.static yX9_isBetween) (by decide +kernel), trivial⟩ hE va_P_nil  rfl hl.1 rfl (Nat.le_of_ble_eq_true rfl) dX8_isPossible_28 ⟨Nat.zero_le _, Nat.zero_le _⟩ ?_
      refine bi_eq (tgt := 51) hx hb dX8_isPossible_31 (by decide) (fun c_3 => ?_) (fun c_3 => ?_)
      · refine lv_iconst (v := 0) hx hb dX8_isPossible_51 (by decide) ?_
        exact ro_zret hx hb hr hlocks (by first | rfl | (simp [b2, c_1, c_2, c_3]; done)) dX8_isPossible_52
      · refine lv_aload_n hx hb dX8_isPossible_34 rfl (lv_at hl 0 rfl) ?_
        refine va_get (D := D) (ci := 8) (v := .int u3) (C := RX8) (T := TX8) (N := 4) hx hb hts hiX8 hown hE.1 hP 0 rfl rfl 3 (by decide) (hts (.fieldLink RX8 21 "FindsOffice$Sale" "price" "I") (by decide +kernel)) (fun _ h9 => h9) rfl dX8_isPossible_35 ?_
        refine lv_iconst (v := 0) hx hb dX8_isPossible_38 (by decide) ?_
        refine lv_ldc (own := RX8) (v := 1000000) hx hb hown (hts (.constant RX8 35 1000000) (by decide +kernel)) dX8_isPossible_39 ?_
        refine ro_SN (As := [.int u3, .int 0, .int 1000000]) (rest := []) ⟨hx, hb, hml, hown, hts⟩ (c_X9_isBetween l D cT u3 0 1000000 ) ⟨va_cnB (own := RX8) (host := RX9) 3 hts gX8_isPossible_X9_isBetween_n31 rfl rfl rfl (hE.2 (RX8, 31, yX9_isBetween, RX9) (by decide +kernel)) (hts (.initialized RX9) (by decide +kernel)) (by decide +kernel) ⟨Nat.le_of_ble_eq_true rfl, Nat.le_of_ble_eq_true rfl⟩, hts (.static yX9_isBetween) (by decide +kernel), trivial⟩ hE va_P_nil  rfl hl.1 rfl (Nat.le_of_ble_eq_true rfl) dX8_isPossible_41 ⟨Nat.zero_le _, Nat.zero_le _⟩ ?_
        refine bi_eq (tgt := 51) hx hb dX8_isPossible_44 (by decide) (fun c_4 => ?_) (fun c_4 => ?_)
        · refine lv_iconst (v := 0) hx hb dX8_isPossible_51 (by decide) ?_
          exact ro_zret hx hb hr hlocks (by first | rfl | (simp [b2, c_1, c_2, c_3, c_4]; done)) dX8_isPossible_52
        · refine lv_iconst (v := 1) hx hb dX8_isPossible_47 (by decide) ?_
          refine lv_goto (tgt := 52) hx hb dX8_isPossible_48 (by decide) ?_
          exact ro_zret hx hb hr hlocks (by first | rfl | (simp [b2, c_1, c_2, c_3, c_4]; done)) dX8_isPossible_52
set_option maxHeartbeats 4000000 in
set_option maxRecDepth 100000 in
theorem c_X7_isPossible (l : Launch) (D : va_G) (cT : Nat → ClassId) (h0 : Nat) (u0 u1 u2 : Int32) : Met l yX7_isPossible wsX7_isPossible ({ frames := 1, cells := 0, slots := 0, locals := 22 }) (va_Pc [.ref h0] (PB D cT ([(h0, .inr (7, [.int u0, .int u1, .int u2]))]))) (QR (.int (b2 (btw u0 0 7 && btw u1 0 1000000)))) 0 0 (fun _ => False) := by
  refine RO_of (by decide) rfl (Nat.le_of_ble_eq_true rfl) ?_
  intro p e s m below meth c hx hb hr hts hown hlocks hml hE hP ls hl
  have hiX7 : ∀ w ∈ wsX70, w ∈ wsX7_isPossible := by decide +kernel
  have hl : lv_has ls 1 [(0, .ref h0)] := hl
  refine lv_aload_n hx hb dX7_isPossible_0 rfl (lv_at hl 0 rfl) ?_
  refine va_get (D := D) (ci := 7) (v := .int u0) (C := RX7) (T := TX7) (N := 3) hx hb hts hiX7 hown hE.1 hP 0 rfl rfl 0 (by decide) (hts (.fieldLink RX7 9 "FindsOffice$Museum" "metals" "I") (by decide +kernel)) (fun _ h9 => h9) rfl dX7_isPossible_1 ?_
  refine lv_iconst (v := 0) hx hb dX7_isPossible_4 (by decide) ?_
  refine lv_bipush (v := 7) hx hb dX7_isPossible_5 (by decide) ?_
  refine ro_SN (As := [.int u0, .int 0, .int 7]) (rest := []) ⟨hx, hb, hml, hown, hts⟩ (c_X9_isBetween l D cT u0 0 7 ) ⟨va_cnB (own := RX7) (host := RX9) 3 hts gX7_isPossible_X9_isBetween_n21 rfl rfl rfl (hE.2 (RX7, 21, yX9_isBetween, RX9) (by decide +kernel)) (hts (.initialized RX9) (by decide +kernel)) (by decide +kernel) ⟨Nat.le_of_ble_eq_true rfl, Nat.le_of_ble_eq_true rfl⟩, hts (.static yX9_isBetween) (by decide +kernel), trivial⟩ hE va_P_nil  rfl hl.1 rfl (Nat.le_of_ble_eq_true rfl) dX7_isPossible_7 ⟨Nat.zero_le _, Nat.zero_le _⟩ ?_
  refine bi_eq (tgt := 30) hx hb dX7_isPossible_10 (by decide) (fun c_1 => ?_) (fun c_1 => ?_)
  · refine lv_iconst (v := 0) hx hb dX7_isPossible_30 (by decide) ?_
    exact ro_zret hx hb hr hlocks (by first | rfl | (simp [b2, c_1]; done)) dX7_isPossible_31
  · refine lv_aload_n hx hb dX7_isPossible_13 rfl (lv_at hl 0 rfl) ?_
    refine va_get (D := D) (ci := 7) (v := .int u1) (C := RX7) (T := TX7) (N := 3) hx hb hts hiX7 hown hE.1 hP 0 rfl rfl 1 (by decide) (hts (.fieldLink RX7 15 "FindsOffice$Museum" "mostWorth" "I") (by decide +kernel)) (fun _ h9 => h9) rfl dX7_isPossible_14 ?_
    refine lv_iconst (v := 0) hx hb dX7_isPossible_17 (by decide) ?_
    refine lv_ldc (own := RX7) (v := 1000000) hx hb hown (hts (.constant RX7 25 1000000) (by decide +kernel)) dX7_isPossible_18 ?_
    refine ro_SN (As := [.int u1, .int 0, .int 1000000]) (rest := []) ⟨hx, hb, hml, hown, hts⟩ (c_X9_isBetween l D cT u1 0 1000000 ) ⟨va_cnB (own := RX7) (host := RX9) 3 hts gX7_isPossible_X9_isBetween_n21 rfl rfl rfl (hE.2 (RX7, 21, yX9_isBetween, RX9) (by decide +kernel)) (hts (.initialized RX9) (by decide +kernel)) (by decide +kernel) ⟨Nat.le_of_ble_eq_true rfl, Nat.le_of_ble_eq_true rfl⟩, hts (.static yX9_isBetween) (by decide +kernel), trivial⟩ hE va_P_nil  rfl hl.1 rfl (Nat.le_of_ble_eq_true rfl) dX7_isPossible_20 ⟨Nat.zero_le _, Nat.zero_le _⟩ ?_
    refine bi_eq (tgt := 30) hx hb dX7_isPossible_23 (by decide) (fun c_2 => ?_) (fun c_2 => ?_)
    · refine lv_iconst (v := 0) hx hb dX7_isPossible_30 (by decide) ?_
      exact ro_zret hx hb hr hlocks (by first | rfl | (simp [b2, c_1, c_2]; done)) dX7_isPossible_31
    · refine lv_iconst (v := 1) hx hb dX7_isPossible_26 (by decide) ?_
      refine lv_goto (tgt := 31) hx hb dX7_isPossible_27 (by decide) ?_
      exact ro_zret hx hb hr hlocks (by first | rfl | (simp [b2, c_1, c_2]; done)) dX7_isPossible_31
set_option maxHeartbeats 4000000 in
set_option maxRecDepth 100000 in
theorem c_X7_takes (l : Launch) (D : va_G) (cT : Nat → ClassId) (h0 : Nat) (u0 u1 u2 : Int32) (me wo : Int32) : Met l yX7_takes wsX7_takes ({ frames := 0, cells := 0, slots := 0, locals := 0 }) (va_Pc [.ref h0, .int me, .int wo] (PB D cT ([(h0, .inr (7, [.int u0, .int u1, .int u2]))]))) (QR (.int (b2 (decide ((u0 >>> (me &&& 31)) &&& 1 = 1) && !decide (u1 < wo))))) 0 0 (fun _ => False) := by
  refine RO_of (by decide) rfl (Nat.le_of_ble_eq_true rfl) ?_
  intro p e s m below meth c hx hb hr hts hown hlocks hml hE hP ls hl
  have hiX7 : ∀ w ∈ wsX70, w ∈ wsX7_takes := by decide +kernel
  have hl : lv_has ls 3 [(0, .ref h0), (1, .int me), (2, .int wo)] := hl
  refine lv_aload_n hx hb dX7_takes_0 rfl (lv_at hl 0 rfl) ?_
  refine va_get (D := D) (ci := 7) (v := .int u0) (C := RX7) (T := TX7) (N := 3) hx hb hts hiX7 hown hE.1 hP 0 rfl rfl 0 (by decide) (hts (.fieldLink RX7 9 "FindsOffice$Museum" "metals" "I") (by decide +kernel)) (fun _ h9 => h9) rfl dX7_takes_1 ?_
  refine lv_iload_n hx hb dX7_takes_4 rfl (lv_at hl 1 rfl) ?_
  refine lv_ishr hx hb dX7_takes_5 ?_
  refine lv_iconst (v := 1) hx hb dX7_takes_6 (by decide) ?_
  refine lv_iand hx hb dX7_takes_7 ?_
  refine lv_iconst (v := 1) hx hb dX7_takes_8 (by decide) ?_
  refine lv_icmp_ne (tgt := 24) hx hb dX7_takes_9 (by decide) (fun c_1 => ?_) (fun c_1 => ?_)
  · refine lv_iconst (v := 0) hx hb dX7_takes_24 (by decide) ?_
    exact ro_zret hx hb hr hlocks (by first | rfl | (simp [b2, btw, c_1]; done)) dX7_takes_25
  · refine lv_iload_n hx hb dX7_takes_12 rfl (lv_at hl 2 rfl) ?_
    refine lv_aload_n hx hb dX7_takes_13 rfl (lv_at hl 0 rfl) ?_
    refine va_get (D := D) (ci := 7) (v := .int u1) (C := RX7) (T := TX7) (N := 3) hx hb hts hiX7 hown hE.1 hP 0 rfl rfl 1 (by decide) (hts (.fieldLink RX7 15 "FindsOffice$Museum" "mostWorth" "I") (by decide +kernel)) (fun _ h9 => h9) rfl dX7_takes_14 ?_
    refine lv_icmp_gt (tgt := 24) hx hb dX7_takes_17 (by decide) (fun c_2 => ?_) (fun c_2 => ?_)
    · refine lv_iconst (v := 0) hx hb dX7_takes_24 (by decide) ?_
      exact ro_zret hx hb hr hlocks (by first | rfl | (simp [b2, btw, c_1, c_2]; done)) dX7_takes_25
    · refine lv_iconst (v := 1) hx hb dX7_takes_20 (by decide) ?_
      refine lv_goto (tgt := 25) hx hb dX7_takes_21 (by decide) ?_
      exact ro_zret hx hb hr hlocks (by first | rfl | (simp [b2, btw, c_1, c_2]; done)) dX7_takes_25
set_option maxHeartbeats 4000000 in
set_option maxRecDepth 100000 in
theorem c_X1_isPossible (l : Launch) (D : va_G) (cT : Nat → ClassId) (h0 : Nat) (u0 u1 u2 u3 u4 u5 u6 u7 u8 u9 u10 : Int32) : Met l yX1_isPossible wsX1_isPossible ({ frames := 2, cells := 0, slots := 0, locals := 42 }) (va_Pc [.ref h0] (PB D cT ([(h0, .inr (1, [.int u0, .int u1, .int u2, .int u3, .int u4, .int u5, .int u6, .int u7, .int u8, .int u9, .int u10]))]))) (QR (.int (b2 ((btw u0 0 999 && btw u1 0 999) && ((btw u2 0 2 && (btw u3 0 1000 && btw u4 1 10000)) && ((!decide (u5 < (-3000)) && (!decide (u6 < u5) && !decide (2000 < u6))) && (btw u7 0 u9 && btw u8 0 29))))))) 0 0 (fun _ => False) := by
  refine RO_of (by decide) rfl (Nat.le_of_ble_eq_true rfl) ?_
  intro p e s m below meth c hx hb hr hts hown hlocks hml hE hP ls hl
  have hiX1 : ∀ w ∈ wsX10, w ∈ wsX1_isPossible := by decide +kernel
  have hl : lv_has ls 4 [(0, .ref h0)] := hl
  have J_33 : ∀ (jv : Int32), jv = (b2 (btw u0 0 999 && btw u1 0 999)) → ∀ (ls : Array Slot), lv_has ls 4 [(0, .ref h0)] → W p l e ({ frames := 2, cells := 0, slots := 0, locals := 42 }) s m (List.toArray [.ref h0]) below meth c s.heap [] 0 0 (MQ below (QR (.int (b2 ((btw u0 0 999 && btw u1 0 999) && ((btw u2 0 2 && (btw u3 0 1000 && btw u4 1 10000)) && ((!decide (u5 < (-3000)) && (!decide (u6 < u5) && !decide (2000 < u6))) && (btw u7 0 u9 && btw u8 0 29))))))) (List.toArray [.ref h0]) s 0 0 (fun _ => False)) (F0 m 33 ls [.int jv]) := by
    intro jv hjv ls hl
    subst hjv
    refine lv_istore_n (lv' := [(1, .int (b2 (btw u0 0 999 && btw u1 0 999))), (0, .ref h0)]) hx hb dX1_isPossible_33 rfl hl (by decide) rfl (fun ls hl => ?_)
    have J_77 : ∀ (jv : Int32), jv = (b2 (btw u2 0 2 && (btw u3 0 1000 && btw u4 1 10000))) → ∀ (ls : Array Slot), lv_has ls 4 [(1, .int (b2 (btw u0 0 999 && btw u1 0 999))), (0, .ref h0)] → W p l e ({ frames := 2, cells := 0, slots := 0, locals := 42 }) s m (List.toArray [.ref h0]) below meth c s.heap [] 0 0 (MQ below (QR (.int (b2 ((btw u0 0 999 && btw u1 0 999) && ((btw u2 0 2 && (btw u3 0 1000 && btw u4 1 10000)) && ((!decide (u5 < (-3000)) && (!decide (u6 < u5) && !decide (2000 < u6))) && (btw u7 0 u9 && btw u8 0 29))))))) (List.toArray [.ref h0]) s 0 0 (fun _ => False)) (F0 m 77 ls [.int jv]) := by
      intro jv hjv ls hl
      subst hjv
      refine lv_istore_n (lv' := [(2, .int (b2 (btw u2 0 2 && (btw u3 0 1000 && btw u4 1 10000)))), (1, .int (b2 (btw u0 0 999 && btw u1 0 999))), (0, .ref h0)]) hx hb dX1_isPossible_77 rfl hl (by decide) rfl (fun ls hl => ?_)
      have J_114 : ∀ (jv : Int32), jv = (b2 (!decide (u5 < (-3000)) && (!decide (u6 < u5) && !decide (2000 < u6)))) → ∀ (ls : Array Slot), lv_has ls 4 [(2, .int (b2 (btw u2 0 2 && (btw u3 0 1000 && btw u4 1 10000)))), (1, .int (b2 (btw u0 0 999 && btw u1 0 999))), (0, .ref h0)] → W p l e ({ frames := 2, cells := 0, slots := 0, locals := 42 }) s m (List.toArray [.ref h0]) below meth c s.heap [] 0 0 (MQ below (QR (.int (b2 ((btw u0 0 999 && btw u1 0 999) && ((btw u2 0 2 && (btw u3 0 1000 && btw u4 1 10000)) && ((!decide (u5 < (-3000)) && (!decide (u6 < u5) && !decide (2000 < u6))) && (btw u7 0 u9 && btw u8 0 29))))))) (List.toArray [.ref h0]) s 0 0 (fun _ => False)) (F0 m 114 ls [.int jv]) := by
        intro jv hjv ls hl
        subst hjv
        refine lv_istore_n (lv' := [(3, .int (b2 (!decide (u5 < (-3000)) && (!decide (u6 < u5) && !decide (2000 < u6))))), (2, .int (b2 (btw u2 0 2 && (btw u3 0 1000 && btw u4 1 10000)))), (1, .int (b2 (btw u0 0 999 && btw u1 0 999))), (0, .ref h0)]) hx hb dX1_isPossible_114 rfl hl (by decide) rfl (fun ls hl => ?_)
        refine lv_iload_n hx hb dX1_isPossible_115 rfl (lv_at hl 2 rfl) ?_
        refine bi_eq (tgt := 156) hx hb dX1_isPossible_116 (by decide) (fun c_1 => ?_) (fun c_1 => ?_)
        · refine lv_iconst (v := 0) hx hb dX1_isPossible_156 (by decide) ?_
          exact ro_zret hx hb hr hlocks (by first | rfl | (simp only [b2, c_1, Bool.true_and, Bool.false_and, Bool.and_false]; first | rfl | decide)) dX1_isPossible_157
        · refine lv_iload_n hx hb dX1_isPossible_119 rfl (lv_at hl 1 rfl) ?_
          refine bi_eq (tgt := 156) hx hb dX1_isPossible_120 (by decide) (fun c_2 => ?_) (fun c_2 => ?_)
          · refine lv_iconst (v := 0) hx hb dX1_isPossible_156 (by decide) ?_
            exact ro_zret hx hb hr hlocks (by first | rfl | (simp only [b2, c_1, c_2, Bool.true_and, Bool.false_and, Bool.and_false]; first | rfl | decide)) dX1_isPossible_157
          · refine lv_iload_n hx hb dX1_isPossible_123 rfl (lv_at hl 0 rfl) ?_
            refine bi_eq (tgt := 156) hx hb dX1_isPossible_124 (by decide) (fun c_3 => ?_) (fun c_3 => ?_)
            · refine lv_iconst (v := 0) hx hb dX1_isPossible_156 (by decide) ?_
              exact ro_zret hx hb hr hlocks (by first | rfl | (simp only [b2, c_1, c_2, c_3, Bool.true_and, Bool.false_and, Bool.and_false]; first | rfl | decide)) dX1_isPossible_157
            · refine lv_aload_n hx hb dX1_isPossible_127 rfl (lv_at hl 3 rfl) ?_
              refine va_get (D := D) (ci := 1) (v := .int u7) (C := RX1) (T := TX1) (N := 11) hx hb hts hiX1 hown hE.1 hP 0 rfl rfl 7 (by decide) (hts (.fieldLink RX1 34 "FindsOffice$Find" "found" "I") (by decide +kernel)) (fun _ h9 => h9) rfl dX1_isPossible_128 ?_
              refine lv_iconst (v := 0) hx hb dX1_isPossible_131 (by decide) ?_
              refine lv_aload_n hx hb dX1_isPossible_132 rfl (lv_at hl 3 rfl) ?_
              refine va_get (D := D) (ci := 1) (v := .int u9) (C := RX1) (T := TX1) (N := 11) hx hb hts hiX1 hown hE.1 hP 0 rfl rfl 9 (by decide) (hts (.fieldLink RX1 40 "FindsOffice$Find" "known" "I") (by decide +kernel)) (fun _ h9 => h9) rfl dX1_isPossible_133 ?_
              refine ro_SN (As := [.int u7, .int 0, .int u9]) (rest := []) ⟨hx, hb, hml, hown, hts⟩ (c_X9_isBetween l D cT u7 0 u9 ) ⟨va_cnB (own := RX1) (host := RX9) 3 hts gX1_isPossible_X9_isBetween_n46 rfl rfl rfl (hE.2 (RX1, 46, yX9_isBetween, RX9) (by decide +kernel)) (hts (.initialized RX9) (by decide +kernel)) (by decide +kernel) ⟨Nat.le_of_ble_eq_true rfl, Nat.le_of_ble_eq_true rfl⟩, hts (.static yX9_isBetween) (by decide +kernel), trivial⟩ hE va_P_nil  rfl hl.1 rfl (Nat.le_of_ble_eq_true rfl) dX1_isPossible_136 ⟨Nat.zero_le _, Nat.zero_le _⟩ ?_
              refine bi_eq (tgt := 156) hx hb dX1_isPossible_139 (by decide) (fun c_4 => ?_) (fun c_4 => ?_)
              · refine lv_iconst (v := 0) hx hb dX1_isPossible_156 (by decide) ?_
                exact ro_zret hx hb hr hlocks (by first | rfl | (simp only [b2, c_1, c_2, c_3, c_4, Bool.true_and, Bool.false_and, Bool.and_false]; first | rfl | decide)) dX1_isPossible_157
              · refine lv_aload_n hx hb dX1_isPossible_142 rfl (lv_at hl 3 rfl) ?_
                refine va_get (D := D) (ci := 1) (v := .int u8) (C := RX1) (T := TX1) (N := 11) hx hb hts hiX1 hown hE.1 hP 0 rfl rfl 8 (by decide) (hts (.fieldLink RX1 37 "FindsOffice$Find" "finder" "I") (by decide +kernel)) (fun _ h9 => h9) rfl dX1_isPossible_143 ?_
                refine ro_SN (As := [.int u8]) (rest := []) ⟨hx, hb, hml, hown, hts⟩ (c_X9_isPerson l D cT u8 ) ⟨va_cnB (own := RX1) (host := RX9) 1 hts gX1_isPossible_X9_isPerson_n54 rfl rfl rfl (hE.2 (RX1, 54, yX9_isPerson, RX9) (by decide +kernel)) (hts (.initialized RX9) (by decide +kernel)) (by decide +kernel) ⟨Nat.le_of_ble_eq_true rfl, Nat.le_of_ble_eq_true rfl⟩, hts (.static yX9_isPerson) (by decide +kernel), trivial⟩ hE va_P_nil  rfl hl.1 rfl (Nat.le_of_ble_eq_true rfl) dX1_isPossible_146 ⟨Nat.zero_le _, Nat.zero_le _⟩ ?_
                refine bi_eq (tgt := 156) hx hb dX1_isPossible_149 (by decide) (fun c_5 => ?_) (fun c_5 => ?_)
                · refine lv_iconst (v := 0) hx hb dX1_isPossible_156 (by decide) ?_
                  exact ro_zret hx hb hr hlocks (by first | rfl | (simp only [b2, c_1, c_2, c_3, c_4, c_5, Bool.true_and, Bool.false_and, Bool.and_false]; first | rfl | decide)) dX1_isPossible_157
                · refine lv_iconst (v := 1) hx hb dX1_isPossible_152 (by decide) ?_
                  refine lv_goto (tgt := 157) hx hb dX1_isPossible_153 (by decide) ?_
                  exact ro_zret hx hb hr hlocks (by first | rfl | (simp only [b2, c_1, c_2, c_3, c_4, c_5, Bool.true_and, Bool.false_and, Bool.and_false]; first | rfl | decide)) dX1_isPossible_157
      refine lv_aload_n hx hb dX1_isPossible_78 rfl (lv_at hl 2 rfl) ?_
      refine va_get (D := D) (ci := 1) (v := .int u5) (C := RX1) (T := TX1) (N := 11) hx hb hts hiX1 hown hE.1 hP 0 rfl rfl 5 (by decide) (hts (.fieldLink RX1 28 "FindsOffice$Find" "firstYear" "I") (by decide +kernel)) (fun _ h9 => h9) rfl dX1_isPossible_79 ?_
      refine lv_sipush (v := (-3000)) hx hb dX1_isPossible_82 (by decide) ?_
      refine lv_icmp_lt (tgt := 113) hx hb dX1_isPossible_85 (by decide) (fun c_6 => ?_) (fun c_6 => ?_)
      · refine lv_iconst (v := 0) hx hb dX1_isPossible_113 (by decide) ?_
        exact J_114 _ (by first | rfl | (simp [b2, c_6]; done)) ls (lv_sub hl [0, 1, 2] rfl)
      · refine lv_aload_n hx hb dX1_isPossible_88 rfl (lv_at hl 2 rfl) ?_
        refine va_get (D := D) (ci := 1) (v := .int u5) (C := RX1) (T := TX1) (N := 11) hx hb hts hiX1 hown hE.1 hP 0 rfl rfl 5 (by decide) (hts (.fieldLink RX1 28 "FindsOffice$Find" "firstYear" "I") (by decide +kernel)) (fun _ h9 => h9) rfl dX1_isPossible_89 ?_
        refine lv_aload_n hx hb dX1_isPossible_92 rfl (lv_at hl 2 rfl) ?_
        refine va_get (D := D) (ci := 1) (v := .int u6) (C := RX1) (T := TX1) (N := 11) hx hb hts hiX1 hown hE.1 hP 0 rfl rfl 6 (by decide) (hts (.fieldLink RX1 31 "FindsOffice$Find" "lastYear" "I") (by decide +kernel)) (fun _ h9 => h9) rfl dX1_isPossible_93 ?_
        refine lv_icmp_gt (tgt := 113) hx hb dX1_isPossible_96 (by decide) (fun c_7 => ?_) (fun c_7 => ?_)
        · refine lv_iconst (v := 0) hx hb dX1_isPossible_113 (by decide) ?_
          exact J_114 _ (by first | rfl | (simp [b2, c_6, c_7]; done)) ls (lv_sub hl [0, 1, 2] rfl)
        · refine lv_aload_n hx hb dX1_isPossible_99 rfl (lv_at hl 2 rfl) ?_
          refine va_get (D := D) (ci := 1) (v := .int u6) (C := RX1) (T := TX1) (N := 11) hx hb hts hiX1 hown hE.1 hP 0 rfl rfl 6 (by decide) (hts (.fieldLink RX1 31 "FindsOffice$Find" "lastYear" "I") (by decide +kernel)) (fun _ h9 => h9) rfl dX1_isPossible_100 ?_
          refine lv_sipush (v := 2000) hx hb dX1_isPossible_103 (by decide) ?_
          refine lv_icmp_gt (tgt := 113) hx hb dX1_isPossible_106 (by decide) (fun c_8 => ?_) (fun c_8 => ?_)
          · refine lv_iconst (v := 0) hx hb dX1_isPossible_113 (by decide) ?_
            exact J_114 _ (by first | rfl | (simp [b2, c_6, c_7, c_8]; done)) ls (lv_sub hl [0, 1, 2] rfl)
          · refine lv_iconst (v := 1) hx hb dX1_isPossible_109 (by decide) ?_
            refine lv_goto (tgt := 114) hx hb dX1_isPossible_110 (by decide) ?_
            exact J_114 _ (by first | rfl | (simp [b2, c_6, c_7, c_8]; done)) ls (lv_sub hl [0, 1, 2] rfl)
    refine lv_aload_n hx hb dX1_isPossible_34 rfl (lv_at hl 1 rfl) ?_
    refine va_get (D := D) (ci := 1) (v := .int u2) (C := RX1) (T := TX1) (N := 11) hx hb hts hiX1 hown hE.1 hP 0 rfl rfl 2 (by decide) (hts (.fieldLink RX1 19 "FindsOffice$Find" "metal" "I") (by decide +kernel)) (fun _ h9 => h9) rfl dX1_isPossible_35 ?_
    refine ro_SN (As := [.int u2]) (rest := []) ⟨hx, hb, hml, hown, hts⟩ (c_X9_isMetal l D cT u2 ) ⟨va_cnB (own := RX1) (host := RX9) 1 hts gX1_isPossible_X9_isMetal_n50 rfl rfl rfl (hE.2 (RX1, 50, yX9_isMetal, RX9) (by decide +kernel)) (hts (.initialized RX9) (by decide +kernel)) (by decide +kernel) ⟨Nat.le_of_ble_eq_true rfl, Nat.le_of_ble_eq_true rfl⟩, hts (.static yX9_isMetal) (by decide +kernel), trivial⟩ hE va_P_nil  rfl hl.1 rfl (Nat.le_of_ble_eq_true rfl) dX1_isPossible_38 ⟨Nat.zero_le _, Nat.zero_le _⟩ ?_
    refine bi_eq (tgt := 76) hx hb dX1_isPossible_41 (by decide) (fun c_9 => ?_) (fun c_9 => ?_)
    · refine lv_iconst (v := 0) hx hb dX1_isPossible_76 (by decide) ?_
      exact J_77 _ (by first | rfl | (simp [b2, c_9]; done)) ls (lv_sub hl [0, 1] rfl)
    · refine lv_aload_n hx hb dX1_isPossible_44 rfl (lv_at hl 1 rfl) ?_
      refine va_get (D := D) (ci := 1) (v := .int u3) (C := RX1) (T := TX1) (N := 11) hx hb hts hiX1 hown hE.1 hP 0 rfl rfl 3 (by decide) (hts (.fieldLink RX1 22 "FindsOffice$Find" "purity" "I") (by decide +kernel)) (fun _ h9 => h9) rfl dX1_isPossible_45 ?_
      refine lv_iconst (v := 0) hx hb dX1_isPossible_48 (by decide) ?_
      refine lv_sipush (v := 1000) hx hb dX1_isPossible_49 (by decide) ?_
      refine ro_SN (As := [.int u3, .int 0, .int 1000]) (rest := []) ⟨hx, hb, hml, hown, hts⟩ (c_X9_isBetween l D cT u3 0 1000 ) ⟨va_cnB (own := RX1) (host := RX9) 3 hts gX1_isPossible_X9_isBetween_n46 rfl rfl rfl (hE.2 (RX1, 46, yX9_isBetween, RX9) (by decide +kernel)) (hts (.initialized RX9) (by decide +kernel)) (by decide +kernel) ⟨Nat.le_of_ble_eq_true rfl, Nat.le_of_ble_eq_true rfl⟩, hts (.static yX9_isBetween) (by decide +kernel), trivial⟩ hE va_P_nil  rfl hl.1 rfl (Nat.le_of_ble_eq_true rfl) dX1_isPossible_52 ⟨Nat.zero_le _, Nat.zero_le _⟩ ?_
      refine bi_eq (tgt := 76) hx hb dX1_isPossible_55 (by decide) (fun c_10 => ?_) (fun c_10 => ?_)
      · refine lv_iconst (v := 0) hx hb dX1_isPossible_76 (by decide) ?_
        exact J_77 _ (by first | rfl | (simp [b2, c_9, c_10]; done)) ls (lv_sub hl [0, 1] rfl)
      · refine lv_aload_n hx hb dX1_isPossible_58 rfl (lv_at hl 1 rfl) ?_
        refine va_get (D := D) (ci := 1) (v := .int u4) (C := RX1) (T := TX1) (N := 11) hx hb hts hiX1 hown hE.1 hP 0 rfl rfl 4 (by decide) (hts (.fieldLink RX1 25 "FindsOffice$Find" "weight" "I") (by decide +kernel)) (fun _ h9 => h9) rfl dX1_isPossible_59 ?_
        refine lv_iconst (v := 1) hx hb dX1_isPossible_62 (by decide) ?_
        refine lv_sipush (v := 10000) hx hb dX1_isPossible_63 (by decide) ?_
        refine ro_SN (As := [.int u4, .int 1, .int 10000]) (rest := []) ⟨hx, hb, hml, hown, hts⟩ (c_X9_isBetween l D cT u4 1 10000 ) ⟨va_cnB (own := RX1) (host := RX9) 3 hts gX1_isPossible_X9_isBetween_n46 rfl rfl rfl (hE.2 (RX1, 46, yX9_isBetween, RX9) (by decide +kernel)) (hts (.initialized RX9) (by decide +kernel)) (by decide +kernel) ⟨Nat.le_of_ble_eq_true rfl, Nat.le_of_ble_eq_true rfl⟩, hts (.static yX9_isBetween) (by decide +kernel), trivial⟩ hE va_P_nil  rfl hl.1 rfl (Nat.le_of_ble_eq_true rfl) dX1_isPossible_66 ⟨Nat.zero_le _, Nat.zero_le _⟩ ?_
        refine bi_eq (tgt := 76) hx hb dX1_isPossible_69 (by decide) (fun c_11 => ?_) (fun c_11 => ?_)
        · refine lv_iconst (v := 0) hx hb dX1_isPossible_76 (by decide) ?_
          exact J_77 _ (by first | rfl | (simp [b2, c_9, c_10, c_11]; done)) ls (lv_sub hl [0, 1] rfl)
        · refine lv_iconst (v := 1) hx hb dX1_isPossible_72 (by decide) ?_
          refine lv_goto (tgt := 77) hx hb dX1_isPossible_73 (by decide) ?_
          exact J_77 _ (by first | rfl | (simp [b2, c_9, c_10, c_11]; done)) ls (lv_sub hl [0, 1] rfl)
  refine lv_aload_n hx hb dX1_isPossible_0 rfl (lv_at hl 0 rfl) ?_
  refine va_get (D := D) (ci := 1) (v := .int u0) (C := RX1) (T := TX1) (N := 11) hx hb hts hiX1 hown hE.1 hP 0 rfl rfl 0 (by decide) (hts (.fieldLink RX1 9 "FindsOffice$Find" "x" "I") (by decide +kernel)) (fun _ h9 => h9) rfl dX1_isPossible_1 ?_
  refine lv_iconst (v := 0) hx hb dX1_isPossible_4 (by decide) ?_
  refine lv_sipush (v := 999) hx hb dX1_isPossible_5 (by decide) ?_
  refine ro_SN (As := [.int u0, .int 0, .int 999]) (rest := []) ⟨hx, hb, hml, hown, hts⟩ (c_X9_isBetween l D cT u0 0 999 ) ⟨va_cnB (own := RX1) (host := RX9) 3 hts gX1_isPossible_X9_isBetween_n46 rfl rfl rfl (hE.2 (RX1, 46, yX9_isBetween, RX9) (by decide +kernel)) (hts (.initialized RX9) (by decide +kernel)) (by decide +kernel) ⟨Nat.le_of_ble_eq_true rfl, Nat.le_of_ble_eq_true rfl⟩, hts (.static yX9_isBetween) (by decide +kernel), trivial⟩ hE va_P_nil  rfl hl.1 rfl (Nat.le_of_ble_eq_true rfl) dX1_isPossible_8 ⟨Nat.zero_le _, Nat.zero_le _⟩ ?_
  refine bi_eq (tgt := 32) hx hb dX1_isPossible_11 (by decide) (fun c_12 => ?_) (fun c_12 => ?_)
  · refine lv_iconst (v := 0) hx hb dX1_isPossible_32 (by decide) ?_
    exact J_33 _ (by first | rfl | (simp [b2, c_12]; done)) ls (lv_sub hl [0] rfl)
  · refine lv_aload_n hx hb dX1_isPossible_14 rfl (lv_at hl 0 rfl) ?_
    refine va_get (D := D) (ci := 1) (v := .int u1) (C := RX1) (T := TX1) (N := 11) hx hb hts hiX1 hown hE.1 hP 0 rfl rfl 1 (by decide) (hts (.fieldLink RX1 15 "FindsOffice$Find" "y" "I") (by decide +kernel)) (fun _ h9 => h9) rfl dX1_isPossible_15 ?_
    refine lv_iconst (v := 0) hx hb dX1_isPossible_18 (by decide) ?_
    refine lv_sipush (v := 999) hx hb dX1_isPossible_19 (by decide) ?_
    refine ro_SN (As := [.int u1, .int 0, .int 999]) (rest := []) ⟨hx, hb, hml, hown, hts⟩ (c_X9_isBetween l D cT u1 0 999 ) ⟨va_cnB (own := RX1) (host := RX9) 3 hts gX1_isPossible_X9_isBetween_n46 rfl rfl rfl (hE.2 (RX1, 46, yX9_isBetween, RX9) (by decide +kernel)) (hts (.initialized RX9) (by decide +kernel)) (by decide +kernel) ⟨Nat.le_of_ble_eq_true rfl, Nat.le_of_ble_eq_true rfl⟩, hts (.static yX9_isBetween) (by decide +kernel), trivial⟩ hE va_P_nil  rfl hl.1 rfl (Nat.le_of_ble_eq_true rfl) dX1_isPossible_22 ⟨Nat.zero_le _, Nat.zero_le _⟩ ?_
    refine bi_eq (tgt := 32) hx hb dX1_isPossible_25 (by decide) (fun c_13 => ?_) (fun c_13 => ?_)
    · refine lv_iconst (v := 0) hx hb dX1_isPossible_32 (by decide) ?_
      exact J_33 _ (by first | rfl | (simp [b2, c_12, c_13]; done)) ls (lv_sub hl [0] rfl)
    · refine lv_iconst (v := 1) hx hb dX1_isPossible_28 (by decide) ?_
      refine lv_goto (tgt := 33) hx hb dX1_isPossible_29 (by decide) ?_
      exact J_33 _ (by first | rfl | (simp [b2, c_12, c_13]; done)) ls (lv_sub hl [0] rfl)
set_option maxHeartbeats 4000000 in
set_option maxRecDepth 100000 in
theorem c_X1_plot (l : Launch) (D : va_G) (cT : Nat → ClassId) (h0 : Nat) (u0 u1 u2 u3 u4 u5 u6 u7 u8 u9 u10 : Int32) : Met l yX1_plot wsX1_plot ({ frames := 0, cells := 0, slots := 0, locals := 0 }) (va_Pc [.ref h0] (PB D cT ([(h0, .inr (1, [.int u0, .int u1, .int u2, .int u3, .int u4, .int u5, .int u6, .int u7, .int u8, .int u9, .int u10]))]))) (QR (.int (u0 / 100 * 10 + u1 / 100))) 0 0 (fun _ => False) := by
  refine RO_of (by decide) rfl (Nat.le_of_ble_eq_true rfl) ?_
  intro p e s m below meth c hx hb hr hts hown hlocks hml hE hP ls hl
  have hiX1 : ∀ w ∈ wsX10, w ∈ wsX1_plot := by decide +kernel
  have hl : lv_has ls 1 [(0, .ref h0)] := hl
  refine lv_aload_n hx hb dX1_plot_0 rfl (lv_at hl 0 rfl) ?_
  refine va_get (D := D) (ci := 1) (v := .int u0) (C := RX1) (T := TX1) (N := 11) hx hb hts hiX1 hown hE.1 hP 0 rfl rfl 0 (by decide) (hts (.fieldLink RX1 9 "FindsOffice$Find" "x" "I") (by decide +kernel)) (fun _ h9 => h9) rfl dX1_plot_1 ?_
  refine lv_bipush (v := 100) hx hb dX1_plot_4 (by decide) ?_
  refine lv_idiv hx hb dX1_plot_6 (by decide) ?_
  refine lv_bipush (v := 10) hx hb dX1_plot_7 (by decide) ?_
  refine lv_imul hx hb dX1_plot_9 ?_
  refine lv_aload_n hx hb dX1_plot_10 rfl (lv_at hl 0 rfl) ?_
  refine va_get (D := D) (ci := 1) (v := .int u1) (C := RX1) (T := TX1) (N := 11) hx hb hts hiX1 hown hE.1 hP 0 rfl rfl 1 (by decide) (hts (.fieldLink RX1 15 "FindsOffice$Find" "y" "I") (by decide +kernel)) (fun _ h9 => h9) rfl dX1_plot_11 ?_
  refine lv_bipush (v := 100) hx hb dX1_plot_14 (by decide) ?_
  refine lv_idiv hx hb dX1_plot_16 (by decide) ?_
  refine lv_iadd hx hb dX1_plot_17 ?_
  exact ro_iret hx hb hr hlocks (by first | rfl | (simp [b2, btw]; done)) dX1_plot_18
set_option maxHeartbeats 4000000 in
set_option maxRecDepth 100000 in
theorem c_X1_isNear (l : Launch) (D : va_G) (cT : Nat → ClassId) (h0 h1 : Nat) (u0 u1 u2 u3 u4 u5 u6 u7 u8 u9 u10 : Int32) (g0 g1 g2 g3 g4 g5 g6 g7 g8 g9 g10 : Int32) : Met l yX1_isNear wsX1_isNear ({ frames := 1, cells := 0, slots := 0, locals := 23 }) (va_Pc [.ref h0, .ref h1] (PB D cT ([(h0, .inr (1, [.int u0, .int u1, .int u2, .int u3, .int u4, .int u5, .int u6, .int u7, .int u8, .int u9, .int u10])), (h1, .inr (1, [.int g0, .int g1, .int g2, .int g3, .int g4, .int g5, .int g6, .int g7, .int g8, .int g9, .int g10]))]))) (QR (.int (b2 (nearB u0 u1 u5 u6 g0 g1 g5 g6)))) 0 0 (fun _ => False) := by
  refine RO_of (by decide) rfl (Nat.le_of_ble_eq_true rfl) ?_
  intro p e s m below meth c hx hb hr hts hown hlocks hml hE hP ls hl
  have hiX1 : ∀ w ∈ wsX10, w ∈ wsX1_isNear := by decide +kernel
  have hl : lv_has ls 2 [(0, .ref h0), (1, .ref h1)] := hl
  refine lv_aload_n hx hb dX1_isNear_0 rfl (lv_at hl 0 rfl) ?_
  refine va_get (D := D) (ci := 1) (v := .int u0) (C := RX1) (T := TX1) (N := 11) hx hb hts hiX1 hown hE.1 hP 0 rfl rfl 0 (by decide) (hts (.fieldLink RX1 9 "FindsOffice$Find" "x" "I") (by decide +kernel)) (fun _ h9 => h9) rfl dX1_isNear_1 ?_
  refine lv_aload_n hx hb dX1_isNear_4 rfl (lv_at hl 1 rfl) ?_
  refine va_get (D := D) (ci := 1) (v := .int g0) (C := RX1) (T := TX1) (N := 11) hx hb hts hiX1 hown hE.1 hP 1 rfl rfl 0 (by decide) (hts (.fieldLink RX1 9 "FindsOffice$Find" "x" "I") (by decide +kernel)) (fun _ h9 => h9) rfl dX1_isNear_5 ?_
  refine lv_isub hx hb dX1_isNear_8 ?_
  refine va_mabs hx hb (hml.trans hl.1.symm) hown (hts (.methodLink RX1 57 Lib.Math.abs.name) (by decide +kernel)) (hts (.static Lib.Math.abs.name) (by decide +kernel)) (hts (.initialized "java/lang/Math") (by decide +kernel)) (hts (.code Lib.Math.abs.name Lib.Math.abs.code 1 (some .int)) (by decide +kernel)) (Nat.le_of_ble_eq_true rfl) (Nat.le_of_ble_eq_true rfl) (Nat.zero_le _) (Nat.zero_le _) dX1_isNear_9 ?_
  refine lv_bipush (v := 10) hx hb dX1_isNear_12 (by decide) ?_
  refine lv_icmp_gt (tgt := 60) hx hb dX1_isNear_14 (by decide) (fun c_1 => ?_) (fun c_1 => ?_)
  · refine lv_iconst (v := 0) hx hb dX1_isNear_60 (by decide) ?_
    exact ro_zret hx hb hr hlocks (by simp only [nearB, b2, c_1]; first | rfl | decide | simp) dX1_isNear_61
  · refine lv_aload_n hx hb dX1_isNear_17 rfl (lv_at hl 0 rfl) ?_
    refine va_get (D := D) (ci := 1) (v := .int u1) (C := RX1) (T := TX1) (N := 11) hx hb hts hiX1 hown hE.1 hP 0 rfl rfl 1 (by decide) (hts (.fieldLink RX1 15 "FindsOffice$Find" "y" "I") (by decide +kernel)) (fun _ h9 => h9) rfl dX1_isNear_18 ?_
    refine lv_aload_n hx hb dX1_isNear_21 rfl (lv_at hl 1 rfl) ?_
    refine va_get (D := D) (ci := 1) (v := .int g1) (C := RX1) (T := TX1) (N := 11) hx hb hts hiX1 hown hE.1 hP 1 rfl rfl 1 (by decide) (hts (.fieldLink RX1 15 "FindsOffice$Find" "y" "I") (by decide +kernel)) (fun _ h9 => h9) rfl dX1_isNear_22 ?_
    refine lv_isub hx hb dX1_isNear_25 ?_
    refine va_mabs hx hb (hml.trans hl.1.symm) hown (hts (.methodLink RX1 57 Lib.Math.abs.name) (by decide +kernel)) (hts (.static Lib.Math.abs.name) (by decide +kernel)) (hts (.initialized "java/lang/Math") (by decide +kernel)) (hts (.code Lib.Math.abs.name Lib.Math.abs.code 1 (some .int)) (by decide +kernel)) (Nat.le_of_ble_eq_true rfl) (Nat.le_of_ble_eq_true rfl) (Nat.zero_le _) (Nat.zero_le _) dX1_isNear_26 ?_
    refine lv_bipush (v := 10) hx hb dX1_isNear_29 (by decide) ?_
    refine lv_icmp_gt (tgt := 60) hx hb dX1_isNear_31 (by decide) (fun c_2 => ?_) (fun c_2 => ?_)
    · refine lv_iconst (v := 0) hx hb dX1_isNear_60 (by decide) ?_
      exact ro_zret hx hb hr hlocks (by simp only [nearB, b2, c_1, c_2]; first | rfl | decide | simp) dX1_isNear_61
    · refine lv_aload_n hx hb dX1_isNear_34 rfl (lv_at hl 0 rfl) ?_
      refine va_get (D := D) (ci := 1) (v := .int u5) (C := RX1) (T := TX1) (N := 11) hx hb hts hiX1 hown hE.1 hP 0 rfl rfl 5 (by decide) (hts (.fieldLink RX1 28 "FindsOffice$Find" "firstYear" "I") (by decide +kernel)) (fun _ h9 => h9) rfl dX1_isNear_35 ?_
      refine lv_aload_n hx hb dX1_isNear_38 rfl (lv_at hl 1 rfl) ?_
      refine va_get (D := D) (ci := 1) (v := .int g6) (C := RX1) (T := TX1) (N := 11) hx hb hts hiX1 hown hE.1 hP 1 rfl rfl 6 (by decide) (hts (.fieldLink RX1 31 "FindsOffice$Find" "lastYear" "I") (by decide +kernel)) (fun _ h9 => h9) rfl dX1_isNear_39 ?_
      refine lv_icmp_gt (tgt := 60) hx hb dX1_isNear_42 (by decide) (fun c_3 => ?_) (fun c_3 => ?_)
      · refine lv_iconst (v := 0) hx hb dX1_isNear_60 (by decide) ?_
        exact ro_zret hx hb hr hlocks (by simp only [nearB, b2, c_1, c_2, c_3]; first | rfl | decide | simp) dX1_isNear_61
      · refine lv_aload_n hx hb dX1_isNear_45 rfl (lv_at hl 1 rfl) ?_
        refine va_get (D := D) (ci := 1) (v := .int g5) (C := RX1) (T := TX1) (N := 11) hx hb hts hiX1 hown hE.1 hP 1 rfl rfl 5 (by decide) (hts (.fieldLink RX1 28 "FindsOffice$Find" "firstYear" "I") (by decide +kernel)) (fun _ h9 => h9) rfl dX1_isNear_46 ?_
        refine lv_aload_n hx hb dX1_isNear_49 rfl (lv_at hl 0 rfl) ?_
        refine va_get (D := D) (ci := 1) (v := .int u6) (C := RX1) (T := TX1) (N := 11) hx hb hts hiX1 hown hE.1 hP 0 rfl rfl 6 (by decide) (hts (.fieldLink RX1 31 "FindsOffice$Find" "lastYear" "I") (by decide +kernel)) (fun _ h9 => h9) rfl dX1_isNear_50 ?_
        refine lv_icmp_gt (tgt := 60) hx hb dX1_isNear_53 (by decide) (fun c_4 => ?_) (fun c_4 => ?_)
        · refine lv_iconst (v := 0) hx hb dX1_isNear_60 (by decide) ?_
          exact ro_zret hx hb hr hlocks (by simp only [nearB, b2, c_1, c_2, c_3, c_4]; first | rfl | decide | simp) dX1_isNear_61
        · refine lv_iconst (v := 1) hx hb dX1_isNear_56 (by decide) ?_
          refine lv_goto (tgt := 61) hx hb dX1_isNear_57 (by decide) ?_
          exact ro_zret hx hb hr hlocks (by simp only [nearB, b2, c_1, c_2, c_3, c_4]; first | rfl | decide | simp) dX1_isNear_61
set_option maxHeartbeats 4000000 in
set_option maxRecDepth 100000 in
theorem c_X4_covers (l : Launch) (D : va_G) (cT : Nat → ClassId) (h0 h1 : Nat) (u0 u1 u2 u3 u4 : Int32) (g0 g1 g2 g3 g4 g5 g6 g7 g8 g9 g10 : Int32) (fe : Int32) : Met l yX4_covers wsX4_covers ({ frames := 1, cells := 0, slots := 0, locals := 20 }) (va_Pc [.ref h0, .ref h1, .int fe] (PB D cT ([(h0, .inr (4, [.int u0, .int u1, .int u2, .int u3, .int u4])), (h1, .inr (1, [.int g0, .int g1, .int g2, .int g3, .int g4, .int g5, .int g6, .int g7, .int g8, .int g9, .int g10]))]))) (QR (.int (b2 (covB u1 u2 u4 g2 g3 g6 g7 fe)))) 0 0 (fun _ => False) := by
  refine RO_of (by decide) rfl (Nat.le_of_ble_eq_true rfl) ?_
  intro p e s m below meth c hx hb hr hts hown hlocks hml hE hP ls hl
  have hiX1 : ∀ w ∈ wsX10, w ∈ wsX4_covers := by decide +kernel
  have hiX4 : ∀ w ∈ wsX40, w ∈ wsX4_covers := by decide +kernel
  have hl : lv_has ls 5 [(0, .ref h0), (1, .ref h1), (2, .int fe)] := hl
  have J_24 : ∀ (jv : Int32), jv = (b2 (!decide (1950 + g7 / 365 - g6 < u1))) → ∀ (ls : Array Slot), lv_has ls 5 [(0, .ref h0), (1, .ref h1), (2, .int fe)] → W p l e ({ frames := 1, cells := 0, slots := 0, locals := 20 }) s m (List.toArray [.ref h0, .ref h1, .int fe]) below meth c s.heap [] 0 0 (MQ below (QR (.int (b2 (covB u1 u2 u4 g2 g3 g6 g7 fe)))) (List.toArray [.ref h0, .ref h1, .int fe]) s 0 0 (fun _ => False)) (F0 m 24 ls [.int jv]) := by
    intro jv hjv ls hl
    subst hjv
    refine lv_istore_n (lv' := [(3, .int (b2 (!decide (1950 + g7 / 365 - g6 < u1)))), (0, .ref h0), (1, .ref h1), (2, .int fe)]) hx hb dX4_covers_24 rfl hl (by decide) rfl (fun ls hl => ?_)
    have J_48 : ∀ (jv : Int32), jv = (b2 (!decide (g2 = 0) && !decide (g3 < u2))) → ∀ (ls : Array Slot), lv_has ls 5 [(3, .int (b2 (!decide (1950 + g7 / 365 - g6 < u1)))), (0, .ref h0), (1, .ref h1), (2, .int fe)] → W p l e ({ frames := 1, cells := 0, slots := 0, locals := 20 }) s m (List.toArray [.ref h0, .ref h1, .int fe]) below meth c s.heap [] 0 0 (MQ below (QR (.int (b2 (covB u1 u2 u4 g2 g3 g6 g7 fe)))) (List.toArray [.ref h0, .ref h1, .int fe]) s 0 0 (fun _ => False)) (F0 m 48 ls [.int jv]) := by
      intro jv hjv ls hl
      subst hjv
      refine lv_istore (lv' := [(4, .int (b2 (!decide (g2 = 0) && !decide (g3 < u2)))), (3, .int (b2 (!decide (1950 + g7 / 365 - g6 < u1)))), (0, .ref h0), (1, .ref h1), (2, .int fe)]) hx hb dX4_covers_48 hl (by decide) rfl (fun ls hl => ?_)
      refine lv_iload_n hx hb dX4_covers_50 rfl (lv_at hl 1 rfl) ?_
      refine bi_eq (tgt := 71) hx hb dX4_covers_51 (by decide) (fun c_1 => ?_) (fun c_1 => ?_)
      · refine lv_iconst (v := 0) hx hb dX4_covers_71 (by decide) ?_
        exact ro_zret hx hb hr hlocks (by first | rfl | (simp [b2, btw, covB, c_1]; done)) dX4_covers_72
      · refine lv_iload hx hb dX4_covers_54 (lv_at hl 0 rfl) ?_
        refine bi_ne (tgt := 67) hx hb dX4_covers_56 (by decide) (fun c_2 => ?_) (fun c_2 => ?_)
        · refine lv_iconst (v := 1) hx hb dX4_covers_67 (by decide) ?_
          refine lv_goto (tgt := 72) hx hb dX4_covers_68 (by decide) ?_
          exact ro_zret hx hb hr hlocks (by first | rfl | (simp [b2, btw, covB, c_1, c_2]; done)) dX4_covers_72
        · refine lv_iload_n hx hb dX4_covers_59 rfl (lv_at hl 4 rfl) ?_
          refine lv_aload_n hx hb dX4_covers_60 rfl (lv_at hl 2 rfl) ?_
          refine va_get (D := D) (ci := 4) (v := .int u4) (C := RX4) (T := TX4) (N := 5) hx hb hts hiX4 hown hE.1 hP 0 rfl rfl 4 (by decide) (hts (.fieldLink RX4 23 "FindsOffice$Law" "together" "I") (by decide +kernel)) (fun _ h9 => h9) rfl dX4_covers_61 ?_
          refine lv_icmp_lt (tgt := 71) hx hb dX4_covers_64 (by decide) (fun c_3 => ?_) (fun c_3 => ?_)
          · refine lv_iconst (v := 0) hx hb dX4_covers_71 (by decide) ?_
            exact ro_zret hx hb hr hlocks (by first | rfl | (simp [b2, btw, covB, c_1, c_2, c_3]; done)) dX4_covers_72
          · refine lv_iconst (v := 1) hx hb dX4_covers_67 (by decide) ?_
            refine lv_goto (tgt := 72) hx hb dX4_covers_68 (by decide) ?_
            exact ro_zret hx hb hr hlocks (by first | rfl | (simp [b2, btw, covB, c_1, c_2, c_3]; done)) dX4_covers_72
    refine lv_aload_n hx hb dX4_covers_25 rfl (lv_at hl 2 rfl) ?_
    refine va_get (D := D) (ci := 1) (v := .int g2) (C := RX1) (T := TX1) (N := 11) hx hb hts hiX1 hown hE.1 hP 1 rfl rfl 2 (by decide) (hts (.fieldLink RX4 50 "FindsOffice$Find" "metal" "I") (by decide +kernel)) (fun _ h9 => h9) rfl dX4_covers_26 ?_
    refine lv_if_eq (tgt := 47) hx hb dX4_covers_29 (by decide) (fun c_4 => ?_) (fun c_4 => ?_)
    · refine lv_iconst (v := 0) hx hb dX4_covers_47 (by decide) ?_
      exact J_48 _ (by first | rfl | (simp [b2, btw, covB, c_4]; done)) ls (lv_sub hl [0, 1, 2, 3] rfl)
    · refine lv_aload_n hx hb dX4_covers_32 rfl (lv_at hl 2 rfl) ?_
      refine va_get (D := D) (ci := 1) (v := .int g3) (C := RX1) (T := TX1) (N := 11) hx hb hts hiX1 hown hE.1 hP 1 rfl rfl 3 (by decide) (hts (.fieldLink RX4 53 "FindsOffice$Find" "purity" "I") (by decide +kernel)) (fun _ h9 => h9) rfl dX4_covers_33 ?_
      refine lv_aload_n hx hb dX4_covers_36 rfl (lv_at hl 1 rfl) ?_
      refine va_get (D := D) (ci := 4) (v := .int u2) (C := RX4) (T := TX4) (N := 5) hx hb hts hiX4 hown hE.1 hP 0 rfl rfl 2 (by decide) (hts (.fieldLink RX4 17 "FindsOffice$Law" "parts" "I") (by decide +kernel)) (fun _ h9 => h9) rfl dX4_covers_37 ?_
      refine lv_icmp_lt (tgt := 47) hx hb dX4_covers_40 (by decide) (fun c_5 => ?_) (fun c_5 => ?_)
      · refine lv_iconst (v := 0) hx hb dX4_covers_47 (by decide) ?_
        exact J_48 _ (by first | rfl | (simp [b2, btw, covB, c_4, c_5]; done)) ls (lv_sub hl [0, 1, 2, 3] rfl)
      · refine lv_iconst (v := 1) hx hb dX4_covers_43 (by decide) ?_
        refine lv_goto (tgt := 48) hx hb dX4_covers_44 (by decide) ?_
        exact J_48 _ (by first | rfl | (simp [b2, btw, covB, c_4, c_5]; done)) ls (lv_sub hl [0, 1, 2, 3] rfl)
  refine lv_aload_n hx hb dX4_covers_0 rfl (lv_at hl 1 rfl) ?_
  refine va_get (D := D) (ci := 1) (v := .int g7) (C := RX1) (T := TX1) (N := 11) hx hb hts hiX1 hown hE.1 hP 1 rfl rfl 7 (by decide) (hts (.fieldLink RX4 38 "FindsOffice$Find" "found" "I") (by decide +kernel)) (fun _ h9 => h9) rfl dX4_covers_1 ?_
  refine ro_SN (As := [.int g7]) (rest := []) ⟨hx, hb, hml, hown, hts⟩ (c_X9_yearOf l D cT g7 ) ⟨va_cnB (own := RX4) (host := RX9) 1 hts gX4_covers_X9_yearOf_n43 rfl rfl rfl (hE.2 (RX4, 43, yX9_yearOf, RX9) (by decide +kernel)) (hts (.initialized RX9) (by decide +kernel)) (by decide +kernel) ⟨Nat.le_of_ble_eq_true rfl, Nat.le_of_ble_eq_true rfl⟩, hts (.static yX9_yearOf) (by decide +kernel), trivial⟩ hE va_P_nil  rfl hl.1 rfl (Nat.le_of_ble_eq_true rfl) dX4_covers_4 ⟨Nat.zero_le _, Nat.zero_le _⟩ ?_
  refine lv_aload_n hx hb dX4_covers_7 rfl (lv_at hl 1 rfl) ?_
  refine va_get (D := D) (ci := 1) (v := .int g6) (C := RX1) (T := TX1) (N := 11) hx hb hts hiX1 hown hE.1 hP 1 rfl rfl 6 (by decide) (hts (.fieldLink RX4 47 "FindsOffice$Find" "lastYear" "I") (by decide +kernel)) (fun _ h9 => h9) rfl dX4_covers_8 ?_
  refine lv_isub hx hb dX4_covers_11 ?_
  refine lv_aload_n hx hb dX4_covers_12 rfl (lv_at hl 0 rfl) ?_
  refine va_get (D := D) (ci := 4) (v := .int u1) (C := RX4) (T := TX4) (N := 5) hx hb hts hiX4 hown hE.1 hP 0 rfl rfl 1 (by decide) (hts (.fieldLink RX4 14 "FindsOffice$Law" "age" "I") (by decide +kernel)) (fun _ h9 => h9) rfl dX4_covers_13 ?_
  refine lv_icmp_lt (tgt := 23) hx hb dX4_covers_16 (by decide) (fun c_6 => ?_) (fun c_6 => ?_)
  · refine lv_iconst (v := 0) hx hb dX4_covers_23 (by decide) ?_
    exact J_24 _ (by first | rfl | (simp [b2, btw, covB, c_6]; done)) ls (lv_sub hl [0, 1, 2] rfl)
  · refine lv_iconst (v := 1) hx hb dX4_covers_19 (by decide) ?_
    refine lv_goto (tgt := 24) hx hb dX4_covers_20 (by decide) ?_
    exact J_24 _ (by first | rfl | (simp [b2, btw, covB, c_6]; done)) ls (lv_sub hl [0, 1, 2] rfl)
